section
-- ===== PART A: goes FIRST, ahead of the names: the tables' words, and 'selects' of the private methods out of them =====
/-- a private method of a class that the tables say can be made, by its rows of tables_1 -/
def lw_okq (q : MethodName × Nat) : Prop := (q.1.cls ≠ "java/lang/invoke/MethodHandle" ∧ q.1.cls ≠ "java/lang/invoke/VarHandle") ∧ Cond.instantiable q.1.cls q.2 ∈ tables_1 ∧ Cond.privateMethod q.1 ∈ tables_1 ∧ Cond.instanceMethod q.1 ∈ tables_1
theorem lw_p0 : lw_okq (⟨"ChoirNotes$Voice", "end", "()I"⟩, 10) := ⟨⟨by decide +kernel, by decide +kernel⟩, List.mem_of_getElem? (i := 21) (by decide +kernel), List.mem_of_getElem? (i := 82) (by decide +kernel), List.mem_of_getElem? (i := 83) (by decide +kernel)⟩
theorem lw_p1 : lw_okq (⟨"ChoirNotes", "mixVoice", "(JLChoirNotes$Voice;)J"⟩, 2) := ⟨⟨by decide +kernel, by decide +kernel⟩, List.mem_of_getElem? (i := 12) (by decide +kernel), List.mem_of_getElem? (i := 103) (by decide +kernel), List.mem_of_getElem? (i := 104) (by decide +kernel)⟩
theorem lw_p2 : lw_okq (⟨"ChoirNotes$Voice", "countNotes", "()I"⟩, 10) := ⟨⟨by decide +kernel, by decide +kernel⟩, List.mem_of_getElem? (i := 21) (by decide +kernel), List.mem_of_getElem? (i := 107) (by decide +kernel), List.mem_of_getElem? (i := 108) (by decide +kernel)⟩
theorem lw_p3 : lw_okq (⟨"ChoirNotes$Voice", "isRest", "(I)Z"⟩, 10) := ⟨⟨by decide +kernel, by decide +kernel⟩, List.mem_of_getElem? (i := 21) (by decide +kernel), List.mem_of_getElem? (i := 111) (by decide +kernel), List.mem_of_getElem? (i := 112) (by decide +kernel)⟩
theorem lw_p4 : lw_okq (⟨"ChoirNotes$Voice", "countLigatures", "()I"⟩, 10) := ⟨⟨by decide +kernel, by decide +kernel⟩, List.mem_of_getElem? (i := 21) (by decide +kernel), List.mem_of_getElem? (i := 115) (by decide +kernel), List.mem_of_getElem? (i := 116) (by decide +kernel)⟩
theorem lw_p5 : lw_okq (⟨"ChoirNotes$Voice", "countFittingClefs", "()I"⟩, 10) := ⟨⟨by decide +kernel, by decide +kernel⟩, List.mem_of_getElem? (i := 21) (by decide +kernel), List.mem_of_getElem? (i := 119) (by decide +kernel), List.mem_of_getElem? (i := 120) (by decide +kernel)⟩
theorem lw_p6 : lw_okq (⟨"ChoirNotes$Voice", "wouldFit", "(I)Z"⟩, 10) := ⟨⟨by decide +kernel, by decide +kernel⟩, List.mem_of_getElem? (i := 21) (by decide +kernel), List.mem_of_getElem? (i := 123) (by decide +kernel), List.mem_of_getElem? (i := 124) (by decide +kernel)⟩
theorem lw_p7 : lw_okq (⟨"ChoirNotes", "clefWithFewestClashes", "(LChoirNotes$Voice;)I"⟩, 2) := ⟨⟨by decide +kernel, by decide +kernel⟩, List.mem_of_getElem? (i := 12) (by decide +kernel), List.mem_of_getElem? (i := 127) (by decide +kernel), List.mem_of_getElem? (i := 128) (by decide +kernel)⟩
theorem lw_p8 : lw_okq (⟨"ChoirNotes", "clashesIfClef", "(LChoirNotes$Voice;I)I"⟩, 2) := ⟨⟨by decide +kernel, by decide +kernel⟩, List.mem_of_getElem? (i := 12) (by decide +kernel), List.mem_of_getElem? (i := 133) (by decide +kernel), List.mem_of_getElem? (i := 134) (by decide +kernel)⟩
theorem lw_p9 : lw_okq (⟨"ChoirNotes$Voice", "minimsOf", "(I)I"⟩, 10) := ⟨⟨by decide +kernel, by decide +kernel⟩, List.mem_of_getElem? (i := 21) (by decide +kernel), List.mem_of_getElem? (i := 156) (by decide +kernel), List.mem_of_getElem? (i := 157) (by decide +kernel)⟩
theorem lw_p10 : lw_okq (⟨"java/lang/Throwable", "fillInStackTrace", "(I)Ljava/lang/Throwable;"⟩, 6) := ⟨⟨by decide +kernel, by decide +kernel⟩, List.mem_of_getElem? (i := 213) (by decide +kernel), List.mem_of_getElem? (i := 211) (by decide +kernel), List.mem_of_getElem? (i := 212) (by decide +kernel)⟩
theorem lw_p11 : lw_okq (⟨"ChoirNotes$Voice", "measure", "(III)V"⟩, 10) := ⟨⟨by decide +kernel, by decide +kernel⟩, List.mem_of_getElem? (i := 21) (by decide +kernel), List.mem_of_getElem? (i := 259) (by decide +kernel), List.mem_of_getElem? (i := 260) (by decide +kernel)⟩
theorem lw_p12 : lw_okq (⟨"ChoirNotes$Voice", "timeFrom", "(I)V"⟩, 10) := ⟨⟨by decide +kernel, by decide +kernel⟩, List.mem_of_getElem? (i := 21) (by decide +kernel), List.mem_of_getElem? (i := 263) (by decide +kernel), List.mem_of_getElem? (i := 264) (by decide +kernel)⟩
theorem lw_p13 : lw_okq (⟨"ChoirNotes$Voice", "minimsByKind", "(IZ)I"⟩, 10) := ⟨⟨by decide +kernel, by decide +kernel⟩, List.mem_of_getElem? (i := 21) (by decide +kernel), List.mem_of_getElem? (i := 267) (by decide +kernel), List.mem_of_getElem? (i := 268) (by decide +kernel)⟩
theorem lw_p14 : lw_okq (⟨"ChoirNotes", "knownVoice", "(I)LChoirNotes$Voice;"⟩, 2) := ⟨⟨by decide +kernel, by decide +kernel⟩, List.mem_of_getElem? (i := 12) (by decide +kernel), List.mem_of_getElem? (i := 279) (by decide +kernel), List.mem_of_getElem? (i := 280) (by decide +kernel)⟩
theorem lw_p15 : lw_okq (⟨"ChoirNotes$Voice", "append", "(IIZI)I"⟩, 10) := ⟨⟨by decide +kernel, by decide +kernel⟩, List.mem_of_getElem? (i := 21) (by decide +kernel), List.mem_of_getElem? (i := 303) (by decide +kernel), List.mem_of_getElem? (i := 304) (by decide +kernel)⟩
def lw_privs_1 : List (MethodName × Nat) := [(⟨"ChoirNotes$Voice", "end", "()I"⟩, 10), (⟨"ChoirNotes", "mixVoice", "(JLChoirNotes$Voice;)J"⟩, 2), (⟨"ChoirNotes$Voice", "countNotes", "()I"⟩, 10), (⟨"ChoirNotes$Voice", "isRest", "(I)Z"⟩, 10), (⟨"ChoirNotes$Voice", "countLigatures", "()I"⟩, 10), (⟨"ChoirNotes$Voice", "countFittingClefs", "()I"⟩, 10), (⟨"ChoirNotes$Voice", "wouldFit", "(I)Z"⟩, 10), (⟨"ChoirNotes", "clefWithFewestClashes", "(LChoirNotes$Voice;)I"⟩, 2), (⟨"ChoirNotes", "clashesIfClef", "(LChoirNotes$Voice;I)I"⟩, 2), (⟨"ChoirNotes$Voice", "minimsOf", "(I)I"⟩, 10), (⟨"java/lang/Throwable", "fillInStackTrace", "(I)Ljava/lang/Throwable;"⟩, 6), (⟨"ChoirNotes$Voice", "measure", "(III)V"⟩, 10), (⟨"ChoirNotes$Voice", "timeFrom", "(I)V"⟩, 10), (⟨"ChoirNotes$Voice", "minimsByKind", "(IZ)I"⟩, 10), (⟨"ChoirNotes", "knownVoice", "(I)LChoirNotes$Voice;"⟩, 2), (⟨"ChoirNotes$Voice", "append", "(IIZI)I"⟩, 10)]
theorem lw_r1 : ∀ q ∈ lw_privs_1, lw_okq q := List.forall_mem_cons.mpr ⟨lw_p0, List.forall_mem_cons.mpr ⟨lw_p1, List.forall_mem_cons.mpr ⟨lw_p2, List.forall_mem_cons.mpr ⟨lw_p3, List.forall_mem_cons.mpr ⟨lw_p4, List.forall_mem_cons.mpr ⟨lw_p5, List.forall_mem_cons.mpr ⟨lw_p6, List.forall_mem_cons.mpr ⟨lw_p7, List.forall_mem_cons.mpr ⟨lw_p8, List.forall_mem_cons.mpr ⟨lw_p9, List.forall_mem_cons.mpr ⟨lw_p10, List.forall_mem_cons.mpr ⟨lw_p11, List.forall_mem_cons.mpr ⟨lw_p12, List.forall_mem_cons.mpr ⟨lw_p13, List.forall_mem_cons.mpr ⟨lw_p14, List.forall_mem_cons.mpr ⟨lw_p15, fun _ h => absurd h List.not_mem_nil⟩⟩⟩⟩⟩⟩⟩⟩⟩⟩⟩⟩⟩⟩⟩⟩
theorem lw_p16 : lw_okq (⟨"ChoirNotes$Voice", "dropLast", "()I"⟩, 10) := ⟨⟨by decide +kernel, by decide +kernel⟩, List.mem_of_getElem? (i := 21) (by decide +kernel), List.mem_of_getElem? (i := 342) (by decide +kernel), List.mem_of_getElem? (i := 343) (by decide +kernel)⟩
theorem lw_p17 : lw_okq (⟨"ChoirNotes", "voiceWithSign", "(II)LChoirNotes$Voice;"⟩, 2) := ⟨⟨by decide +kernel, by decide +kernel⟩, List.mem_of_getElem? (i := 12) (by decide +kernel), List.mem_of_getElem? (i := 353) (by decide +kernel), List.mem_of_getElem? (i := 354) (by decide +kernel)⟩
theorem lw_p18 : lw_okq (⟨"ChoirNotes$Voice", "turnColour", "(I)Z"⟩, 10) := ⟨⟨by decide +kernel, by decide +kernel⟩, List.mem_of_getElem? (i := 21) (by decide +kernel), List.mem_of_getElem? (i := 359) (by decide +kernel), List.mem_of_getElem? (i := 360) (by decide +kernel)⟩
theorem lw_p19 : lw_okq (⟨"ChoirNotes$Voice", "signLastingAt", "(I)I"⟩, 10) := ⟨⟨by decide +kernel, by decide +kernel⟩, List.mem_of_getElem? (i := 21) (by decide +kernel), List.mem_of_getElem? (i := 454) (by decide +kernel), List.mem_of_getElem? (i := 455) (by decide +kernel)⟩
theorem lw_p20 : lw_okq (⟨"ChoirNotesModel", "fail", "(I)I"⟩, 11) := ⟨⟨by decide +kernel, by decide +kernel⟩, List.mem_of_getElem? (i := 535) (by decide +kernel), List.mem_of_getElem? (i := 589) (by decide +kernel), List.mem_of_getElem? (i := 590) (by decide +kernel)⟩
theorem lw_p21 : lw_okq (⟨"ChoirNotesModel", "set", "(IIII)V"⟩, 11) := ⟨⟨by decide +kernel, by decide +kernel⟩, List.mem_of_getElem? (i := 535) (by decide +kernel), List.mem_of_getElem? (i := 593) (by decide +kernel), List.mem_of_getElem? (i := 594) (by decide +kernel)⟩
theorem lw_p22 : lw_okq (⟨"ChoirNotesModel", "isVoice", "(I)Z"⟩, 11) := ⟨⟨by decide +kernel, by decide +kernel⟩, List.mem_of_getElem? (i := 535) (by decide +kernel), List.mem_of_getElem? (i := 601) (by decide +kernel), List.mem_of_getElem? (i := 602) (by decide +kernel)⟩
theorem lw_p23 : lw_okq (⟨"ChoirNotesModel", "put", "(IIIZI)V"⟩, 11) := ⟨⟨by decide +kernel, by decide +kernel⟩, List.mem_of_getElem? (i := 535) (by decide +kernel), List.mem_of_getElem? (i := 605) (by decide +kernel), List.mem_of_getElem? (i := 606) (by decide +kernel)⟩
theorem lw_p24 : lw_okq (⟨"ChoirNotesModel", "isSign", "(II)Z"⟩, 11) := ⟨⟨by decide +kernel, by decide +kernel⟩, List.mem_of_getElem? (i := 535) (by decide +kernel), List.mem_of_getElem? (i := 626) (by decide +kernel), List.mem_of_getElem? (i := 627) (by decide +kernel)⟩
theorem lw_p25 : lw_okq (⟨"ChoirNotesModel", "all", "(I)I"⟩, 11) := ⟨⟨by decide +kernel, by decide +kernel⟩, List.mem_of_getElem? (i := 535) (by decide +kernel), List.mem_of_getElem? (i := 638) (by decide +kernel), List.mem_of_getElem? (i := 639) (by decide +kernel)⟩
theorem lw_p26 : lw_okq (⟨"ChoirNotesModel", "lasts", "(II)I"⟩, 11) := ⟨⟨by decide +kernel, by decide +kernel⟩, List.mem_of_getElem? (i := 535) (by decide +kernel), List.mem_of_getElem? (i := 642) (by decide +kernel), List.mem_of_getElem? (i := 643) (by decide +kernel)⟩
theorem lw_p27 : lw_okq (⟨"ChoirNotesModel", "told", "(I)I"⟩, 11) := ⟨⟨by decide +kernel, by decide +kernel⟩, List.mem_of_getElem? (i := 535) (by decide +kernel), List.mem_of_getElem? (i := 650) (by decide +kernel), List.mem_of_getElem? (i := 651) (by decide +kernel)⟩
theorem lw_p28 : lw_okq (⟨"ChoirNotesModel", "count", "(IZ)I"⟩, 11) := ⟨⟨by decide +kernel, by decide +kernel⟩, List.mem_of_getElem? (i := 535) (by decide +kernel), List.mem_of_getElem? (i := 662) (by decide +kernel), List.mem_of_getElem? (i := 663) (by decide +kernel)⟩
theorem lw_p29 : lw_okq (⟨"ChoirNotesModel", "of", "(II[I)I"⟩, 11) := ⟨⟨by decide +kernel, by decide +kernel⟩, List.mem_of_getElem? (i := 535) (by decide +kernel), List.mem_of_getElem? (i := 674) (by decide +kernel), List.mem_of_getElem? (i := 675) (by decide +kernel)⟩
theorem lw_p30 : lw_okq (⟨"ChoirNotesModel", "begins", "(II)I"⟩, 11) := ⟨⟨by decide +kernel, by decide +kernel⟩, List.mem_of_getElem? (i := 535) (by decide +kernel), List.mem_of_getElem? (i := 698) (by decide +kernel), List.mem_of_getElem? (i := 699) (by decide +kernel)⟩
theorem lw_p31 : lw_okq (⟨"ChoirNotesModel", "most", "()I"⟩, 11) := ⟨⟨by decide +kernel, by decide +kernel⟩, List.mem_of_getElem? (i := 535) (by decide +kernel), List.mem_of_getElem? (i := 710) (by decide +kernel), List.mem_of_getElem? (i := 711) (by decide +kernel)⟩
def lw_privs_2 : List (MethodName × Nat) := [(⟨"ChoirNotes$Voice", "dropLast", "()I"⟩, 10), (⟨"ChoirNotes", "voiceWithSign", "(II)LChoirNotes$Voice;"⟩, 2), (⟨"ChoirNotes$Voice", "turnColour", "(I)Z"⟩, 10), (⟨"ChoirNotes$Voice", "signLastingAt", "(I)I"⟩, 10), (⟨"ChoirNotesModel", "fail", "(I)I"⟩, 11), (⟨"ChoirNotesModel", "set", "(IIII)V"⟩, 11), (⟨"ChoirNotesModel", "isVoice", "(I)Z"⟩, 11), (⟨"ChoirNotesModel", "put", "(IIIZI)V"⟩, 11), (⟨"ChoirNotesModel", "isSign", "(II)Z"⟩, 11), (⟨"ChoirNotesModel", "all", "(I)I"⟩, 11), (⟨"ChoirNotesModel", "lasts", "(II)I"⟩, 11), (⟨"ChoirNotesModel", "told", "(I)I"⟩, 11), (⟨"ChoirNotesModel", "count", "(IZ)I"⟩, 11), (⟨"ChoirNotesModel", "of", "(II[I)I"⟩, 11), (⟨"ChoirNotesModel", "begins", "(II)I"⟩, 11), (⟨"ChoirNotesModel", "most", "()I"⟩, 11)]
theorem lw_r2 : ∀ q ∈ lw_privs_2, lw_okq q := List.forall_mem_cons.mpr ⟨lw_p16, List.forall_mem_cons.mpr ⟨lw_p17, List.forall_mem_cons.mpr ⟨lw_p18, List.forall_mem_cons.mpr ⟨lw_p19, List.forall_mem_cons.mpr ⟨lw_p20, List.forall_mem_cons.mpr ⟨lw_p21, List.forall_mem_cons.mpr ⟨lw_p22, List.forall_mem_cons.mpr ⟨lw_p23, List.forall_mem_cons.mpr ⟨lw_p24, List.forall_mem_cons.mpr ⟨lw_p25, List.forall_mem_cons.mpr ⟨lw_p26, List.forall_mem_cons.mpr ⟨lw_p27, List.forall_mem_cons.mpr ⟨lw_p28, List.forall_mem_cons.mpr ⟨lw_p29, List.forall_mem_cons.mpr ⟨lw_p30, List.forall_mem_cons.mpr ⟨lw_p31, fun _ h => absurd h List.not_mem_nil⟩⟩⟩⟩⟩⟩⟩⟩⟩⟩⟩⟩⟩⟩⟩⟩
theorem lw_p32 : lw_okq (⟨"ChoirNotesModel", "fit", "(II)Z"⟩, 11) := ⟨⟨by decide +kernel, by decide +kernel⟩, List.mem_of_getElem? (i := 535) (by decide +kernel), List.mem_of_getElem? (i := 730) (by decide +kernel), List.mem_of_getElem? (i := 731) (by decide +kernel)⟩
theorem lw_p33 : lw_okq (⟨"ChoirNotesModel", "fitting", "(I)I"⟩, 11) := ⟨⟨by decide +kernel, by decide +kernel⟩, List.mem_of_getElem? (i := 535) (by decide +kernel), List.mem_of_getElem? (i := 738) (by decide +kernel), List.mem_of_getElem? (i := 739) (by decide +kernel)⟩
theorem lw_p34 : lw_okq (⟨"ChoirNotesModel", "both", "(IIZ)I"⟩, 11) := ⟨⟨by decide +kernel, by decide +kernel⟩, List.mem_of_getElem? (i := 535) (by decide +kernel), List.mem_of_getElem? (i := 746) (by decide +kernel), List.mem_of_getElem? (i := 747) (by decide +kernel)⟩
theorem lw_p35 : lw_okq (⟨"ChoirNotesModel", "clash", "(IIIIZ)I"⟩, 11) := ⟨⟨by decide +kernel, by decide +kernel⟩, List.mem_of_getElem? (i := 535) (by decide +kernel), List.mem_of_getElem? (i := 750) (by decide +kernel), List.mem_of_getElem? (i := 751) (by decide +kernel)⟩
theorem lw_p36 : lw_okq (⟨"ChoirNotesModel", "lay", "(I[I)I"⟩, 11) := ⟨⟨by decide +kernel, by decide +kernel⟩, List.mem_of_getElem? (i := 535) (by decide +kernel), List.mem_of_getElem? (i := 754) (by decide +kernel), List.mem_of_getElem? (i := 755) (by decide +kernel)⟩
theorem lw_p37 : lw_okq (⟨"ChoirNotesModel", "withAll", "(II)I"⟩, 11) := ⟨⟨by decide +kernel, by decide +kernel⟩, List.mem_of_getElem? (i := 535) (by decide +kernel), List.mem_of_getElem? (i := 771) (by decide +kernel), List.mem_of_getElem? (i := 772) (by decide +kernel)⟩
theorem lw_p38 : lw_okq (⟨"ChoirNotesModel", "best", "(I)I"⟩, 11) := ⟨⟨by decide +kernel, by decide +kernel⟩, List.mem_of_getElem? (i := 535) (by decide +kernel), List.mem_of_getElem? (i := 779) (by decide +kernel), List.mem_of_getElem? (i := 780) (by decide +kernel)⟩
theorem lw_p39 : lw_okq (⟨"ChoirNotesModel", "canon", "(III)I"⟩, 11) := ⟨⟨by decide +kernel, by decide +kernel⟩, List.mem_of_getElem? (i := 535) (by decide +kernel), List.mem_of_getElem? (i := 787) (by decide +kernel), List.mem_of_getElem? (i := 788) (by decide +kernel)⟩
theorem lw_p40 : lw_okq (⟨"ChoirNotesModel", "delay", "(II)I"⟩, 11) := ⟨⟨by decide +kernel, by decide +kernel⟩, List.mem_of_getElem? (i := 535) (by decide +kernel), List.mem_of_getElem? (i := 795) (by decide +kernel), List.mem_of_getElem? (i := 796) (by decide +kernel)⟩
def lw_privs_3 : List (MethodName × Nat) := [(⟨"ChoirNotesModel", "fit", "(II)Z"⟩, 11), (⟨"ChoirNotesModel", "fitting", "(I)I"⟩, 11), (⟨"ChoirNotesModel", "both", "(IIZ)I"⟩, 11), (⟨"ChoirNotesModel", "clash", "(IIIIZ)I"⟩, 11), (⟨"ChoirNotesModel", "lay", "(I[I)I"⟩, 11), (⟨"ChoirNotesModel", "withAll", "(II)I"⟩, 11), (⟨"ChoirNotesModel", "best", "(I)I"⟩, 11), (⟨"ChoirNotesModel", "canon", "(III)I"⟩, 11), (⟨"ChoirNotesModel", "delay", "(II)I"⟩, 11)]
theorem lw_r3 : ∀ q ∈ lw_privs_3, lw_okq q := List.forall_mem_cons.mpr ⟨lw_p32, List.forall_mem_cons.mpr ⟨lw_p33, List.forall_mem_cons.mpr ⟨lw_p34, List.forall_mem_cons.mpr ⟨lw_p35, List.forall_mem_cons.mpr ⟨lw_p36, List.forall_mem_cons.mpr ⟨lw_p37, List.forall_mem_cons.mpr ⟨lw_p38, List.forall_mem_cons.mpr ⟨lw_p39, List.forall_mem_cons.mpr ⟨lw_p40, fun _ h => absurd h List.not_mem_nil⟩⟩⟩⟩⟩⟩⟩⟩⟩
def lw_privs : List (MethodName × Nat) := lw_privs_1 ++ (lw_privs_2 ++ (lw_privs_3))
def lw_tbl : List Cond := k2_sels lw_privs ++ tables_1
theorem lw_privs_ok : ∀ q ∈ lw_privs, lw_okq q := by
  show ∀ q ∈ lw_privs_1 ++ (lw_privs_2 ++ (lw_privs_3)), lw_okq q
  exact List.forall_mem_append.mpr ⟨lw_r1, List.forall_mem_append.mpr ⟨lw_r2, lw_r3⟩⟩
/-- the streams that the claim lets the run draw from -/
abbrev lw_cs : List Choice := [Jvm.Choice.named "NaN.bits"]
theorem lw_bits : nanBits ∈ lw_cs := by first | decide | exact List.mem_cons_self | simp [lw_cs, nanBits]
-- ===== end of PART A; then your names; then what follows =====
/-! ===== BEGIN words of one list among another's, by their places ===== -/
theorem goodIn_r {big : List Cond} (ws : List Cond) (ps : List Nat) (hp : ws = ps.filterMap (fun i => big[i]?)) (h : ws.all goodWord = true) : GoodIn big ws := by
  intro w hw
  have h1 := List.all_eq_true.mp h w hw
  rw [hp] at hw
  obtain ⟨i, -, hi⟩ := List.mem_filterMap.mp hw
  have hm : w ∈ big := by first | exact List.mem_of_getElem? hi | exact List.getElem?_mem hi
  exact ⟨hm, good_of_word h1⟩
theorem goodIn_app {big a b : List Cond} (ha : GoodIn big a) (hb : GoodIn big b) : GoodIn big (a ++ b) := fun w h => (List.mem_append.mp h).elim (ha w) (hb w)
theorem goodIn_ca {big a b : List Cond} {c : Cond} (ha : GoodIn big (c :: a)) (hb : GoodIn big b) : GoodIn big (c :: (a ++ b)) := fun w h => (List.mem_cons.mp h).elim (fun e => ha w (List.mem_cons.mpr (Or.inl e))) (fun h => (List.mem_append.mp h).elim (fun h => ha w (List.mem_cons.mpr (Or.inr h))) (hb w))
theorem goodIn_sub {big ws : List Cond} (hm : ∀ w ∈ ws, w ∈ big) (h : ws.all goodWord = true) : GoodIn big ws := fun w hw => ⟨hm w hw, good_of_word (List.all_eq_true.mp h w hw)⟩
/-! ===== END ===== -/

/-! ===== BEGIN exceptions that leave a method, and their catching by the caller (launches without stack traces) ===== -/
section VXA
/-! The laws vx_back, vx_callV, vx_callS, vx_callSW, vx_throw0, vx_throwS follow proofs of the library, with one case more: JvmDerived/Free/Laws.lean (Back.of_free), Shelf42/LK1.lean (callV, callS), Shelf/KitTraced.lean (throwNew0V, throwNewS). -/
/-- where a method has thrown q: the class by its name, the cell, what was written, the world -/
def vx_T (XC : String → State → State → Prop) (st : State) (q : Addr) (t : State) (mc ms : Nat) (free : Addr → Prop) : Prop :=
  ∃ (E : String) (ce : Cell) (L : List Loc), XC E st t ∧ t.heap[q]? = some ce ∧ ce.vm = .none ∧ st.vm.findClass E = some ce.cls ∧ st.WarmedH t.vm ∧ st.sameButNew ({ t with vm := st.vm } : State) L mc ms ∧ ∀ z ∈ L, free z.base
def vx_Q (Qc : Array Value → State → Outcome → State → Prop) (XC : String → State → State → Prop) (mc ms : Nat) (free : Addr → Prop) : Array Value → State → Outcome → State → Prop := fun a st o t =>
  (Qc a st o t ∧ ∃ L, FrameEnd st o t L mc ms ∧ ∀ q ∈ L, free q.base) ∨ ∃ q, o = .threw q ∧ vx_T XC st q t mc ms free
/-- a callee that returns or throws -/
def vx_Met (l : Launch) (y : MethodName) (ws : List Cond) (rm : Room) (Pc : Array Value → State → Prop) (Qc : Array Value → State → Outcome → State → Prop) (XC : String → State → State → Prop) (mc ms : Nat) (free : Addr → Prop) : Prop :=
  MetFree l y (headSpec ws rm) Pc (fun _ _ _ _ _ => True) (vx_Q Qc XC mc ms free)
def vx_Post (XC : String → State → State → Prop) (mc ms : Nat) (free : Addr → Prop) : Pt → Array Value → Addr → Pt → Prop := fun A a q B =>
  ∃ (g : JFrame) (mk : MethodId) (t : State) (L : List Loc) (E : String) (ce : Cell), B.U.heap = t.heap ∧ B.U.vm = t.vm ∧ XC E (A.U.calling g mk a) t ∧ t.heap[q]? = some ce ∧ ce.vm = .none ∧ A.U.vm.findClass E = some ce.cls ∧ B.locs = A.locs ++ L ∧ (∀ z ∈ L, free z.base) ∧ B.cells = A.cells + mc ∧ B.slots = A.slots + ms
def vx_Back (l : Launch) (R : Room) (p : Program) (e : Env) (below : List Frame) (s : State) (sargs : Array Value) (y : MethodName) (len W9 : Nat)
    (Pre : Pt → Array Value → Prop) (Post : Pt → Array Value → Option Value → Pt → Prop) (PostX : Pt → Array Value → Addr → Pt → Prop) : Prop :=
  ∀ (m : MethodId) (meth : Method) (c : Code) (A : Pt) (g : JFrame) (ig : Instr) (mk : MethodId) (a : Array Value),
    Stand p l e R s m sargs below meth c A.U A.locs A.cells A.slots → g.method = m → g.locals.size = c.maxLocals → decode c.code g.pc = .ok (ig, len) →
    2 * g.monitorRoom + (g.stack.map fun v => v.category).sum ≤ W9 → A.U.methodNamed? y = some mk → Pre A a →
    (∃ (v : Option Value) (B : Pt), Stand p l e R s m sargs below meth c B.U B.locs B.cells B.slots ∧ Post A a v B ∧
      Steps p.tables e below (doInvoke e (A.U.setTop g) [] mk a).1 (B.U.setTop { g with pc := g.pc + len, stack := v.toList ++ g.stack })) ∨
    (∃ (q : Addr) (B : Pt), Stand p l e R s m sargs below meth c B.U B.locs B.cells B.slots ∧ PostX A a q B ∧
      Steps p.tables e below (doInvoke e (A.U.setTop g) [] mk a).1 ((B.U.setTop g).pushFrame (.throwing q)))
section Payer
variable {l : Launch} {R : Room} {p : Program} {e : Env} {below : List Frame} {s : State} {sargs : Array Value} {y : MethodName} {len W9 : Nat}
theorem vx_back {ws : List Cond} {rm : Room} {Pc : Array Value → State → Prop} {Qc : Array Value → State → Outcome → State → Prop} {XC : String → State → State → Prop} {mc ms : Nat} {free : Addr → Prop} {bytes : ByteArray} {maxL : Nat} {ret : Option FieldType}
    (hM : vx_Met l y ws rm Pc Qc XC mc ms free) (hblind : FrameBlind Pc) (hrc : rm.cells = mc) (hrs : rm.slots = ms)
    (hframes : rm.frames + 1 ≤ R.frames) (hlocals : W9 + (maxL + 11) + rm.locals ≤ R.locals)
    (hws : ∀ w ∈ ws, ∀ a' U, s.WarmedH U.vm → w.before a' U = true) (hcode : Cond.code y bytes maxL ret ∈ ws) (hinit : ∀ a' U, s.WarmedH U.vm → (Cond.initialized y.cls).before a' U = true) :
    vx_Back l R p e below s sargs y len W9 (PreOf R mc ms Pc) (PostOf Qc mc ms free) (vx_Post XC mc ms free) := by
  intro m meth c A g ig mk a X hg hsize hdg hW hn hp
  have h1 : (headSpec ws rm).pre.before a A.U = true := atoms_intro fun w hw => hws w hw _ _ X.warmed
  have h2 : (Cond.code y bytes maxL ret).before a A.U = true := hws _ hcode _ _ X.warmed
  have h3 : (Cond.initialized y.cls).before a A.U = true := hinit _ _ X.warmed
  have h4 : A.cells + (headSpec ws rm).room.cells ≤ R.cells := by rw [show (headSpec ws rm).room.cells = mc from hrc]; exact hp.1
  have h5 : A.slots + (headSpec ws rm).room.slots ≤ R.slots := by rw [show (headSpec ws rm).room.slots = ms from hrs]; exact hp.2.1
  have hPc : Pc a (A.U.calling g mk a) := hblind _ _ _ _ hp.2.2
  obtain ⟨U, Ls, c0, s0⟩ := A
  dsimp only [Pt.U, Pt.locs, Pt.cells, Pt.slots] at h1 h2 h3 h4 h5 X hn hPc ⊢
  obtain ⟨methY, cY, hmY, hcY, -, hlY, -, -, -, -⟩ := Cond.code_spec hn h2
  obtain ⟨kY, hkY, -⟩ := className_of_methodNamed hn
  have hinitY : kY.init = .initialized := Cond.initialized_spec (findClass_of_methodNamed hn) hkY h3
  have h : At U g.method c below := by rw [hg]; exact X.here
  have hlocals9 : W9 + (maxL + 11) + (headSpec ws rm).room.locals ≤ R.locals := hlocals
  have happ : (headSpec ws rm).appliesLoose y e.platform (U.calling g mk a) = true :=
    Spec.appliesLoose_calling (g := g) h hdg hn hkY hinitY
      (X.room_calling (g := g) (R' := (headSpec ws rm).room) hsize hmY hcY hframes (by rw [hlY]; omega) h4 h5) h1
  obtain ⟨mid, hmid⟩ := h.above
  have hfr : (U.setTop g).frames = (.java g :: mid) ++ below := by rw [State.frames_setTop' g h.top, hmid]; rfl
  obtain ⟨o, s₂, hsteps, -, hend, hq⟩ := Steps.callFree hM p X.admits X.cas X.clock (acts := []) hfr happ hPc trivial
  have hq' : vx_Q Qc XC mc ms free a (U.calling g mk a) o s₂ := hq
  rw [State.frames_setTop' g h.top] at hend
  obtain ⟨g₀, hg0⟩ := Option.isSome_iff_exists.mp h.top
  obtain ⟨r, hr⟩ := State.topJava?_eq_some.mp hg0
  have hr' : (({ U with heap := s₂.heap, slotsUsed := s₂.slotsUsed } : State).setVm s₂.vm).frames = .java g₀ :: r := hr
  rcases hq' with ⟨hqc, L, hfe, hL⟩ | ⟨q, rfl, E, ce, L, hx, hce, hcv, hcl, hW₂, hsm, hL⟩
  · obtain ⟨⟨v, rfl⟩, hW₂, e2, q2, q3, q4, q5, q6⟩ := id hfe
    have e3 : s₂ = ({ (U.calling g mk a).setFrames s₂.frames with heap := s₂.heap, slotsUsed := s₂.slotsUsed } : State).setVm s₂.vm := by
      have : s₂ = ({ s₂ with vm := (U.calling g mk a).vm } : State).setVm s₂.vm := rfl
      rw [e2] at this
      exact this
    obtain ⟨c₂, i₂, len₂, hc₂, hd₂, hf₂⟩ := hend
    have hW' : U.WarmedH s₂.vm := hW₂
    have hcc : c₂ = c := by
      have h1 : s₂.code? g.method = U.code? g.method := by
        rw [State.code?_eq, State.code?_eq, hW'.alike.method?]
      exact Option.some.inj (hc₂.symm.trans (h1.trans h.code))
    subst hcc
    have hlen : len₂ = len := by rw [hdg] at hd₂; cases hd₂; rfl
    subst hlen
    have hs₂ : s₂ = (({ U with heap := s₂.heap, slotsUsed := s₂.slotsUsed } : State).setVm s₂.vm).setTop { g with pc := g.pc + len₂, stack := v.toList ++ g.stack } := by
      refine e3.trans ?_
      rw [hf₂, State.calling_eq h.top, State.setFrames_setFrames, State.setTop_of_frames _ hr', hr]
      rfl
    have hsame : U.sameButNew ({ U with heap := s₂.heap, slotsUsed := s₂.slotsUsed } : State) L mc ms := by
      refine ⟨?_, q2, q3, q4, q5, q6⟩
      obtain ⟨t, ht, -⟩ := State.frames_cons hr
      show ({ U with heap := s₂.heap, slotsUsed := s₂.slotsUsed } : State) = { U.setFrames U.frames with heap := s₂.heap, slotsUsed := s₂.slotsUsed }
      rw [State.setFrames_self ht]
    subst hg
    refine Or.inl ⟨v, ⟨(({ U with heap := s₂.heap, slotsUsed := s₂.slotsUsed } : State).setVm s₂.vm), Ls ++ L, c0 + mc, s0 + ms⟩,
      ⟨X.admits, X.cas, X.clock, X.frames, X.room, X.hears, X.method, X.code, (X.here.setHeapUsed s₂.heap s₂.slotsUsed).setVm hW'.alike, X.tail, State.WarmedH.trans X.warmed hW', X.limits, X.bytes, X.same.trans (hsame.setVm s.vm)⟩,
      ⟨g, mk, s₂, L, rfl, rfl, hqc, rfl, hL, rfl, rfl⟩, ?_⟩
    show Steps p.tables e below _ ((({ U with heap := s₂.heap, slotsUsed := s₂.slotsUsed } : State).setVm s₂.vm).setTop { g with pc := g.pc + len₂, stack := v.toList ++ g.stack })
    rw [← hs₂]
    exact hsteps
  · obtain ⟨e2, q2, q3, q4, q5, q6⟩ := id hsm
    have e3 : s₂ = ({ (U.calling g mk a).setFrames s₂.frames with heap := s₂.heap, slotsUsed := s₂.slotsUsed } : State).setVm s₂.vm := by
      have : s₂ = ({ s₂ with vm := (U.calling g mk a).vm } : State).setVm s₂.vm := rfl
      rw [e2] at this
      exact this
    have hf₂ : s₂.frames = .throwing q :: .java g :: U.frames.tail := hend
    have hW' : U.WarmedH s₂.vm := hW₂
    have hs₂ : s₂ = ((({ U with heap := s₂.heap, slotsUsed := s₂.slotsUsed } : State).setVm s₂.vm).setTop g).pushFrame (.throwing q) := by
      refine e3.trans ?_
      rw [hf₂, State.calling_eq h.top, State.setFrames_setFrames, State.pushFrame, State.frames_setTop _ hr', State.setTop_of_frames _ hr', State.setFrames_setFrames, hr]
      rfl
    have hsame : U.sameButNew ({ U with heap := s₂.heap, slotsUsed := s₂.slotsUsed } : State) L mc ms := by
      refine ⟨?_, q2, q3, q4, q5, q6⟩
      obtain ⟨t, ht, -⟩ := State.frames_cons hr
      show ({ U with heap := s₂.heap, slotsUsed := s₂.slotsUsed } : State) = { U.setFrames U.frames with heap := s₂.heap, slotsUsed := s₂.slotsUsed }
      rw [State.setFrames_self ht]
    subst hg
    refine Or.inr ⟨q, ⟨(({ U with heap := s₂.heap, slotsUsed := s₂.slotsUsed } : State).setVm s₂.vm), Ls ++ L, c0 + mc, s0 + ms⟩,
      ⟨X.admits, X.cas, X.clock, X.frames, X.room, X.hears, X.method, X.code, (X.here.setHeapUsed s₂.heap s₂.slotsUsed).setVm hW'.alike, X.tail, State.WarmedH.trans X.warmed hW', X.limits, X.bytes, X.same.trans (hsame.setVm s.vm)⟩,
      ⟨g, mk, s₂, L, E, ce, rfl, rfl, hx, hce, hcv, hcl, rfl, hL, rfl, rfl⟩, ?_⟩
    show Steps p.tables e below _ (((({ U with heap := s₂.heap, slotsUsed := s₂.slotsUsed } : State).setVm s₂.vm).setTop g).pushFrame (.throwing q))
    rw [← hs₂]
    exact hsteps
end Payer
section Calls
variable {p : Program} {l : Launch} {e : Env} {R : Room} {s : State} {m : MethodId} {args : Array Value} {below : List Frame} {meth : Method} {c : Code} {T : State} {locs : List Loc} {cells slots : Nat}
theorem vx_callV (X : Stand p l e R s m args below meth c T locs cells slots) (hexec : p.tables.exec = Jvm.exec) {own C : String} {index : Nat} {y : MethodName} {bytes : ByteArray} {maxL : Nat} {ret : Option FieldType}
    (hown : s.vm.findClass own = some m.cls) (hlink : (Cond.methodLink own index y).before args s = true) (hinst : (Cond.instanceMethod y).before args s = true) (hsel : (Cond.selects C y y).before args s = true)
    (hcode : (Cond.code y bytes maxL ret).before args s = true) (hy : y.cls ≠ "java/lang/invoke/MethodHandle" ∧ y.cls ≠ "java/lang/invoke/VarHandle")
    {W9 : Nat} {Pre : Pt → Array Value → Prop} {Post : Pt → Array Value → Option Value → Pt → Prop} {PostX : Pt → Array Value → Addr → Pt → Prop} (hK : vx_Back l R p e below s args y 3 W9 Pre Post PostX)
    {b : Addr} {cellB : Cell} (hcell : T.heap[b]? = some cellB) (hobj : cellB.vm.isStatics = false) (hcls : s.vm.findClass C = some cellB.cls)
    {g : JFrame} (hg : g.method = m) (hsize : g.locals.size = c.maxLocals) {argsL rest : List Value} (hlen : ∀ sig, parseMethodDescriptor y.desc = some sig → argsL.length = sig.parameters.length)
    (hstack : g.stack = argsL.reverse ++ .ref b :: rest) (hW : 2 * g.monitorRoom + (rest.map fun v => v.category).sum ≤ W9) (hdg : decode c.code g.pc = .ok (.invokevirtual index, 3))
    (hpre : ∀ vm₁, s.WarmedH vm₁ → Pre ⟨T.setVm vm₁, locs, cells, slots⟩ (Value.ref b :: argsL).toArray) :
    (∃ (v : Option Value) (vm₁ : Vm) (B : Pt), s.WarmedH vm₁ ∧ Stand p l e R s m args below meth c B.U B.locs B.cells B.slots ∧ Post ⟨T.setVm vm₁, locs, cells, slots⟩ (Value.ref b :: argsL).toArray v B ∧
      ∀ target, Steps p.tables e below (B.U.setTop { g with pc := g.pc + 3, stack := v.toList ++ rest }) target → Steps p.tables e below (T.setTop g) target) ∨
    (∃ (q : Addr) (vm₁ : Vm) (B : Pt), s.WarmedH vm₁ ∧ Stand p l e R s m args below meth c B.U B.locs B.cells B.slots ∧ PostX ⟨T.setVm vm₁, locs, cells, slots⟩ (Value.ref b :: argsL).toArray q B ∧
      Steps p.tables e below (T.setTop g) ((B.U.setTop { g with stack := rest }).pushFrame (.throwing q))) := by
  obtain ⟨mk, methM, hnamed, hmethM, hstM, habM⟩ := Cond.instanceMethod_spec hinst
  obtain ⟨methM', cM, hmethM', -, -, -, -, -, -, hsigM⟩ := Cond.code_spec hnamed hcode
  cases hmethM.symm.trans hmethM'
  obtain ⟨c2, r2, m2, q1, q2, q3, q4, kP, hkP, hkPi⟩ := Cond.selects_spec hsel
  cases hcls.symm.trans q1
  cases (State.methodFound?_of_named hnamed hy).symm.trans q2
  cases hnamed.symm.trans q3
  have hselP : selectMethod e.platform s.vm cellB.cls mk = .method mk := by rw [Launch.admits_selectMethod X.admits]; exact q4
  obtain ⟨vm₁, X₁, hstep₁⟩ := X.invokevirtual hexec hown hlink hnamed hmethM hstM hkP hkPi hy (a := b) (cell := cellB) hcell
    (fun z h => by rw [h] at hobj; cases hobj) hselP hmethM habM hkP hkPi (g := g) hg (argsL := argsL) (rest := rest) (hlen _ hsigM) hstack hdg
  rcases hK m meth c ⟨T.setVm vm₁, locs, cells, slots⟩ { g with stack := rest } (.invokevirtual index) mk (Value.ref b :: argsL).toArray X₁ hg hsize hdg hW (X₁.named hnamed) (hpre vm₁ X₁.warmed) with ⟨v, B, X', hpost, hsteps⟩ | ⟨q, B, X', hpost, hsteps⟩
  · exact Or.inl ⟨v, vm₁, B, X₁.warmed, X', hpost, fun target h => hstep₁ _ fun acts => by rw [doInvoke_state]; exact hsteps.trans h⟩
  · exact Or.inr ⟨q, vm₁, B, X₁.warmed, X', hpost, hstep₁ _ fun acts => by rw [doInvoke_state]; exact hsteps⟩
theorem vx_callS (X : Stand p l e R s m args below meth c T locs cells slots) (hexec : p.tables.exec = Jvm.exec) {own : String} {index : Nat} {y : MethodName} {bytes : ByteArray} {maxL : Nat} {ret : Option FieldType}
    (hown : s.vm.findClass own = some m.cls) (hlink : (Cond.methodLink own index y).before args s = true) (hstat : (Cond.static y).before args s = true) (hinit : (Cond.initialized y.cls).before args s = true)
    (hcode : (Cond.code y bytes maxL ret).before args s = true) (hy : y.cls ≠ "java/lang/invoke/MethodHandle" ∧ y.cls ≠ "java/lang/invoke/VarHandle")
    {W9 : Nat} {Pre : Pt → Array Value → Prop} {Post : Pt → Array Value → Option Value → Pt → Prop} {PostX : Pt → Array Value → Addr → Pt → Prop} (hK : vx_Back l R p e below s args y 3 W9 Pre Post PostX)
    {g : JFrame} (hg : g.method = m) (hsize : g.locals.size = c.maxLocals) {argsL rest : List Value} (hlen : ∀ sig, parseMethodDescriptor y.desc = some sig → argsL.length = sig.parameters.length)
    (hstack : g.stack = argsL.reverse ++ rest) (hW : 2 * g.monitorRoom + (rest.map fun v => v.category).sum ≤ W9) (hdg : decode c.code g.pc = .ok (.invokestatic index, 3))
    (hpre : ∀ vm₁, s.WarmedH vm₁ → Pre ⟨T.setVm vm₁, locs, cells, slots⟩ argsL.toArray) :
    (∃ (v : Option Value) (vm₁ : Vm) (B : Pt), s.WarmedH vm₁ ∧ Stand p l e R s m args below meth c B.U B.locs B.cells B.slots ∧ Post ⟨T.setVm vm₁, locs, cells, slots⟩ argsL.toArray v B ∧
      ∀ target, Steps p.tables e below (B.U.setTop { g with pc := g.pc + 3, stack := v.toList ++ rest }) target → Steps p.tables e below (T.setTop g) target) ∨
    (∃ (q : Addr) (vm₁ : Vm) (B : Pt), s.WarmedH vm₁ ∧ Stand p l e R s m args below meth c B.U B.locs B.cells B.slots ∧ PostX ⟨T.setVm vm₁, locs, cells, slots⟩ argsL.toArray q B ∧
      Steps p.tables e below (T.setTop g) ((B.U.setTop { g with stack := rest }).pushFrame (.throwing q))) := by
  obtain ⟨mk, hnamed⟩ := Cond.code_named hcode
  obtain ⟨methM, cM, hmethM, -, -, -, -, -, -, hsigM⟩ := Cond.code_spec hnamed hcode
  have hstatic : methM.isStatic = true := Cond.static_spec hnamed hmethM hstat
  obtain ⟨kP, hkP, -⟩ := className_of_methodNamed hnamed
  have hinitP : kP.init = .initialized := Cond.initialized_spec (findClass_of_methodNamed hnamed) hkP hinit
  obtain ⟨vm₁, X₁, hstep₁⟩ := X.invokestatic hexec hown hlink hnamed hmethM hstatic hkP hinitP hy (g := g) hg (argsL := argsL) (rest := rest) (hlen _ hsigM) hstack hdg
  rcases hK m meth c ⟨T.setVm vm₁, locs, cells, slots⟩ { g with stack := rest } (.invokestatic index) mk argsL.toArray X₁ hg hsize hdg hW (X₁.named hnamed) (hpre vm₁ X₁.warmed) with ⟨v, B, X', hpost, hsteps⟩ | ⟨q, B, X', hpost, hsteps⟩
  · exact Or.inl ⟨v, vm₁, B, X₁.warmed, X', hpost, fun target h => hstep₁ _ fun acts => by rw [doInvoke_state]; exact hsteps.trans h⟩
  · exact Or.inr ⟨q, vm₁, B, X₁.warmed, X', hpost, hstep₁ _ fun acts => by rw [doInvoke_state]; exact hsteps⟩
end Calls
theorem vx_cls {s : State} {T : State} {vm₁ : Vm} {E : String} {k : ClassId} (hW : s.WarmedH vm₁) (h : (T.setVm vm₁).vm.findClass E = some k) : s.vm.findClass E = some k := by
  have h1 : vm₁.findClass E = some k := h
  rw [hW.alike.findClass] at h1
  exact h1
/-- the method's frame g, with q thrown over it -/
def vx_W (p : Program) (l : Launch) (e : Env) (R : Room) (s : State) (m : MethodId) (args : Array Value) (below : List Frame) (meth : Method) (c : Code) (H : Heap) (locs : List Loc) (cells slots : Nat) (Q : State → Prop) (g : JFrame) (q : Addr) : Prop :=
  ∀ T : State, T.heap = H → Stand p l e R s m args below meth c T locs cells slots → ∃ t, Steps p.tables e below ((T.setTop g).pushFrame (.throwing q)) t ∧ Q t
def vx_Run (p : Program) (l : Launch) (e : Env) (R : Room) (s : State) (m : MethodId) (args : Array Value) (below : List Frame) (meth : Method) (c : Code) (H : Heap) (locs : List Loc) (cells slots mc ms : Nat) (g : JFrame) (rest : List Value) (Qa : State → Outcome → State → Prop) (XC : String → State → State → Prop) (free : Addr → Prop) : Prop :=
  ∀ T : State, T.heap = H → Stand p l e R s m args below meth c T locs cells slots →
    (∃ (v : Option Value) (st₀ t T' : State) (L : List Loc), st₀.heap = H ∧ Stand p l e R s m args below meth c T' (locs ++ L) (cells + mc) (slots + ms) ∧ (∀ q ∈ L, free q.base) ∧ T'.heap = t.heap ∧ T'.vm = t.vm ∧ Qa st₀ (.returned v) t ∧
      Goes p e below T g T' { g with pc := g.pc + 3, stack := v.toList ++ rest }) ∨
    (∃ (q : Addr) (st₀ t T' : State) (L : List Loc) (E : String) (ce : Cell), st₀.heap = H ∧ Stand p l e R s m args below meth c T' (locs ++ L) (cells + mc) (slots + ms) ∧ (∀ z ∈ L, free z.base) ∧ T'.heap = t.heap ∧ T'.vm = t.vm ∧ XC E st₀ t ∧ t.heap[q]? = some ce ∧ ce.vm = .none ∧ s.vm.findClass E = some ce.cls ∧
      Steps p.tables e below (T.setTop g) ((T'.setTop { g with stack := rest }).pushFrame (.throwing q)))
def vx_X {S : Type} (px : S → Prop) (B : String → S → State → Prop) (A : Nat → Prop) : String → State → State → Prop := fun E st t => ∃ u : S, px u ∧ B E u t ∧ va_F A st t
section Runs
variable {p : Program} {l : Launch} {e : Env} {R : Room} {s : State} {m : MethodId} {args : Array Value} {below : List Frame} {meth : Method} {c : Code} {H : Heap} {locs : List Loc} {cells slots : Nat}
variable {y : MethodName} {bytes cc : ByteArray} {maxL nL mc ms n index : Nat} {ret : Option FieldType} {ws : List Cond} {rm : Room} {Pc : Array Value → State → Prop} {Qc : Array Value → State → Outcome → State → Prop} {XC : String → State → State → Prop} {free : Addr → Prop} {Ts : List Cond} {own C : String} {b : Addr} {As rest : List Value} {g : JFrame}
theorem vx_callBack (cb : CallB R s args own index y bytes maxL ret ws rm mc ms n) (hM : vx_Met l y ws rm Pc Qc XC mc ms free) (hbl : FrameBlind Pc) : vx_Back l R p e below s args y 3 8 (PreOf R mc ms Pc) (PostOf Qc mc ms free) (vx_Post XC mc ms free) := by
  obtain ⟨hrc, hrs, hfr, hlo, hws, hcw, -, hini, -⟩ := cb
  exact vx_back (bytes := bytes) (maxL := maxL) (ret := ret) hM hbl hrc hrs hfr hlo hws hcw (fun a' U hW => word_at hW (Or.inl (by first | rfl | simp [Cond.onTables, Cond.keeps, Cond.steady])) hini)
theorem vx_runV (S : CallFix p m c cc nL s args Ts own) (hM : vx_Met l y ws rm Pc Qc XC mc ms free) (cw : CallW R s args own C index y bytes maxL ret ws rm mc ms n) (hp : PreV s H C b Pc As)
    (hg : g.method = m) (hn : As.length = n) (hsize : g.locals.size = nL) (hstack : g.stack = As.reverse ++ .ref b :: rest) (hW : 2 * g.monitorRoom + (rest.map fun v => v.category).sum ≤ 8) (hdg : decode cc g.pc = .ok (.invokevirtual index, 3)) (hf : cells + mc ≤ R.cells ∧ slots + ms ≤ R.slots) :
    vx_Run p l e R s m args below meth c H locs cells slots mc ms g rest (Qc (Value.ref b :: As).toArray) XC free := by
  have hK : vx_Back l R p e below s args y 3 8 (PreOf R mc ms Pc) (PostOf Qc mc ms free) (vx_Post XC mc ms free) := vx_callBack cw.1 hM hp.1
  obtain ⟨⟨-, -, -, -, -, -, hcode, -, hy, hlen, hl⟩, hin, hse⟩ := cw
  obtain ⟨hx, hb, hml, ho, -⟩ := S
  obtain ⟨-, ⟨cellB, hcB, hoB, hclB⟩, hPc⟩ := hp
  intro T hT X
  rcases vx_callV X hx (C := C) (bytes := bytes) (maxL := maxL) (ret := ret) ho hl hin hse hcode hy hK (by rw [hT]; exact hcB) hoB hclB hg (hsize.trans hml.symm) (argsL := As) (rest := rest) (fun sig h => hn.trans (hlen sig h)) hstack hW (by rw [hb]; exact hdg)
    (fun vm₁ hW₁ => ⟨hf.1, hf.2, hPc (T.setVm vm₁) hT hW₁⟩) with ⟨v, vm₁, ⟨U', l2, c2, s2⟩, hW₁, X', ⟨g', mk, t, L, e1, e2, hq, h1, hL, h2, h3⟩, st⟩ | ⟨q, vm₁, ⟨U', l2, c2, s2⟩, hW₁, X', ⟨g', mk, t, L, E, ce, e1, e2, hq, hce, hcv, hcl, h1, hL, h2, h3⟩, st⟩
  · dsimp only [Pt.U, Pt.locs, Pt.cells, Pt.slots] at X' e1 e2 h1 h2 h3 st
    subst h1; subst h2; subst h3
    exact Or.inl ⟨v, (T.setVm vm₁).calling g' mk (Value.ref b :: As).toArray, t, U', L, hT, X', hL, e1, e2, hq, st⟩
  · dsimp only [Pt.U, Pt.locs, Pt.cells, Pt.slots] at X' e1 e2 h1 h2 h3 st hcl
    subst h1; subst h2; subst h3
    exact Or.inr ⟨q, (T.setVm vm₁).calling g' mk (Value.ref b :: As).toArray, t, U', L, E, ce, hT, X', hL, e1, e2, hq, hce, hcv, vx_cls hW₁ hcl, st⟩
theorem vx_runS (S : CallFix p m c cc nL s args Ts own) (hM : vx_Met l y ws rm Pc Qc XC mc ms free) (cw : CallB R s args own index y bytes maxL ret ws rm mc ms n ∧ (Cond.static y).before args s = true) (hp : PreS s H Pc As)
    (hg : g.method = m) (hn : As.length = n) (hsize : g.locals.size = nL) (hstack : g.stack = As.reverse ++ rest) (hW : 2 * g.monitorRoom + (rest.map fun v => v.category).sum ≤ 8) (hdg : decode cc g.pc = .ok (.invokestatic index, 3)) (hf : cells + mc ≤ R.cells ∧ slots + ms ≤ R.slots) :
    vx_Run p l e R s m args below meth c H locs cells slots mc ms g rest (Qc As.toArray) XC free := by
  have hK : vx_Back l R p e below s args y 3 8 (PreOf R mc ms Pc) (PostOf Qc mc ms free) (vx_Post XC mc ms free) := vx_callBack cw.1 hM hp.1
  obtain ⟨⟨-, -, -, -, -, -, hcode, hini, hy, hlen, hl⟩, hstt⟩ := cw
  obtain ⟨hx, hb, hml, ho, -⟩ := S
  intro T hT X
  rcases vx_callS X hx (bytes := bytes) (maxL := maxL) (ret := ret) ho hl hstt hini hcode hy hK hg (hsize.trans hml.symm) (argsL := As) (rest := rest) (fun sig h => hn.trans (hlen sig h)) hstack hW (by rw [hb]; exact hdg)
    (fun vm₁ hW₁ => ⟨hf.1, hf.2, hp.2 (T.setVm vm₁) hT hW₁⟩) with ⟨v, vm₁, ⟨U', l2, c2, s2⟩, hW₁, X', ⟨g', mk, t, L, e1, e2, hq, h1, hL, h2, h3⟩, st⟩ | ⟨q, vm₁, ⟨U', l2, c2, s2⟩, hW₁, X', ⟨g', mk, t, L, E, ce, e1, e2, hq, hce, hcv, hcl, h1, hL, h2, h3⟩, st⟩
  · dsimp only [Pt.U, Pt.locs, Pt.cells, Pt.slots] at X' e1 e2 h1 h2 h3 st
    subst h1; subst h2; subst h3
    exact Or.inl ⟨v, (T.setVm vm₁).calling g' mk As.toArray, t, U', L, hT, X', hL, e1, e2, hq, st⟩
  · dsimp only [Pt.U, Pt.locs, Pt.cells, Pt.slots] at X' e1 e2 h1 h2 h3 st hcl
    subst h1; subst h2; subst h3
    exact Or.inr ⟨q, (T.setVm vm₁).calling g' mk As.toArray, t, U', L, E, ce, hT, X', hL, e1, e2, hq, hce, hcv, vx_cls hW₁ hcl, st⟩
end Runs
section Rows
variable {p : Program} {l : Launch} {e : Env} {R : Room} {s : State} {m : MethodId} {args : Array Value} {below : List Frame} {meth : Method} {c : Code} {H : Heap} {locs : List Loc} {cells slots : Nat} {Q : State → Prop}
variable {mc ms : Nat} {free : Addr → Prop} {A0 A1 : Nat → Prop} {H0 : Heap} {a : Array Value} {pc : Nat} {ls : Array Slot} {st0 rest : List Value}
theorem vx_keep {st₀ t T' : State} {L : List Loc} (h0 : st₀.heap = H) (e1 : T'.heap = t.heap) (hS : va_S A0 H0 H locs) (hA : ∀ q, q < H.size → A1 q → A0 q) (hf : ∀ q, free q → A0 q) (hL : ∀ q ∈ L, free q.base) (hF : va_F A1 st₀ t) :
    H.size ≤ T'.heap.size ∧ (∀ q : Nat, q < H.size → ¬ A1 q → T'.heap[q]? = H[q]?) ∧ va_S A0 H0 T'.heap (locs ++ L) := by
  obtain ⟨hz, hk⟩ := hF
  rw [h0] at hz hk
  exact ⟨by rw [e1]; exact hz, fun q h1 h2 => by rw [e1]; exact hk q h1 h2,
    ⟨Nat.le_trans hS.1 (by rw [e1]; exact hz), fun q h1 h2 => by rw [e1, hk q (Nat.lt_of_lt_of_le h1 hS.1) (fun z => h2 (hA q (Nat.lt_of_lt_of_le h1 hS.1) z))]; exact hS.2.1 q h1 h2, fun q hq => by
      rcases List.mem_append.mp hq with h | h
      · exact hS.2.2 q h
      · exact hf _ (hL q h)⟩⟩
theorem vx_calli {S SX : Type} {post : Int32 → S → Prop} {px : SX → Prop} {B : S → State → Prop} {BX : String → SX → State → Prop} {AX : Nat → Prop} (hr : vx_Run p l e R s m args below meth c H locs cells slots mc ms (F0 m pc ls st0) rest (va_Qi post B A1 a) (vx_X px BX AX) free) (hS : va_S A0 H0 H locs) (hA : ∀ q, q < H.size → A1 q → A0 q) (hf : ∀ q, free q → A0 q) (hAX : ∀ q, q < H.size → AX q → A0 q)
    (kx : ∀ (E : String) (ce : Cell) (q9 : Addr) (u : SX) (t : State) (H1 : Heap) (locs1 : List Loc), t.heap = H1 → s.vm.Alike t.vm → px u → BX E u t → H.size ≤ H1.size → (∀ q : Nat, q < H.size → ¬ AX q → H1[q]? = H[q]?) → va_S A0 H0 H1 locs1 → H1[q9]? = some ce → ce.vm = .none → s.vm.findClass E = some ce.cls → vx_W p l e R s m args below meth c H1 locs1 (cells + mc) (slots + ms) Q (F0 m pc ls rest) q9)
    (kk : ∀ (r : Int32) (u : S) (t : State) (H1 : Heap) (locs1 : List Loc), t.heap = H1 → s.vm.Alike t.vm → post r u → B u t → H.size ≤ H1.size → (∀ q : Nat, q < H.size → ¬ A1 q → H1[q]? = H[q]?) → va_S A0 H0 H1 locs1 → W p l e R s m args below meth c H1 locs1 (cells + mc) (slots + ms) Q (F0 m (pc + 3) ls (.int r :: rest))) : W p l e R s m args below meth c H locs cells slots Q (F0 m pc ls st0) := by
  intro T hT X
  rcases hr T hT X with ⟨v, st₀, t, T', L, h0, X', hL, e1, e2, ⟨⟨r, u, hv, hp, hb⟩, hF⟩, st⟩ | ⟨q, st₀, t, T', L, E, ce, h0, X', hL, e1, e2, ⟨u, hp, hb, hF⟩, hce, hcv, hcl, st⟩
  · cases hv
    obtain ⟨k1, k2, k3⟩ := vx_keep h0 e1 hS hA hf hL hF
    obtain ⟨t2, a1, b1⟩ := kk r u t T'.heap (locs ++ L) e1.symm (by rw [← e2]; exact X'.warmed.alike) hp hb k1 k2 k3 T' rfl X'
    exact ⟨t2, st t2 a1, b1⟩
  · obtain ⟨k1, k2, k3⟩ := vx_keep h0 e1 hS hAX hf hL hF
    obtain ⟨t2, a1, b1⟩ := kx E ce q u t T'.heap (locs ++ L) e1.symm (by rw [← e2]; exact X'.warmed.alike) hp hb k1 k2 k3 (by rw [e1]; exact hce) hcv hcl T' rfl X'
    exact ⟨t2, st.trans a1, b1⟩
theorem vx_calll {S SX : Type} {post : Int64 → S → Prop} {px : SX → Prop} {B : S → State → Prop} {BX : String → SX → State → Prop} {AX : Nat → Prop} (hr : vx_Run p l e R s m args below meth c H locs cells slots mc ms (F0 m pc ls st0) rest (va_Ql post B A1 a) (vx_X px BX AX) free) (hS : va_S A0 H0 H locs) (hA : ∀ q, q < H.size → A1 q → A0 q) (hf : ∀ q, free q → A0 q) (hAX : ∀ q, q < H.size → AX q → A0 q)
    (kx : ∀ (E : String) (ce : Cell) (q9 : Addr) (u : SX) (t : State) (H1 : Heap) (locs1 : List Loc), t.heap = H1 → s.vm.Alike t.vm → px u → BX E u t → H.size ≤ H1.size → (∀ q : Nat, q < H.size → ¬ AX q → H1[q]? = H[q]?) → va_S A0 H0 H1 locs1 → H1[q9]? = some ce → ce.vm = .none → s.vm.findClass E = some ce.cls → vx_W p l e R s m args below meth c H1 locs1 (cells + mc) (slots + ms) Q (F0 m pc ls rest) q9)
    (kk : ∀ (r : Int64) (u : S) (t : State) (H1 : Heap) (locs1 : List Loc), t.heap = H1 → s.vm.Alike t.vm → post r u → B u t → H.size ≤ H1.size → (∀ q : Nat, q < H.size → ¬ A1 q → H1[q]? = H[q]?) → va_S A0 H0 H1 locs1 → W p l e R s m args below meth c H1 locs1 (cells + mc) (slots + ms) Q (F0 m (pc + 3) ls (.long r :: rest))) : W p l e R s m args below meth c H locs cells slots Q (F0 m pc ls st0) := by
  intro T hT X
  rcases hr T hT X with ⟨v, st₀, t, T', L, h0, X', hL, e1, e2, ⟨⟨r, u, hv, hp, hb⟩, hF⟩, st⟩ | ⟨q, st₀, t, T', L, E, ce, h0, X', hL, e1, e2, ⟨u, hp, hb, hF⟩, hce, hcv, hcl, st⟩
  · cases hv
    obtain ⟨k1, k2, k3⟩ := vx_keep h0 e1 hS hA hf hL hF
    obtain ⟨t2, a1, b1⟩ := kk r u t T'.heap (locs ++ L) e1.symm (by rw [← e2]; exact X'.warmed.alike) hp hb k1 k2 k3 T' rfl X'
    exact ⟨t2, st t2 a1, b1⟩
  · obtain ⟨k1, k2, k3⟩ := vx_keep h0 e1 hS hAX hf hL hF
    obtain ⟨t2, a1, b1⟩ := kx E ce q u t T'.heap (locs ++ L) e1.symm (by rw [← e2]; exact X'.warmed.alike) hp hb k1 k2 k3 (by rw [e1]; exact hce) hcv hcl T' rfl X'
    exact ⟨t2, st.trans a1, b1⟩
theorem vx_callf {S SX : Type} {post : UInt32 → S → Prop} {px : SX → Prop} {B : S → State → Prop} {BX : String → SX → State → Prop} {AX : Nat → Prop} (hr : vx_Run p l e R s m args below meth c H locs cells slots mc ms (F0 m pc ls st0) rest (va_Qf post B A1 a) (vx_X px BX AX) free) (hS : va_S A0 H0 H locs) (hA : ∀ q, q < H.size → A1 q → A0 q) (hf : ∀ q, free q → A0 q) (hAX : ∀ q, q < H.size → AX q → A0 q)
    (kx : ∀ (E : String) (ce : Cell) (q9 : Addr) (u : SX) (t : State) (H1 : Heap) (locs1 : List Loc), t.heap = H1 → s.vm.Alike t.vm → px u → BX E u t → H.size ≤ H1.size → (∀ q : Nat, q < H.size → ¬ AX q → H1[q]? = H[q]?) → va_S A0 H0 H1 locs1 → H1[q9]? = some ce → ce.vm = .none → s.vm.findClass E = some ce.cls → vx_W p l e R s m args below meth c H1 locs1 (cells + mc) (slots + ms) Q (F0 m pc ls rest) q9)
    (kk : ∀ (r : UInt32) (u : S) (t : State) (H1 : Heap) (locs1 : List Loc), t.heap = H1 → s.vm.Alike t.vm → post r u → B u t → H.size ≤ H1.size → (∀ q : Nat, q < H.size → ¬ A1 q → H1[q]? = H[q]?) → va_S A0 H0 H1 locs1 → W p l e R s m args below meth c H1 locs1 (cells + mc) (slots + ms) Q (F0 m (pc + 3) ls (.float r :: rest))) : W p l e R s m args below meth c H locs cells slots Q (F0 m pc ls st0) := by
  intro T hT X
  rcases hr T hT X with ⟨v, st₀, t, T', L, h0, X', hL, e1, e2, ⟨⟨r, u, hv, hp, hb⟩, hF⟩, st⟩ | ⟨q, st₀, t, T', L, E, ce, h0, X', hL, e1, e2, ⟨u, hp, hb, hF⟩, hce, hcv, hcl, st⟩
  · cases hv
    obtain ⟨k1, k2, k3⟩ := vx_keep h0 e1 hS hA hf hL hF
    obtain ⟨t2, a1, b1⟩ := kk r u t T'.heap (locs ++ L) e1.symm (by rw [← e2]; exact X'.warmed.alike) hp hb k1 k2 k3 T' rfl X'
    exact ⟨t2, st t2 a1, b1⟩
  · obtain ⟨k1, k2, k3⟩ := vx_keep h0 e1 hS hAX hf hL hF
    obtain ⟨t2, a1, b1⟩ := kx E ce q u t T'.heap (locs ++ L) e1.symm (by rw [← e2]; exact X'.warmed.alike) hp hb k1 k2 k3 (by rw [e1]; exact hce) hcv hcl T' rfl X'
    exact ⟨t2, st.trans a1, b1⟩
theorem vx_calld {S SX : Type} {post : UInt64 → S → Prop} {px : SX → Prop} {B : S → State → Prop} {BX : String → SX → State → Prop} {AX : Nat → Prop} (hr : vx_Run p l e R s m args below meth c H locs cells slots mc ms (F0 m pc ls st0) rest (va_Qd post B A1 a) (vx_X px BX AX) free) (hS : va_S A0 H0 H locs) (hA : ∀ q, q < H.size → A1 q → A0 q) (hf : ∀ q, free q → A0 q) (hAX : ∀ q, q < H.size → AX q → A0 q)
    (kx : ∀ (E : String) (ce : Cell) (q9 : Addr) (u : SX) (t : State) (H1 : Heap) (locs1 : List Loc), t.heap = H1 → s.vm.Alike t.vm → px u → BX E u t → H.size ≤ H1.size → (∀ q : Nat, q < H.size → ¬ AX q → H1[q]? = H[q]?) → va_S A0 H0 H1 locs1 → H1[q9]? = some ce → ce.vm = .none → s.vm.findClass E = some ce.cls → vx_W p l e R s m args below meth c H1 locs1 (cells + mc) (slots + ms) Q (F0 m pc ls rest) q9)
    (kk : ∀ (r : UInt64) (u : S) (t : State) (H1 : Heap) (locs1 : List Loc), t.heap = H1 → s.vm.Alike t.vm → post r u → B u t → H.size ≤ H1.size → (∀ q : Nat, q < H.size → ¬ A1 q → H1[q]? = H[q]?) → va_S A0 H0 H1 locs1 → W p l e R s m args below meth c H1 locs1 (cells + mc) (slots + ms) Q (F0 m (pc + 3) ls (.double r :: rest))) : W p l e R s m args below meth c H locs cells slots Q (F0 m pc ls st0) := by
  intro T hT X
  rcases hr T hT X with ⟨v, st₀, t, T', L, h0, X', hL, e1, e2, ⟨⟨r, u, hv, hp, hb⟩, hF⟩, st⟩ | ⟨q, st₀, t, T', L, E, ce, h0, X', hL, e1, e2, ⟨u, hp, hb, hF⟩, hce, hcv, hcl, st⟩
  · cases hv
    obtain ⟨k1, k2, k3⟩ := vx_keep h0 e1 hS hA hf hL hF
    obtain ⟨t2, a1, b1⟩ := kk r u t T'.heap (locs ++ L) e1.symm (by rw [← e2]; exact X'.warmed.alike) hp hb k1 k2 k3 T' rfl X'
    exact ⟨t2, st t2 a1, b1⟩
  · obtain ⟨k1, k2, k3⟩ := vx_keep h0 e1 hS hAX hf hL hF
    obtain ⟨t2, a1, b1⟩ := kx E ce q u t T'.heap (locs ++ L) e1.symm (by rw [← e2]; exact X'.warmed.alike) hp hb k1 k2 k3 (by rw [e1]; exact hce) hcv hcl T' rfl X'
    exact ⟨t2, st.trans a1, b1⟩
theorem vx_callv {S SX : Type} {post : S → Prop} {px : SX → Prop} {B : S → State → Prop} {BX : String → SX → State → Prop} {AX : Nat → Prop} (hr : vx_Run p l e R s m args below meth c H locs cells slots mc ms (F0 m pc ls st0) rest (va_Qv post B A1 a) (vx_X px BX AX) free) (hS : va_S A0 H0 H locs) (hA : ∀ q, q < H.size → A1 q → A0 q) (hf : ∀ q, free q → A0 q) (hAX : ∀ q, q < H.size → AX q → A0 q)
    (kx : ∀ (E : String) (ce : Cell) (q9 : Addr) (u : SX) (t : State) (H1 : Heap) (locs1 : List Loc), t.heap = H1 → s.vm.Alike t.vm → px u → BX E u t → H.size ≤ H1.size → (∀ q : Nat, q < H.size → ¬ AX q → H1[q]? = H[q]?) → va_S A0 H0 H1 locs1 → H1[q9]? = some ce → ce.vm = .none → s.vm.findClass E = some ce.cls → vx_W p l e R s m args below meth c H1 locs1 (cells + mc) (slots + ms) Q (F0 m pc ls rest) q9)
    (kk : ∀ (u : S) (t : State) (H1 : Heap) (locs1 : List Loc), t.heap = H1 → s.vm.Alike t.vm → post u → B u t → H.size ≤ H1.size → (∀ q : Nat, q < H.size → ¬ A1 q → H1[q]? = H[q]?) → va_S A0 H0 H1 locs1 → W p l e R s m args below meth c H1 locs1 (cells + mc) (slots + ms) Q (F0 m (pc + 3) ls (rest))) : W p l e R s m args below meth c H locs cells slots Q (F0 m pc ls st0) := by
  intro T hT X
  rcases hr T hT X with ⟨v, st₀, t, T', L, h0, X', hL, e1, e2, ⟨⟨u, hv, hp, hb⟩, hF⟩, st⟩ | ⟨q, st₀, t, T', L, E, ce, h0, X', hL, e1, e2, ⟨u, hp, hb, hF⟩, hce, hcv, hcl, st⟩
  · cases hv
    obtain ⟨k1, k2, k3⟩ := vx_keep h0 e1 hS hA hf hL hF
    obtain ⟨t2, a1, b1⟩ := kk u t T'.heap (locs ++ L) e1.symm (by rw [← e2]; exact X'.warmed.alike) hp hb k1 k2 k3 T' rfl X'
    exact ⟨t2, st t2 a1, b1⟩
  · obtain ⟨k1, k2, k3⟩ := vx_keep h0 e1 hS hAX hf hL hF
    obtain ⟨t2, a1, b1⟩ := kx E ce q u t T'.heap (locs ++ L) e1.symm (by rw [← e2]; exact X'.warmed.alike) hp hb k1 k2 k3 (by rw [e1]; exact hce) hcv hcl T' rfl X'
    exact ⟨t2, st.trans a1, b1⟩
/-- caught by the row x of this method's table; the rows ahead don't take it -/
theorem vx_catch {own name : String} {E : String} {ce : Cell} {q : Addr} (hown : s.vm.findClass own = some m.cls) (pre : List ExceptionTableEntry) (x : ExceptionTableEntry) (suf : List ExceptionTableEntry) (hsplit : c.exceptionTable.toList = pre ++ x :: suf)
    (hpass : ∀ z ∈ pre, covers z pc = false ∨ (z.catchType ≠ 0 ∧ ∃ nm : String, (Cond.classLink own z.catchType nm).before args s = true ∧ va_Nc E nm s)) (hx : covers x pc = true) (h0 : x.catchType ≠ 0)
    (hlink : (Cond.classLink own x.catchType name).before args s = true) (hcast : (Cond.castable E name).before args s = true) (hcell : H[q]? = some ce) (hv : ce.vm = .none) (hcl : s.vm.findClass E = some ce.cls)
    (kk : W p l e R s m args below meth c H locs cells slots Q (F0 m x.handlerPc ls [.ref q])) : vx_W p l e R s m args below meth c H locs cells slots Q (F0 m pc ls rest) q := by
  intro T hT X
  have hpl : e.platform.magicAccessors = ({} : Platform).magicAccessors := by rw [X.admits.platform]
  obtain ⟨c3, c4, hc3, hc4, hasg⟩ := Cond.castable_spec hcast
  cases Option.some.inj (hc3.symm.trans hcl)
  obtain ⟨c5, hc5, hcl5⟩ := Cond.classLink_spec hown hlink e.platform hpl
  cases Option.some.inj (hc4.symm.trans hc5)
  obtain ⟨vm', X', st⟩ := X.thenCaughtThrough q (g := F0 m pc ls rest) rfl (Steps.refl _) (by rw [hT]; exact hcell) (by rw [hv]; rfl) (by obtain ⟨k9, h9, -⟩ := Vm.findClass_spec hcl; exact ⟨k9, h9⟩) pre x suf hsplit
    (fun z hz => by
      rcases hpass z hz with h | ⟨hz0, nm, hl1, hn1⟩
      · exact Or.inl h
      · obtain ⟨c6, hc6, hcl6⟩ := Cond.classLink_spec hown hl1 e.platform hpl
        obtain ⟨a8, b8, h1, h2, h3⟩ := hn1
        cases Option.some.inj (h1.symm.trans hcl)
        cases Option.some.inj (h2.symm.trans hc6)
        exact Or.inr ⟨hz0, _, hcl6, h3⟩) hx (Or.inr ⟨h0, c4, hcl5, hasg⟩)
  obtain ⟨t, a1, b1⟩ := kk (T.setVm vm') hT X'
  exact ⟨t, st.trans a1, b1⟩
end Rows
section Ends
variable {p : Program} {l : Launch} {e : Env} {R : Room} {s : State} {m : MethodId} {args : Array Value} {below : List Frame} {meth : Method} {c : Code} {H : Heap} {locs : List Loc} {cells slots : Nat} {Q : State → Prop}
variable {mc ms : Nat} {free : Addr → Prop} {A0 A1 : Nat → Prop} {H0 : Heap} {a : Array Value} {ls : Array Slot} {st0 rest : List Value}
variable {Qc : Array Value → State → Outcome → State → Prop} {XC : String → State → State → Prop}
/-- what a body that may throw owes at its end -/
def vx_MQ (below : List Frame) (Qc : Array Value → State → Outcome → State → Prop) (XC : String → State → State → Prop) (a : Array Value) (s : State) (mc ms : Nat) (free : Addr → Prop) : State → Prop := fun t =>
  ∃ o, t.status = .running ∧ Ended t below o ∧ vx_Q Qc XC mc ms free a s o t
theorem vx_ret {g : JFrame} {mc ms : Nat} (k : W p l e R s m args below meth c H locs cells slots (MQ below Qc args s mc ms free) g) : W p l e R s m args below meth c H locs cells slots (vx_MQ below Qc XC args s mc ms free) g := by
  intro T hT X
  obtain ⟨t, a1, o, b1, b2, b3, b4⟩ := k T hT X
  exact ⟨t, a1, o, b1, b2, Or.inl ⟨b3, b4⟩⟩
/-- not caught here: it goes on to the caller -/
theorem vx_widen {g : JFrame} {q : Addr} {k n : Nat} (h1 : cells ≤ k) (h2 : slots ≤ n) (kk : vx_W p l e R s m args below meth c H locs k n Q g q) : vx_W p l e R s m args below meth c H locs cells slots Q g q := fun T hT X => kk T hT (stand_widen X h1 h2)
theorem vx_out {pc : Nat} {E : String} {ce : Cell} {q : Addr} {mc ms : Nat} (hout : ∀ x ∈ c.exceptionTable.toList, covers x pc = false) (hlocks : meth.locks = false) (hcell : H[q]? = some ce) (hv : ce.vm = .none) (hcl : s.vm.findClass E = some ce.cls)
    (hx : ∀ t : State, t.heap = H → s.vm.Alike t.vm → XC E s t) (hf : ∀ z ∈ locs, free z.base) (hc : cells ≤ mc) (hs : slots ≤ ms) :
    vx_W p l e R s m args below meth c H locs cells slots (vx_MQ below Qc XC args s mc ms free) (F0 m pc ls rest) q := by
  intro T hT X
  obtain ⟨st1, hrun, hend, hW, hsm⟩ := X.leaveThrown q (g := F0 m pc ls rest) rfl rfl rfl hout hlocks
  have hcell9 : (T.setFrames (.throwing q :: below)).heap[q]? = some ce := by
    show T.heap[q]? = some ce
    rw [hT]; exact hcell
  exact ⟨_, st1, .threw q, hrun, hend, Or.inr ⟨q, rfl, E, ce, locs, hx _ hT hW.alike, hcell9, hv, hcl, hW, hsm.mono hc hs, hf⟩⟩
theorem vx_frame {U : State} {k n : Nat} (h : s.sameButNew ({ U with vm := s.vm } : State) locs k n) : s.heap.size ≤ U.heap.size ∧ ∀ q : Nat, q < s.heap.size → (∀ z ∈ locs, z.base ≠ q) → U.heap[q]? = s.heap[q]? := by
  obtain ⟨-, h2, -, -, -, h6⟩ := h
  refine ⟨h2, fun q hq hz => ?_⟩
  obtain ⟨c9, e1, e2, e3, e4⟩ := h6 q _ (Array.getElem?_eq_getElem hq)
  have hs : c9.slots = (s.heap[q]).slots := Array.ext_getElem? fun i => e4 i fun hm => hz _ hm rfl
  have h9 : c9 = s.heap[q] := by
    rw [hs] at e2
    exact e2
  have e5 : U.heap[q]? = some c9 := e1
  rw [e5, h9, Array.getElem?_eq_getElem hq]
/-- the words of a throw but the four that speak of the heap -/
def vx_no (w : Cond) : Bool := decide (w ≠ .isRef (.static Bundle.tN "UNASSIGNED_STACK" Bundle.steD)) && decide (w ≠ .isRef (.static Bundle.tN "SUPPRESSED_SENTINEL" Bundle.listD)) && decide (w ≠ .laysStatic Bundle.tN "UNASSIGNED_STACK" Bundle.steD) && decide (w ≠ .laysStatic Bundle.tN "SUPPRESSED_SENTINEL" Bundle.listD)
def vx_at0 (own : String) (ic : Nat) (X : String) (names : List String) : List Cond := (Bundle.ownAtoms0 own ic X names).filter vx_no
def vx_atS (own : String) (ic : Nat) (X : String) (names : List String) : List Cond := (Bundle.ownAtoms own ic X names).filter vx_no
/-- a word that the tables alone decide, or a good one -/
def vx_ot (w : Cond) : Bool := w.onTables || goodWord w
theorem vx_ot_at {args a' : Array Value} {s U : State} {w : Cond} (hW : s.WarmedH U.vm) (hvm : s.vm = U.vm) (hg : vx_ot w = true) (h : w.before args s = true) : w.before a' U = true := by
  simp only [vx_ot, Bool.or_eq_true] at hg
  rcases hg with hg | hg
  · exact va_tabs hg hvm h
  · exact word_at hW (good_of_word hg) h
/-- a list's words: the good ones out of the method's own list, the others by premises of their own -/
theorem vx_hat {args : Array Value} {s : State} {L B : List Cond} (h1 : ∀ w ∈ L.filter goodWord, w.before args s = true) (h2 : ∀ w ∈ L.filter (fun w => !goodWord w), w ∈ B) (h3 : ∀ w ∈ B, w.before args s = true) : ∀ w ∈ L, w.before args s = true := by
  intro w hw
  by_cases g : goodWord w = true
  · exact h1 w (List.mem_filter.mpr ⟨hw, g⟩)
  · refine h3 w (h2 w (List.mem_filter.mpr ⟨hw, ?_⟩))
    show (!goodWord w) = true
    cases hgw : goodWord w
    · rfl
    · exact absurd hgw g
theorem vx_c {args : Array Value} {s : State} {w : Cond} {B : List Cond} (h : w.before args s = true) (t : ∀ w ∈ B, w.before args s = true) : ∀ w' ∈ w :: B, w'.before args s = true := fun w' h' => (List.mem_cons.mp h').elim (fun e => by rw [e]; exact h) (t w')
theorem vx_n {args : Array Value} {s : State} : ∀ w ∈ ([] : List Cond), w.before args s = true := fun _ h => nomatch h
theorem vx_own {args : Array Value} {s : State} {L : List Cond} (h1 : ∀ w ∈ L.filter vx_no, w.before args s = true)
    (hU : (Cond.isRef (.static Bundle.tN "UNASSIGNED_STACK" Bundle.steD)).before args s = true) (hN : (Cond.isRef (.static Bundle.tN "SUPPRESSED_SENTINEL" Bundle.listD)).before args s = true)
    (lU : (Cond.laysStatic Bundle.tN "UNASSIGNED_STACK" Bundle.steD).before args s = true) (lN : (Cond.laysStatic Bundle.tN "SUPPRESSED_SENTINEL" Bundle.listD).before args s = true) : ∀ w ∈ L, w.before args s = true := by
  intro w hw
  by_cases e1 : w = .isRef (.static Bundle.tN "UNASSIGNED_STACK" Bundle.steD)
  · rw [e1]; exact hU
  · by_cases e2 : w = .isRef (.static Bundle.tN "SUPPRESSED_SENTINEL" Bundle.listD)
    · rw [e2]; exact hN
    · by_cases e3 : w = .laysStatic Bundle.tN "UNASSIGNED_STACK" Bundle.steD
      · rw [e3]; exact lU
      · by_cases e4 : w = .laysStatic Bundle.tN "SUPPRESSED_SENTINEL" Bundle.listD
        · rw [e4]; exact lN
        · exact h1 w (List.mem_filter.mpr ⟨hw, by unfold vx_no; rw [decide_eq_true e1, decide_eq_true e2, decide_eq_true e3, decide_eq_true e4]; rfl⟩)
/-- where a static field lies, its class's statics cell in H -/
def vx_L (C n d : String) (A : Nat → Prop) (U : State) (H : Heap) : Prop := ∃ (c : ClassId) (k : Class) (i : Nat) (f : Field) (a : Nat) (cell : Cell), U.vm.findClass C = some c ∧ U.fieldFound? C n d = some (c, k, i, f) ∧ f.isStatic = true ∧ k.statics = some a ∧ H[a]? = some cell ∧ cell.vm.isStatics = true ∧ cell.cls = c ∧ f.slot < cell.slots.size ∧ k.staticTypes[f.slot]? = some f.type ∧ ¬ A a
theorem vx_L.moved {C n d : String} {A : Nat → Prop} {u U : State} {H : Heap} (hvm : u.vm.Alike U.vm) (h : vx_L C n d A u H) : vx_L C n d A U H := by
  obtain ⟨c, k, i, f, a, cell, h1, h2, h3, h4, h5, h6, h7, h8, h9, h10⟩ := h
  obtain ⟨k', hi', he⟩ := State.fieldFound?_setVm hvm h2
  exact ⟨c, k', i, f, a, cell, by rw [hvm.findClass]; exact h1, hi', h3, by rw [he]; exact h4, h5, h6, h7, h8, by rw [he]; exact h9, h10⟩
theorem vx_L.kept {C n d : String} {A : Nat → Prop} {U : State} {H H1 : Heap} (h : vx_L C n d A U H) (hq : ∀ a : Nat, a < H.size → ¬ A a → H1[a]? = H[a]?) : vx_L C n d A U H1 := by
  obtain ⟨c, k, i, f, a, cell, h1, h2, h3, h4, h5, h6, h7, h8, h9, h10⟩ := h
  exact ⟨c, k, i, f, a, cell, h1, h2, h3, h4, by rw [hq a (Array.getElem?_eq_some_iff.mp h5).1 h10]; exact h5, h6, h7, h8, h9, h10⟩
theorem vx_L.narrow {C n d : String} {A B : Nat → Prop} {U : State} {H : Heap} (h : vx_L C n d A U H) (hAB : ∀ q, B q → A q) : vx_L C n d B U H := by
  obtain ⟨c, k, i, f, a, cell, h1, h2, h3, h4, h5, h6, h7, h8, h9, h10⟩ := h
  exact ⟨c, k, i, f, a, cell, h1, h2, h3, h4, h5, h6, h7, h8, h9, fun z => h10 (hAB _ z)⟩
theorem vx_L.word {C n d : String} {A : Nat → Prop} {s : State} {args : Array Value} (h : vx_L C n d A s s.heap) : (Cond.laysStatic C n d).before args s = true := by
  obtain ⟨c, k, i, f, a, cell, h1, h2, h3, h4, h5, h6, h7, h8, h9, -⟩ := h
  show (Cond.laysStatic C n d).holds args s none s [] = true
  exact Cond.laysStatic_of h1 h2 h3 h4 h5 h6 h7 h8 h9
/-- .. and what it holds: null or some reference -/
def vx_Zq (C n d : String) (A : Nat → Prop) (U : State) (H : Heap) : Prop := va_Zq C n d A U H ∧ vx_L C n d A U H
theorem vx_Zq.moved {C n d : String} {A : Nat → Prop} {u U : State} {H : Heap} (hvm : u.vm.Alike U.vm) (h : vx_Zq C n d A u H) : vx_Zq C n d A U H := ⟨va_Zq.moved hvm h.1, vx_L.moved hvm h.2⟩
theorem vx_Zq.kept {C n d : String} {A : Nat → Prop} {U : State} {H H1 : Heap} (h : vx_Zq C n d A U H) (hq : ∀ a : Nat, a < H.size → ¬ A a → H1[a]? = H[a]?) : vx_Zq C n d A U H1 := ⟨va_Zq.kept h.1 hq, vx_L.kept h.2 hq⟩
theorem vx_Zq.narrow {C n d : String} {A B : Nat → Prop} {U : State} {H : Heap} (h : vx_Zq C n d A U H) (hAB : ∀ q, B q → A q) : vx_Zq C n d B U H := ⟨va_Zq.narrow h.1 hAB, vx_L.narrow h.2 hAB⟩
theorem vx_Zqof {args : Array Value} {s : State} {C n d : String} {A : Nat → Prop} (hl : (Cond.laysStatic C n d).before args s = true) (hini : (Cond.initialized C).before args s = true) (h : (Cond.isRef (.static C n d)).before args s = true) (hA : ∀ a : Nat, a < s.heap.size → ¬ A a) : vx_Zq C n d A s s.heap := by
  refine ⟨va_Zqof hl hini h hA, ?_⟩
  obtain ⟨c, k, i, f, a, cell, h1, h2, h3, h4, h5, h6, h7, h8, h9⟩ := Cond.laysStatic_spec hl
  exact ⟨c, k, i, f, a, cell, h1, h2, h3, h4, h5, h6, h7, h8, h9, hA a (Array.getElem?_eq_some_iff.mp h5).1⟩
theorem vx_isRef {C n d : String} {v : Value} {A : Nat → Prop} {s : State} {args : Array Value} (h : va_Z C n d v A s s.heap) (hv : v.isRef = true) : (Cond.isRef (.static C n d)).before args s = true := by
  obtain ⟨cf, kf, fi, f, a, cell, h1, h2, h3, h4, h5, h6, h7, -⟩ := h
  have he : (Term.static C n d).eval args s none [] s = some v := by
    simp [Term.eval, State.fieldNamed?, h1, h2, h4, h5, h6, h7]
  simp only [Cond.before, Cond.holds, Cond.value, he]
  cases v <;> simp_all [Value.isRef]
theorem vx_isRefq {C n d : String} {A : Nat → Prop} {s : State} {args : Array Value} (h : va_Zq C n d A s s.heap) : (Cond.isRef (.static C n d)).before args s = true := by
  rcases h with h | ⟨t, h⟩
  · exact vx_isRef h rfl
  · exact vx_isRef h rfl
/-- the same frame, seen from here: as if the method were called anew in this heap -/
theorem vx_rebase {T : State} (X : Stand p l e R s m args below meth c T locs cells slots) {R' : Room} (hf : R'.frames ≤ R.frames) (hl : R'.locals ≤ R.locals) (hc : cells + R'.cells ≤ R.cells) (hs : slots + R'.slots ≤ R.slots) :
    Stand p l e R' ((T.setVm s.vm).setFrames (.invoking m args :: below)) m args below meth c T [] 0 0 := by
  have htop : (T.setVm s.vm).topJava?.isSome := X.here.top
  have hF : ((T.setVm s.vm).setFrames (.invoking m args :: below)).frames = .invoking m args :: below := State.frames_setFrames _ (State.cur_lt_of_top htop)
  obtain ⟨g₀, hg0⟩ := Option.isSome_iff_exists.mp htop
  obtain ⟨r, hr⟩ := State.topJava?_eq_some.mp hg0
  have hl9 : e.platform.stackLimits (T.setVm s.vm).me = e.platform.stackLimits s.me := X.limits
  have hb9 : (T.setVm s.vm).me.stackBytes = s.me.stackBytes := X.bytes
  refine ⟨X.admits, X.cas, X.clock, hF, ?_, X.hears, X.method, X.code, X.here, X.tail, X.warmed, ?_, ?_, ?_⟩
  · have h := X.room
    have hU : ((T.setVm s.vm).setFrames (.invoking m args :: below)).localsInUse = s.localsInUse := by
      rw [State.localsInUse_invoking hF (meth := meth) (c := c) X.method X.code, State.localsInUse_invoking X.frames X.method X.code]
    simp only [State.hasRoom, Bool.and_eq_true, decide_eq_true_eq] at h ⊢
    obtain ⟨⟨⟨⟨h1, h2, h3, h4, h5, h6⟩, h7⟩, h8⟩, h9⟩ := h
    rw [X.frames, List.length_cons] at h2 h3
    have q1 := X.heapSize
    have q2 := X.used
    simp only [hF, hU, List.length_cons, State.stackLimits_setFrames, State.stackBytes_setFrames, hl9, hb9]
    refine ⟨⟨⟨⟨by omega, by omega, by omega, by omega, by omega, h6⟩, ?_⟩, ?_⟩, X.book⟩
    · show T.heap.size + R'.cells ≤ e.platform.maxCells
      omega
    · show T.slotsUsed + R'.slots ≤ e.platform.maxSlots
      omega
  · rw [State.stackLimits_setFrames]; rfl
  · rw [State.stackBytes_setFrames]; rfl
  · refine ⟨?_, Nat.le_refl _, Nat.le_refl _, ?_, ?_, fun a c9 h9 => ⟨c9, h9, rfl, rfl, fun _ _ => rfl⟩⟩
    · obtain ⟨t, ht, -⟩ := State.frames_cons hr
      show T.setVm s.vm = { ((T.setVm s.vm).setFrames (.invoking m args :: below)).setFrames (T.setVm s.vm).frames with heap := T.heap, slotsUsed := T.slotsUsed }
      rw [State.setFrames_setFrames, State.setFrames_self ht]
      rfl
    · show T.slotsUsed = T.slotsUsed + ((T.heap.toList.drop T.heap.size).map (·.slots.size)).sum
      rw [List.drop_eq_nil_of_le (Nat.le_of_eq Array.length_toList)]
      rfl
    · show ((T.heap.toList.drop T.heap.size).map (·.slots.size)).sum ≤ 0
      rw [List.drop_eq_nil_of_le (Nat.le_of_eq Array.length_toList)]
      exact Nat.le_refl _
/-- 'throw new E()': new; dup; invokespecial; athrow -/
theorem vx_throw0 {cc : ByteArray} {pc : Nat} (hexec : p.tables.exec = Jvm.exec) (hb : c.code = cc) (hl : l.stackTraces = false) {own cls : String} {names : List String} {ik ic mc ms : Nat} {A : Nat → Prop}
    (hown : s.vm.findClass own = some m.cls) (hcls : Bundle.fit cls = true) (hnames : ∀ n ∈ names, Bundle.fit n = true)
    (hk : (Cond.classLink own ik cls).before args s = true) (hini : (Cond.initialized cls).before args s = true) (hat : ∀ w ∈ vx_at0 own ic cls names, w.before args s = true)
    (hgood : ∀ w ∈ Cond.classLink own ik cls :: Cond.initialized cls :: vx_at0 own ic cls names, vx_ot w = true)
    (hU : vx_Zq Bundle.tN "UNASSIGNED_STACK" Bundle.steD A s s.heap) (hN : vx_Zq Bundle.tN "SUPPRESSED_SENTINEL" Bundle.listD A s s.heap) (hS : va_S A s.heap H locs) (hsize : ls.size = c.maxLocals)
    (d0 : decode cc pc = .ok (.new ik, 3)) (d3 : decode cc (pc + 3) = .ok (.dup, 1)) (d4 : decode cc (pc + 4) = .ok (.invokespecial ic, 3)) (d7 : decode cc (pc + 7) = .ok (.athrow, 1))
    (hout : ∀ x ∈ c.exceptionTable.toList, covers x (pc + 7) = false)
    (hRframes : names.length + 3 < R.frames) (hRlocals : (rest.map fun v => v.category).sum + (13 * (names.length + 1) + 42) ≤ R.locals) (hRcells : cells + 1 ≤ R.cells) (hRslots : slots + 6 ≤ R.slots) (hlocks : meth.locks = false)
    (hx : ∀ t : State, s.vm.Alike t.vm → H.size ≤ t.heap.size → (∀ q : Nat, q < H.size → t.heap[q]? = H[q]?) → XC cls s t)
    (hf : ∀ z ∈ locs, free z.base) (hc : cells + 1 ≤ mc) (hs : slots + 6 ≤ ms) :
    W p l e R s m args below meth c H locs cells slots (vx_MQ below Qc XC args s mc ms free) (F0 m pc ls rest) := by
  intro T hT X
  have htr : e.platform.stackTraces = false := (show e.platform.stackTraces = l.stackTraces by rw [X.admits.platform]).trans hl
  have Y := vx_rebase X (R' := { frames := R.frames, locals := R.locals, cells := 1, slots := 6 }) (Nat.le_refl _) (Nat.le_refl _) hRcells hRslots
  obtain ⟨s', hA⟩ : ∃ z, z = (T.setVm s.vm).setFrames (.invoking m args :: below) := ⟨_, rfl⟩
  rw [← hA] at Y
  have hvm : s'.vm = s.vm := by rw [hA]; rfl
  have hhp : s'.heap = H := by rw [hA]; exact hT
  have hW0 : s.WarmedH s'.vm := by rw [hvm]; exact State.WarmedH.refl s
  have hat' : ∀ w ∈ vx_at0 own ic cls names, w.before args s' = true := fun w hw => vx_ot_at hW0 hvm.symm (hgood w (List.mem_cons_of_mem _ (List.mem_cons_of_mem _ hw))) (hat w hw)
  have hk' : (Cond.classLink own ik cls).before args s' = true := vx_ot_at hW0 hvm.symm (hgood _ List.mem_cons_self) hk
  have hini' : (Cond.initialized cls).before args s' = true := vx_ot_at hW0 hvm.symm (hgood _ (List.mem_cons_of_mem _ List.mem_cons_self)) hini
  have hU' : vx_Zq Bundle.tN "UNASSIGNED_STACK" Bundle.steD A s' s'.heap := by rw [hhp]; exact vx_Zq.moved hW0.alike (hU.kept hS.2.1)
  have hN' : vx_Zq Bundle.tN "SUPPRESSED_SENTINEL" Bundle.listD A s' s'.heap := by rw [hhp]; exact vx_Zq.moved hW0.alike (hN.kept hS.2.1)
  have h : ∀ w ∈ Bundle.ownAtoms0 own ic cls names, w.before args s' = true := vx_own hat' (vx_isRefq hU'.1) (vx_isRefq hN'.1) hU'.2.word hN'.2.word
  have hown' : s'.vm.findClass own = some m.cls := by rw [hvm]; exact hown
  have hins : (Cond.instantiable cls 6).before args s' = true := h _ (by simp [Bundle.ownAtoms0])
  obtain ⟨vm₁, cX, kX, hfX, hkX, -, -, X₁, st1⟩ := Y.newCold hexec (own := own) (C := cls) (index := ik) (n := 6) hown' hk' hins hini'
    (g := F0 m pc ls rest) rfl (by rw [hb]; exact d0) (Nat.le_refl _) (Nat.le_refl _)
  generalize hT1 : (T.setVm vm₁).pushCell { cls := cX, slots := kX.instanceTypes.map defaultValue, vm := .none } = T1 at X₁ st1
  have hcat : (Value.ref T.heap.size).category = 1 := rfl
  have hcellA : T1.heap[T.heap.size]? = some (freshCell cX kX) := by rw [← hT1]; exact State.heap_pushCell_size _ _
  have d3' : decode c.code (pc + 3) = .ok (.dup, 1) := by rw [hb]; exact d3
  obtain ⟨U, hsteps, hrun, hend, hW, hsame, ce, hce, hO⟩ := X₁.ctorThrow0 hexec htr (own := own) (cls := cls) (names := names) (ic := ic) hown' hcls hnames h (fun x hx => nomatch hx) hfX hkX hcellA (by rw [hhp, hT]; exact Nat.le_refl _)
    (g := { method := m, pc := pc + 4, locals := ls, stack := .ref T.heap.size :: .ref T.heap.size :: rest, locked := none }) rfl hsize rfl rfl (rest := rest) rfl
    (by rw [hb]; exact d4) (by rw [hb]; exact d7) hout hRframes (by simp only [List.map_cons, List.sum_cons, hcat]; omega) hlocks
  obtain ⟨f1, f2⟩ := vx_frame hsame
  rw [hhp] at f1 f2
  have hWs : s.WarmedH U.vm := State.WarmedH.trans hW0 hW
  have hcl : s.vm.findClass cls = some ce.cls := by
    have h9 := hO.cls
    rw [hvm] at h9
    exact h9
  have hall : s.sameButNew ({ U with vm := s.vm } : State) locs mc ms := by
    subst hA
    obtain ⟨e1, e2⟩ := hsame
    rw [State.setFrames_setFrames] at e1
    have h2 : (T.setVm s.vm).sameButNew ({ U with vm := s.vm } : State) [] (0 + 1) (0 + 6) := ⟨e1, e2⟩
    have h3 := X.same.trans h2
    rw [List.append_nil] at h3
    exact h3.mono hc hs
  refine ⟨U, ?_, .threw T.heap.size, hrun, hend, Or.inr ⟨T.heap.size, rfl, cls, ce, locs, hx U hWs.alike f1 (fun q hq => f2 q hq (fun z hz => nomatch hz)), hce, hO.vm, hcl, hWs, hall, hf⟩⟩
  refine st1 _ ?_
  show Steps p.tables e below (T1.setTop { method := m, pc := pc + 3, locals := ls, stack := .ref T.heap.size :: rest, locked := none }) _
  jvm_step X₁.here [X₁.here.top, hexec, d3', Value.category]
  exact hsteps
/-- 'throw new E("text")': new; dup; ldc; invokespecial; athrow -/
theorem vx_throwS {cc : ByteArray} {pc : Nat} (hexec : p.tables.exec = Jvm.exec) (hb : c.code = cc) (hl : l.stackTraces = false) {own cls text : String} {names : List String} {ik is ic mc ms sa : Nat} {A : Nat → Prop}
    (hown : s.vm.findClass own = some m.cls) (hcls : Bundle.fit cls = true) (hnames : ∀ n ∈ names, Bundle.fit n = true)
    (hk : (Cond.classLink own ik cls).before args s = true) (hini : (Cond.initialized cls).before args s = true) (hstr : vk_R own is text sa s) (hat : ∀ w ∈ vx_atS own ic cls names, w.before args s = true)
    (hgood : ∀ w ∈ Cond.classLink own ik cls :: Cond.initialized cls :: vx_atS own ic cls names, vx_ot w = true)
    (hU : vx_Zq Bundle.tN "UNASSIGNED_STACK" Bundle.steD A s s.heap) (hN : vx_Zq Bundle.tN "SUPPRESSED_SENTINEL" Bundle.listD A s s.heap) (hS : va_S A s.heap H locs) (hsize : ls.size = c.maxLocals)
    (d0 : decode cc pc = .ok (.new ik, 3)) (d3 : decode cc (pc + 3) = .ok (.dup, 1)) (d4 : decode cc (pc + 4) = .ok (.ldc is, 2)) (d6 : decode cc (pc + 6) = .ok (.invokespecial ic, 3)) (d9 : decode cc (pc + 9) = .ok (.athrow, 1))
    (hout : ∀ x ∈ c.exceptionTable.toList, covers x (pc + 9) = false)
    (hRframes : names.length + 3 < R.frames) (hRlocals : (rest.map fun v => v.category).sum + (13 * (names.length + 1) + 43) ≤ R.locals) (hRcells : cells + 1 ≤ R.cells) (hRslots : slots + 6 ≤ R.slots) (hlocks : meth.locks = false)
    (hx : ∀ t : State, s.vm.Alike t.vm → H.size ≤ t.heap.size → (∀ q : Nat, q < H.size → t.heap[q]? = H[q]?) → XC cls s t)
    (hf : ∀ z ∈ locs, free z.base) (hc : cells + 1 ≤ mc) (hs : slots + 6 ≤ ms) :
    W p l e R s m args below meth c H locs cells slots (vx_MQ below Qc XC args s mc ms free) (F0 m pc ls rest) := by
  intro T hT X
  have htr : e.platform.stackTraces = false := (show e.platform.stackTraces = l.stackTraces by rw [X.admits.platform]).trans hl
  have Y := vx_rebase X (R' := { frames := R.frames, locals := R.locals, cells := 1, slots := 6 }) (Nat.le_refl _) (Nat.le_refl _) hRcells hRslots
  obtain ⟨s', hA⟩ : ∃ z, z = (T.setVm s.vm).setFrames (.invoking m args :: below) := ⟨_, rfl⟩
  rw [← hA] at Y
  have hvm : s'.vm = s.vm := by rw [hA]; rfl
  have hhp : s'.heap = H := by rw [hA]; exact hT
  have hW0 : s.WarmedH s'.vm := by rw [hvm]; exact State.WarmedH.refl s
  have hat' : ∀ w ∈ vx_atS own ic cls names, w.before args s' = true := fun w hw => vx_ot_at hW0 hvm.symm (hgood w (List.mem_cons_of_mem _ (List.mem_cons_of_mem _ hw))) (hat w hw)
  have hk' : (Cond.classLink own ik cls).before args s' = true := vx_ot_at hW0 hvm.symm (hgood _ List.mem_cons_self) hk
  have hini' : (Cond.initialized cls).before args s' = true := vx_ot_at hW0 hvm.symm (hgood _ (List.mem_cons_of_mem _ List.mem_cons_self)) hini
  have hU' : vx_Zq Bundle.tN "UNASSIGNED_STACK" Bundle.steD A s' s'.heap := by rw [hhp]; exact vx_Zq.moved hW0.alike (hU.kept hS.2.1)
  have hN' : vx_Zq Bundle.tN "SUPPRESSED_SENTINEL" Bundle.listD A s' s'.heap := by rw [hhp]; exact vx_Zq.moved hW0.alike (hN.kept hS.2.1)
  have h : ∀ w ∈ Bundle.ownAtoms own ic cls names, w.before args s' = true := vx_own hat' (vx_isRefq hU'.1) (vx_isRefq hN'.1) hU'.2.word hN'.2.word
  have hown' : s'.vm.findClass own = some m.cls := by rw [hvm]; exact hown
  have hins : (Cond.instantiable cls 6).before args s' = true := h _ (by simp [Bundle.ownAtoms])
  obtain ⟨vm₁, cX, kX, hfX, hkX, -, -, X₁, st1⟩ := Y.newCold hexec (own := own) (C := cls) (index := ik) (n := 6) hown' hk' hins hini'
    (g := F0 m pc ls rest) rfl (by rw [hb]; exact d0) (Nat.le_refl _) (Nat.le_refl _)
  generalize hT1 : (T.setVm vm₁).pushCell { cls := cX, slots := kX.instanceTypes.map defaultValue, vm := .none } = T1 at X₁ st1
  have hcat : (Value.ref T.heap.size).category = 1 := rfl
  have hcellA : T1.heap[T.heap.size]? = some (freshCell cX kX) := by rw [← hT1]; exact State.heap_pushCell_size _ _
  have d3' : decode c.code (pc + 3) = .ok (.dup, 1) := by rw [hb]; exact d3
  have d4' : decode c.code (pc + 4) = .ok (.ldc is, 2) := by rw [hb]; exact d4
  have hstr' : vk_R own is text sa s' := vk_R.warm hW0 hstr
  obtain ⟨U, hsteps, hrun, hend, hW, hsame, ce, hce, hO⟩ := X₁.ctorThrowS hexec htr (own := own) (cls := cls) (names := names) (ic := ic) hown' hcls hnames h (fun x hx => nomatch hx) hfX hkX hcellA (by rw [hhp, hT]; exact Nat.le_refl _) (msg := .ref sa) rfl
    (g := { method := m, pc := pc + 6, locals := ls, stack := .ref sa :: .ref T.heap.size :: .ref T.heap.size :: rest, locked := none }) rfl hsize rfl rfl (rest := rest) rfl
    (by rw [hb]; exact d6) (by rw [hb]; exact d9) hout hRframes (by simp only [List.map_cons, List.sum_cons, hcat]; omega) hlocks
  obtain ⟨f1, f2⟩ := vx_frame hsame
  rw [hhp] at f1 f2
  have hWs : s.WarmedH U.vm := State.WarmedH.trans hW0 hW
  have hcl : s.vm.findClass cls = some ce.cls := by
    have h9 := hO.cls
    rw [hvm] at h9
    exact h9
  have hall : s.sameButNew ({ U with vm := s.vm } : State) locs mc ms := by
    subst hA
    obtain ⟨e1, e2⟩ := hsame
    rw [State.setFrames_setFrames] at e1
    have h2 : (T.setVm s.vm).sameButNew ({ U with vm := s.vm } : State) [] (0 + 1) (0 + 6) := ⟨e1, e2⟩
    have h3 := X.same.trans h2
    rw [List.append_nil] at h3
    exact h3.mono hc hs
  refine ⟨U, ?_, .threw T.heap.size, hrun, hend, Or.inr ⟨T.heap.size, rfl, cls, ce, locs, hx U hWs.alike f1 (fun q hq => f2 q hq (fun z hz => nomatch hz)), hce, hO.vm, hcl, hWs, hall, hf⟩⟩
  refine st1 _ ?_
  show Steps p.tables e below (T1.setTop { method := m, pc := pc + 3, locals := ls, stack := .ref T.heap.size :: rest, locked := none }) _
  jvm_step X₁.here [X₁.here.top, hexec, d3', Value.category]
  exact X₁.ldcString hexec (own := own) (text := text) (index := is) (a := sa) hown' hstr'.1 hstr'.2
    (g := { method := m, pc := pc + 4, locals := ls, stack := .ref T.heap.size :: .ref T.heap.size :: rest, locked := none }) rfl d4' _ hsteps
/-- 'throw new E("text")', the text by a wide index -/
theorem vx_throwSW {cc : ByteArray} {pc : Nat} (hexec : p.tables.exec = Jvm.exec) (hb : c.code = cc) (hl : l.stackTraces = false) {own cls text : String} {names : List String} {ik is ic mc ms sa : Nat} {A : Nat → Prop}
    (hown : s.vm.findClass own = some m.cls) (hcls : Bundle.fit cls = true) (hnames : ∀ n ∈ names, Bundle.fit n = true)
    (hk : (Cond.classLink own ik cls).before args s = true) (hini : (Cond.initialized cls).before args s = true) (hstr : vk_R own is text sa s) (hat : ∀ w ∈ vx_atS own ic cls names, w.before args s = true)
    (hgood : ∀ w ∈ Cond.classLink own ik cls :: Cond.initialized cls :: vx_atS own ic cls names, vx_ot w = true)
    (hU : vx_Zq Bundle.tN "UNASSIGNED_STACK" Bundle.steD A s s.heap) (hN : vx_Zq Bundle.tN "SUPPRESSED_SENTINEL" Bundle.listD A s s.heap) (hS : va_S A s.heap H locs) (hsize : ls.size = c.maxLocals)
    (d0 : decode cc pc = .ok (.new ik, 3)) (d3 : decode cc (pc + 3) = .ok (.dup, 1)) (d4 : decode cc (pc + 4) = .ok (.ldc_w is, 3)) (d7 : decode cc (pc + 7) = .ok (.invokespecial ic, 3)) (d10 : decode cc (pc + 10) = .ok (.athrow, 1))
    (hout : ∀ x ∈ c.exceptionTable.toList, covers x (pc + 10) = false)
    (hRframes : names.length + 3 < R.frames) (hRlocals : (rest.map fun v => v.category).sum + (13 * (names.length + 1) + 43) ≤ R.locals) (hRcells : cells + 1 ≤ R.cells) (hRslots : slots + 6 ≤ R.slots) (hlocks : meth.locks = false)
    (hx : ∀ t : State, s.vm.Alike t.vm → H.size ≤ t.heap.size → (∀ q : Nat, q < H.size → t.heap[q]? = H[q]?) → XC cls s t)
    (hf : ∀ z ∈ locs, free z.base) (hc : cells + 1 ≤ mc) (hs : slots + 6 ≤ ms) :
    W p l e R s m args below meth c H locs cells slots (vx_MQ below Qc XC args s mc ms free) (F0 m pc ls rest) := by
  intro T hT X
  have htr : e.platform.stackTraces = false := (show e.platform.stackTraces = l.stackTraces by rw [X.admits.platform]).trans hl
  have Y := vx_rebase X (R' := { frames := R.frames, locals := R.locals, cells := 1, slots := 6 }) (Nat.le_refl _) (Nat.le_refl _) hRcells hRslots
  obtain ⟨s', hA⟩ : ∃ z, z = (T.setVm s.vm).setFrames (.invoking m args :: below) := ⟨_, rfl⟩
  rw [← hA] at Y
  have hvm : s'.vm = s.vm := by rw [hA]; rfl
  have hhp : s'.heap = H := by rw [hA]; exact hT
  have hW0 : s.WarmedH s'.vm := by rw [hvm]; exact State.WarmedH.refl s
  have hat' : ∀ w ∈ vx_atS own ic cls names, w.before args s' = true := fun w hw => vx_ot_at hW0 hvm.symm (hgood w (List.mem_cons_of_mem _ (List.mem_cons_of_mem _ hw))) (hat w hw)
  have hk' : (Cond.classLink own ik cls).before args s' = true := vx_ot_at hW0 hvm.symm (hgood _ List.mem_cons_self) hk
  have hini' : (Cond.initialized cls).before args s' = true := vx_ot_at hW0 hvm.symm (hgood _ (List.mem_cons_of_mem _ List.mem_cons_self)) hini
  have hU' : vx_Zq Bundle.tN "UNASSIGNED_STACK" Bundle.steD A s' s'.heap := by rw [hhp]; exact vx_Zq.moved hW0.alike (hU.kept hS.2.1)
  have hN' : vx_Zq Bundle.tN "SUPPRESSED_SENTINEL" Bundle.listD A s' s'.heap := by rw [hhp]; exact vx_Zq.moved hW0.alike (hN.kept hS.2.1)
  have h : ∀ w ∈ Bundle.ownAtoms own ic cls names, w.before args s' = true := vx_own hat' (vx_isRefq hU'.1) (vx_isRefq hN'.1) hU'.2.word hN'.2.word
  have hown' : s'.vm.findClass own = some m.cls := by rw [hvm]; exact hown
  have hins : (Cond.instantiable cls 6).before args s' = true := h _ (by simp [Bundle.ownAtoms])
  obtain ⟨vm₁, cX, kX, hfX, hkX, -, -, X₁, st1⟩ := Y.newCold hexec (own := own) (C := cls) (index := ik) (n := 6) hown' hk' hins hini'
    (g := F0 m pc ls rest) rfl (by rw [hb]; exact d0) (Nat.le_refl _) (Nat.le_refl _)
  generalize hT1 : (T.setVm vm₁).pushCell { cls := cX, slots := kX.instanceTypes.map defaultValue, vm := .none } = T1 at X₁ st1
  have hcat : (Value.ref T.heap.size).category = 1 := rfl
  have hcellA : T1.heap[T.heap.size]? = some (freshCell cX kX) := by rw [← hT1]; exact State.heap_pushCell_size _ _
  have d3' : decode c.code (pc + 3) = .ok (.dup, 1) := by rw [hb]; exact d3
  have d4' : decode c.code (pc + 4) = .ok (.ldc_w is, 3) := by rw [hb]; exact d4
  have hstr' : vk_R own is text sa s' := vk_R.warm hW0 hstr
  obtain ⟨U, hsteps, hrun, hend, hW, hsame, ce, hce, hO⟩ := X₁.ctorThrowS hexec htr (own := own) (cls := cls) (names := names) (ic := ic) hown' hcls hnames h (fun x hx => nomatch hx) hfX hkX hcellA (by rw [hhp, hT]; exact Nat.le_refl _) (msg := .ref sa) rfl
    (g := { method := m, pc := pc + 7, locals := ls, stack := .ref sa :: .ref T.heap.size :: .ref T.heap.size :: rest, locked := none }) rfl hsize rfl rfl (rest := rest) rfl
    (by rw [hb]; exact d7) (by rw [hb]; exact d10) hout hRframes (by simp only [List.map_cons, List.sum_cons, hcat]; omega) hlocks
  obtain ⟨f1, f2⟩ := vx_frame hsame
  rw [hhp] at f1 f2
  have hWs : s.WarmedH U.vm := State.WarmedH.trans hW0 hW
  have hcl : s.vm.findClass cls = some ce.cls := by
    have h9 := hO.cls
    rw [hvm] at h9
    exact h9
  have hall : s.sameButNew ({ U with vm := s.vm } : State) locs mc ms := by
    subst hA
    obtain ⟨e1, e2⟩ := hsame
    rw [State.setFrames_setFrames] at e1
    have h2 : (T.setVm s.vm).sameButNew ({ U with vm := s.vm } : State) [] (0 + 1) (0 + 6) := ⟨e1, e2⟩
    have h3 := X.same.trans h2
    rw [List.append_nil] at h3
    exact h3.mono hc hs
  refine ⟨U, ?_, .threw T.heap.size, hrun, hend, Or.inr ⟨T.heap.size, rfl, cls, ce, locs, hx U hWs.alike f1 (fun q hq => f2 q hq (fun z hz => nomatch hz)), hce, hO.vm, hcl, hWs, hall, hf⟩⟩
  refine st1 _ ?_
  show Steps p.tables e below (T1.setTop { method := m, pc := pc + 3, locals := ls, stack := .ref T.heap.size :: rest, locked := none }) _
  jvm_step X₁.here [X₁.here.top, hexec, d3', Value.category]
  exact X₁.ldcStringW hexec (own := own) (text := text) (index := is) (a := sa) hown' hstr'.1 hstr'.2
    (g := { method := m, pc := pc + 4, locals := ls, stack := .ref T.heap.size :: .ref T.heap.size :: rest, locked := none }) rfl d4' _ hsteps
end Ends
section Bodies
variable {l : Launch}
theorem vx_ofW {y : MethodName} {ws ws' : List Cond} {rm : Room} {Pc : Array Value → State → Prop} {Qc : Array Value → State → Outcome → State → Prop} {XC : String → State → State → Prop} {mc ms : Nat} {free : Addr → Prop} {cc : ByteArray} {maxL : Nat} {ret : Option FieldType}
    (hy : plainName y.cls = true) (hw : ws = Cond.code y cc maxL ret :: ws')
    (body : ∀ p e s m args below meth c s₁, BodyLoose p l y (headSpec ws rm) cc maxL ret e s m args below meth c s₁ → c.maxLocals = maxL → (∀ x ∈ c.exceptionTable.toList, False) → Pc args s →
      W p l e (headSpec ws rm).room s m args below meth c s.heap [] 0 0 (vx_MQ below Qc XC args s mc ms free) (entryFrame m args maxL)) : vx_Met l y ws rm Pc Qc XC mc ms free := by
  refine MetFree.of_bodyS (code := cc) (maxLocals := maxL) (ret := ret) hy ?_ ?_
  · intro args s m h hn
    obtain ⟨meth, c, h1, h2, h3, h4, h5, h6, -, -⟩ := Cond.code_spec hn (atoms_spec (ws := ws) h _ (by rw [hw]; exact List.mem_cons_self))
    exact ⟨meth, c, h1, h2, h3, h4, h5, h6⟩
  · intro p e s m args below meth c s₁ B hml hP _
    have hh0 : s₁.heap = s.heap := by rw [B.state]; rfl
    have ht : ∀ x ∈ c.exceptionTable.toList, False := by
      obtain ⟨meth9, c9, h1, h2, -, -, -, -, h7, -⟩ := Cond.code_spec B.named (atoms_spec (ws := ws) B.pre _ (by rw [hw]; exact List.mem_cons_self))
      cases Option.some.inj (h1.symm.trans B.method)
      cases Option.some.inj (h2.symm.trans (Stand.of_body B).code)
      intro x hx
      rw [Array.isEmpty_iff.mp h7] at hx
      cases hx
    obtain ⟨t, a1, o, b1, b2, b3⟩ := body p e s m args below meth c s₁ B hml ht hP s₁ hh0 (Stand.of_body B)
    exact ⟨t, o, a1, b1, b2, b3⟩
/-- the table of a body with handlers -/
theorem vx_table {p : Program} {x y : MethodName} {S : Spec} {cc bytes : ByteArray} {maxL maxL' : Nat} {ret ret' : Option FieldType} {e : Env} {s s₁ : State} {m : MethodId} {args : Array Value} {below : List Frame} {meth : Method} {c : Code} {hh : List (Nat × Nat × Nat × Nat)}
    (B : BodyLoose p l y S cc maxL ret e s m args below meth c s₁) (h : (Cond.codeWith y bytes maxL' ret' hh).before args s = true) : c.exceptionTable.toList = tableOf hh := by
  obtain ⟨m9, meth9, c9, hn9, h1, h2, -, -, h6, -⟩ := Cond.codeWith_spec h
  cases Option.some.inj (hn9.symm.trans B.named)
  cases Option.some.inj (h1.symm.trans B.method)
  cases Option.some.inj (h2.symm.trans (Stand.of_body B).code)
  rw [← h6, table_eq]
end Bodies
end VXA
/-! ===== END ===== -/
/-! ===== BEGIN a static call of a method with an exception table ===== -/
section VXS
variable {p : Program} {l : Launch} {e : Env} {R : Room} {s : State} {m : MethodId} {args : Array Value} {below : List Frame} {meth : Method} {c : Code} {T : State} {H : Heap} {locs : List Loc} {cells slots : Nat}
abbrev vx_CSW (R : Room) (s : State) (args : Array Value) (own : String) (index : Nat) (y : MethodName) (bytes : ByteArray) (maxL : Nat) (ret : Option FieldType) (hh : List (Nat × Nat × Nat × Nat)) (ws : List Cond) (rm : Room) (mc ms n : Nat) : Prop :=
  (rm.cells = mc ∧ rm.slots = ms ∧ rm.frames + 1 ≤ R.frames ∧ 8 + (maxL + 11) + rm.locals ≤ R.locals ∧ (∀ w ∈ ws, ∀ (a' : Array Value) (U : State), s.WarmedH U.vm → w.before a' U = true) ∧ Cond.codeWith y bytes maxL ret hh ∈ ws) ∧
  (Cond.codeWith y bytes maxL ret hh).before args s = true ∧ (Cond.initialized y.cls).before args s = true ∧ (y.cls ≠ "java/lang/invoke/MethodHandle" ∧ y.cls ≠ "java/lang/invoke/VarHandle") ∧
  (∀ sig, parseMethodDescriptor y.desc = some sig → n = sig.parameters.length) ∧ (Cond.methodLink own index y).before args s = true ∧ (Cond.static y).before args s = true
theorem vx_cwSW {own : String} {index maxL mc ms : Nat} {y : MethodName} {bytes : ByteArray} {ret : Option FieldType} {hh : List (Nat × Nat × Nat × Nat)} {Ts ws ws' : List Cond} {rm : Room} (n : Nat) (ht : ∀ w ∈ Ts, w.before args s = true) (hT : GoodIn Ts (va_wsS own index y ws)) (hw : ws = Cond.codeWith y bytes maxL ret hh :: ws') (hrc : rm.cells = mc) (hrs : rm.slots = ms)
    (hd : y.cls ≠ "java/lang/invoke/MethodHandle" ∧ y.cls ≠ "java/lang/invoke/VarHandle" ∧ (parseMethodDescriptor y.desc).map (fun d => d.parameters.length) = some n) (hR : rm.frames + 1 ≤ R.frames ∧ 8 + (maxL + 11) + rm.locals ≤ R.locals) :
    vx_CSW R s args own index y bytes maxL ret hh ws rm mc ms n := by
  have ok : ∀ w ∈ va_wsS own index y ws, w.before args s = true := fun w h => ht w (hT w h).1
  have hG : GoodIn Ts ws := fun w h => hT w (by unfold va_wsS; exact List.mem_append_right _ h)
  have hc : Cond.codeWith y bytes maxL ret hh ∈ ws := by rw [hw]; exact List.mem_cons_self
  refine ⟨⟨hrc, hrs, hR.1, hR.2, pay_in ht hG, hc⟩, ht _ (hG _ hc).1, ok _ (by simp [va_wsS]), ⟨hd.1, hd.2.1⟩, fun sig h => ?_, ok _ (by simp [va_wsS]), ok _ (by simp [va_wsS])⟩
  have h2 := hd.2.2
  rw [h] at h2
  exact (Option.some.inj h2).symm
theorem vx_callSW (X : Stand p l e R s m args below meth c T locs cells slots) (hexec : p.tables.exec = Jvm.exec) {own : String} {index : Nat} {y : MethodName} {bytes : ByteArray} {maxL : Nat} {ret : Option FieldType} {hh : List (Nat × Nat × Nat × Nat)}
    (hown : s.vm.findClass own = some m.cls) (hlink : (Cond.methodLink own index y).before args s = true) (hstat : (Cond.static y).before args s = true) (hinit : (Cond.initialized y.cls).before args s = true)
    (hcode : (Cond.codeWith y bytes maxL ret hh).before args s = true) (hy : y.cls ≠ "java/lang/invoke/MethodHandle" ∧ y.cls ≠ "java/lang/invoke/VarHandle")
    {W9 : Nat} {Pre : Pt → Array Value → Prop} {Post : Pt → Array Value → Option Value → Pt → Prop} (hK : Back l R p e below s args y 3 W9 Pre Post)
    {g : JFrame} (hg : g.method = m) (hsize : g.locals.size = c.maxLocals) {argsL rest : List Value} (hlen : ∀ sig, parseMethodDescriptor y.desc = some sig → argsL.length = sig.parameters.length)
    (hstack : g.stack = argsL.reverse ++ rest) (hW : 2 * g.monitorRoom + (rest.map fun v => v.category).sum ≤ W9) (hdg : decode c.code g.pc = .ok (.invokestatic index, 3))
    (hpre : ∀ vm₁, s.WarmedH vm₁ → Pre ⟨T.setVm vm₁, locs, cells, slots⟩ argsL.toArray) :
    ∃ (v : Option Value) (vm₁ : Vm) (B : Pt), s.WarmedH vm₁ ∧ Stand p l e R s m args below meth c B.U B.locs B.cells B.slots ∧ Post ⟨T.setVm vm₁, locs, cells, slots⟩ argsL.toArray v B ∧
      ∀ target, Steps p.tables e below (B.U.setTop { g with pc := g.pc + 3, stack := v.toList ++ rest }) target → Steps p.tables e below (T.setTop g) target := by
  obtain ⟨mk, methM, cM, hnamed, hmethM, -, -, -, -, -, -, hsigM⟩ := Cond.codeWith_spec hcode
  have hstatic : methM.isStatic = true := Cond.static_spec hnamed hmethM hstat
  obtain ⟨kP, hkP, -⟩ := className_of_methodNamed hnamed
  have hinitP : kP.init = .initialized := Cond.initialized_spec (findClass_of_methodNamed hnamed) hkP hinit
  obtain ⟨vm₁, X₁, hstep₁⟩ := X.invokestatic hexec hown hlink hnamed hmethM hstatic hkP hinitP hy (g := g) hg (argsL := argsL) (rest := rest) (hlen _ hsigM) hstack hdg
  obtain ⟨v, B, X', hpost, hsteps⟩ := hK m meth c ⟨T.setVm vm₁, locs, cells, slots⟩ { g with stack := rest } (.invokestatic index) mk argsL.toArray X₁ hg hsize hdg hW (X₁.named hnamed) (hpre vm₁ X₁.warmed)
  exact ⟨v, vm₁, B, X₁.warmed, X', hpost, fun target h => hstep₁ _ fun acts => by rw [doInvoke_state]; exact hsteps.trans h⟩
theorem vx_runSW {y : MethodName} {bytes cc : ByteArray} {maxL nL mc ms n index : Nat} {ret : Option FieldType} {hh : List (Nat × Nat × Nat × Nat)} {ws : List Cond} {rm : Room} {Pc : Array Value → State → Prop} {Qc : Array Value → State → Outcome → State → Prop} {free : Addr → Prop} {Ts : List Cond} {own : String} {As rest : List Value} {g : JFrame}
    (S : CallFix p m c cc nL s args Ts own) (hM : Met l y ws rm Pc Qc mc ms free) (cw : vx_CSW R s args own index y bytes maxL ret hh ws rm mc ms n) (hp : PreS s H Pc As)
    (hg : g.method = m) (hn : As.length = n) (hsize : g.locals.size = nL) (hstack : g.stack = As.reverse ++ rest) (hW : 2 * g.monitorRoom + (rest.map fun v => v.category).sum ≤ 8) (hdg : decode cc g.pc = .ok (.invokestatic index, 3)) (hf : cells + mc ≤ R.cells ∧ slots + ms ≤ R.slots) :
    va_Run p l e R s m args below meth c H locs cells slots mc ms g rest (Qc As.toArray) (free) := by
  obtain ⟨⟨hrc, hrs, hfr, hlo, hws, hcw⟩, hcode, hini, hy, hlen, hl, hstt⟩ := cw
  have hK : Back l R p e below s args y 3 8 (PreOf R mc ms Pc) (PostOf Qc mc ms free) := va_backW (hh := hh) (bytes := bytes) (maxL := maxL) (ret := ret) hM hp.1 hrc hrs hfr hlo hws hcw (fun a' U hW => word_at hW (Or.inl (by first | rfl | simp [Cond.onTables, Cond.keeps, Cond.steady])) hini)
  obtain ⟨hx, hb, hml, ho, -⟩ := S
  intro T hT X
  obtain ⟨v, vm₁, ⟨U', l2, c2, s2⟩, hW₁, X', ⟨g', mk, t, L, e1, e2, hq, h1, hL, h2, h3⟩, st⟩ := vx_callSW X hx (hh := hh) (bytes := bytes) (maxL := maxL) (ret := ret) ho hl hstt hini hcode hy hK hg (hsize.trans hml.symm) (argsL := As) (rest := rest) (fun sig h => hn.trans (hlen sig h)) hstack hW (by rw [hb]; exact hdg)
    (fun vm₁ hW₁ => ⟨hf.1, hf.2, hp.2 (T.setVm vm₁) hT hW₁⟩)
  dsimp only [Pt.U, Pt.locs, Pt.cells, Pt.slots] at X' e1 e2 h1 h2 h3 st
  subst h1; subst h2; subst h3
  exact ⟨v, (T.setVm vm₁).calling g' mk As.toArray, t, U', L, hT, X', hL, e1, e2, hq, st⟩
/-- not caught here, past rows that name other classes: it goes on to the caller -/
theorem vx_outP {p : Program} {l : Launch} {e : Env} {R : Room} {s : State} {m : MethodId} {args : Array Value} {below : List Frame} {meth : Method} {c : Code} {H : Heap} {locs : List Loc} {cells slots : Nat} {free : Addr → Prop} {ls : Array Slot} {rest : List Value} {Qc : Array Value → State → Outcome → State → Prop} {XC : String → State → State → Prop}
    {pc : Nat} {own E : String} {ce : Cell} {q : Addr} {mc ms : Nat} (hown : s.vm.findClass own = some m.cls) (hlocks : meth.locks = false)
    (hpass : ∀ z ∈ c.exceptionTable.toList, covers z pc = false ∨ (z.catchType ≠ 0 ∧ ∃ nm : String, (Cond.classLink own z.catchType nm).before args s = true ∧ va_Nc E nm s)) (hcell : H[q]? = some ce) (hv : ce.vm = .none) (hcl : s.vm.findClass E = some ce.cls)
    (hx : ∀ t : State, t.heap = H → s.vm.Alike t.vm → XC E s t) (hf : ∀ z ∈ locs, free z.base) (hc : cells ≤ mc) (hs : slots ≤ ms) :
    vx_W p l e R s m args below meth c H locs cells slots (vx_MQ below Qc XC args s mc ms free) (F0 m pc ls rest) q := by
  intro T hT X
  have hpl : e.platform.magicAccessors = ({} : Platform).magicAccessors := by rw [X.admits.platform]
  obtain ⟨vm', hW', X', st⟩ := X.outThrough hlocks q (g := F0 m pc ls rest) rfl rfl rfl (cell := ce) (by rw [hT]; exact hcell) (by rw [hv]; rfl)
    (by obtain ⟨k9, h9, -⟩ := Vm.findClass_spec hcl; exact ⟨k9, h9⟩) (fun z hz => by
      rcases hpass z hz with h | ⟨hz0, nm, hl1, hn1⟩
      · exact Or.inl h
      · obtain ⟨c6, hc6, hcl6⟩ := Cond.classLink_spec hown hl1 e.platform hpl
        obtain ⟨a8, b8, h1, h2, h3⟩ := hn1
        cases Option.some.inj (h1.symm.trans hcl)
        cases Option.some.inj (h2.symm.trans hc6)
        exact Or.inr ⟨hz0, _, hcl6, h3⟩)
  obtain ⟨g₀, hfr⟩ := X'.frames_eq
  have hcell9 : ((T.setVm vm').setFrames (.throwing q :: below)).heap[q]? = some ce := by
    show T.heap[q]? = some ce
    rw [hT]; exact hcell
  have hend : Ended ((T.setVm vm').setFrames (.throwing q :: below)) below (.threw q) := State.frames_setFrames _ (State.cur_lt_of_frames hfr)
  refine ⟨(T.setVm vm').setFrames (.throwing q :: below), ?_, .threw q, X'.here.running, hend, Or.inr ⟨q, rfl, E, ce, locs, hx _ hT (X'.ends _).1.alike, hcell9, hv, hcl, (X'.ends _).1, (X'.ends _).2.mono hc hs, hf⟩⟩
  rw [X.pushThrowing_eq]
  exact st
/-- a thing of a world lies in the heap -/
theorem vx_lt {D : va_G} {cl : List vw_C} {ws : va_W} {H1 : Heap} (h : va_P D cl ws H1) {k : Nat} {q : Nat × va_E} (hk : ws[k]? = some q) : q.1 < H1.size := (h k q hk).lt
end VXS
/-! ===== END ===== -/
/-! ===== BEGIN methods with a table of their own: called by a name, returning or throwing ===== -/
section VXH
/-! vx_backW, vx_callVX, vx_callSX, vx_callVW, vx_runVW, vx_runVX, vx_runSX, vx_ofWH follow the same proofs as their sisters above (Free/Laws.lean, Shelf42/LK1.lean); vx_outP calls Shelf42/NT130.lean (outThrough). -/
section
variable {l : Launch} {R : Room} {p : Program} {e : Env} {below : List Frame} {s : State} {sargs : Array Value} {y : MethodName} {len W9 : Nat}
theorem vx_backW {ws : List Cond} {rm : Room} {Pc : Array Value → State → Prop} {Qc : Array Value → State → Outcome → State → Prop} {XC : String → State → State → Prop} {mc ms : Nat} {free : Addr → Prop} {bytes : ByteArray} {maxL : Nat} {ret : Option FieldType} {hh : List (Nat × Nat × Nat × Nat)}
    (hM : vx_Met l y ws rm Pc Qc XC mc ms free) (hblind : FrameBlind Pc) (hrc : rm.cells = mc) (hrs : rm.slots = ms)
    (hframes : rm.frames + 1 ≤ R.frames) (hlocals : W9 + (maxL + 11) + rm.locals ≤ R.locals)
    (hws : ∀ w ∈ ws, ∀ a' U, s.WarmedH U.vm → w.before a' U = true) (hcode : Cond.codeWith y bytes maxL ret hh ∈ ws) (hinit : ∀ a' U, s.WarmedH U.vm → (Cond.initialized y.cls).before a' U = true) :
    vx_Back l R p e below s sargs y len W9 (PreOf R mc ms Pc) (PostOf Qc mc ms free) (vx_Post XC mc ms free) := by
  intro m meth c A g ig mk a X hg hsize hdg hW hn hp
  have h1 : (headSpec ws rm).pre.before a A.U = true := atoms_intro fun w hw => hws w hw _ _ X.warmed
  have h2 : (Cond.codeWith y bytes maxL ret hh).before a A.U = true := hws _ hcode _ _ X.warmed
  have h3 : (Cond.initialized y.cls).before a A.U = true := hinit _ _ X.warmed
  have h4 : A.cells + (headSpec ws rm).room.cells ≤ R.cells := by rw [show (headSpec ws rm).room.cells = mc from hrc]; exact hp.1
  have h5 : A.slots + (headSpec ws rm).room.slots ≤ R.slots := by rw [show (headSpec ws rm).room.slots = ms from hrs]; exact hp.2.1
  have hPc : Pc a (A.U.calling g mk a) := hblind _ _ _ _ hp.2.2
  obtain ⟨U, Ls, c0, s0⟩ := A
  dsimp only [Pt.U, Pt.locs, Pt.cells, Pt.slots] at h1 h2 h3 h4 h5 X hn hPc ⊢
  obtain ⟨m9, methY, cY, hn9, hmY, hcY, -, hlY, -⟩ := Cond.codeWith_spec h2
  cases Option.some.inj (hn9.symm.trans hn)
  obtain ⟨kY, hkY, -⟩ := className_of_methodNamed hn
  have hinitY : kY.init = .initialized := Cond.initialized_spec (findClass_of_methodNamed hn) hkY h3
  have h : At U g.method c below := by rw [hg]; exact X.here
  have hlocals9 : W9 + (maxL + 11) + (headSpec ws rm).room.locals ≤ R.locals := hlocals
  have happ : (headSpec ws rm).appliesLoose y e.platform (U.calling g mk a) = true :=
    Spec.appliesLoose_calling (g := g) h hdg hn hkY hinitY
      (X.room_calling (g := g) (R' := (headSpec ws rm).room) hsize hmY hcY hframes (by rw [hlY]; omega) h4 h5) h1
  obtain ⟨mid, hmid⟩ := h.above
  have hfr : (U.setTop g).frames = (.java g :: mid) ++ below := by rw [State.frames_setTop' g h.top, hmid]; rfl
  obtain ⟨o, s₂, hsteps, -, hend, hq⟩ := Steps.callFree hM p X.admits X.cas X.clock (acts := []) hfr happ hPc trivial
  have hq' : vx_Q Qc XC mc ms free a (U.calling g mk a) o s₂ := hq
  rw [State.frames_setTop' g h.top] at hend
  obtain ⟨g₀, hg0⟩ := Option.isSome_iff_exists.mp h.top
  obtain ⟨r, hr⟩ := State.topJava?_eq_some.mp hg0
  have hr' : (({ U with heap := s₂.heap, slotsUsed := s₂.slotsUsed } : State).setVm s₂.vm).frames = .java g₀ :: r := hr
  rcases hq' with ⟨hqc, L, hfe, hL⟩ | ⟨q, rfl, E, ce, L, hx, hce, hcv, hcl, hW₂, hsm, hL⟩
  · obtain ⟨⟨v, rfl⟩, hW₂, e2, q2, q3, q4, q5, q6⟩ := id hfe
    have e3 : s₂ = ({ (U.calling g mk a).setFrames s₂.frames with heap := s₂.heap, slotsUsed := s₂.slotsUsed } : State).setVm s₂.vm := by
      have : s₂ = ({ s₂ with vm := (U.calling g mk a).vm } : State).setVm s₂.vm := rfl
      rw [e2] at this
      exact this
    obtain ⟨c₂, i₂, len₂, hc₂, hd₂, hf₂⟩ := hend
    have hW' : U.WarmedH s₂.vm := hW₂
    have hcc : c₂ = c := by
      have h1 : s₂.code? g.method = U.code? g.method := by
        rw [State.code?_eq, State.code?_eq, hW'.alike.method?]
      exact Option.some.inj (hc₂.symm.trans (h1.trans h.code))
    subst hcc
    have hlen : len₂ = len := by rw [hdg] at hd₂; cases hd₂; rfl
    subst hlen
    have hs₂ : s₂ = (({ U with heap := s₂.heap, slotsUsed := s₂.slotsUsed } : State).setVm s₂.vm).setTop { g with pc := g.pc + len₂, stack := v.toList ++ g.stack } := by
      refine e3.trans ?_
      rw [hf₂, State.calling_eq h.top, State.setFrames_setFrames, State.setTop_of_frames _ hr', hr]
      rfl
    have hsame : U.sameButNew ({ U with heap := s₂.heap, slotsUsed := s₂.slotsUsed } : State) L mc ms := by
      refine ⟨?_, q2, q3, q4, q5, q6⟩
      obtain ⟨t, ht, -⟩ := State.frames_cons hr
      show ({ U with heap := s₂.heap, slotsUsed := s₂.slotsUsed } : State) = { U.setFrames U.frames with heap := s₂.heap, slotsUsed := s₂.slotsUsed }
      rw [State.setFrames_self ht]
    subst hg
    refine Or.inl ⟨v, ⟨(({ U with heap := s₂.heap, slotsUsed := s₂.slotsUsed } : State).setVm s₂.vm), Ls ++ L, c0 + mc, s0 + ms⟩,
      ⟨X.admits, X.cas, X.clock, X.frames, X.room, X.hears, X.method, X.code, (X.here.setHeapUsed s₂.heap s₂.slotsUsed).setVm hW'.alike, X.tail, State.WarmedH.trans X.warmed hW', X.limits, X.bytes, X.same.trans (hsame.setVm s.vm)⟩,
      ⟨g, mk, s₂, L, rfl, rfl, hqc, rfl, hL, rfl, rfl⟩, ?_⟩
    show Steps p.tables e below _ ((({ U with heap := s₂.heap, slotsUsed := s₂.slotsUsed } : State).setVm s₂.vm).setTop { g with pc := g.pc + len₂, stack := v.toList ++ g.stack })
    rw [← hs₂]
    exact hsteps
  · obtain ⟨e2, q2, q3, q4, q5, q6⟩ := id hsm
    have e3 : s₂ = ({ (U.calling g mk a).setFrames s₂.frames with heap := s₂.heap, slotsUsed := s₂.slotsUsed } : State).setVm s₂.vm := by
      have : s₂ = ({ s₂ with vm := (U.calling g mk a).vm } : State).setVm s₂.vm := rfl
      rw [e2] at this
      exact this
    have hf₂ : s₂.frames = .throwing q :: .java g :: U.frames.tail := hend
    have hW' : U.WarmedH s₂.vm := hW₂
    have hs₂ : s₂ = ((({ U with heap := s₂.heap, slotsUsed := s₂.slotsUsed } : State).setVm s₂.vm).setTop g).pushFrame (.throwing q) := by
      refine e3.trans ?_
      rw [hf₂, State.calling_eq h.top, State.setFrames_setFrames, State.pushFrame, State.frames_setTop _ hr', State.setTop_of_frames _ hr', State.setFrames_setFrames, hr]
      rfl
    have hsame : U.sameButNew ({ U with heap := s₂.heap, slotsUsed := s₂.slotsUsed } : State) L mc ms := by
      refine ⟨?_, q2, q3, q4, q5, q6⟩
      obtain ⟨t, ht, -⟩ := State.frames_cons hr
      show ({ U with heap := s₂.heap, slotsUsed := s₂.slotsUsed } : State) = { U.setFrames U.frames with heap := s₂.heap, slotsUsed := s₂.slotsUsed }
      rw [State.setFrames_self ht]
    subst hg
    refine Or.inr ⟨q, ⟨(({ U with heap := s₂.heap, slotsUsed := s₂.slotsUsed } : State).setVm s₂.vm), Ls ++ L, c0 + mc, s0 + ms⟩,
      ⟨X.admits, X.cas, X.clock, X.frames, X.room, X.hears, X.method, X.code, (X.here.setHeapUsed s₂.heap s₂.slotsUsed).setVm hW'.alike, X.tail, State.WarmedH.trans X.warmed hW', X.limits, X.bytes, X.same.trans (hsame.setVm s.vm)⟩,
      ⟨g, mk, s₂, L, E, ce, rfl, rfl, hx, hce, hcv, hcl, rfl, hL, rfl, rfl⟩, ?_⟩
    show Steps p.tables e below _ (((({ U with heap := s₂.heap, slotsUsed := s₂.slotsUsed } : State).setVm s₂.vm).setTop g).pushFrame (.throwing q))
    rw [← hs₂]
    exact hsteps
end
variable {p : Program} {l : Launch} {e : Env} {R : Room} {s : State} {m : MethodId} {args : Array Value} {below : List Frame} {meth : Method} {c : Code} {T : State} {H : Heap} {locs : List Loc} {cells slots : Nat}
theorem vx_callVX (X : Stand p l e R s m args below meth c T locs cells slots) (hexec : p.tables.exec = Jvm.exec) {own C : String} {index : Nat} {y : MethodName} {bytes : ByteArray} {maxL : Nat} {ret : Option FieldType} {hh : List (Nat × Nat × Nat × Nat)}
    (hown : s.vm.findClass own = some m.cls) (hlink : (Cond.methodLink own index y).before args s = true) (hinst : (Cond.instanceMethod y).before args s = true) (hsel : (Cond.selects C y y).before args s = true)
    (hcode : (Cond.codeWith y bytes maxL ret hh).before args s = true) (hy : y.cls ≠ "java/lang/invoke/MethodHandle" ∧ y.cls ≠ "java/lang/invoke/VarHandle")
    {W9 : Nat} {Pre : Pt → Array Value → Prop} {Post : Pt → Array Value → Option Value → Pt → Prop} {PostX : Pt → Array Value → Addr → Pt → Prop} (hK : vx_Back l R p e below s args y 3 W9 Pre Post PostX)
    {b : Addr} {cellB : Cell} (hcell : T.heap[b]? = some cellB) (hobj : cellB.vm.isStatics = false) (hcls : s.vm.findClass C = some cellB.cls)
    {g : JFrame} (hg : g.method = m) (hsize : g.locals.size = c.maxLocals) {argsL rest : List Value} (hlen : ∀ sig, parseMethodDescriptor y.desc = some sig → argsL.length = sig.parameters.length)
    (hstack : g.stack = argsL.reverse ++ .ref b :: rest) (hW : 2 * g.monitorRoom + (rest.map fun v => v.category).sum ≤ W9) (hdg : decode c.code g.pc = .ok (.invokevirtual index, 3))
    (hpre : ∀ vm₁, s.WarmedH vm₁ → Pre ⟨T.setVm vm₁, locs, cells, slots⟩ (Value.ref b :: argsL).toArray) :
    (∃ (v : Option Value) (vm₁ : Vm) (B : Pt), s.WarmedH vm₁ ∧ Stand p l e R s m args below meth c B.U B.locs B.cells B.slots ∧ Post ⟨T.setVm vm₁, locs, cells, slots⟩ (Value.ref b :: argsL).toArray v B ∧
      ∀ target, Steps p.tables e below (B.U.setTop { g with pc := g.pc + 3, stack := v.toList ++ rest }) target → Steps p.tables e below (T.setTop g) target) ∨
    (∃ (q : Addr) (vm₁ : Vm) (B : Pt), s.WarmedH vm₁ ∧ Stand p l e R s m args below meth c B.U B.locs B.cells B.slots ∧ PostX ⟨T.setVm vm₁, locs, cells, slots⟩ (Value.ref b :: argsL).toArray q B ∧
      Steps p.tables e below (T.setTop g) ((B.U.setTop { g with stack := rest }).pushFrame (.throwing q))) := by
  obtain ⟨mk, methM, hnamed, hmethM, hstM, habM⟩ := Cond.instanceMethod_spec hinst
  obtain ⟨m8, methM', cM, hn8, hmethM', -, -, -, -, -, -, hsigM⟩ := Cond.codeWith_spec hcode
  cases Option.some.inj (hn8.symm.trans hnamed)
  cases hmethM.symm.trans hmethM'
  obtain ⟨c2, r2, m2, q1, q2, q3, q4, kP, hkP, hkPi⟩ := Cond.selects_spec hsel
  cases hcls.symm.trans q1
  cases (State.methodFound?_of_named hnamed hy).symm.trans q2
  cases hnamed.symm.trans q3
  have hselP : selectMethod e.platform s.vm cellB.cls mk = .method mk := by rw [Launch.admits_selectMethod X.admits]; exact q4
  obtain ⟨vm₁, X₁, hstep₁⟩ := X.invokevirtual hexec hown hlink hnamed hmethM hstM hkP hkPi hy (a := b) (cell := cellB) hcell
    (fun z h => by rw [h] at hobj; cases hobj) hselP hmethM habM hkP hkPi (g := g) hg (argsL := argsL) (rest := rest) (hlen _ hsigM) hstack hdg
  rcases hK m meth c ⟨T.setVm vm₁, locs, cells, slots⟩ { g with stack := rest } (.invokevirtual index) mk (Value.ref b :: argsL).toArray X₁ hg hsize hdg hW (X₁.named hnamed) (hpre vm₁ X₁.warmed) with ⟨v, B, X', hpost, hsteps⟩ | ⟨q, B, X', hpost, hsteps⟩
  · exact Or.inl ⟨v, vm₁, B, X₁.warmed, X', hpost, fun target h => hstep₁ _ fun acts => by rw [doInvoke_state]; exact hsteps.trans h⟩
  · exact Or.inr ⟨q, vm₁, B, X₁.warmed, X', hpost, hstep₁ _ fun acts => by rw [doInvoke_state]; exact hsteps⟩
theorem vx_callSX (X : Stand p l e R s m args below meth c T locs cells slots) (hexec : p.tables.exec = Jvm.exec) {own : String} {index : Nat} {y : MethodName} {bytes : ByteArray} {maxL : Nat} {ret : Option FieldType} {hh : List (Nat × Nat × Nat × Nat)}
    (hown : s.vm.findClass own = some m.cls) (hlink : (Cond.methodLink own index y).before args s = true) (hstat : (Cond.static y).before args s = true) (hinit : (Cond.initialized y.cls).before args s = true)
    (hcode : (Cond.codeWith y bytes maxL ret hh).before args s = true) (hy : y.cls ≠ "java/lang/invoke/MethodHandle" ∧ y.cls ≠ "java/lang/invoke/VarHandle")
    {W9 : Nat} {Pre : Pt → Array Value → Prop} {Post : Pt → Array Value → Option Value → Pt → Prop} {PostX : Pt → Array Value → Addr → Pt → Prop} (hK : vx_Back l R p e below s args y 3 W9 Pre Post PostX)
    {g : JFrame} (hg : g.method = m) (hsize : g.locals.size = c.maxLocals) {argsL rest : List Value} (hlen : ∀ sig, parseMethodDescriptor y.desc = some sig → argsL.length = sig.parameters.length)
    (hstack : g.stack = argsL.reverse ++ rest) (hW : 2 * g.monitorRoom + (rest.map fun v => v.category).sum ≤ W9) (hdg : decode c.code g.pc = .ok (.invokestatic index, 3))
    (hpre : ∀ vm₁, s.WarmedH vm₁ → Pre ⟨T.setVm vm₁, locs, cells, slots⟩ argsL.toArray) :
    (∃ (v : Option Value) (vm₁ : Vm) (B : Pt), s.WarmedH vm₁ ∧ Stand p l e R s m args below meth c B.U B.locs B.cells B.slots ∧ Post ⟨T.setVm vm₁, locs, cells, slots⟩ argsL.toArray v B ∧
      ∀ target, Steps p.tables e below (B.U.setTop { g with pc := g.pc + 3, stack := v.toList ++ rest }) target → Steps p.tables e below (T.setTop g) target) ∨
    (∃ (q : Addr) (vm₁ : Vm) (B : Pt), s.WarmedH vm₁ ∧ Stand p l e R s m args below meth c B.U B.locs B.cells B.slots ∧ PostX ⟨T.setVm vm₁, locs, cells, slots⟩ argsL.toArray q B ∧
      Steps p.tables e below (T.setTop g) ((B.U.setTop { g with stack := rest }).pushFrame (.throwing q))) := by
  obtain ⟨mk, methM, cM, hnamed, hmethM, -, -, -, -, -, -, hsigM⟩ := Cond.codeWith_spec hcode
  have hstatic : methM.isStatic = true := Cond.static_spec hnamed hmethM hstat
  obtain ⟨kP, hkP, -⟩ := className_of_methodNamed hnamed
  have hinitP : kP.init = .initialized := Cond.initialized_spec (findClass_of_methodNamed hnamed) hkP hinit
  obtain ⟨vm₁, X₁, hstep₁⟩ := X.invokestatic hexec hown hlink hnamed hmethM hstatic hkP hinitP hy (g := g) hg (argsL := argsL) (rest := rest) (hlen _ hsigM) hstack hdg
  rcases hK m meth c ⟨T.setVm vm₁, locs, cells, slots⟩ { g with stack := rest } (.invokestatic index) mk argsL.toArray X₁ hg hsize hdg hW (X₁.named hnamed) (hpre vm₁ X₁.warmed) with ⟨v, B, X', hpost, hsteps⟩ | ⟨q, B, X', hpost, hsteps⟩
  · exact Or.inl ⟨v, vm₁, B, X₁.warmed, X', hpost, fun target h => hstep₁ _ fun acts => by rw [doInvoke_state]; exact hsteps.trans h⟩
  · exact Or.inr ⟨q, vm₁, B, X₁.warmed, X', hpost, hstep₁ _ fun acts => by rw [doInvoke_state]; exact hsteps⟩
theorem vx_callVW (X : Stand p l e R s m args below meth c T locs cells slots) (hexec : p.tables.exec = Jvm.exec) {own C : String} {index : Nat} {y : MethodName} {bytes : ByteArray} {maxL : Nat} {ret : Option FieldType} {hh : List (Nat × Nat × Nat × Nat)}
    (hown : s.vm.findClass own = some m.cls) (hlink : (Cond.methodLink own index y).before args s = true) (hinst : (Cond.instanceMethod y).before args s = true) (hsel : (Cond.selects C y y).before args s = true)
    (hcode : (Cond.codeWith y bytes maxL ret hh).before args s = true) (hy : y.cls ≠ "java/lang/invoke/MethodHandle" ∧ y.cls ≠ "java/lang/invoke/VarHandle")
    {W9 : Nat} {Pre : Pt → Array Value → Prop} {Post : Pt → Array Value → Option Value → Pt → Prop} (hK : Back l R p e below s args y 3 W9 Pre Post)
    {b : Addr} {cellB : Cell} (hcell : T.heap[b]? = some cellB) (hobj : cellB.vm.isStatics = false) (hcls : s.vm.findClass C = some cellB.cls)
    {g : JFrame} (hg : g.method = m) (hsize : g.locals.size = c.maxLocals) {argsL rest : List Value} (hlen : ∀ sig, parseMethodDescriptor y.desc = some sig → argsL.length = sig.parameters.length)
    (hstack : g.stack = argsL.reverse ++ .ref b :: rest) (hW : 2 * g.monitorRoom + (rest.map fun v => v.category).sum ≤ W9) (hdg : decode c.code g.pc = .ok (.invokevirtual index, 3))
    (hpre : ∀ vm₁, s.WarmedH vm₁ → Pre ⟨T.setVm vm₁, locs, cells, slots⟩ (Value.ref b :: argsL).toArray) :
    ∃ (v : Option Value) (vm₁ : Vm) (B : Pt), s.WarmedH vm₁ ∧ Stand p l e R s m args below meth c B.U B.locs B.cells B.slots ∧ Post ⟨T.setVm vm₁, locs, cells, slots⟩ (Value.ref b :: argsL).toArray v B ∧
      ∀ target, Steps p.tables e below (B.U.setTop { g with pc := g.pc + 3, stack := v.toList ++ rest }) target → Steps p.tables e below (T.setTop g) target := by
  obtain ⟨mk, methM, hnamed, hmethM, hstM, habM⟩ := Cond.instanceMethod_spec hinst
  obtain ⟨m8, methM', cM, hn8, hmethM', -, -, -, -, -, -, hsigM⟩ := Cond.codeWith_spec hcode
  cases Option.some.inj (hn8.symm.trans hnamed)
  cases hmethM.symm.trans hmethM'
  obtain ⟨c2, r2, m2, q1, q2, q3, q4, kP, hkP, hkPi⟩ := Cond.selects_spec hsel
  cases hcls.symm.trans q1
  cases (State.methodFound?_of_named hnamed hy).symm.trans q2
  cases hnamed.symm.trans q3
  have hselP : selectMethod e.platform s.vm cellB.cls mk = .method mk := by rw [Launch.admits_selectMethod X.admits]; exact q4
  obtain ⟨vm₁, X₁, hstep₁⟩ := X.invokevirtual hexec hown hlink hnamed hmethM hstM hkP hkPi hy (a := b) (cell := cellB) hcell
    (fun z h => by rw [h] at hobj; cases hobj) hselP hmethM habM hkP hkPi (g := g) hg (argsL := argsL) (rest := rest) (hlen _ hsigM) hstack hdg
  obtain ⟨v, B, X', hpost, hsteps⟩ := hK m meth c ⟨T.setVm vm₁, locs, cells, slots⟩ { g with stack := rest } (.invokevirtual index) mk (Value.ref b :: argsL).toArray X₁ hg hsize hdg hW (X₁.named hnamed) (hpre vm₁ X₁.warmed)
  exact ⟨v, vm₁, B, X₁.warmed, X', hpost, fun target h => hstep₁ _ fun acts => by rw [doInvoke_state]; exact hsteps.trans h⟩
abbrev vx_CVW (R : Room) (s : State) (args : Array Value) (own C : String) (index : Nat) (y : MethodName) (bytes : ByteArray) (maxL : Nat) (ret : Option FieldType) (hh : List (Nat × Nat × Nat × Nat)) (ws : List Cond) (rm : Room) (mc ms n : Nat) : Prop :=
  (rm.cells = mc ∧ rm.slots = ms ∧ rm.frames + 1 ≤ R.frames ∧ 8 + (maxL + 11) + rm.locals ≤ R.locals ∧ (∀ w ∈ ws, ∀ (a' : Array Value) (U : State), s.WarmedH U.vm → w.before a' U = true) ∧ Cond.codeWith y bytes maxL ret hh ∈ ws) ∧
  (Cond.codeWith y bytes maxL ret hh).before args s = true ∧ (Cond.initialized y.cls).before args s = true ∧ (y.cls ≠ "java/lang/invoke/MethodHandle" ∧ y.cls ≠ "java/lang/invoke/VarHandle") ∧
  (∀ sig, parseMethodDescriptor y.desc = some sig → n = sig.parameters.length) ∧ (Cond.methodLink own index y).before args s = true ∧ (Cond.instanceMethod y).before args s = true ∧ (Cond.selects C y y).before args s = true
theorem vx_cwVW {own C : String} {index maxL mc ms : Nat} {y : MethodName} {bytes : ByteArray} {ret : Option FieldType} {hh : List (Nat × Nat × Nat × Nat)} {Ts ws ws' : List Cond} {rm : Room} (n : Nat) (ht : ∀ w ∈ Ts, w.before args s = true) (hT : GoodIn Ts (wsV own index C y ws)) (hw : ws = Cond.codeWith y bytes maxL ret hh :: ws') (hrc : rm.cells = mc) (hrs : rm.slots = ms)
    (hd : y.cls = C ∧ y.cls ≠ "java/lang/invoke/MethodHandle" ∧ y.cls ≠ "java/lang/invoke/VarHandle" ∧ (parseMethodDescriptor y.desc).map (fun d => d.parameters.length) = some n) (hR : rm.frames + 1 ≤ R.frames ∧ 8 + (maxL + 11) + rm.locals ≤ R.locals) :
    vx_CVW R s args own C index y bytes maxL ret hh ws rm mc ms n := by
  obtain ⟨hC, hd⟩ := hd
  subst hC
  have ok : ∀ w ∈ wsV own index y.cls y ws, w.before args s = true := fun w h => ht w (hT w h).1
  have hG : GoodIn Ts ws := fun w h => hT w (by unfold wsV; exact List.mem_append_right _ h)
  have hc : Cond.codeWith y bytes maxL ret hh ∈ ws := by rw [hw]; exact List.mem_cons_self
  refine ⟨⟨hrc, hrs, hR.1, hR.2, pay_in ht hG, hc⟩, ht _ (hG _ hc).1, ok _ (by simp [wsV]), ⟨hd.1, hd.2.1⟩, fun sig h => ?_, ok _ (by simp [wsV]), ok _ (by simp [wsV]), ok _ (by simp [wsV])⟩
  have h2 := hd.2.2
  rw [h] at h2
  exact (Option.some.inj h2).symm
theorem vx_runVW {y : MethodName} {bytes cc : ByteArray} {maxL nL mc ms n index : Nat} {ret : Option FieldType} {hh : List (Nat × Nat × Nat × Nat)} {ws : List Cond} {rm : Room} {Pc : Array Value → State → Prop} {Qc : Array Value → State → Outcome → State → Prop} {free : Addr → Prop} {Ts : List Cond} {own C : String} {b : Addr} {As rest : List Value} {g : JFrame}
    (S : CallFix p m c cc nL s args Ts own) (hM : Met l y ws rm Pc Qc mc ms free) (cw : vx_CVW R s args own C index y bytes maxL ret hh ws rm mc ms n) (hp : PreV s H C b Pc As)
    (hg : g.method = m) (hn : As.length = n) (hsize : g.locals.size = nL) (hstack : g.stack = As.reverse ++ .ref b :: rest) (hW : 2 * g.monitorRoom + (rest.map fun v => v.category).sum ≤ 8) (hdg : decode cc g.pc = .ok (.invokevirtual index, 3)) (hf : cells + mc ≤ R.cells ∧ slots + ms ≤ R.slots) :
    va_Run p l e R s m args below meth c H locs cells slots mc ms g rest (Qc (Value.ref b :: As).toArray) free := by
  obtain ⟨⟨hrc, hrs, hfr, hlo, hws, hcw⟩, hcode, hini, hy, hlen, hl, hin, hse⟩ := cw
  have hK : Back l R p e below s args y 3 8 (PreOf R mc ms Pc) (PostOf Qc mc ms free) := va_backW (hh := hh) (bytes := bytes) (maxL := maxL) (ret := ret) hM hp.1 hrc hrs hfr hlo hws hcw (fun a' U hW => word_at hW (Or.inl (by first | rfl | simp [Cond.onTables, Cond.keeps, Cond.steady])) hini)
  obtain ⟨hx, hb, hml, ho, -⟩ := S
  obtain ⟨-, ⟨cellB, hcB, hoB, hclB⟩, hPc⟩ := hp
  intro T hT X
  obtain ⟨v, vm₁, ⟨U', l2, c2, s2⟩, hW₁, X', ⟨g', mk, t, L, e1, e2, hq, h1, hL, h2, h3⟩, st⟩ := vx_callVW X hx (C := C) (hh := hh) (bytes := bytes) (maxL := maxL) (ret := ret) ho hl hin hse hcode hy hK (by rw [hT]; exact hcB) hoB hclB hg (hsize.trans hml.symm) (argsL := As) (rest := rest) (fun sig h => hn.trans (hlen sig h)) hstack hW (by rw [hb]; exact hdg)
    (fun vm₁ hW₁ => ⟨hf.1, hf.2, hPc (T.setVm vm₁) hT hW₁⟩)
  dsimp only [Pt.U, Pt.locs, Pt.cells, Pt.slots] at X' e1 e2 h1 h2 h3 st
  subst h1; subst h2; subst h3
  exact ⟨v, (T.setVm vm₁).calling g' mk (Value.ref b :: As).toArray, t, U', L, hT, X', hL, e1, e2, hq, st⟩
section
variable {y : MethodName} {bytes cc : ByteArray} {maxL nL mc ms n index : Nat} {ret : Option FieldType} {ws : List Cond} {rm : Room} {Pc : Array Value → State → Prop} {Qc : Array Value → State → Outcome → State → Prop} {XC : String → State → State → Prop} {free : Addr → Prop} {Ts : List Cond} {own C : String} {b : Addr} {As rest : List Value} {g : JFrame}
theorem vx_runVX {hh : List (Nat × Nat × Nat × Nat)} (S : CallFix p m c cc nL s args Ts own) (hM : vx_Met l y ws rm Pc Qc XC mc ms free) (cw : vx_CVW R s args own C index y bytes maxL ret hh ws rm mc ms n) (hp : PreV s H C b Pc As)
    (hg : g.method = m) (hn : As.length = n) (hsize : g.locals.size = nL) (hstack : g.stack = As.reverse ++ .ref b :: rest) (hW : 2 * g.monitorRoom + (rest.map fun v => v.category).sum ≤ 8) (hdg : decode cc g.pc = .ok (.invokevirtual index, 3)) (hf : cells + mc ≤ R.cells ∧ slots + ms ≤ R.slots) :
    vx_Run p l e R s m args below meth c H locs cells slots mc ms g rest (Qc (Value.ref b :: As).toArray) XC free := by
  obtain ⟨⟨hrc, hrs, hfr, hlo, hws, hcw⟩, hcode, hini, hy, hlen, hl, hin, hse⟩ := cw
  have hK : vx_Back l R p e below s args y 3 8 (PreOf R mc ms Pc) (PostOf Qc mc ms free) (vx_Post XC mc ms free) := vx_backW (hh := hh) (bytes := bytes) (maxL := maxL) (ret := ret) hM hp.1 hrc hrs hfr hlo hws hcw (fun a' U hW => word_at hW (Or.inl (by first | rfl | simp [Cond.onTables, Cond.keeps, Cond.steady])) hini)
  obtain ⟨hx, hb, hml, ho, -⟩ := S
  obtain ⟨-, ⟨cellB, hcB, hoB, hclB⟩, hPc⟩ := hp
  intro T hT X
  rcases vx_callVX X hx (C := C) (hh := hh) (bytes := bytes) (maxL := maxL) (ret := ret) ho hl hin hse hcode hy hK (by rw [hT]; exact hcB) hoB hclB hg (hsize.trans hml.symm) (argsL := As) (rest := rest) (fun sig h => hn.trans (hlen sig h)) hstack hW (by rw [hb]; exact hdg)
    (fun vm₁ hW₁ => ⟨hf.1, hf.2, hPc (T.setVm vm₁) hT hW₁⟩) with ⟨v, vm₁, ⟨U', l2, c2, s2⟩, hW₁, X', ⟨g', mk, t, L, e1, e2, hq, h1, hL, h2, h3⟩, st⟩ | ⟨q, vm₁, ⟨U', l2, c2, s2⟩, hW₁, X', ⟨g', mk, t, L, E, ce, e1, e2, hq, hce, hcv, hcl, h1, hL, h2, h3⟩, st⟩
  · dsimp only [Pt.U, Pt.locs, Pt.cells, Pt.slots] at X' e1 e2 h1 h2 h3 st
    subst h1; subst h2; subst h3
    exact Or.inl ⟨v, (T.setVm vm₁).calling g' mk (Value.ref b :: As).toArray, t, U', L, hT, X', hL, e1, e2, hq, st⟩
  · dsimp only [Pt.U, Pt.locs, Pt.cells, Pt.slots] at X' e1 e2 h1 h2 h3 st hcl
    subst h1; subst h2; subst h3
    exact Or.inr ⟨q, (T.setVm vm₁).calling g' mk (Value.ref b :: As).toArray, t, U', L, E, ce, hT, X', hL, e1, e2, hq, hce, hcv, vx_cls hW₁ hcl, st⟩
theorem vx_runSX {hh : List (Nat × Nat × Nat × Nat)} (S : CallFix p m c cc nL s args Ts own) (hM : vx_Met l y ws rm Pc Qc XC mc ms free) (cw : vx_CSW R s args own index y bytes maxL ret hh ws rm mc ms n) (hp : PreS s H Pc As)
    (hg : g.method = m) (hn : As.length = n) (hsize : g.locals.size = nL) (hstack : g.stack = As.reverse ++ rest) (hW : 2 * g.monitorRoom + (rest.map fun v => v.category).sum ≤ 8) (hdg : decode cc g.pc = .ok (.invokestatic index, 3)) (hf : cells + mc ≤ R.cells ∧ slots + ms ≤ R.slots) :
    vx_Run p l e R s m args below meth c H locs cells slots mc ms g rest (Qc As.toArray) XC free := by
  obtain ⟨⟨hrc, hrs, hfr, hlo, hws, hcw⟩, hcode, hini, hy, hlen, hl, hstt⟩ := cw
  have hK : vx_Back l R p e below s args y 3 8 (PreOf R mc ms Pc) (PostOf Qc mc ms free) (vx_Post XC mc ms free) := vx_backW (hh := hh) (bytes := bytes) (maxL := maxL) (ret := ret) hM hp.1 hrc hrs hfr hlo hws hcw (fun a' U hW => word_at hW (Or.inl (by first | rfl | simp [Cond.onTables, Cond.keeps, Cond.steady])) hini)
  obtain ⟨hx, hb, hml, ho, -⟩ := S
  intro T hT X
  rcases vx_callSX X hx (hh := hh) (bytes := bytes) (maxL := maxL) (ret := ret) ho hl hstt hini hcode hy hK hg (hsize.trans hml.symm) (argsL := As) (rest := rest) (fun sig h => hn.trans (hlen sig h)) hstack hW (by rw [hb]; exact hdg)
    (fun vm₁ hW₁ => ⟨hf.1, hf.2, hp.2 (T.setVm vm₁) hT hW₁⟩) with ⟨v, vm₁, ⟨U', l2, c2, s2⟩, hW₁, X', ⟨g', mk, t, L, e1, e2, hq, h1, hL, h2, h3⟩, st⟩ | ⟨q, vm₁, ⟨U', l2, c2, s2⟩, hW₁, X', ⟨g', mk, t, L, E, ce, e1, e2, hq, hce, hcv, hcl, h1, hL, h2, h3⟩, st⟩
  · dsimp only [Pt.U, Pt.locs, Pt.cells, Pt.slots] at X' e1 e2 h1 h2 h3 st
    subst h1; subst h2; subst h3
    exact Or.inl ⟨v, (T.setVm vm₁).calling g' mk As.toArray, t, U', L, hT, X', hL, e1, e2, hq, st⟩
  · dsimp only [Pt.U, Pt.locs, Pt.cells, Pt.slots] at X' e1 e2 h1 h2 h3 st hcl
    subst h1; subst h2; subst h3
    exact Or.inr ⟨q, (T.setVm vm₁).calling g' mk As.toArray, t, U', L, E, ce, hT, X', hL, e1, e2, hq, hce, hcv, vx_cls hW₁ hcl, st⟩
end
end VXH
theorem vx_ofWH {l : Launch} {y : MethodName} {ws ws' : List Cond} {rm : Room} {Pc : Array Value → State → Prop} {Qc : Array Value → State → Outcome → State → Prop} {XC : String → State → State → Prop} {mc ms : Nat} {free : Addr → Prop} {cc : ByteArray} {maxL : Nat} {ret : Option FieldType} {hh : List (Nat × Nat × Nat × Nat)}
    (hy : plainName y.cls = true) (hw : ws = Cond.codeWith y cc maxL ret hh :: ws')
    (body : ∀ p e s m args below meth c s₁, BodyLoose p l y (headSpec ws rm) cc maxL ret e s m args below meth c s₁ → c.maxLocals = maxL → Pc args s →
      W p l e (headSpec ws rm).room s m args below meth c s.heap [] 0 0 (vx_MQ below Qc XC args s mc ms free) (entryFrame m args maxL)) : vx_Met l y ws rm Pc Qc XC mc ms free := by
  refine MetFree.of_bodyS (code := cc) (maxLocals := maxL) (ret := ret) hy ?_ ?_
  · intro args s m h hn
    obtain ⟨m9, meth, c, hn9, h1, h2, h3, h4, -, h5, h6, -⟩ := Cond.codeWith_spec (atoms_spec (ws := ws) h _ (by rw [hw]; exact List.mem_cons_self))
    cases hn.symm.trans hn9
    exact ⟨meth, c, h1, h2, h3, h4, h5, h6⟩
  · intro p e s m args below meth c s₁ B hml hP _
    have hh0 : s₁.heap = s.heap := by rw [B.state]; rfl
    obtain ⟨t, a1, o, b1, b2, b3⟩ := body p e s m args below meth c s₁ B hml hP s₁ hh0 (Stand.of_body B)
    exact ⟨t, o, a1, b1, b2, b3⟩
/-! ===== END ===== -/
end
section

/-! ===== BEGIN printed: names, fields, word lists, decode rows ===== -/
def RX0 : String := "ChoirNotes$Voice"
def TX0 : u_T := fun k => match k with
  | 0 => ("ChoirNotes$Voice", "brevesInLonga", "I", false)
  | 1 => ("ChoirNotes$Voice", "semibrevesInBreve", "I", false)
  | 2 => ("ChoirNotes$Voice", "minimsInSemibreve", "I", false)
  | 3 => ("ChoirNotes$Voice", "clef", "I", false)
  | 4 => ("ChoirNotes$Voice", "count", "I", false)
  | 5 => ("ChoirNotes$Voice", "kinds", "[I", true)
  | 6 => ("ChoirNotes$Voice", "places", "[I", true)
  | 7 => ("ChoirNotes$Voice", "colours", "[Z", true)
  | 8 => ("ChoirNotes$Voice", "ranks", "[I", true)
  | _ => ("ChoirNotes$Voice", "begins", "[I", true)
def tyX0 : Nat → FieldType := fun k => match k with
  | 0 => .int
  | 1 => .int
  | 2 => .int
  | 3 => .int
  | 4 => .int
  | 5 => .array .int
  | 6 => .array .int
  | 7 => .array .boolean
  | 8 => .array .int
  | _ => .array .int
abbrev wsX00 : List Cond := u_ws RX0 TX0 10
theorem nmX0 : ∀ a, a < 10 → ∀ b, b < 10 → a ≠ b → (TX0 a).2.1 ≠ (TX0 b).2.1 := by decide +kernel
theorem tyX0_ok : ∀ k, k < 10 → parseFieldDescriptor (TX0 k).2.2.1 = some (tyX0 k) := by decide +kernel
abbrev cX0_init : ByteArray := prog_2_method_1_code
def yX0_init : MethodName := ⟨RX0, "<init>", "()V"⟩
abbrev cX0_measure : ByteArray := prog_2_method_2_code
def yX0_measure : MethodName := ⟨RX0, "measure", "(III)V"⟩
abbrev cX0_append : ByteArray := prog_2_method_3_code
def yX0_append : MethodName := ⟨RX0, "append", "(IIZI)I"⟩
abbrev cX0_dropLast : ByteArray := prog_2_method_4_code
def yX0_dropLast : MethodName := ⟨RX0, "dropLast", "()I"⟩
abbrev cX0_turnColour : ByteArray := prog_2_method_5_code
def yX0_turnColour : MethodName := ⟨RX0, "turnColour", "(I)Z"⟩
abbrev cX0_timeFrom : ByteArray := prog_2_method_6_code
def yX0_timeFrom : MethodName := ⟨RX0, "timeFrom", "(I)V"⟩
abbrev cX0_minimsByKind : ByteArray := prog_2_method_7_code
def yX0_minimsByKind : MethodName := ⟨RX0, "minimsByKind", "(IZ)I"⟩
abbrev cX0_minimsOf : ByteArray := prog_2_method_8_code
def yX0_minimsOf : MethodName := ⟨RX0, "minimsOf", "(I)I"⟩
abbrev cX0_end : ByteArray := prog_2_method_9_code
def yX0_end : MethodName := ⟨RX0, "end", "()I"⟩
abbrev cX0_signLastingAt : ByteArray := prog_2_method_10_code
def yX0_signLastingAt : MethodName := ⟨RX0, "signLastingAt", "(I)I"⟩
abbrev cX0_isRest : ByteArray := prog_2_method_11_code
def yX0_isRest : MethodName := ⟨RX0, "isRest", "(I)Z"⟩
abbrev cX0_countNotes : ByteArray := prog_2_method_12_code
def yX0_countNotes : MethodName := ⟨RX0, "countNotes", "()I"⟩
abbrev cX0_countLigatures : ByteArray := prog_2_method_13_code
def yX0_countLigatures : MethodName := ⟨RX0, "countLigatures", "()I"⟩
abbrev cX0_wouldFit : ByteArray := prog_2_method_14_code
def yX0_wouldFit : MethodName := ⟨RX0, "wouldFit", "(I)Z"⟩
abbrev cX0_countFittingClefs : ByteArray := prog_2_method_15_code
def yX0_countFittingClefs : MethodName := ⟨RX0, "countFittingClefs", "()I"⟩
def RX1 : String := "ChoirNotes"
def TX1 : u_T := fun k => match k with
  | 0 => ("ChoirNotes", "book", "[LChoirNotes$Voice;", true)
  | _ => ("ChoirNotes", "voiceCount", "I", false)
def tyX1 : Nat → FieldType := fun k => match k with
  | 0 => .array (.object "ChoirNotes$Voice")
  | _ => .int
abbrev wsX10 : List Cond := u_ws RX1 TX1 2
theorem nmX1 : ∀ a, a < 2 → ∀ b, b < 2 → a ≠ b → (TX1 a).2.1 ≠ (TX1 b).2.1 := by decide +kernel
theorem tyX1_ok : ∀ k, k < 2 → parseFieldDescriptor (TX1 k).2.2.1 = some (tyX1 k) := by decide +kernel
abbrev cX1_init : ByteArray := prog_1_method_1_code
def yX1_init : MethodName := ⟨RX1, "<init>", "()V"⟩
abbrev cX1_addVoice : ByteArray := prog_1_method_2_code
def yX1_addVoice : MethodName := ⟨RX1, "addVoice", "(III)I"⟩
abbrev cX1_addNote : ByteArray := prog_1_method_3_code
def yX1_addNote : MethodName := ⟨RX1, "addNote", "(IIIZ)I"⟩
abbrev cX1_addRest : ByteArray := prog_1_method_4_code
def yX1_addRest : MethodName := ⟨RX1, "addRest", "(II)I"⟩
abbrev cX1_addLigature : ByteArray := prog_1_method_5_code
def yX1_addLigature : MethodName := ⟨RX1, "addLigature", "(IIIIZ)I"⟩
abbrev cX1_erase : ByteArray := prog_1_method_6_code
def yX1_erase : MethodName := ⟨RX1, "erase", "(I)I"⟩
abbrev cX1_recolour : ByteArray := prog_1_method_7_code
def yX1_recolour : MethodName := ⟨RX1, "recolour", "(II)Z"⟩
abbrev cX1_setClef : ByteArray := prog_1_method_8_code
def yX1_setClef : MethodName := ⟨RX1, "setClef", "(II)I"⟩
abbrev cX1_setMensuration : ByteArray := prog_1_method_9_code
def yX1_setMensuration : MethodName := ⟨RX1, "setMensuration", "(IIII)I"⟩
abbrev cX1_voices : ByteArray := prog_1_method_10_code
def yX1_voices : MethodName := ⟨RX1, "voices", "()I"⟩
abbrev cX1_signs : ByteArray := prog_1_method_11_code
def yX1_signs : MethodName := ⟨RX1, "signs", "(I)I"⟩
abbrev cX1_notes : ByteArray := prog_1_method_12_code
def yX1_notes : MethodName := ⟨RX1, "notes", "(I)I"⟩
abbrev cX1_ligatures : ByteArray := prog_1_method_13_code
def yX1_ligatures : MethodName := ⟨RX1, "ligatures", "(I)I"⟩
abbrev cX1_kindOf : ByteArray := prog_1_method_14_code
def yX1_kindOf : MethodName := ⟨RX1, "kindOf", "(II)I"⟩
abbrev cX1_placeOf : ByteArray := prog_1_method_15_code
def yX1_placeOf : MethodName := ⟨RX1, "placeOf", "(II)I"⟩
abbrev cX1_isColoured : ByteArray := prog_1_method_16_code
def yX1_isColoured : MethodName := ⟨RX1, "isColoured", "(II)Z"⟩
abbrev cX1_placeInLigature : ByteArray := prog_1_method_17_code
def yX1_placeInLigature : MethodName := ⟨RX1, "placeInLigature", "(II)I"⟩
abbrev cX1_lengthOf : ByteArray := prog_1_method_18_code
def yX1_lengthOf : MethodName := ⟨RX1, "lengthOf", "(II)I"⟩
abbrev cX1_beginOf : ByteArray := prog_1_method_19_code
def yX1_beginOf : MethodName := ⟨RX1, "beginOf", "(II)I"⟩
abbrev cX1_length : ByteArray := prog_1_method_20_code
def yX1_length : MethodName := ⟨RX1, "length", "(I)I"⟩
abbrev cX1_longest : ByteArray := prog_1_method_21_code
def yX1_longest : MethodName := ⟨RX1, "longest", "()I"⟩
abbrev cX1_signAt : ByteArray := prog_1_method_22_code
def yX1_signAt : MethodName := ⟨RX1, "signAt", "(II)I"⟩
abbrev cX1_clefOf : ByteArray := prog_1_method_23_code
def yX1_clefOf : MethodName := ⟨RX1, "clefOf", "(I)I"⟩
abbrev cX1_pitchOf : ByteArray := prog_1_method_24_code
def yX1_pitchOf : MethodName := ⟨RX1, "pitchOf", "(II)I"⟩
abbrev cX1_fits : ByteArray := prog_1_method_25_code
def yX1_fits : MethodName := ⟨RX1, "fits", "(II)Z"⟩
abbrev cX1_clefsThatFit : ByteArray := prog_1_method_26_code
def yX1_clefsThatFit : MethodName := ⟨RX1, "clefsThatFit", "(I)I"⟩
abbrev cX1_clashes : ByteArray := prog_1_method_27_code
def yX1_clashes : MethodName := ⟨RX1, "clashes", "(II)I"⟩
abbrev cX1_firstClash : ByteArray := prog_1_method_28_code
def yX1_firstClash : MethodName := ⟨RX1, "firstClash", "(II)I"⟩
abbrev cX1_clashesWith : ByteArray := prog_1_method_29_code
def yX1_clashesWith : MethodName := ⟨RX1, "clashesWith", "(II)I"⟩
abbrev cX1_bestClef : ByteArray := prog_1_method_30_code
def yX1_bestClef : MethodName := ⟨RX1, "bestClef", "(I)I"⟩
abbrev cX1_canonClashes : ByteArray := prog_1_method_31_code
def yX1_canonClashes : MethodName := ⟨RX1, "canonClashes", "(III)I"⟩
abbrev cX1_bestDelay : ByteArray := prog_1_method_32_code
def yX1_bestDelay : MethodName := ⟨RX1, "bestDelay", "(II)I"⟩
abbrev cX1_meanLength : ByteArray := prog_1_method_33_code
def yX1_meanLength : MethodName := ⟨RX1, "meanLength", "()D"⟩
abbrev cX1_digest : ByteArray := prog_1_method_34_code
def yX1_digest : MethodName := ⟨RX1, "digest", "()J"⟩
abbrev cX1_knownVoice : ByteArray := prog_1_method_35_code
def yX1_knownVoice : MethodName := ⟨RX1, "knownVoice", "(I)LChoirNotes$Voice;"⟩
abbrev cX1_voiceWithSign : ByteArray := prog_1_method_36_code
def yX1_voiceWithSign : MethodName := ⟨RX1, "voiceWithSign", "(II)LChoirNotes$Voice;"⟩
abbrev cX1_checkRange : ByteArray := prog_1_method_37_code
def yX1_checkRange : MethodName := ⟨RX1, "checkRange", "(III)V"⟩
abbrev cX1_checkMensuration : ByteArray := prog_1_method_38_code
def yX1_checkMensuration : MethodName := ⟨RX1, "checkMensuration", "(III)V"⟩
abbrev cX1_checkLigature : ByteArray := prog_1_method_39_code
def yX1_checkLigature : MethodName := ⟨RX1, "checkLigature", "(III)V"⟩
abbrev cX1_checkRoom : ByteArray := prog_1_method_40_code
def yX1_checkRoom : MethodName := ⟨RX1, "checkRoom", "(LChoirNotes$Voice;I)V"⟩
abbrev cX1_checkHasClef : ByteArray := prog_1_method_41_code
def yX1_checkHasClef : MethodName := ⟨RX1, "checkHasClef", "(LChoirNotes$Voice;)V"⟩
abbrev cX1_firstKind : ByteArray := prog_1_method_42_code
def yX1_firstKind : MethodName := ⟨RX1, "firstKind", "(IIZ)I"⟩
abbrev cX1_secondKind : ByteArray := prog_1_method_43_code
def yX1_secondKind : MethodName := ⟨RX1, "secondKind", "(IIZZ)I"⟩
abbrev cX1_lastKind : ByteArray := prog_1_method_44_code
def yX1_lastKind : MethodName := ⟨RX1, "lastKind", "(II)I"⟩
abbrev cX1_clashingMinims : ByteArray := prog_1_method_45_code
def yX1_clashingMinims : MethodName := ⟨RX1, "clashingMinims", "(LChoirNotes$Voice;LChoirNotes$Voice;II)I"⟩
abbrev cX1_firstClashingMinim : ByteArray := prog_1_method_46_code
def yX1_firstClashingMinim : MethodName := ⟨RX1, "firstClashingMinim", "(LChoirNotes$Voice;LChoirNotes$Voice;I)I"⟩
abbrev cX1_signsClash : ByteArray := prog_1_method_47_code
def yX1_signsClash : MethodName := ⟨RX1, "signsClash", "(LChoirNotes$Voice;ILChoirNotes$Voice;II)Z"⟩
abbrev cX1_clashesIfClef : ByteArray := prog_1_method_48_code
def yX1_clashesIfClef : MethodName := ⟨RX1, "clashesIfClef", "(LChoirNotes$Voice;I)I"⟩
abbrev cX1_clefWithFewestClashes : ByteArray := prog_1_method_49_code
def yX1_clefWithFewestClashes : MethodName := ⟨RX1, "clefWithFewestClashes", "(LChoirNotes$Voice;)I"⟩
abbrev cX1_delayWithFewestClashes : ByteArray := prog_1_method_50_code
def yX1_delayWithFewestClashes : MethodName := ⟨RX1, "delayWithFewestClashes", "(LChoirNotes$Voice;I)I"⟩
abbrev cX1_mix : ByteArray := prog_1_method_51_code
def yX1_mix : MethodName := ⟨RX1, "mix", "(JI)J"⟩
abbrev cX1_mixVoice : ByteArray := prog_1_method_52_code
def yX1_mixVoice : MethodName := ⟨RX1, "mixVoice", "(JLChoirNotes$Voice;)J"⟩
abbrev cX1_mixSign : ByteArray := prog_1_method_53_code
def yX1_mixSign : MethodName := ⟨RX1, "mixSign", "(JLChoirNotes$Voice;I)J"⟩
def RX2 : String := "ChoirNotesModel"
def TX2 : u_T := fun k => match k with
  | 0 => ("ChoirNotesModel", "thrown", "I", false)
  | 1 => ("ChoirNotesModel", "voices", "I", false)
  | 2 => ("ChoirNotesModel", "many", "[I", true)
  | 3 => ("ChoirNotesModel", "clef", "[I", true)
  | 4 => ("ChoirNotesModel", "measure", "[I", true)
  | 5 => ("ChoirNotesModel", "kind", "[I", true)
  | 6 => ("ChoirNotesModel", "place", "[I", true)
  | 7 => ("ChoirNotesModel", "isRed", "[Z", true)
  | 8 => ("ChoirNotesModel", "tied", "[I", true)
  | 9 => ("ChoirNotesModel", "mine", "[I", true)
  | _ => ("ChoirNotesModel", "theirs", "[I", true)
def tyX2 : Nat → FieldType := fun k => match k with
  | 0 => .int
  | 1 => .int
  | 2 => .array .int
  | 3 => .array .int
  | 4 => .array .int
  | 5 => .array .int
  | 6 => .array .int
  | 7 => .array .boolean
  | 8 => .array .int
  | 9 => .array .int
  | _ => .array .int
abbrev wsX20 : List Cond := u_ws RX2 TX2 11
theorem nmX2 : ∀ a, a < 11 → ∀ b, b < 11 → a ≠ b → (TX2 a).2.1 ≠ (TX2 b).2.1 := by decide +kernel
theorem tyX2_ok : ∀ k, k < 11 → parseFieldDescriptor (TX2 k).2.2.1 = some (tyX2 k) := by decide +kernel
abbrev cX2_init : ByteArray := prog_4_method_1_code
def yX2_init : MethodName := ⟨RX2, "<init>", "()V"⟩
abbrev cX2_thrown : ByteArray := prog_4_method_2_code
def yX2_thrown : MethodName := ⟨RX2, "thrown", "()I"⟩
abbrev cX2_fail : ByteArray := prog_4_method_3_code
def yX2_fail : MethodName := ⟨RX2, "fail", "(I)I"⟩
abbrev cX2_told : ByteArray := prog_4_method_4_code
def yX2_told : MethodName := ⟨RX2, "told", "(I)I"⟩
abbrev cX2_isIn : ByteArray := prog_4_method_5_code
def yX2_isIn : MethodName := ⟨RX2, "isIn", "(III)Z"⟩
abbrev cX2_isVoice : ByteArray := prog_4_method_6_code
def yX2_isVoice : MethodName := ⟨RX2, "isVoice", "(I)Z"⟩
abbrev cX2_isSign : ByteArray := prog_4_method_7_code
def yX2_isSign : MethodName := ⟨RX2, "isSign", "(II)Z"⟩
abbrev cX2_isMeasure : ByteArray := prog_4_method_8_code
def yX2_isMeasure : MethodName := ⟨RX2, "isMeasure", "(III)Z"⟩
abbrev cX2_set : ByteArray := prog_4_method_9_code
def yX2_set : MethodName := ⟨RX2, "set", "(IIII)V"⟩
abbrev cX2_put : ByteArray := prog_4_method_10_code
def yX2_put : MethodName := ⟨RX2, "put", "(IIIZI)V"⟩
abbrev cX2_lasts : ByteArray := prog_4_method_11_code
def yX2_lasts : MethodName := ⟨RX2, "lasts", "(II)I"⟩
abbrev cX2_all : ByteArray := prog_4_method_12_code
def yX2_all : MethodName := ⟨RX2, "all", "(I)I"⟩
abbrev cX2_lay : ByteArray := prog_4_method_13_code
def yX2_lay : MethodName := ⟨RX2, "lay", "(I[I)I"⟩
abbrev cX2_isClash : ByteArray := prog_4_method_14_code
def yX2_isClash : MethodName := ⟨RX2, "isClash", "(I)Z"⟩
abbrev cX2_clash : ByteArray := prog_4_method_15_code
def yX2_clash : MethodName := ⟨RX2, "clash", "(IIIIZ)I"⟩
abbrev cX2_addVoice : ByteArray := prog_4_method_16_code
def yX2_addVoice : MethodName := ⟨RX2, "addVoice", "(III)I"⟩
abbrev cX2_addNote : ByteArray := prog_4_method_17_code
def yX2_addNote : MethodName := ⟨RX2, "addNote", "(IIIZ)I"⟩
abbrev cX2_addRest : ByteArray := prog_4_method_18_code
def yX2_addRest : MethodName := ⟨RX2, "addRest", "(II)I"⟩
abbrev cX2_addLigature : ByteArray := prog_4_method_19_code
def yX2_addLigature : MethodName := ⟨RX2, "addLigature", "(IIIIZ)I"⟩
abbrev cX2_erase : ByteArray := prog_4_method_20_code
def yX2_erase : MethodName := ⟨RX2, "erase", "(I)I"⟩
abbrev cX2_recolour : ByteArray := prog_4_method_21_code
def yX2_recolour : MethodName := ⟨RX2, "recolour", "(II)Z"⟩
abbrev cX2_setClef : ByteArray := prog_4_method_22_code
def yX2_setClef : MethodName := ⟨RX2, "setClef", "(II)I"⟩
abbrev cX2_setMensuration : ByteArray := prog_4_method_23_code
def yX2_setMensuration : MethodName := ⟨RX2, "setMensuration", "(IIII)I"⟩
abbrev cX2_voices : ByteArray := prog_4_method_24_code
def yX2_voices : MethodName := ⟨RX2, "voices", "()I"⟩
abbrev cX2_signs : ByteArray := prog_4_method_25_code
def yX2_signs : MethodName := ⟨RX2, "signs", "(I)I"⟩
abbrev cX2_count : ByteArray := prog_4_method_26_code
def yX2_count : MethodName := ⟨RX2, "count", "(IZ)I"⟩
abbrev cX2_notes : ByteArray := prog_4_method_27_code
def yX2_notes : MethodName := ⟨RX2, "notes", "(I)I"⟩
abbrev cX2_ligatures : ByteArray := prog_4_method_28_code
def yX2_ligatures : MethodName := ⟨RX2, "ligatures", "(I)I"⟩
abbrev cX2_of : ByteArray := prog_4_method_29_code
def yX2_of : MethodName := ⟨RX2, "of", "(II[I)I"⟩
abbrev cX2_kindOf : ByteArray := prog_4_method_30_code
def yX2_kindOf : MethodName := ⟨RX2, "kindOf", "(II)I"⟩
abbrev cX2_placeOf : ByteArray := prog_4_method_31_code
def yX2_placeOf : MethodName := ⟨RX2, "placeOf", "(II)I"⟩
abbrev cX2_isColoured : ByteArray := prog_4_method_32_code
def yX2_isColoured : MethodName := ⟨RX2, "isColoured", "(II)Z"⟩
abbrev cX2_placeInLigature : ByteArray := prog_4_method_33_code
def yX2_placeInLigature : MethodName := ⟨RX2, "placeInLigature", "(II)I"⟩
abbrev cX2_lengthOf : ByteArray := prog_4_method_34_code
def yX2_lengthOf : MethodName := ⟨RX2, "lengthOf", "(II)I"⟩
abbrev cX2_begins : ByteArray := prog_4_method_35_code
def yX2_begins : MethodName := ⟨RX2, "begins", "(II)I"⟩
abbrev cX2_beginOf : ByteArray := prog_4_method_36_code
def yX2_beginOf : MethodName := ⟨RX2, "beginOf", "(II)I"⟩
abbrev cX2_length : ByteArray := prog_4_method_37_code
def yX2_length : MethodName := ⟨RX2, "length", "(I)I"⟩
abbrev cX2_most : ByteArray := prog_4_method_38_code
def yX2_most : MethodName := ⟨RX2, "most", "()I"⟩
abbrev cX2_longest : ByteArray := prog_4_method_39_code
def yX2_longest : MethodName := ⟨RX2, "longest", "()I"⟩
abbrev cX2_signAt : ByteArray := prog_4_method_40_code
def yX2_signAt : MethodName := ⟨RX2, "signAt", "(II)I"⟩
abbrev cX2_clefOf : ByteArray := prog_4_method_41_code
def yX2_clefOf : MethodName := ⟨RX2, "clefOf", "(I)I"⟩
abbrev cX2_pitchOf : ByteArray := prog_4_method_42_code
def yX2_pitchOf : MethodName := ⟨RX2, "pitchOf", "(II)I"⟩
abbrev cX2_fit : ByteArray := prog_4_method_43_code
def yX2_fit : MethodName := ⟨RX2, "fit", "(II)Z"⟩
abbrev cX2_fits : ByteArray := prog_4_method_44_code
def yX2_fits : MethodName := ⟨RX2, "fits", "(II)Z"⟩
abbrev cX2_fitting : ByteArray := prog_4_method_45_code
def yX2_fitting : MethodName := ⟨RX2, "fitting", "(I)I"⟩
abbrev cX2_clefsThatFit : ByteArray := prog_4_method_46_code
def yX2_clefsThatFit : MethodName := ⟨RX2, "clefsThatFit", "(I)I"⟩
abbrev cX2_both : ByteArray := prog_4_method_47_code
def yX2_both : MethodName := ⟨RX2, "both", "(IIZ)I"⟩
abbrev cX2_clashes : ByteArray := prog_4_method_48_code
def yX2_clashes : MethodName := ⟨RX2, "clashes", "(II)I"⟩
abbrev cX2_firstClash : ByteArray := prog_4_method_49_code
def yX2_firstClash : MethodName := ⟨RX2, "firstClash", "(II)I"⟩
abbrev cX2_withAll : ByteArray := prog_4_method_50_code
def yX2_withAll : MethodName := ⟨RX2, "withAll", "(II)I"⟩
abbrev cX2_clashesWith : ByteArray := prog_4_method_51_code
def yX2_clashesWith : MethodName := ⟨RX2, "clashesWith", "(II)I"⟩
abbrev cX2_best : ByteArray := prog_4_method_52_code
def yX2_best : MethodName := ⟨RX2, "best", "(I)I"⟩
abbrev cX2_bestClef : ByteArray := prog_4_method_53_code
def yX2_bestClef : MethodName := ⟨RX2, "bestClef", "(I)I"⟩
abbrev cX2_canon : ByteArray := prog_4_method_54_code
def yX2_canon : MethodName := ⟨RX2, "canon", "(III)I"⟩
abbrev cX2_canonClashes : ByteArray := prog_4_method_55_code
def yX2_canonClashes : MethodName := ⟨RX2, "canonClashes", "(III)I"⟩
abbrev cX2_delay : ByteArray := prog_4_method_56_code
def yX2_delay : MethodName := ⟨RX2, "delay", "(II)I"⟩
abbrev cX2_bestDelay : ByteArray := prog_4_method_57_code
def yX2_bestDelay : MethodName := ⟨RX2, "bestDelay", "(II)I"⟩
abbrev cX2_meanLength : ByteArray := prog_4_method_58_code
def yX2_meanLength : MethodName := ⟨RX2, "meanLength", "()D"⟩
abbrev cX2_digest : ByteArray := prog_4_method_59_code
def yX2_digest : MethodName := ⟨RX2, "digest", "()J"⟩
def RJ9 : String := "java/lang/Math"
def TJ9 : u_T := fun k => match k with
  | _ => ("", "", "", false)
def tyJ9 : Nat → FieldType := fun k => match k with
  | _ => .int
abbrev wsJ90 : List Cond := u_ws RJ9 TJ9 0
theorem nmJ9 : ∀ a, a < 0 → ∀ b, b < 0 → a ≠ b → (TJ9 a).2.1 ≠ (TJ9 b).2.1 := by decide +kernel
theorem tyJ9_ok : ∀ k, k < 0 → parseFieldDescriptor (TJ9 k).2.2.1 = some (tyJ9 k) := by decide +kernel
abbrev cJ9_abs_0f7a4 : ByteArray := prog_9_method_59_code
def yJ9_abs_0f7a4 : MethodName := ⟨RJ9, "abs", "(I)I"⟩
abbrev cJ9_max_7cf53 : ByteArray := prog_9_method_65_code
def yJ9_max_7cf53 : MethodName := ⟨RJ9, "max", "(II)I"⟩
abbrev cJ9_min_7cf53 : ByteArray := prog_9_method_69_code
def yJ9_min_7cf53 : MethodName := ⟨RJ9, "min", "(II)I"⟩
def RJ0 : String := "java/lang/String"
def TJ0 : u_T := fun k => match k with
  | _ => ("", "", "", false)
def tyJ0 : Nat → FieldType := fun k => match k with
  | _ => .int
abbrev wsJ00 : List Cond := u_ws RJ0 TJ0 0
theorem nmJ0 : ∀ a, a < 0 → ∀ b, b < 0 → a ≠ b → (TJ0 a).2.1 ≠ (TJ0 b).2.1 := by decide +kernel
theorem tyJ0_ok : ∀ k, k < 0 → parseFieldDescriptor (TJ0 k).2.2.1 = some (tyJ0 k) := by decide +kernel
def wsX0_init : List Cond := .code yX0_init cX0_init 1 none :: ([.methodLink RX0 3 objectInit, .instanceMethod objectInit, .code objectInit ⟨#[0xb1]⟩ 1 none, .fieldLink RX0 9 "ChoirNotes$Voice" "clef" "I", .arrayClass .int, .fieldLink RX0 15 "ChoirNotes$Voice" "kinds" "[I", .fieldLink RX0 19 "ChoirNotes$Voice" "places" "[I", .arrayClass .boolean, .fieldLink RX0 22 "ChoirNotes$Voice" "colours" "[Z", .fieldLink RX0 26 "ChoirNotes$Voice" "ranks" "[I", .fieldLink RX0 29 "ChoirNotes$Voice" "begins" "[I"] ++ wsX00)
def wsX0_minimsByKind : List Cond := .code yX0_minimsByKind cX0_minimsByKind 3 (some .int) :: ([.fieldLink RX0 32 "ChoirNotes$Voice" "brevesInLonga" "I", .fieldLink RX0 35 "ChoirNotes$Voice" "semibrevesInBreve" "I", .fieldLink RX0 38 "ChoirNotes$Voice" "minimsInSemibreve" "I"] ++ wsX00)
def wsX0_timeFrom : List Cond := .code yX0_timeFrom cX0_timeFrom 3 none :: ([.fieldLink RX0 45 "ChoirNotes$Voice" "count" "I", .fieldLink RX0 29 "ChoirNotes$Voice" "begins" "[I", .fieldLink RX0 15 "ChoirNotes$Voice" "kinds" "[I", .fieldLink RX0 22 "ChoirNotes$Voice" "colours" "[Z", .methodLink RX0 48 yX0_minimsByKind, .instanceMethod yX0_minimsByKind, .selects RX0 yX0_minimsByKind yX0_minimsByKind, .initialized RX0, .code yX0_minimsByKind cX0_minimsByKind 3 (some .int), .fieldLink RX0 32 "ChoirNotes$Voice" "brevesInLonga" "I", .fieldLink RX0 35 "ChoirNotes$Voice" "semibrevesInBreve" "I", .fieldLink RX0 38 "ChoirNotes$Voice" "minimsInSemibreve" "I"] ++ wsX00)
def wsX0_measure : List Cond := .code yX0_measure cX0_measure 4 none :: ([.fieldLink RX0 32 "ChoirNotes$Voice" "brevesInLonga" "I", .fieldLink RX0 35 "ChoirNotes$Voice" "semibrevesInBreve" "I", .fieldLink RX0 38 "ChoirNotes$Voice" "minimsInSemibreve" "I", .methodLink RX0 41 yX0_timeFrom, .instanceMethod yX0_timeFrom, .selects RX0 yX0_timeFrom yX0_timeFrom, .initialized RX0, .code yX0_timeFrom cX0_timeFrom 3 none, .fieldLink RX0 45 "ChoirNotes$Voice" "count" "I", .fieldLink RX0 29 "ChoirNotes$Voice" "begins" "[I", .fieldLink RX0 15 "ChoirNotes$Voice" "kinds" "[I", .fieldLink RX0 22 "ChoirNotes$Voice" "colours" "[Z", .methodLink RX0 48 yX0_minimsByKind, .instanceMethod yX0_minimsByKind, .selects RX0 yX0_minimsByKind yX0_minimsByKind, .code yX0_minimsByKind cX0_minimsByKind 3 (some .int)] ++ wsX00)
def wsX0_append : List Cond := .code yX0_append cX0_append 6 (some .int) :: ([.fieldLink RX0 45 "ChoirNotes$Voice" "count" "I", .fieldLink RX0 15 "ChoirNotes$Voice" "kinds" "[I", .fieldLink RX0 19 "ChoirNotes$Voice" "places" "[I", .fieldLink RX0 22 "ChoirNotes$Voice" "colours" "[Z", .fieldLink RX0 26 "ChoirNotes$Voice" "ranks" "[I", .methodLink RX0 41 yX0_timeFrom, .instanceMethod yX0_timeFrom, .selects RX0 yX0_timeFrom yX0_timeFrom, .initialized RX0, .code yX0_timeFrom cX0_timeFrom 3 none, .fieldLink RX0 29 "ChoirNotes$Voice" "begins" "[I", .methodLink RX0 48 yX0_minimsByKind, .instanceMethod yX0_minimsByKind, .selects RX0 yX0_minimsByKind yX0_minimsByKind, .code yX0_minimsByKind cX0_minimsByKind 3 (some .int), .fieldLink RX0 32 "ChoirNotes$Voice" "brevesInLonga" "I", .fieldLink RX0 35 "ChoirNotes$Voice" "semibrevesInBreve" "I", .fieldLink RX0 38 "ChoirNotes$Voice" "minimsInSemibreve" "I"] ++ wsX00)
def wsX0_dropLast : List Cond := .code yX0_dropLast cX0_dropLast 3 (some .int) :: ([.fieldLink RX0 26 "ChoirNotes$Voice" "ranks" "[I", .fieldLink RX0 45 "ChoirNotes$Voice" "count" "I"] ++ wsX00)
def wsX0_turnColour : List Cond := .code yX0_turnColour cX0_turnColour 2 (some .boolean) :: ([.fieldLink RX0 22 "ChoirNotes$Voice" "colours" "[Z", .methodLink RX0 41 yX0_timeFrom, .instanceMethod yX0_timeFrom, .selects RX0 yX0_timeFrom yX0_timeFrom, .initialized RX0, .code yX0_timeFrom cX0_timeFrom 3 none, .fieldLink RX0 45 "ChoirNotes$Voice" "count" "I", .fieldLink RX0 29 "ChoirNotes$Voice" "begins" "[I", .fieldLink RX0 15 "ChoirNotes$Voice" "kinds" "[I", .methodLink RX0 48 yX0_minimsByKind, .instanceMethod yX0_minimsByKind, .selects RX0 yX0_minimsByKind yX0_minimsByKind, .code yX0_minimsByKind cX0_minimsByKind 3 (some .int), .fieldLink RX0 32 "ChoirNotes$Voice" "brevesInLonga" "I", .fieldLink RX0 35 "ChoirNotes$Voice" "semibrevesInBreve" "I", .fieldLink RX0 38 "ChoirNotes$Voice" "minimsInSemibreve" "I"] ++ wsX00)
def wsX0_minimsOf : List Cond := .code yX0_minimsOf cX0_minimsOf 2 (some .int) :: ([.fieldLink RX0 29 "ChoirNotes$Voice" "begins" "[I"] ++ wsX00)
def wsX0_end : List Cond := .code yX0_end cX0_end 1 (some .int) :: ([.fieldLink RX0 29 "ChoirNotes$Voice" "begins" "[I", .fieldLink RX0 45 "ChoirNotes$Voice" "count" "I"] ++ wsX00)
def wsX0_signLastingAt : List Cond := .code yX0_signLastingAt cX0_signLastingAt 3 (some .int) :: ([.fieldLink RX0 45 "ChoirNotes$Voice" "count" "I", .fieldLink RX0 29 "ChoirNotes$Voice" "begins" "[I"] ++ wsX00)
def wsX0_isRest : List Cond := .code yX0_isRest cX0_isRest 2 (some .boolean) :: ([.fieldLink RX0 19 "ChoirNotes$Voice" "places" "[I"] ++ wsX00)
def wsX0_countNotes : List Cond := .code yX0_countNotes cX0_countNotes 3 (some .int) :: ([.fieldLink RX0 45 "ChoirNotes$Voice" "count" "I", .methodLink RX0 52 yX0_isRest, .instanceMethod yX0_isRest, .selects RX0 yX0_isRest yX0_isRest, .initialized RX0, .code yX0_isRest cX0_isRest 2 (some .boolean), .fieldLink RX0 19 "ChoirNotes$Voice" "places" "[I"] ++ wsX00)
def wsX0_countLigatures : List Cond := .code yX0_countLigatures cX0_countLigatures 3 (some .int) :: ([.fieldLink RX0 45 "ChoirNotes$Voice" "count" "I", .fieldLink RX0 26 "ChoirNotes$Voice" "ranks" "[I"] ++ wsX00)
def wsX0_wouldFit : List Cond := .code yX0_wouldFit cX0_wouldFit 4 (some .boolean) :: ([.fieldLink RX0 45 "ChoirNotes$Voice" "count" "I", .fieldLink RX0 19 "ChoirNotes$Voice" "places" "[I", .methodLink RX0 52 yX0_isRest, .instanceMethod yX0_isRest, .selects RX0 yX0_isRest yX0_isRest, .initialized RX0, .code yX0_isRest cX0_isRest 2 (some .boolean)] ++ wsX00)
def wsX0_countFittingClefs : List Cond := .code yX0_countFittingClefs cX0_countFittingClefs 3 (some .int) :: ([.methodLink RX0 56 yX0_wouldFit, .instanceMethod yX0_wouldFit, .selects RX0 yX0_wouldFit yX0_wouldFit, .initialized RX0, .code yX0_wouldFit cX0_wouldFit 4 (some .boolean), .fieldLink RX0 45 "ChoirNotes$Voice" "count" "I", .fieldLink RX0 19 "ChoirNotes$Voice" "places" "[I", .methodLink RX0 52 yX0_isRest, .instanceMethod yX0_isRest, .selects RX0 yX0_isRest yX0_isRest, .code yX0_isRest cX0_isRest 2 (some .boolean)] ++ wsX00)
def wsX1_init : List Cond := .code yX1_init cX1_init 2 none :: ([.methodLink RX1 1 objectInit, .instanceMethod objectInit, .code objectInit ⟨#[0xb1]⟩ 1 none, .classLink RX1 9 RX0, .fieldLink RX1 11 "ChoirNotes" "book" "[LChoirNotes$Voice;", .instantiable RX0 10, .initialized RX0, .instanceMethod yX0_init, .code yX0_init cX0_init 1 none, .methodLink RX0 3 objectInit, .fieldLink RX0 9 "ChoirNotes$Voice" "clef" "I", .arrayClass .int, .fieldLink RX0 15 "ChoirNotes$Voice" "kinds" "[I", .fieldLink RX0 19 "ChoirNotes$Voice" "places" "[I", .arrayClass .boolean, .fieldLink RX0 22 "ChoirNotes$Voice" "colours" "[Z", .fieldLink RX0 26 "ChoirNotes$Voice" "ranks" "[I", .fieldLink RX0 29 "ChoirNotes$Voice" "begins" "[I"] ++ wsX10 ++ wsX00)
def wsX1_checkRange : List Cond := .code yX1_checkRange cX1_checkRange 3 none :: ([.classLink RX1 179 "java/lang/IllegalArgumentException", .initialized "java/lang/IllegalArgumentException"] ++ (vx_atS RX1 183 "java/lang/IllegalArgumentException" ["java/lang/RuntimeException", "java/lang/Exception"]).filter goodWord)
def wsX1_checkMensuration : List Cond := .code yX1_checkMensuration cX1_checkMensuration 3 none :: ([.methodLink RX1 38 yX1_checkRange, .static yX1_checkRange, .initialized RX1, .code yX1_checkRange cX1_checkRange 3 none, .classLink RX1 179 "java/lang/IllegalArgumentException", .initialized "java/lang/IllegalArgumentException"] ++ (vx_atS RX1 183 "java/lang/IllegalArgumentException" ["java/lang/RuntimeException", "java/lang/Exception"]).filter goodWord)
def wsX1_addVoice_r1 : List Cond := [Cond.classLink RX1 24 "java/lang/IllegalStateException", Cond.initialized "java/lang/IllegalStateException", Cond.fieldLink RX1 20 "ChoirNotes" "voiceCount" "I", Cond.fieldLink RX1 11 "ChoirNotes" "book" "[LChoirNotes$Voice;", Cond.methodLink RX1 16 yX1_checkMensuration, Cond.static yX1_checkMensuration, Cond.initialized RX1, Cond.code yX1_checkMensuration cX1_checkMensuration 3 none, Cond.methodLink RX1 38 yX1_checkRange, Cond.static yX1_checkRange, Cond.code yX1_checkRange cX1_checkRange 3 none, Cond.classLink RX1 179 "java/lang/IllegalArgumentException", Cond.initialized "java/lang/IllegalArgumentException", Cond.instanceMethod yX0_measure, Cond.initialized RX0, Cond.selects RX0 yX0_measure yX0_measure, Cond.code yX0_measure cX0_measure 4 none, Cond.fieldLink RX0 32 "ChoirNotes$Voice" "brevesInLonga" "I", Cond.fieldLink RX0 35 "ChoirNotes$Voice" "semibrevesInBreve" "I", Cond.fieldLink RX0 38 "ChoirNotes$Voice" "minimsInSemibreve" "I", Cond.methodLink RX0 41 yX0_timeFrom, Cond.instanceMethod yX0_timeFrom, Cond.selects RX0 yX0_timeFrom yX0_timeFrom, Cond.code yX0_timeFrom cX0_timeFrom 3 none]
def wsX1_addVoice_r2 : List Cond := [Cond.fieldLink RX0 45 "ChoirNotes$Voice" "count" "I", Cond.fieldLink RX0 29 "ChoirNotes$Voice" "begins" "[I", Cond.fieldLink RX0 15 "ChoirNotes$Voice" "kinds" "[I", Cond.fieldLink RX0 22 "ChoirNotes$Voice" "colours" "[Z", Cond.methodLink RX0 48 yX0_minimsByKind, Cond.instanceMethod yX0_minimsByKind, Cond.selects RX0 yX0_minimsByKind yX0_minimsByKind, Cond.code yX0_minimsByKind cX0_minimsByKind 3 (some .int)]
def wsX1_addVoice : List Cond := .code yX1_addVoice cX1_addVoice 4 (some .int) :: ((wsX1_addVoice_r1 ++ wsX1_addVoice_r2) ++ wsX10 ++ wsX00 ++ (vx_atS RX1 28 "java/lang/IllegalStateException" ["java/lang/RuntimeException", "java/lang/Exception"]).filter goodWord ++ (vx_atS RX1 183 "java/lang/IllegalArgumentException" ["java/lang/RuntimeException", "java/lang/Exception"]).filter goodWord)
def wsX1_knownVoice : List Cond := .code yX1_knownVoice cX1_knownVoice 2 (some (.object "ChoirNotes$Voice")) :: ([.classLink RX1 172 "java/lang/IndexOutOfBoundsException", .initialized "java/lang/IndexOutOfBoundsException", .fieldLink RX1 20 "ChoirNotes" "voiceCount" "I", .fieldLink RX1 11 "ChoirNotes" "book" "[LChoirNotes$Voice;"] ++ wsX10 ++ (vx_atS RX1 176 "java/lang/IndexOutOfBoundsException" ["java/lang/RuntimeException", "java/lang/Exception"]).filter goodWord)
def wsX1_checkRoom : List Cond := .code yX1_checkRoom cX1_checkRoom 2 none :: ([.classLink RX1 24 "java/lang/IllegalStateException", .initialized "java/lang/IllegalStateException"] ++ wsX00 ++ (vx_atS RX1 28 "java/lang/IllegalStateException" ["java/lang/RuntimeException", "java/lang/Exception"]).filter goodWord)
def wsX1_addNote_r1 : List Cond := [Cond.methodLink RX1 34 yX1_knownVoice, Cond.instanceMethod yX1_knownVoice, Cond.selects RX1 yX1_knownVoice yX1_knownVoice, Cond.initialized RX1, Cond.code yX1_knownVoice cX1_knownVoice 2 (some (.object "ChoirNotes$Voice")), Cond.classLink RX1 172 "java/lang/IndexOutOfBoundsException", Cond.initialized "java/lang/IndexOutOfBoundsException", Cond.fieldLink RX1 20 "ChoirNotes" "voiceCount" "I", Cond.fieldLink RX1 11 "ChoirNotes" "book" "[LChoirNotes$Voice;", Cond.methodLink RX1 38 yX1_checkRange, Cond.static yX1_checkRange, Cond.code yX1_checkRange cX1_checkRange 3 none, Cond.classLink RX1 179 "java/lang/IllegalArgumentException", Cond.initialized "java/lang/IllegalArgumentException", Cond.methodLink RX1 41 yX1_checkRoom, Cond.static yX1_checkRoom, Cond.code yX1_checkRoom cX1_checkRoom 2 none, Cond.classLink RX1 24 "java/lang/IllegalStateException", Cond.initialized "java/lang/IllegalStateException", Cond.instanceMethod yX0_append, Cond.initialized RX0, Cond.selects RX0 yX0_append yX0_append, Cond.code yX0_append cX0_append 6 (some .int), Cond.fieldLink RX0 45 "ChoirNotes$Voice" "count" "I"]
def wsX1_addNote_r2 : List Cond := [Cond.fieldLink RX0 15 "ChoirNotes$Voice" "kinds" "[I", Cond.fieldLink RX0 19 "ChoirNotes$Voice" "places" "[I", Cond.fieldLink RX0 22 "ChoirNotes$Voice" "colours" "[Z", Cond.fieldLink RX0 26 "ChoirNotes$Voice" "ranks" "[I", Cond.methodLink RX0 41 yX0_timeFrom, Cond.instanceMethod yX0_timeFrom, Cond.selects RX0 yX0_timeFrom yX0_timeFrom, Cond.code yX0_timeFrom cX0_timeFrom 3 none, Cond.fieldLink RX0 29 "ChoirNotes$Voice" "begins" "[I", Cond.methodLink RX0 48 yX0_minimsByKind, Cond.instanceMethod yX0_minimsByKind, Cond.selects RX0 yX0_minimsByKind yX0_minimsByKind, Cond.code yX0_minimsByKind cX0_minimsByKind 3 (some .int), Cond.fieldLink RX0 32 "ChoirNotes$Voice" "brevesInLonga" "I", Cond.fieldLink RX0 35 "ChoirNotes$Voice" "semibrevesInBreve" "I", Cond.fieldLink RX0 38 "ChoirNotes$Voice" "minimsInSemibreve" "I"]
def wsX1_addNote : List Cond := .code yX1_addNote cX1_addNote 6 (some .int) :: ((wsX1_addNote_r1 ++ wsX1_addNote_r2) ++ wsX10 ++ wsX00 ++ (vx_atS RX1 176 "java/lang/IndexOutOfBoundsException" ["java/lang/RuntimeException", "java/lang/Exception"]).filter goodWord ++ (vx_atS RX1 183 "java/lang/IllegalArgumentException" ["java/lang/RuntimeException", "java/lang/Exception"]).filter goodWord ++ (vx_atS RX1 28 "java/lang/IllegalStateException" ["java/lang/RuntimeException", "java/lang/Exception"]).filter goodWord)
def wsX1_addRest_r1 : List Cond := [Cond.methodLink RX1 34 yX1_knownVoice, Cond.instanceMethod yX1_knownVoice, Cond.selects RX1 yX1_knownVoice yX1_knownVoice, Cond.initialized RX1, Cond.code yX1_knownVoice cX1_knownVoice 2 (some (.object "ChoirNotes$Voice")), Cond.classLink RX1 172 "java/lang/IndexOutOfBoundsException", Cond.initialized "java/lang/IndexOutOfBoundsException", Cond.fieldLink RX1 20 "ChoirNotes" "voiceCount" "I", Cond.fieldLink RX1 11 "ChoirNotes" "book" "[LChoirNotes$Voice;", Cond.methodLink RX1 38 yX1_checkRange, Cond.static yX1_checkRange, Cond.code yX1_checkRange cX1_checkRange 3 none, Cond.classLink RX1 179 "java/lang/IllegalArgumentException", Cond.initialized "java/lang/IllegalArgumentException", Cond.methodLink RX1 41 yX1_checkRoom, Cond.static yX1_checkRoom, Cond.code yX1_checkRoom cX1_checkRoom 2 none, Cond.classLink RX1 24 "java/lang/IllegalStateException", Cond.initialized "java/lang/IllegalStateException", Cond.instanceMethod yX0_append, Cond.initialized RX0, Cond.selects RX0 yX0_append yX0_append, Cond.code yX0_append cX0_append 6 (some .int), Cond.fieldLink RX0 45 "ChoirNotes$Voice" "count" "I"]
def wsX1_addRest_r2 : List Cond := [Cond.fieldLink RX0 15 "ChoirNotes$Voice" "kinds" "[I", Cond.fieldLink RX0 19 "ChoirNotes$Voice" "places" "[I", Cond.fieldLink RX0 22 "ChoirNotes$Voice" "colours" "[Z", Cond.fieldLink RX0 26 "ChoirNotes$Voice" "ranks" "[I", Cond.methodLink RX0 41 yX0_timeFrom, Cond.instanceMethod yX0_timeFrom, Cond.selects RX0 yX0_timeFrom yX0_timeFrom, Cond.code yX0_timeFrom cX0_timeFrom 3 none, Cond.fieldLink RX0 29 "ChoirNotes$Voice" "begins" "[I", Cond.methodLink RX0 48 yX0_minimsByKind, Cond.instanceMethod yX0_minimsByKind, Cond.selects RX0 yX0_minimsByKind yX0_minimsByKind, Cond.code yX0_minimsByKind cX0_minimsByKind 3 (some .int), Cond.fieldLink RX0 32 "ChoirNotes$Voice" "brevesInLonga" "I", Cond.fieldLink RX0 35 "ChoirNotes$Voice" "semibrevesInBreve" "I", Cond.fieldLink RX0 38 "ChoirNotes$Voice" "minimsInSemibreve" "I"]
def wsX1_addRest : List Cond := .code yX1_addRest cX1_addRest 4 (some .int) :: ((wsX1_addRest_r1 ++ wsX1_addRest_r2) ++ wsX10 ++ wsX00 ++ (vx_atS RX1 176 "java/lang/IndexOutOfBoundsException" ["java/lang/RuntimeException", "java/lang/Exception"]).filter goodWord ++ (vx_atS RX1 183 "java/lang/IllegalArgumentException" ["java/lang/RuntimeException", "java/lang/Exception"]).filter goodWord ++ (vx_atS RX1 28 "java/lang/IllegalStateException" ["java/lang/RuntimeException", "java/lang/Exception"]).filter goodWord)
def wsX1_checkLigature : List Cond := .code yX1_checkLigature cX1_checkLigature 3 none :: ([.classLink RX1 179 "java/lang/IllegalArgumentException", .initialized "java/lang/IllegalArgumentException", .methodLink RX1 38 yX1_checkRange, .static yX1_checkRange, .initialized RX1, .code yX1_checkRange cX1_checkRange 3 none] ++ (vx_atS RX1 183 "java/lang/IllegalArgumentException" ["java/lang/RuntimeException", "java/lang/Exception"]).filter goodWord)
def wsX1_lastKind : List Cond := .code yX1_lastKind cX1_lastKind 2 (some .int) :: ([])
def wsX1_firstKind : List Cond := .code yX1_firstKind cX1_firstKind 3 (some .int) :: ([.methodLink RX1 60 yX1_lastKind, .static yX1_lastKind, .initialized RX1, .code yX1_lastKind cX1_lastKind 2 (some .int)])
def wsX1_secondKind : List Cond := .code yX1_secondKind cX1_secondKind 4 (some .int) :: ([.methodLink RX1 60 yX1_lastKind, .static yX1_lastKind, .initialized RX1, .code yX1_lastKind cX1_lastKind 2 (some .int)])
def wsX1_addLigature_r1 : List Cond := [Cond.methodLink RX1 34 yX1_knownVoice, Cond.instanceMethod yX1_knownVoice, Cond.selects RX1 yX1_knownVoice yX1_knownVoice, Cond.initialized RX1, Cond.code yX1_knownVoice cX1_knownVoice 2 (some (.object "ChoirNotes$Voice")), Cond.classLink RX1 172 "java/lang/IndexOutOfBoundsException", Cond.initialized "java/lang/IndexOutOfBoundsException", Cond.fieldLink RX1 20 "ChoirNotes" "voiceCount" "I", Cond.fieldLink RX1 11 "ChoirNotes" "book" "[LChoirNotes$Voice;", Cond.methodLink RX1 49 yX1_checkLigature, Cond.static yX1_checkLigature, Cond.code yX1_checkLigature cX1_checkLigature 3 none, Cond.classLink RX1 179 "java/lang/IllegalArgumentException", Cond.initialized "java/lang/IllegalArgumentException", Cond.methodLink RX1 38 yX1_checkRange, Cond.static yX1_checkRange, Cond.code yX1_checkRange cX1_checkRange 3 none, Cond.methodLink RX1 41 yX1_checkRoom, Cond.static yX1_checkRoom, Cond.code yX1_checkRoom cX1_checkRoom 2 none, Cond.classLink RX1 24 "java/lang/IllegalStateException", Cond.initialized "java/lang/IllegalStateException", Cond.methodLink RX1 52 yX1_firstKind, Cond.static yX1_firstKind]
def wsX1_addLigature_r2 : List Cond := [Cond.code yX1_firstKind cX1_firstKind 3 (some .int), Cond.methodLink RX1 60 yX1_lastKind, Cond.static yX1_lastKind, Cond.code yX1_lastKind cX1_lastKind 2 (some .int), Cond.instanceMethod yX0_append, Cond.initialized RX0, Cond.selects RX0 yX0_append yX0_append, Cond.code yX0_append cX0_append 6 (some .int), Cond.fieldLink RX0 45 "ChoirNotes$Voice" "count" "I", Cond.fieldLink RX0 15 "ChoirNotes$Voice" "kinds" "[I", Cond.fieldLink RX0 19 "ChoirNotes$Voice" "places" "[I", Cond.fieldLink RX0 22 "ChoirNotes$Voice" "colours" "[Z", Cond.fieldLink RX0 26 "ChoirNotes$Voice" "ranks" "[I", Cond.methodLink RX0 41 yX0_timeFrom, Cond.instanceMethod yX0_timeFrom, Cond.selects RX0 yX0_timeFrom yX0_timeFrom, Cond.code yX0_timeFrom cX0_timeFrom 3 none, Cond.fieldLink RX0 29 "ChoirNotes$Voice" "begins" "[I", Cond.methodLink RX0 48 yX0_minimsByKind, Cond.instanceMethod yX0_minimsByKind, Cond.selects RX0 yX0_minimsByKind yX0_minimsByKind, Cond.code yX0_minimsByKind cX0_minimsByKind 3 (some .int), Cond.fieldLink RX0 32 "ChoirNotes$Voice" "brevesInLonga" "I", Cond.fieldLink RX0 35 "ChoirNotes$Voice" "semibrevesInBreve" "I"]
def wsX1_addLigature_r3 : List Cond := [Cond.fieldLink RX0 38 "ChoirNotes$Voice" "minimsInSemibreve" "I", Cond.methodLink RX1 56 yX1_secondKind, Cond.static yX1_secondKind, Cond.code yX1_secondKind cX1_secondKind 4 (some .int)]
def wsX1_addLigature : List Cond := .code yX1_addLigature cX1_addLigature 9 (some .int) :: ((wsX1_addLigature_r1 ++ (wsX1_addLigature_r2 ++ wsX1_addLigature_r3)) ++ wsX10 ++ wsX00 ++ (vx_atS RX1 176 "java/lang/IndexOutOfBoundsException" ["java/lang/RuntimeException", "java/lang/Exception"]).filter goodWord ++ (vx_atS RX1 183 "java/lang/IllegalArgumentException" ["java/lang/RuntimeException", "java/lang/Exception"]).filter goodWord ++ (vx_atS RX1 28 "java/lang/IllegalStateException" ["java/lang/RuntimeException", "java/lang/Exception"]).filter goodWord)
def wsX1_erase : List Cond := .code yX1_erase cX1_erase 3 (some .int) :: ([.classLink RX1 24 "java/lang/IllegalStateException", .initialized "java/lang/IllegalStateException", .methodLink RX1 34 yX1_knownVoice, .instanceMethod yX1_knownVoice, .selects RX1 yX1_knownVoice yX1_knownVoice, .initialized RX1, .code yX1_knownVoice cX1_knownVoice 2 (some (.object "ChoirNotes$Voice")), .classLink RX1 172 "java/lang/IndexOutOfBoundsException", .initialized "java/lang/IndexOutOfBoundsException", .fieldLink RX1 20 "ChoirNotes" "voiceCount" "I", .fieldLink RX1 11 "ChoirNotes" "book" "[LChoirNotes$Voice;", .instanceMethod yX0_dropLast, .initialized RX0, .selects RX0 yX0_dropLast yX0_dropLast, .code yX0_dropLast cX0_dropLast 3 (some .int), .fieldLink RX0 26 "ChoirNotes$Voice" "ranks" "[I", .fieldLink RX0 45 "ChoirNotes$Voice" "count" "I"] ++ wsX00 ++ wsX10 ++ (vx_atS RX1 28 "java/lang/IllegalStateException" ["java/lang/RuntimeException", "java/lang/Exception"]).filter goodWord ++ (vx_atS RX1 176 "java/lang/IndexOutOfBoundsException" ["java/lang/RuntimeException", "java/lang/Exception"]).filter goodWord)
def wsX1_voiceWithSign : List Cond := .code yX1_voiceWithSign cX1_voiceWithSign 4 (some (.object "ChoirNotes$Voice")) :: ([.classLink RX1 172 "java/lang/IndexOutOfBoundsException", .initialized "java/lang/IndexOutOfBoundsException", .methodLink RX1 34 yX1_knownVoice, .instanceMethod yX1_knownVoice, .selects RX1 yX1_knownVoice yX1_knownVoice, .initialized RX1, .code yX1_knownVoice cX1_knownVoice 2 (some (.object "ChoirNotes$Voice")), .fieldLink RX1 20 "ChoirNotes" "voiceCount" "I", .fieldLink RX1 11 "ChoirNotes" "book" "[LChoirNotes$Voice;"] ++ wsX00 ++ wsX10 ++ (vx_atS RX1 176 "java/lang/IndexOutOfBoundsException" ["java/lang/RuntimeException", "java/lang/Exception"]).filter goodWord)
def wsX1_recolour_r1 : List Cond := [Cond.classLink RX1 24 "java/lang/IllegalStateException", Cond.initialized "java/lang/IllegalStateException", Cond.methodLink RX1 73 yX1_voiceWithSign, Cond.instanceMethod yX1_voiceWithSign, Cond.selects RX1 yX1_voiceWithSign yX1_voiceWithSign, Cond.initialized RX1, Cond.code yX1_voiceWithSign cX1_voiceWithSign 4 (some (.object "ChoirNotes$Voice")), Cond.classLink RX1 172 "java/lang/IndexOutOfBoundsException", Cond.initialized "java/lang/IndexOutOfBoundsException", Cond.methodLink RX1 34 yX1_knownVoice, Cond.instanceMethod yX1_knownVoice, Cond.selects RX1 yX1_knownVoice yX1_knownVoice, Cond.code yX1_knownVoice cX1_knownVoice 2 (some (.object "ChoirNotes$Voice")), Cond.fieldLink RX1 20 "ChoirNotes" "voiceCount" "I", Cond.fieldLink RX1 11 "ChoirNotes" "book" "[LChoirNotes$Voice;", Cond.instanceMethod yX0_isRest, Cond.initialized RX0, Cond.selects RX0 yX0_isRest yX0_isRest, Cond.code yX0_isRest cX0_isRest 2 (some .boolean), Cond.fieldLink RX0 19 "ChoirNotes$Voice" "places" "[I", Cond.instanceMethod yX0_turnColour, Cond.selects RX0 yX0_turnColour yX0_turnColour, Cond.code yX0_turnColour cX0_turnColour 2 (some .boolean), Cond.fieldLink RX0 22 "ChoirNotes$Voice" "colours" "[Z"]
def wsX1_recolour_r2 : List Cond := [Cond.methodLink RX0 41 yX0_timeFrom, Cond.instanceMethod yX0_timeFrom, Cond.selects RX0 yX0_timeFrom yX0_timeFrom, Cond.code yX0_timeFrom cX0_timeFrom 3 none, Cond.fieldLink RX0 45 "ChoirNotes$Voice" "count" "I", Cond.fieldLink RX0 29 "ChoirNotes$Voice" "begins" "[I", Cond.fieldLink RX0 15 "ChoirNotes$Voice" "kinds" "[I", Cond.methodLink RX0 48 yX0_minimsByKind, Cond.instanceMethod yX0_minimsByKind, Cond.selects RX0 yX0_minimsByKind yX0_minimsByKind, Cond.code yX0_minimsByKind cX0_minimsByKind 3 (some .int), Cond.fieldLink RX0 32 "ChoirNotes$Voice" "brevesInLonga" "I", Cond.fieldLink RX0 35 "ChoirNotes$Voice" "semibrevesInBreve" "I", Cond.fieldLink RX0 38 "ChoirNotes$Voice" "minimsInSemibreve" "I"]
def wsX1_recolour : List Cond := .code yX1_recolour cX1_recolour 4 (some .boolean) :: ((wsX1_recolour_r1 ++ wsX1_recolour_r2) ++ wsX00 ++ wsX10 ++ (vx_atS RX1 28 "java/lang/IllegalStateException" ["java/lang/RuntimeException", "java/lang/Exception"]).filter goodWord ++ (vx_atS RX1 176 "java/lang/IndexOutOfBoundsException" ["java/lang/RuntimeException", "java/lang/Exception"]).filter goodWord)
def wsX1_setClef : List Cond := .code yX1_setClef cX1_setClef 5 (some .int) :: ([.methodLink RX1 34 yX1_knownVoice, .instanceMethod yX1_knownVoice, .selects RX1 yX1_knownVoice yX1_knownVoice, .initialized RX1, .code yX1_knownVoice cX1_knownVoice 2 (some (.object "ChoirNotes$Voice")), .classLink RX1 172 "java/lang/IndexOutOfBoundsException", .initialized "java/lang/IndexOutOfBoundsException", .fieldLink RX1 20 "ChoirNotes" "voiceCount" "I", .fieldLink RX1 11 "ChoirNotes" "book" "[LChoirNotes$Voice;", .methodLink RX1 38 yX1_checkRange, .static yX1_checkRange, .code yX1_checkRange cX1_checkRange 3 none, .classLink RX1 179 "java/lang/IllegalArgumentException", .initialized "java/lang/IllegalArgumentException"] ++ wsX00 ++ wsX10 ++ (vx_atS RX1 176 "java/lang/IndexOutOfBoundsException" ["java/lang/RuntimeException", "java/lang/Exception"]).filter goodWord ++ (vx_atS RX1 183 "java/lang/IllegalArgumentException" ["java/lang/RuntimeException", "java/lang/Exception"]).filter goodWord)
def wsX1_setMensuration_r1 : List Cond := [Cond.methodLink RX1 34 yX1_knownVoice, Cond.instanceMethod yX1_knownVoice, Cond.selects RX1 yX1_knownVoice yX1_knownVoice, Cond.initialized RX1, Cond.code yX1_knownVoice cX1_knownVoice 2 (some (.object "ChoirNotes$Voice")), Cond.classLink RX1 172 "java/lang/IndexOutOfBoundsException", Cond.initialized "java/lang/IndexOutOfBoundsException", Cond.fieldLink RX1 20 "ChoirNotes" "voiceCount" "I", Cond.fieldLink RX1 11 "ChoirNotes" "book" "[LChoirNotes$Voice;", Cond.methodLink RX1 16 yX1_checkMensuration, Cond.static yX1_checkMensuration, Cond.code yX1_checkMensuration cX1_checkMensuration 3 none, Cond.methodLink RX1 38 yX1_checkRange, Cond.static yX1_checkRange, Cond.code yX1_checkRange cX1_checkRange 3 none, Cond.classLink RX1 179 "java/lang/IllegalArgumentException", Cond.initialized "java/lang/IllegalArgumentException", Cond.instanceMethod yX0_measure, Cond.initialized RX0, Cond.selects RX0 yX0_measure yX0_measure, Cond.code yX0_measure cX0_measure 4 none, Cond.fieldLink RX0 32 "ChoirNotes$Voice" "brevesInLonga" "I", Cond.fieldLink RX0 35 "ChoirNotes$Voice" "semibrevesInBreve" "I", Cond.fieldLink RX0 38 "ChoirNotes$Voice" "minimsInSemibreve" "I"]
def wsX1_setMensuration_r2 : List Cond := [Cond.methodLink RX0 41 yX0_timeFrom, Cond.instanceMethod yX0_timeFrom, Cond.selects RX0 yX0_timeFrom yX0_timeFrom, Cond.code yX0_timeFrom cX0_timeFrom 3 none, Cond.fieldLink RX0 45 "ChoirNotes$Voice" "count" "I", Cond.fieldLink RX0 29 "ChoirNotes$Voice" "begins" "[I", Cond.fieldLink RX0 15 "ChoirNotes$Voice" "kinds" "[I", Cond.fieldLink RX0 22 "ChoirNotes$Voice" "colours" "[Z", Cond.methodLink RX0 48 yX0_minimsByKind, Cond.instanceMethod yX0_minimsByKind, Cond.selects RX0 yX0_minimsByKind yX0_minimsByKind, Cond.code yX0_minimsByKind cX0_minimsByKind 3 (some .int), Cond.instanceMethod yX0_end, Cond.selects RX0 yX0_end yX0_end, Cond.code yX0_end cX0_end 1 (some .int)]
def wsX1_setMensuration : List Cond := .code yX1_setMensuration cX1_setMensuration 6 (some .int) :: ((wsX1_setMensuration_r1 ++ wsX1_setMensuration_r2) ++ wsX10 ++ wsX00 ++ (vx_atS RX1 176 "java/lang/IndexOutOfBoundsException" ["java/lang/RuntimeException", "java/lang/Exception"]).filter goodWord ++ (vx_atS RX1 183 "java/lang/IllegalArgumentException" ["java/lang/RuntimeException", "java/lang/Exception"]).filter goodWord)
def wsX1_voices : List Cond := .code yX1_voices cX1_voices 1 (some .int) :: ([.fieldLink RX1 20 "ChoirNotes" "voiceCount" "I"] ++ wsX10)
def wsX1_signs : List Cond := .code yX1_signs cX1_signs 2 (some .int) :: ([.methodLink RX1 34 yX1_knownVoice, .instanceMethod yX1_knownVoice, .selects RX1 yX1_knownVoice yX1_knownVoice, .initialized RX1, .code yX1_knownVoice cX1_knownVoice 2 (some (.object "ChoirNotes$Voice")), .classLink RX1 172 "java/lang/IndexOutOfBoundsException", .initialized "java/lang/IndexOutOfBoundsException", .fieldLink RX1 20 "ChoirNotes" "voiceCount" "I", .fieldLink RX1 11 "ChoirNotes" "book" "[LChoirNotes$Voice;"] ++ wsX00 ++ wsX10 ++ (vx_atS RX1 176 "java/lang/IndexOutOfBoundsException" ["java/lang/RuntimeException", "java/lang/Exception"]).filter goodWord)
def wsX1_notes : List Cond := .code yX1_notes cX1_notes 2 (some .int) :: ([.methodLink RX1 34 yX1_knownVoice, .instanceMethod yX1_knownVoice, .selects RX1 yX1_knownVoice yX1_knownVoice, .initialized RX1, .code yX1_knownVoice cX1_knownVoice 2 (some (.object "ChoirNotes$Voice")), .classLink RX1 172 "java/lang/IndexOutOfBoundsException", .initialized "java/lang/IndexOutOfBoundsException", .fieldLink RX1 20 "ChoirNotes" "voiceCount" "I", .fieldLink RX1 11 "ChoirNotes" "book" "[LChoirNotes$Voice;", .instanceMethod yX0_countNotes, .initialized RX0, .selects RX0 yX0_countNotes yX0_countNotes, .code yX0_countNotes cX0_countNotes 3 (some .int), .fieldLink RX0 45 "ChoirNotes$Voice" "count" "I", .methodLink RX0 52 yX0_isRest, .instanceMethod yX0_isRest, .selects RX0 yX0_isRest yX0_isRest, .code yX0_isRest cX0_isRest 2 (some .boolean), .fieldLink RX0 19 "ChoirNotes$Voice" "places" "[I"] ++ wsX10 ++ wsX00 ++ (vx_atS RX1 176 "java/lang/IndexOutOfBoundsException" ["java/lang/RuntimeException", "java/lang/Exception"]).filter goodWord)
def wsX1_ligatures : List Cond := .code yX1_ligatures cX1_ligatures 2 (some .int) :: ([.methodLink RX1 34 yX1_knownVoice, .instanceMethod yX1_knownVoice, .selects RX1 yX1_knownVoice yX1_knownVoice, .initialized RX1, .code yX1_knownVoice cX1_knownVoice 2 (some (.object "ChoirNotes$Voice")), .classLink RX1 172 "java/lang/IndexOutOfBoundsException", .initialized "java/lang/IndexOutOfBoundsException", .fieldLink RX1 20 "ChoirNotes" "voiceCount" "I", .fieldLink RX1 11 "ChoirNotes" "book" "[LChoirNotes$Voice;", .instanceMethod yX0_countLigatures, .initialized RX0, .selects RX0 yX0_countLigatures yX0_countLigatures, .code yX0_countLigatures cX0_countLigatures 3 (some .int), .fieldLink RX0 45 "ChoirNotes$Voice" "count" "I", .fieldLink RX0 26 "ChoirNotes$Voice" "ranks" "[I"] ++ wsX10 ++ wsX00 ++ (vx_atS RX1 176 "java/lang/IndexOutOfBoundsException" ["java/lang/RuntimeException", "java/lang/Exception"]).filter goodWord)
def wsX1_kindOf : List Cond := .code yX1_kindOf cX1_kindOf 3 (some .int) :: ([.methodLink RX1 73 yX1_voiceWithSign, .instanceMethod yX1_voiceWithSign, .selects RX1 yX1_voiceWithSign yX1_voiceWithSign, .initialized RX1, .code yX1_voiceWithSign cX1_voiceWithSign 4 (some (.object "ChoirNotes$Voice")), .classLink RX1 172 "java/lang/IndexOutOfBoundsException", .initialized "java/lang/IndexOutOfBoundsException", .methodLink RX1 34 yX1_knownVoice, .instanceMethod yX1_knownVoice, .selects RX1 yX1_knownVoice yX1_knownVoice, .code yX1_knownVoice cX1_knownVoice 2 (some (.object "ChoirNotes$Voice")), .fieldLink RX1 20 "ChoirNotes" "voiceCount" "I", .fieldLink RX1 11 "ChoirNotes" "book" "[LChoirNotes$Voice;"] ++ wsX00 ++ wsX10 ++ (vx_atS RX1 176 "java/lang/IndexOutOfBoundsException" ["java/lang/RuntimeException", "java/lang/Exception"]).filter goodWord)
def wsX1_placeOf : List Cond := .code yX1_placeOf cX1_placeOf 3 (some .int) :: ([.methodLink RX1 73 yX1_voiceWithSign, .instanceMethod yX1_voiceWithSign, .selects RX1 yX1_voiceWithSign yX1_voiceWithSign, .initialized RX1, .code yX1_voiceWithSign cX1_voiceWithSign 4 (some (.object "ChoirNotes$Voice")), .classLink RX1 172 "java/lang/IndexOutOfBoundsException", .initialized "java/lang/IndexOutOfBoundsException", .methodLink RX1 34 yX1_knownVoice, .instanceMethod yX1_knownVoice, .selects RX1 yX1_knownVoice yX1_knownVoice, .code yX1_knownVoice cX1_knownVoice 2 (some (.object "ChoirNotes$Voice")), .fieldLink RX1 20 "ChoirNotes" "voiceCount" "I", .fieldLink RX1 11 "ChoirNotes" "book" "[LChoirNotes$Voice;"] ++ wsX00 ++ wsX10 ++ (vx_atS RX1 176 "java/lang/IndexOutOfBoundsException" ["java/lang/RuntimeException", "java/lang/Exception"]).filter goodWord)
def wsX1_isColoured : List Cond := .code yX1_isColoured cX1_isColoured 3 (some .boolean) :: ([.methodLink RX1 73 yX1_voiceWithSign, .instanceMethod yX1_voiceWithSign, .selects RX1 yX1_voiceWithSign yX1_voiceWithSign, .initialized RX1, .code yX1_voiceWithSign cX1_voiceWithSign 4 (some (.object "ChoirNotes$Voice")), .classLink RX1 172 "java/lang/IndexOutOfBoundsException", .initialized "java/lang/IndexOutOfBoundsException", .methodLink RX1 34 yX1_knownVoice, .instanceMethod yX1_knownVoice, .selects RX1 yX1_knownVoice yX1_knownVoice, .code yX1_knownVoice cX1_knownVoice 2 (some (.object "ChoirNotes$Voice")), .fieldLink RX1 20 "ChoirNotes" "voiceCount" "I", .fieldLink RX1 11 "ChoirNotes" "book" "[LChoirNotes$Voice;"] ++ wsX00 ++ wsX10 ++ (vx_atS RX1 176 "java/lang/IndexOutOfBoundsException" ["java/lang/RuntimeException", "java/lang/Exception"]).filter goodWord)
def wsX1_placeInLigature : List Cond := .code yX1_placeInLigature cX1_placeInLigature 3 (some .int) :: ([.methodLink RX1 73 yX1_voiceWithSign, .instanceMethod yX1_voiceWithSign, .selects RX1 yX1_voiceWithSign yX1_voiceWithSign, .initialized RX1, .code yX1_voiceWithSign cX1_voiceWithSign 4 (some (.object "ChoirNotes$Voice")), .classLink RX1 172 "java/lang/IndexOutOfBoundsException", .initialized "java/lang/IndexOutOfBoundsException", .methodLink RX1 34 yX1_knownVoice, .instanceMethod yX1_knownVoice, .selects RX1 yX1_knownVoice yX1_knownVoice, .code yX1_knownVoice cX1_knownVoice 2 (some (.object "ChoirNotes$Voice")), .fieldLink RX1 20 "ChoirNotes" "voiceCount" "I", .fieldLink RX1 11 "ChoirNotes" "book" "[LChoirNotes$Voice;"] ++ wsX00 ++ wsX10 ++ (vx_atS RX1 176 "java/lang/IndexOutOfBoundsException" ["java/lang/RuntimeException", "java/lang/Exception"]).filter goodWord)
def wsX1_lengthOf : List Cond := .code yX1_lengthOf cX1_lengthOf 3 (some .int) :: ([.methodLink RX1 73 yX1_voiceWithSign, .instanceMethod yX1_voiceWithSign, .selects RX1 yX1_voiceWithSign yX1_voiceWithSign, .initialized RX1, .code yX1_voiceWithSign cX1_voiceWithSign 4 (some (.object "ChoirNotes$Voice")), .classLink RX1 172 "java/lang/IndexOutOfBoundsException", .initialized "java/lang/IndexOutOfBoundsException", .methodLink RX1 34 yX1_knownVoice, .instanceMethod yX1_knownVoice, .selects RX1 yX1_knownVoice yX1_knownVoice, .code yX1_knownVoice cX1_knownVoice 2 (some (.object "ChoirNotes$Voice")), .fieldLink RX1 20 "ChoirNotes" "voiceCount" "I", .fieldLink RX1 11 "ChoirNotes" "book" "[LChoirNotes$Voice;", .instanceMethod yX0_minimsOf, .initialized RX0, .selects RX0 yX0_minimsOf yX0_minimsOf, .code yX0_minimsOf cX0_minimsOf 2 (some .int), .fieldLink RX0 29 "ChoirNotes$Voice" "begins" "[I"] ++ wsX00 ++ wsX10 ++ (vx_atS RX1 176 "java/lang/IndexOutOfBoundsException" ["java/lang/RuntimeException", "java/lang/Exception"]).filter goodWord)
def wsX1_beginOf : List Cond := .code yX1_beginOf cX1_beginOf 3 (some .int) :: ([.methodLink RX1 73 yX1_voiceWithSign, .instanceMethod yX1_voiceWithSign, .selects RX1 yX1_voiceWithSign yX1_voiceWithSign, .initialized RX1, .code yX1_voiceWithSign cX1_voiceWithSign 4 (some (.object "ChoirNotes$Voice")), .classLink RX1 172 "java/lang/IndexOutOfBoundsException", .initialized "java/lang/IndexOutOfBoundsException", .methodLink RX1 34 yX1_knownVoice, .instanceMethod yX1_knownVoice, .selects RX1 yX1_knownVoice yX1_knownVoice, .code yX1_knownVoice cX1_knownVoice 2 (some (.object "ChoirNotes$Voice")), .fieldLink RX1 20 "ChoirNotes" "voiceCount" "I", .fieldLink RX1 11 "ChoirNotes" "book" "[LChoirNotes$Voice;"] ++ wsX00 ++ wsX10 ++ (vx_atS RX1 176 "java/lang/IndexOutOfBoundsException" ["java/lang/RuntimeException", "java/lang/Exception"]).filter goodWord)
def wsX1_length : List Cond := .code yX1_length cX1_length 2 (some .int) :: ([.methodLink RX1 34 yX1_knownVoice, .instanceMethod yX1_knownVoice, .selects RX1 yX1_knownVoice yX1_knownVoice, .initialized RX1, .code yX1_knownVoice cX1_knownVoice 2 (some (.object "ChoirNotes$Voice")), .classLink RX1 172 "java/lang/IndexOutOfBoundsException", .initialized "java/lang/IndexOutOfBoundsException", .fieldLink RX1 20 "ChoirNotes" "voiceCount" "I", .fieldLink RX1 11 "ChoirNotes" "book" "[LChoirNotes$Voice;", .instanceMethod yX0_end, .initialized RX0, .selects RX0 yX0_end yX0_end, .code yX0_end cX0_end 1 (some .int), .fieldLink RX0 29 "ChoirNotes$Voice" "begins" "[I", .fieldLink RX0 45 "ChoirNotes$Voice" "count" "I"] ++ wsX10 ++ wsX00 ++ (vx_atS RX1 176 "java/lang/IndexOutOfBoundsException" ["java/lang/RuntimeException", "java/lang/Exception"]).filter goodWord)
def wsX1_longest : List Cond := .code yX1_longest cX1_longest 3 (some .int) :: ([.fieldLink RX1 20 "ChoirNotes" "voiceCount" "I", .fieldLink RX1 11 "ChoirNotes" "book" "[LChoirNotes$Voice;", .methodLink RX1 119 Lib.Math.max.name, .static Lib.Math.max.name, .initialized "java/lang/Math", .code Lib.Math.max.name Lib.Math.max.code 2 (some .int), .instanceMethod yX0_end, .initialized RX0, .selects RX0 yX0_end yX0_end, .code yX0_end cX0_end 1 (some .int), .fieldLink RX0 29 "ChoirNotes$Voice" "begins" "[I", .fieldLink RX0 45 "ChoirNotes$Voice" "count" "I"] ++ wsX10 ++ wsX00)
def wsX1_signAt : List Cond := .code yX1_signAt cX1_signAt 4 (some .int) :: ([.constant RX1 126 (2147483647), .methodLink RX1 34 yX1_knownVoice, .instanceMethod yX1_knownVoice, .selects RX1 yX1_knownVoice yX1_knownVoice, .initialized RX1, .code yX1_knownVoice cX1_knownVoice 2 (some (.object "ChoirNotes$Voice")), .classLink RX1 172 "java/lang/IndexOutOfBoundsException", .initialized "java/lang/IndexOutOfBoundsException", .fieldLink RX1 20 "ChoirNotes" "voiceCount" "I", .fieldLink RX1 11 "ChoirNotes" "book" "[LChoirNotes$Voice;", .methodLink RX1 38 yX1_checkRange, .static yX1_checkRange, .code yX1_checkRange cX1_checkRange 3 none, .classLink RX1 179 "java/lang/IllegalArgumentException", .initialized "java/lang/IllegalArgumentException", .instanceMethod yX0_signLastingAt, .initialized RX0, .selects RX0 yX0_signLastingAt yX0_signLastingAt, .code yX0_signLastingAt cX0_signLastingAt 3 (some .int), .fieldLink RX0 45 "ChoirNotes$Voice" "count" "I", .fieldLink RX0 29 "ChoirNotes$Voice" "begins" "[I"] ++ wsX10 ++ wsX00 ++ (vx_atS RX1 176 "java/lang/IndexOutOfBoundsException" ["java/lang/RuntimeException", "java/lang/Exception"]).filter goodWord ++ (vx_atS RX1 183 "java/lang/IllegalArgumentException" ["java/lang/RuntimeException", "java/lang/Exception"]).filter goodWord)
def wsX1_clefOf : List Cond := .code yX1_clefOf cX1_clefOf 2 (some .int) :: ([.methodLink RX1 34 yX1_knownVoice, .instanceMethod yX1_knownVoice, .selects RX1 yX1_knownVoice yX1_knownVoice, .initialized RX1, .code yX1_knownVoice cX1_knownVoice 2 (some (.object "ChoirNotes$Voice")), .classLink RX1 172 "java/lang/IndexOutOfBoundsException", .initialized "java/lang/IndexOutOfBoundsException", .fieldLink RX1 20 "ChoirNotes" "voiceCount" "I", .fieldLink RX1 11 "ChoirNotes" "book" "[LChoirNotes$Voice;"] ++ wsX00 ++ wsX10 ++ (vx_atS RX1 176 "java/lang/IndexOutOfBoundsException" ["java/lang/RuntimeException", "java/lang/Exception"]).filter goodWord)
def wsX1_checkHasClef : List Cond := .code yX1_checkHasClef cX1_checkHasClef 1 none :: ([.classLink RX1 24 "java/lang/IllegalStateException", .initialized "java/lang/IllegalStateException"] ++ wsX00 ++ (vx_atS RX1 28 "java/lang/IllegalStateException" ["java/lang/RuntimeException", "java/lang/Exception"]).filter goodWord)
def wsX1_pitchOf : List Cond := .code yX1_pitchOf cX1_pitchOf 4 (some .int) :: ([.methodLink RX1 73 yX1_voiceWithSign, .instanceMethod yX1_voiceWithSign, .selects RX1 yX1_voiceWithSign yX1_voiceWithSign, .initialized RX1, .code yX1_voiceWithSign cX1_voiceWithSign 4 (some (.object "ChoirNotes$Voice")), .classLink RX1 172 "java/lang/IndexOutOfBoundsException", .initialized "java/lang/IndexOutOfBoundsException", .methodLink RX1 34 yX1_knownVoice, .instanceMethod yX1_knownVoice, .selects RX1 yX1_knownVoice yX1_knownVoice, .code yX1_knownVoice cX1_knownVoice 2 (some (.object "ChoirNotes$Voice")), .fieldLink RX1 20 "ChoirNotes" "voiceCount" "I", .fieldLink RX1 11 "ChoirNotes" "book" "[LChoirNotes$Voice;", .methodLink RX1 130 yX1_checkHasClef, .static yX1_checkHasClef, .code yX1_checkHasClef cX1_checkHasClef 1 none, .classLink RX1 24 "java/lang/IllegalStateException", .initialized "java/lang/IllegalStateException", .instanceMethod yX0_isRest, .initialized RX0, .selects RX0 yX0_isRest yX0_isRest, .code yX0_isRest cX0_isRest 2 (some .boolean), .fieldLink RX0 19 "ChoirNotes$Voice" "places" "[I"] ++ wsX00 ++ wsX10 ++ (vx_atS RX1 176 "java/lang/IndexOutOfBoundsException" ["java/lang/RuntimeException", "java/lang/Exception"]).filter goodWord ++ (vx_atS RX1 28 "java/lang/IllegalStateException" ["java/lang/RuntimeException", "java/lang/Exception"]).filter goodWord)
def wsX1_fits : List Cond := .code yX1_fits cX1_fits 4 (some .boolean) :: ([.methodLink RX1 34 yX1_knownVoice, .instanceMethod yX1_knownVoice, .selects RX1 yX1_knownVoice yX1_knownVoice, .initialized RX1, .code yX1_knownVoice cX1_knownVoice 2 (some (.object "ChoirNotes$Voice")), .classLink RX1 172 "java/lang/IndexOutOfBoundsException", .initialized "java/lang/IndexOutOfBoundsException", .fieldLink RX1 20 "ChoirNotes" "voiceCount" "I", .fieldLink RX1 11 "ChoirNotes" "book" "[LChoirNotes$Voice;", .methodLink RX1 38 yX1_checkRange, .static yX1_checkRange, .code yX1_checkRange cX1_checkRange 3 none, .classLink RX1 179 "java/lang/IllegalArgumentException", .initialized "java/lang/IllegalArgumentException", .instanceMethod yX0_wouldFit, .initialized RX0, .selects RX0 yX0_wouldFit yX0_wouldFit, .code yX0_wouldFit cX0_wouldFit 4 (some .boolean), .fieldLink RX0 45 "ChoirNotes$Voice" "count" "I", .fieldLink RX0 19 "ChoirNotes$Voice" "places" "[I", .methodLink RX0 52 yX0_isRest, .instanceMethod yX0_isRest, .selects RX0 yX0_isRest yX0_isRest, .code yX0_isRest cX0_isRest 2 (some .boolean)] ++ wsX10 ++ wsX00 ++ (vx_atS RX1 176 "java/lang/IndexOutOfBoundsException" ["java/lang/RuntimeException", "java/lang/Exception"]).filter goodWord ++ (vx_atS RX1 183 "java/lang/IllegalArgumentException" ["java/lang/RuntimeException", "java/lang/Exception"]).filter goodWord)
def wsX1_clefsThatFit : List Cond := .code yX1_clefsThatFit cX1_clefsThatFit 2 (some .int) :: ([.methodLink RX1 34 yX1_knownVoice, .instanceMethod yX1_knownVoice, .selects RX1 yX1_knownVoice yX1_knownVoice, .initialized RX1, .code yX1_knownVoice cX1_knownVoice 2 (some (.object "ChoirNotes$Voice")), .classLink RX1 172 "java/lang/IndexOutOfBoundsException", .initialized "java/lang/IndexOutOfBoundsException", .fieldLink RX1 20 "ChoirNotes" "voiceCount" "I", .fieldLink RX1 11 "ChoirNotes" "book" "[LChoirNotes$Voice;", .instanceMethod yX0_countFittingClefs, .initialized RX0, .selects RX0 yX0_countFittingClefs yX0_countFittingClefs, .code yX0_countFittingClefs cX0_countFittingClefs 3 (some .int), .methodLink RX0 56 yX0_wouldFit, .instanceMethod yX0_wouldFit, .selects RX0 yX0_wouldFit yX0_wouldFit, .code yX0_wouldFit cX0_wouldFit 4 (some .boolean), .fieldLink RX0 45 "ChoirNotes$Voice" "count" "I", .fieldLink RX0 19 "ChoirNotes$Voice" "places" "[I", .methodLink RX0 52 yX0_isRest, .instanceMethod yX0_isRest, .selects RX0 yX0_isRest yX0_isRest, .code yX0_isRest cX0_isRest 2 (some .boolean)] ++ wsX10 ++ wsX00 ++ (vx_atS RX1 176 "java/lang/IndexOutOfBoundsException" ["java/lang/RuntimeException", "java/lang/Exception"]).filter goodWord)
def wsX1_signsClash : List Cond := .code yX1_signsClash cX1_signsClash 6 (some .boolean) :: ([.methodLink RX1 197 Lib.Math.abs.name, .static Lib.Math.abs.name, .initialized "java/lang/Math", .code Lib.Math.abs.name Lib.Math.abs.code 1 (some .int), .instanceMethod yX0_isRest, .initialized RX0, .selects RX0 yX0_isRest yX0_isRest, .code yX0_isRest cX0_isRest 2 (some .boolean), .fieldLink RX0 19 "ChoirNotes$Voice" "places" "[I"] ++ wsX00)
def wsX1_clashingMinims : List Cond := .code yX1_clashingMinims cX1_clashingMinims 11 (some .int) :: ([.methodLink RX1 119 Lib.Math.max.name, .static Lib.Math.max.name, .initialized "java/lang/Math", .code Lib.Math.max.name Lib.Math.max.code 2 (some .int), .methodLink RX1 190 Lib.Math.min.name, .static Lib.Math.min.name, .code Lib.Math.min.name Lib.Math.min.code 2 (some .int), .methodLink RX1 193 yX1_signsClash, .static yX1_signsClash, .initialized RX1, .code yX1_signsClash cX1_signsClash 6 (some .boolean), .methodLink RX1 197 Lib.Math.abs.name, .static Lib.Math.abs.name, .code Lib.Math.abs.name Lib.Math.abs.code 1 (some .int), .instanceMethod yX0_isRest, .initialized RX0, .selects RX0 yX0_isRest yX0_isRest, .code yX0_isRest cX0_isRest 2 (some .boolean), .fieldLink RX0 19 "ChoirNotes$Voice" "places" "[I"] ++ wsX00)
def wsX1_clashes_r1 : List Cond := [Cond.methodLink RX1 34 yX1_knownVoice, Cond.instanceMethod yX1_knownVoice, Cond.selects RX1 yX1_knownVoice yX1_knownVoice, Cond.initialized RX1, Cond.code yX1_knownVoice cX1_knownVoice 2 (some (.object "ChoirNotes$Voice")), Cond.classLink RX1 172 "java/lang/IndexOutOfBoundsException", Cond.initialized "java/lang/IndexOutOfBoundsException", Cond.fieldLink RX1 20 "ChoirNotes" "voiceCount" "I", Cond.fieldLink RX1 11 "ChoirNotes" "book" "[LChoirNotes$Voice;", Cond.methodLink RX1 130 yX1_checkHasClef, Cond.static yX1_checkHasClef, Cond.code yX1_checkHasClef cX1_checkHasClef 1 none, Cond.classLink RX1 24 "java/lang/IllegalStateException", Cond.initialized "java/lang/IllegalStateException", Cond.methodLink RX1 140 yX1_clashingMinims, Cond.static yX1_clashingMinims, Cond.code yX1_clashingMinims cX1_clashingMinims 11 (some .int), Cond.methodLink RX1 119 Lib.Math.max.name, Cond.static Lib.Math.max.name, Cond.initialized "java/lang/Math", Cond.code Lib.Math.max.name Lib.Math.max.code 2 (some .int), Cond.methodLink RX1 190 Lib.Math.min.name, Cond.static Lib.Math.min.name, Cond.code Lib.Math.min.name Lib.Math.min.code 2 (some .int)]
def wsX1_clashes_r2 : List Cond := [Cond.methodLink RX1 193 yX1_signsClash, Cond.static yX1_signsClash, Cond.code yX1_signsClash cX1_signsClash 6 (some .boolean), Cond.methodLink RX1 197 Lib.Math.abs.name, Cond.static Lib.Math.abs.name, Cond.code Lib.Math.abs.name Lib.Math.abs.code 1 (some .int), Cond.instanceMethod yX0_isRest, Cond.initialized RX0, Cond.selects RX0 yX0_isRest yX0_isRest, Cond.code yX0_isRest cX0_isRest 2 (some .boolean), Cond.fieldLink RX0 19 "ChoirNotes$Voice" "places" "[I"]
def wsX1_clashes : List Cond := .code yX1_clashes cX1_clashes 5 (some .int) :: ((wsX1_clashes_r1 ++ wsX1_clashes_r2) ++ wsX00 ++ wsX10 ++ (vx_atS RX1 176 "java/lang/IndexOutOfBoundsException" ["java/lang/RuntimeException", "java/lang/Exception"]).filter goodWord ++ (vx_atS RX1 28 "java/lang/IllegalStateException" ["java/lang/RuntimeException", "java/lang/Exception"]).filter goodWord)
def wsX1_firstClashingMinim : List Cond := .code yX1_firstClashingMinim cX1_firstClashingMinim 9 (some .int) :: ([.methodLink RX1 119 Lib.Math.max.name, .static Lib.Math.max.name, .initialized "java/lang/Math", .code Lib.Math.max.name Lib.Math.max.code 2 (some .int), .methodLink RX1 190 Lib.Math.min.name, .static Lib.Math.min.name, .code Lib.Math.min.name Lib.Math.min.code 2 (some .int), .methodLink RX1 193 yX1_signsClash, .static yX1_signsClash, .initialized RX1, .code yX1_signsClash cX1_signsClash 6 (some .boolean), .methodLink RX1 197 Lib.Math.abs.name, .static Lib.Math.abs.name, .code Lib.Math.abs.name Lib.Math.abs.code 1 (some .int), .instanceMethod yX0_isRest, .initialized RX0, .selects RX0 yX0_isRest yX0_isRest, .code yX0_isRest cX0_isRest 2 (some .boolean), .fieldLink RX0 19 "ChoirNotes$Voice" "places" "[I"] ++ wsX00)
def wsX1_firstClash_r1 : List Cond := [Cond.methodLink RX1 34 yX1_knownVoice, Cond.instanceMethod yX1_knownVoice, Cond.selects RX1 yX1_knownVoice yX1_knownVoice, Cond.initialized RX1, Cond.code yX1_knownVoice cX1_knownVoice 2 (some (.object "ChoirNotes$Voice")), Cond.classLink RX1 172 "java/lang/IndexOutOfBoundsException", Cond.initialized "java/lang/IndexOutOfBoundsException", Cond.fieldLink RX1 20 "ChoirNotes" "voiceCount" "I", Cond.fieldLink RX1 11 "ChoirNotes" "book" "[LChoirNotes$Voice;", Cond.methodLink RX1 130 yX1_checkHasClef, Cond.static yX1_checkHasClef, Cond.code yX1_checkHasClef cX1_checkHasClef 1 none, Cond.classLink RX1 24 "java/lang/IllegalStateException", Cond.initialized "java/lang/IllegalStateException", Cond.methodLink RX1 144 yX1_firstClashingMinim, Cond.static yX1_firstClashingMinim, Cond.code yX1_firstClashingMinim cX1_firstClashingMinim 9 (some .int), Cond.methodLink RX1 119 Lib.Math.max.name, Cond.static Lib.Math.max.name, Cond.initialized "java/lang/Math", Cond.code Lib.Math.max.name Lib.Math.max.code 2 (some .int), Cond.methodLink RX1 190 Lib.Math.min.name, Cond.static Lib.Math.min.name, Cond.code Lib.Math.min.name Lib.Math.min.code 2 (some .int)]
def wsX1_firstClash_r2 : List Cond := [Cond.methodLink RX1 193 yX1_signsClash, Cond.static yX1_signsClash, Cond.code yX1_signsClash cX1_signsClash 6 (some .boolean), Cond.methodLink RX1 197 Lib.Math.abs.name, Cond.static Lib.Math.abs.name, Cond.code Lib.Math.abs.name Lib.Math.abs.code 1 (some .int), Cond.instanceMethod yX0_isRest, Cond.initialized RX0, Cond.selects RX0 yX0_isRest yX0_isRest, Cond.code yX0_isRest cX0_isRest 2 (some .boolean), Cond.fieldLink RX0 19 "ChoirNotes$Voice" "places" "[I"]
def wsX1_firstClash : List Cond := .code yX1_firstClash cX1_firstClash 5 (some .int) :: ((wsX1_firstClash_r1 ++ wsX1_firstClash_r2) ++ wsX00 ++ wsX10 ++ (vx_atS RX1 176 "java/lang/IndexOutOfBoundsException" ["java/lang/RuntimeException", "java/lang/Exception"]).filter goodWord ++ (vx_atS RX1 28 "java/lang/IllegalStateException" ["java/lang/RuntimeException", "java/lang/Exception"]).filter goodWord)
def wsX1_clashesIfClef : List Cond := .code yX1_clashesIfClef cX1_clashesIfClef 6 (some .int) :: ([.fieldLink RX1 20 "ChoirNotes" "voiceCount" "I", .fieldLink RX1 11 "ChoirNotes" "book" "[LChoirNotes$Voice;", .methodLink RX1 140 yX1_clashingMinims, .static yX1_clashingMinims, .initialized RX1, .code yX1_clashingMinims cX1_clashingMinims 11 (some .int), .methodLink RX1 119 Lib.Math.max.name, .static Lib.Math.max.name, .initialized "java/lang/Math", .code Lib.Math.max.name Lib.Math.max.code 2 (some .int), .methodLink RX1 190 Lib.Math.min.name, .static Lib.Math.min.name, .code Lib.Math.min.name Lib.Math.min.code 2 (some .int), .methodLink RX1 193 yX1_signsClash, .static yX1_signsClash, .code yX1_signsClash cX1_signsClash 6 (some .boolean), .methodLink RX1 197 Lib.Math.abs.name, .static Lib.Math.abs.name, .code Lib.Math.abs.name Lib.Math.abs.code 1 (some .int), .instanceMethod yX0_isRest, .initialized RX0, .selects RX0 yX0_isRest yX0_isRest, .code yX0_isRest cX0_isRest 2 (some .boolean), .fieldLink RX0 19 "ChoirNotes$Voice" "places" "[I"] ++ wsX10 ++ wsX00)
def wsX1_clashesWith_r1 : List Cond := [Cond.methodLink RX1 34 yX1_knownVoice, Cond.instanceMethod yX1_knownVoice, Cond.selects RX1 yX1_knownVoice yX1_knownVoice, Cond.initialized RX1, Cond.code yX1_knownVoice cX1_knownVoice 2 (some (.object "ChoirNotes$Voice")), Cond.classLink RX1 172 "java/lang/IndexOutOfBoundsException", Cond.initialized "java/lang/IndexOutOfBoundsException", Cond.fieldLink RX1 20 "ChoirNotes" "voiceCount" "I", Cond.fieldLink RX1 11 "ChoirNotes" "book" "[LChoirNotes$Voice;", Cond.methodLink RX1 38 yX1_checkRange, Cond.static yX1_checkRange, Cond.code yX1_checkRange cX1_checkRange 3 none, Cond.classLink RX1 179 "java/lang/IllegalArgumentException", Cond.initialized "java/lang/IllegalArgumentException", Cond.methodLink RX1 148 yX1_clashesIfClef, Cond.instanceMethod yX1_clashesIfClef, Cond.selects RX1 yX1_clashesIfClef yX1_clashesIfClef, Cond.code yX1_clashesIfClef cX1_clashesIfClef 6 (some .int), Cond.methodLink RX1 140 yX1_clashingMinims, Cond.static yX1_clashingMinims, Cond.code yX1_clashingMinims cX1_clashingMinims 11 (some .int), Cond.methodLink RX1 119 Lib.Math.max.name, Cond.static Lib.Math.max.name, Cond.initialized "java/lang/Math"]
def wsX1_clashesWith_r2 : List Cond := [Cond.code Lib.Math.max.name Lib.Math.max.code 2 (some .int), Cond.methodLink RX1 190 Lib.Math.min.name, Cond.static Lib.Math.min.name, Cond.code Lib.Math.min.name Lib.Math.min.code 2 (some .int), Cond.methodLink RX1 193 yX1_signsClash, Cond.static yX1_signsClash, Cond.code yX1_signsClash cX1_signsClash 6 (some .boolean), Cond.methodLink RX1 197 Lib.Math.abs.name, Cond.static Lib.Math.abs.name, Cond.code Lib.Math.abs.name Lib.Math.abs.code 1 (some .int), Cond.instanceMethod yX0_isRest, Cond.initialized RX0, Cond.selects RX0 yX0_isRest yX0_isRest, Cond.code yX0_isRest cX0_isRest 2 (some .boolean), Cond.fieldLink RX0 19 "ChoirNotes$Voice" "places" "[I"]
def wsX1_clashesWith : List Cond := .code yX1_clashesWith cX1_clashesWith 4 (some .int) :: ((wsX1_clashesWith_r1 ++ wsX1_clashesWith_r2) ++ wsX10 ++ wsX00 ++ (vx_atS RX1 176 "java/lang/IndexOutOfBoundsException" ["java/lang/RuntimeException", "java/lang/Exception"]).filter goodWord ++ (vx_atS RX1 183 "java/lang/IllegalArgumentException" ["java/lang/RuntimeException", "java/lang/Exception"]).filter goodWord)
def wsX1_clefWithFewestClashes_r1 : List Cond := [Cond.constant RX1 126 (2147483647), Cond.instanceMethod yX0_wouldFit, Cond.initialized RX0, Cond.selects RX0 yX0_wouldFit yX0_wouldFit, Cond.code yX0_wouldFit cX0_wouldFit 4 (some .boolean), Cond.fieldLink RX0 45 "ChoirNotes$Voice" "count" "I", Cond.fieldLink RX0 19 "ChoirNotes$Voice" "places" "[I", Cond.methodLink RX0 52 yX0_isRest, Cond.instanceMethod yX0_isRest, Cond.selects RX0 yX0_isRest yX0_isRest, Cond.code yX0_isRest cX0_isRest 2 (some .boolean), Cond.methodLink RX1 148 yX1_clashesIfClef, Cond.instanceMethod yX1_clashesIfClef, Cond.selects RX1 yX1_clashesIfClef yX1_clashesIfClef, Cond.initialized RX1, Cond.code yX1_clashesIfClef cX1_clashesIfClef 6 (some .int), Cond.fieldLink RX1 20 "ChoirNotes" "voiceCount" "I", Cond.fieldLink RX1 11 "ChoirNotes" "book" "[LChoirNotes$Voice;", Cond.methodLink RX1 140 yX1_clashingMinims, Cond.static yX1_clashingMinims, Cond.code yX1_clashingMinims cX1_clashingMinims 11 (some .int), Cond.methodLink RX1 119 Lib.Math.max.name, Cond.static Lib.Math.max.name, Cond.initialized "java/lang/Math"]
def wsX1_clefWithFewestClashes_r2 : List Cond := [Cond.code Lib.Math.max.name Lib.Math.max.code 2 (some .int), Cond.methodLink RX1 190 Lib.Math.min.name, Cond.static Lib.Math.min.name, Cond.code Lib.Math.min.name Lib.Math.min.code 2 (some .int), Cond.methodLink RX1 193 yX1_signsClash, Cond.static yX1_signsClash, Cond.code yX1_signsClash cX1_signsClash 6 (some .boolean), Cond.methodLink RX1 197 Lib.Math.abs.name, Cond.static Lib.Math.abs.name, Cond.code Lib.Math.abs.name Lib.Math.abs.code 1 (some .int)]
def wsX1_clefWithFewestClashes : List Cond := .code yX1_clefWithFewestClashes cX1_clefWithFewestClashes 6 (some .int) :: ((wsX1_clefWithFewestClashes_r1 ++ wsX1_clefWithFewestClashes_r2) ++ wsX00 ++ wsX10)
def wsX1_bestClef_r1 : List Cond := [Cond.methodLink RX1 34 yX1_knownVoice, Cond.instanceMethod yX1_knownVoice, Cond.selects RX1 yX1_knownVoice yX1_knownVoice, Cond.initialized RX1, Cond.code yX1_knownVoice cX1_knownVoice 2 (some (.object "ChoirNotes$Voice")), Cond.classLink RX1 172 "java/lang/IndexOutOfBoundsException", Cond.initialized "java/lang/IndexOutOfBoundsException", Cond.fieldLink RX1 20 "ChoirNotes" "voiceCount" "I", Cond.fieldLink RX1 11 "ChoirNotes" "book" "[LChoirNotes$Voice;", Cond.methodLink RX1 152 yX1_clefWithFewestClashes, Cond.instanceMethod yX1_clefWithFewestClashes, Cond.selects RX1 yX1_clefWithFewestClashes yX1_clefWithFewestClashes, Cond.code yX1_clefWithFewestClashes cX1_clefWithFewestClashes 6 (some .int), Cond.constant RX1 126 (2147483647), Cond.instanceMethod yX0_wouldFit, Cond.initialized RX0, Cond.selects RX0 yX0_wouldFit yX0_wouldFit, Cond.code yX0_wouldFit cX0_wouldFit 4 (some .boolean), Cond.fieldLink RX0 45 "ChoirNotes$Voice" "count" "I", Cond.fieldLink RX0 19 "ChoirNotes$Voice" "places" "[I", Cond.methodLink RX0 52 yX0_isRest, Cond.instanceMethod yX0_isRest, Cond.selects RX0 yX0_isRest yX0_isRest, Cond.code yX0_isRest cX0_isRest 2 (some .boolean)]
def wsX1_bestClef_r2 : List Cond := [Cond.methodLink RX1 148 yX1_clashesIfClef, Cond.instanceMethod yX1_clashesIfClef, Cond.selects RX1 yX1_clashesIfClef yX1_clashesIfClef, Cond.code yX1_clashesIfClef cX1_clashesIfClef 6 (some .int), Cond.methodLink RX1 140 yX1_clashingMinims, Cond.static yX1_clashingMinims, Cond.code yX1_clashingMinims cX1_clashingMinims 11 (some .int), Cond.methodLink RX1 119 Lib.Math.max.name, Cond.static Lib.Math.max.name, Cond.initialized "java/lang/Math", Cond.code Lib.Math.max.name Lib.Math.max.code 2 (some .int), Cond.methodLink RX1 190 Lib.Math.min.name, Cond.static Lib.Math.min.name, Cond.code Lib.Math.min.name Lib.Math.min.code 2 (some .int), Cond.methodLink RX1 193 yX1_signsClash, Cond.static yX1_signsClash, Cond.code yX1_signsClash cX1_signsClash 6 (some .boolean), Cond.methodLink RX1 197 Lib.Math.abs.name, Cond.static Lib.Math.abs.name, Cond.code Lib.Math.abs.name Lib.Math.abs.code 1 (some .int)]
def wsX1_bestClef : List Cond := .code yX1_bestClef cX1_bestClef 2 (some .int) :: ((wsX1_bestClef_r1 ++ wsX1_bestClef_r2) ++ wsX10 ++ wsX00 ++ (vx_atS RX1 176 "java/lang/IndexOutOfBoundsException" ["java/lang/RuntimeException", "java/lang/Exception"]).filter goodWord)
def wsX1_canonClashes_r1 : List Cond := [Cond.methodLink RX1 34 yX1_knownVoice, Cond.instanceMethod yX1_knownVoice, Cond.selects RX1 yX1_knownVoice yX1_knownVoice, Cond.initialized RX1, Cond.code yX1_knownVoice cX1_knownVoice 2 (some (.object "ChoirNotes$Voice")), Cond.classLink RX1 172 "java/lang/IndexOutOfBoundsException", Cond.initialized "java/lang/IndexOutOfBoundsException", Cond.fieldLink RX1 20 "ChoirNotes" "voiceCount" "I", Cond.fieldLink RX1 11 "ChoirNotes" "book" "[LChoirNotes$Voice;", Cond.methodLink RX1 38 yX1_checkRange, Cond.static yX1_checkRange, Cond.code yX1_checkRange cX1_checkRange 3 none, Cond.classLink RX1 179 "java/lang/IllegalArgumentException", Cond.initialized "java/lang/IllegalArgumentException", Cond.methodLink RX1 140 yX1_clashingMinims, Cond.static yX1_clashingMinims, Cond.code yX1_clashingMinims cX1_clashingMinims 11 (some .int), Cond.methodLink RX1 119 Lib.Math.max.name, Cond.static Lib.Math.max.name, Cond.initialized "java/lang/Math", Cond.code Lib.Math.max.name Lib.Math.max.code 2 (some .int), Cond.methodLink RX1 190 Lib.Math.min.name, Cond.static Lib.Math.min.name, Cond.code Lib.Math.min.name Lib.Math.min.code 2 (some .int)]
def wsX1_canonClashes_r2 : List Cond := [Cond.methodLink RX1 193 yX1_signsClash, Cond.static yX1_signsClash, Cond.code yX1_signsClash cX1_signsClash 6 (some .boolean), Cond.methodLink RX1 197 Lib.Math.abs.name, Cond.static Lib.Math.abs.name, Cond.code Lib.Math.abs.name Lib.Math.abs.code 1 (some .int), Cond.instanceMethod yX0_isRest, Cond.initialized RX0, Cond.selects RX0 yX0_isRest yX0_isRest, Cond.code yX0_isRest cX0_isRest 2 (some .boolean), Cond.fieldLink RX0 19 "ChoirNotes$Voice" "places" "[I"]
def wsX1_canonClashes : List Cond := .code yX1_canonClashes cX1_canonClashes 5 (some .int) :: ((wsX1_canonClashes_r1 ++ wsX1_canonClashes_r2) ++ wsX10 ++ wsX00 ++ (vx_atS RX1 176 "java/lang/IndexOutOfBoundsException" ["java/lang/RuntimeException", "java/lang/Exception"]).filter goodWord ++ (vx_atS RX1 183 "java/lang/IllegalArgumentException" ["java/lang/RuntimeException", "java/lang/Exception"]).filter goodWord)
def wsX1_delayWithFewestClashes : List Cond := .code yX1_delayWithFewestClashes cX1_delayWithFewestClashes 6 (some .int) :: ([.constant RX1 126 (2147483647), .methodLink RX1 140 yX1_clashingMinims, .static yX1_clashingMinims, .initialized RX1, .code yX1_clashingMinims cX1_clashingMinims 11 (some .int), .methodLink RX1 119 Lib.Math.max.name, .static Lib.Math.max.name, .initialized "java/lang/Math", .code Lib.Math.max.name Lib.Math.max.code 2 (some .int), .methodLink RX1 190 Lib.Math.min.name, .static Lib.Math.min.name, .code Lib.Math.min.name Lib.Math.min.code 2 (some .int), .methodLink RX1 193 yX1_signsClash, .static yX1_signsClash, .code yX1_signsClash cX1_signsClash 6 (some .boolean), .methodLink RX1 197 Lib.Math.abs.name, .static Lib.Math.abs.name, .code Lib.Math.abs.name Lib.Math.abs.code 1 (some .int), .instanceMethod yX0_isRest, .initialized RX0, .selects RX0 yX0_isRest yX0_isRest, .code yX0_isRest cX0_isRest 2 (some .boolean), .fieldLink RX0 19 "ChoirNotes$Voice" "places" "[I"] ++ wsX00)
def wsX1_bestDelay_r1 : List Cond := [Cond.methodLink RX1 34 yX1_knownVoice, Cond.instanceMethod yX1_knownVoice, Cond.selects RX1 yX1_knownVoice yX1_knownVoice, Cond.initialized RX1, Cond.code yX1_knownVoice cX1_knownVoice 2 (some (.object "ChoirNotes$Voice")), Cond.classLink RX1 172 "java/lang/IndexOutOfBoundsException", Cond.initialized "java/lang/IndexOutOfBoundsException", Cond.fieldLink RX1 20 "ChoirNotes" "voiceCount" "I", Cond.fieldLink RX1 11 "ChoirNotes" "book" "[LChoirNotes$Voice;", Cond.methodLink RX1 38 yX1_checkRange, Cond.static yX1_checkRange, Cond.code yX1_checkRange cX1_checkRange 3 none, Cond.classLink RX1 179 "java/lang/IllegalArgumentException", Cond.initialized "java/lang/IllegalArgumentException", Cond.methodLink RX1 156 yX1_delayWithFewestClashes, Cond.static yX1_delayWithFewestClashes, Cond.code yX1_delayWithFewestClashes cX1_delayWithFewestClashes 6 (some .int), Cond.constant RX1 126 (2147483647), Cond.methodLink RX1 140 yX1_clashingMinims, Cond.static yX1_clashingMinims, Cond.code yX1_clashingMinims cX1_clashingMinims 11 (some .int), Cond.methodLink RX1 119 Lib.Math.max.name, Cond.static Lib.Math.max.name, Cond.initialized "java/lang/Math"]
def wsX1_bestDelay_r2 : List Cond := [Cond.code Lib.Math.max.name Lib.Math.max.code 2 (some .int), Cond.methodLink RX1 190 Lib.Math.min.name, Cond.static Lib.Math.min.name, Cond.code Lib.Math.min.name Lib.Math.min.code 2 (some .int), Cond.methodLink RX1 193 yX1_signsClash, Cond.static yX1_signsClash, Cond.code yX1_signsClash cX1_signsClash 6 (some .boolean), Cond.methodLink RX1 197 Lib.Math.abs.name, Cond.static Lib.Math.abs.name, Cond.code Lib.Math.abs.name Lib.Math.abs.code 1 (some .int), Cond.instanceMethod yX0_isRest, Cond.initialized RX0, Cond.selects RX0 yX0_isRest yX0_isRest, Cond.code yX0_isRest cX0_isRest 2 (some .boolean), Cond.fieldLink RX0 19 "ChoirNotes$Voice" "places" "[I"]
def wsX1_bestDelay : List Cond := .code yX1_bestDelay cX1_bestDelay 4 (some .int) :: ((wsX1_bestDelay_r1 ++ wsX1_bestDelay_r2) ++ wsX10 ++ wsX00 ++ (vx_atS RX1 176 "java/lang/IndexOutOfBoundsException" ["java/lang/RuntimeException", "java/lang/Exception"]).filter goodWord ++ (vx_atS RX1 183 "java/lang/IllegalArgumentException" ["java/lang/RuntimeException", "java/lang/Exception"]).filter goodWord)
def wsX1_meanLength : List Cond := .code yX1_meanLength cX1_meanLength 3 (some .double) :: ([.fieldLink RX1 20 "ChoirNotes" "voiceCount" "I", .fieldLink RX1 11 "ChoirNotes" "book" "[LChoirNotes$Voice;", .instanceMethod yX0_end, .initialized RX0, .selects RX0 yX0_end yX0_end, .code yX0_end cX0_end 1 (some .int), .fieldLink RX0 29 "ChoirNotes$Voice" "begins" "[I", .fieldLink RX0 45 "ChoirNotes$Voice" "count" "I"] ++ wsX10 ++ wsX00)
def wsX1_mix : List Cond := .code yX1_mix cX1_mix 3 (some .long) :: ([.constantLong RX1 200 (31)])
def wsX1_mixSign : List Cond := .code yX1_mixSign cX1_mixSign 6 (some .long) :: ([.methodLink RX1 161 yX1_mix, .static yX1_mix, .initialized RX1, .code yX1_mix cX1_mix 3 (some .long), .constantLong RX1 200 (31), .instanceMethod yX0_minimsOf, .initialized RX0, .selects RX0 yX0_minimsOf yX0_minimsOf, .code yX0_minimsOf cX0_minimsOf 2 (some .int), .fieldLink RX0 29 "ChoirNotes$Voice" "begins" "[I"] ++ wsX00)
def wsX1_mixVoice_r1 : List Cond := [Cond.methodLink RX1 161 yX1_mix, Cond.static yX1_mix, Cond.initialized RX1, Cond.code yX1_mix cX1_mix 3 (some .long), Cond.constantLong RX1 200 (31), Cond.instanceMethod yX0_countNotes, Cond.initialized RX0, Cond.selects RX0 yX0_countNotes yX0_countNotes, Cond.code yX0_countNotes cX0_countNotes 3 (some .int), Cond.fieldLink RX0 45 "ChoirNotes$Voice" "count" "I", Cond.methodLink RX0 52 yX0_isRest, Cond.instanceMethod yX0_isRest, Cond.selects RX0 yX0_isRest yX0_isRest, Cond.code yX0_isRest cX0_isRest 2 (some .boolean), Cond.fieldLink RX0 19 "ChoirNotes$Voice" "places" "[I", Cond.instanceMethod yX0_countLigatures, Cond.selects RX0 yX0_countLigatures yX0_countLigatures, Cond.code yX0_countLigatures cX0_countLigatures 3 (some .int), Cond.fieldLink RX0 26 "ChoirNotes$Voice" "ranks" "[I", Cond.instanceMethod yX0_end, Cond.selects RX0 yX0_end yX0_end, Cond.code yX0_end cX0_end 1 (some .int), Cond.fieldLink RX0 29 "ChoirNotes$Voice" "begins" "[I", Cond.instanceMethod yX0_countFittingClefs]
def wsX1_mixVoice_r2 : List Cond := [Cond.selects RX0 yX0_countFittingClefs yX0_countFittingClefs, Cond.code yX0_countFittingClefs cX0_countFittingClefs 3 (some .int), Cond.methodLink RX0 56 yX0_wouldFit, Cond.instanceMethod yX0_wouldFit, Cond.selects RX0 yX0_wouldFit yX0_wouldFit, Cond.code yX0_wouldFit cX0_wouldFit 4 (some .boolean), Cond.methodLink RX1 152 yX1_clefWithFewestClashes, Cond.instanceMethod yX1_clefWithFewestClashes, Cond.selects RX1 yX1_clefWithFewestClashes yX1_clefWithFewestClashes, Cond.code yX1_clefWithFewestClashes cX1_clefWithFewestClashes 6 (some .int), Cond.constant RX1 126 (2147483647), Cond.methodLink RX1 148 yX1_clashesIfClef, Cond.instanceMethod yX1_clashesIfClef, Cond.selects RX1 yX1_clashesIfClef yX1_clashesIfClef, Cond.code yX1_clashesIfClef cX1_clashesIfClef 6 (some .int), Cond.fieldLink RX1 20 "ChoirNotes" "voiceCount" "I", Cond.fieldLink RX1 11 "ChoirNotes" "book" "[LChoirNotes$Voice;", Cond.methodLink RX1 140 yX1_clashingMinims, Cond.static yX1_clashingMinims, Cond.code yX1_clashingMinims cX1_clashingMinims 11 (some .int), Cond.methodLink RX1 119 Lib.Math.max.name, Cond.static Lib.Math.max.name, Cond.initialized "java/lang/Math", Cond.code Lib.Math.max.name Lib.Math.max.code 2 (some .int)]
def wsX1_mixVoice_r3 : List Cond := [Cond.methodLink RX1 190 Lib.Math.min.name, Cond.static Lib.Math.min.name, Cond.code Lib.Math.min.name Lib.Math.min.code 2 (some .int), Cond.methodLink RX1 193 yX1_signsClash, Cond.static yX1_signsClash, Cond.code yX1_signsClash cX1_signsClash 6 (some .boolean), Cond.methodLink RX1 197 Lib.Math.abs.name, Cond.static Lib.Math.abs.name, Cond.code Lib.Math.abs.name Lib.Math.abs.code 1 (some .int), Cond.methodLink RX1 156 yX1_delayWithFewestClashes, Cond.static yX1_delayWithFewestClashes, Cond.code yX1_delayWithFewestClashes cX1_delayWithFewestClashes 6 (some .int), Cond.methodLink RX1 202 yX1_mixSign, Cond.static yX1_mixSign, Cond.code yX1_mixSign cX1_mixSign 6 (some .long), Cond.instanceMethod yX0_minimsOf, Cond.selects RX0 yX0_minimsOf yX0_minimsOf, Cond.code yX0_minimsOf cX0_minimsOf 2 (some .int)]
def wsX1_mixVoice : List Cond := .code yX1_mixVoice cX1_mixVoice 7 (some .long) :: ((wsX1_mixVoice_r1 ++ (wsX1_mixVoice_r2 ++ wsX1_mixVoice_r3)) ++ wsX00 ++ wsX10)
def wsX1_digest_r1 : List Cond := [Cond.constantLong RX1 159 (2311), Cond.fieldLink RX1 20 "ChoirNotes" "voiceCount" "I", Cond.fieldLink RX1 11 "ChoirNotes" "book" "[LChoirNotes$Voice;", Cond.methodLink RX1 161 yX1_mix, Cond.static yX1_mix, Cond.initialized RX1, Cond.code yX1_mix cX1_mix 3 (some .long), Cond.constantLong RX1 200 (31), Cond.methodLink RX1 165 yX1_longest, Cond.instanceMethod yX1_longest, Cond.selects RX1 yX1_longest yX1_longest, Cond.code yX1_longest cX1_longest 3 (some .int), Cond.methodLink RX1 119 Lib.Math.max.name, Cond.static Lib.Math.max.name, Cond.initialized "java/lang/Math", Cond.code Lib.Math.max.name Lib.Math.max.code 2 (some .int), Cond.instanceMethod yX0_end, Cond.initialized RX0, Cond.selects RX0 yX0_end yX0_end, Cond.code yX0_end cX0_end 1 (some .int), Cond.fieldLink RX0 29 "ChoirNotes$Voice" "begins" "[I", Cond.fieldLink RX0 45 "ChoirNotes$Voice" "count" "I", Cond.methodLink RX1 168 yX1_mixVoice, Cond.instanceMethod yX1_mixVoice]
def wsX1_digest_r2 : List Cond := [Cond.selects RX1 yX1_mixVoice yX1_mixVoice, Cond.code yX1_mixVoice cX1_mixVoice 7 (some .long), Cond.instanceMethod yX0_countNotes, Cond.selects RX0 yX0_countNotes yX0_countNotes, Cond.code yX0_countNotes cX0_countNotes 3 (some .int), Cond.methodLink RX0 52 yX0_isRest, Cond.instanceMethod yX0_isRest, Cond.selects RX0 yX0_isRest yX0_isRest, Cond.code yX0_isRest cX0_isRest 2 (some .boolean), Cond.fieldLink RX0 19 "ChoirNotes$Voice" "places" "[I", Cond.instanceMethod yX0_countLigatures, Cond.selects RX0 yX0_countLigatures yX0_countLigatures, Cond.code yX0_countLigatures cX0_countLigatures 3 (some .int), Cond.fieldLink RX0 26 "ChoirNotes$Voice" "ranks" "[I", Cond.instanceMethod yX0_countFittingClefs, Cond.selects RX0 yX0_countFittingClefs yX0_countFittingClefs, Cond.code yX0_countFittingClefs cX0_countFittingClefs 3 (some .int), Cond.methodLink RX0 56 yX0_wouldFit, Cond.instanceMethod yX0_wouldFit, Cond.selects RX0 yX0_wouldFit yX0_wouldFit, Cond.code yX0_wouldFit cX0_wouldFit 4 (some .boolean), Cond.methodLink RX1 152 yX1_clefWithFewestClashes, Cond.instanceMethod yX1_clefWithFewestClashes, Cond.selects RX1 yX1_clefWithFewestClashes yX1_clefWithFewestClashes]
def wsX1_digest_r3 : List Cond := [Cond.code yX1_clefWithFewestClashes cX1_clefWithFewestClashes 6 (some .int), Cond.constant RX1 126 (2147483647), Cond.methodLink RX1 148 yX1_clashesIfClef, Cond.instanceMethod yX1_clashesIfClef, Cond.selects RX1 yX1_clashesIfClef yX1_clashesIfClef, Cond.code yX1_clashesIfClef cX1_clashesIfClef 6 (some .int), Cond.methodLink RX1 140 yX1_clashingMinims, Cond.static yX1_clashingMinims, Cond.code yX1_clashingMinims cX1_clashingMinims 11 (some .int), Cond.methodLink RX1 190 Lib.Math.min.name, Cond.static Lib.Math.min.name, Cond.code Lib.Math.min.name Lib.Math.min.code 2 (some .int), Cond.methodLink RX1 193 yX1_signsClash, Cond.static yX1_signsClash, Cond.code yX1_signsClash cX1_signsClash 6 (some .boolean), Cond.methodLink RX1 197 Lib.Math.abs.name, Cond.static Lib.Math.abs.name, Cond.code Lib.Math.abs.name Lib.Math.abs.code 1 (some .int), Cond.methodLink RX1 156 yX1_delayWithFewestClashes, Cond.static yX1_delayWithFewestClashes, Cond.code yX1_delayWithFewestClashes cX1_delayWithFewestClashes 6 (some .int), Cond.methodLink RX1 202 yX1_mixSign, Cond.static yX1_mixSign, Cond.code yX1_mixSign cX1_mixSign 6 (some .long)]
def wsX1_digest_r4 : List Cond := [Cond.instanceMethod yX0_minimsOf, Cond.selects RX0 yX0_minimsOf yX0_minimsOf, Cond.code yX0_minimsOf cX0_minimsOf 2 (some .int)]
def wsX1_digest : List Cond := .code yX1_digest cX1_digest 4 (some .long) :: ((wsX1_digest_r1 ++ (wsX1_digest_r2 ++ (wsX1_digest_r3 ++ wsX1_digest_r4))) ++ wsX10 ++ wsX00)
def wsX2_init : List Cond := .code yX2_init cX2_init 1 none :: ([.methodLink RX2 1 objectInit, .instanceMethod objectInit, .code objectInit ⟨#[0xb1]⟩ 1 none, .arrayClass .int, .fieldLink RX2 9 "ChoirNotesModel" "many" "[I", .fieldLink RX2 13 "ChoirNotesModel" "clef" "[I", .fieldLink RX2 16 "ChoirNotesModel" "measure" "[I", .fieldLink RX2 19 "ChoirNotesModel" "kind" "[I", .fieldLink RX2 22 "ChoirNotesModel" "place" "[I", .arrayClass .boolean, .fieldLink RX2 25 "ChoirNotesModel" "isRed" "[Z", .fieldLink RX2 29 "ChoirNotesModel" "tied" "[I", .fieldLink RX2 32 "ChoirNotesModel" "mine" "[I", .fieldLink RX2 35 "ChoirNotesModel" "theirs" "[I"] ++ wsX20)
def wsX2_thrown : List Cond := .code yX2_thrown cX2_thrown 1 (some .int) :: ([.fieldLink RX2 38 "ChoirNotesModel" "thrown" "I"] ++ wsX20)
def wsX2_fail : List Cond := .code yX2_fail cX2_fail 2 (some .int) :: ([.fieldLink RX2 38 "ChoirNotesModel" "thrown" "I"] ++ wsX20)
def wsX2_told : List Cond := .code yX2_told cX2_told 2 (some .int) :: ([.fieldLink RX2 38 "ChoirNotesModel" "thrown" "I"] ++ wsX20)
def wsX2_isIn : List Cond := .code yX2_isIn cX2_isIn 3 (some .boolean) :: ([])
def wsX2_isVoice : List Cond := .code yX2_isVoice cX2_isVoice 2 (some .boolean) :: ([.fieldLink RX2 42 "ChoirNotesModel" "voices" "I", .methodLink RX2 45 yX2_isIn, .static yX2_isIn, .initialized RX2, .code yX2_isIn cX2_isIn 3 (some .boolean)] ++ wsX20)
def wsX2_isSign : List Cond := .code yX2_isSign cX2_isSign 3 (some .boolean) :: ([.fieldLink RX2 9 "ChoirNotesModel" "many" "[I", .methodLink RX2 49 yX2_isVoice, .instanceMethod yX2_isVoice, .selects RX2 yX2_isVoice yX2_isVoice, .initialized RX2, .code yX2_isVoice cX2_isVoice 2 (some .boolean), .fieldLink RX2 42 "ChoirNotesModel" "voices" "I", .methodLink RX2 45 yX2_isIn, .static yX2_isIn, .code yX2_isIn cX2_isIn 3 (some .boolean)] ++ wsX20)
def wsX2_isMeasure : List Cond := .code yX2_isMeasure cX2_isMeasure 3 (some .boolean) :: ([.methodLink RX2 45 yX2_isIn, .static yX2_isIn, .initialized RX2, .code yX2_isIn cX2_isIn 3 (some .boolean)])
def wsX2_set : List Cond := .code yX2_set cX2_set 5 none :: ([.fieldLink RX2 16 "ChoirNotesModel" "measure" "[I"] ++ wsX20)
def wsX2_put : List Cond := .code yX2_put cX2_put 7 none :: ([.fieldLink RX2 9 "ChoirNotesModel" "many" "[I", .fieldLink RX2 19 "ChoirNotesModel" "kind" "[I", .fieldLink RX2 22 "ChoirNotesModel" "place" "[I", .fieldLink RX2 25 "ChoirNotesModel" "isRed" "[Z", .fieldLink RX2 29 "ChoirNotesModel" "tied" "[I"] ++ wsX20)
def wsX2_lasts : List Cond := .code yX2_lasts cX2_lasts 6 (some .int) :: ([.fieldLink RX2 19 "ChoirNotesModel" "kind" "[I", .fieldLink RX2 25 "ChoirNotesModel" "isRed" "[Z", .fieldLink RX2 16 "ChoirNotesModel" "measure" "[I"] ++ wsX20)
def wsX2_all : List Cond := .code yX2_all cX2_all 4 (some .int) :: ([.fieldLink RX2 9 "ChoirNotesModel" "many" "[I", .methodLink RX2 53 yX2_lasts, .instanceMethod yX2_lasts, .selects RX2 yX2_lasts yX2_lasts, .initialized RX2, .code yX2_lasts cX2_lasts 6 (some .int), .fieldLink RX2 19 "ChoirNotesModel" "kind" "[I", .fieldLink RX2 25 "ChoirNotesModel" "isRed" "[Z", .fieldLink RX2 16 "ChoirNotesModel" "measure" "[I"] ++ wsX20)
def wsX2_lay : List Cond := .code yX2_lay cX2_lay 6 (some .int) :: ([.fieldLink RX2 9 "ChoirNotesModel" "many" "[I", .fieldLink RX2 22 "ChoirNotesModel" "place" "[I", .methodLink RX2 53 yX2_lasts, .instanceMethod yX2_lasts, .selects RX2 yX2_lasts yX2_lasts, .initialized RX2, .code yX2_lasts cX2_lasts 6 (some .int), .fieldLink RX2 19 "ChoirNotesModel" "kind" "[I", .fieldLink RX2 25 "ChoirNotesModel" "isRed" "[Z", .fieldLink RX2 16 "ChoirNotesModel" "measure" "[I"] ++ wsX20)
def wsX2_isClash : List Cond := .code yX2_isClash cX2_isClash 2 (some .boolean) :: ([.methodLink RX2 57 Lib.Math.abs.name, .static Lib.Math.abs.name, .initialized "java/lang/Math", .code Lib.Math.abs.name Lib.Math.abs.code 1 (some .int)])
def wsX2_clash_r1 : List Cond := [Cond.fieldLink RX2 32 "ChoirNotesModel" "mine" "[I", Cond.fieldLink RX2 35 "ChoirNotesModel" "theirs" "[I", Cond.methodLink RX2 67 Lib.Math.min.name, Cond.static Lib.Math.min.name, Cond.initialized "java/lang/Math", Cond.code Lib.Math.min.name Lib.Math.min.code 2 (some .int), Cond.methodLink RX2 63 yX2_lay, Cond.instanceMethod yX2_lay, Cond.selects RX2 yX2_lay yX2_lay, Cond.initialized RX2, Cond.code yX2_lay cX2_lay 6 (some .int), Cond.fieldLink RX2 9 "ChoirNotesModel" "many" "[I", Cond.fieldLink RX2 22 "ChoirNotesModel" "place" "[I", Cond.methodLink RX2 53 yX2_lasts, Cond.instanceMethod yX2_lasts, Cond.selects RX2 yX2_lasts yX2_lasts, Cond.code yX2_lasts cX2_lasts 6 (some .int), Cond.fieldLink RX2 19 "ChoirNotesModel" "kind" "[I", Cond.fieldLink RX2 25 "ChoirNotesModel" "isRed" "[Z", Cond.fieldLink RX2 16 "ChoirNotesModel" "measure" "[I", Cond.methodLink RX2 70 yX2_isClash, Cond.static yX2_isClash, Cond.code yX2_isClash cX2_isClash 2 (some .boolean), Cond.methodLink RX2 57 Lib.Math.abs.name]
def wsX2_clash_r2 : List Cond := [Cond.static Lib.Math.abs.name, Cond.code Lib.Math.abs.name Lib.Math.abs.code 1 (some .int)]
def wsX2_clash : List Cond := .code yX2_clash cX2_clash 9 (some .int) :: ((wsX2_clash_r1 ++ wsX2_clash_r2) ++ wsX20)
def wsX2_addVoice : List Cond := .code yX2_addVoice cX2_addVoice 4 (some .int) :: ([.fieldLink RX2 38 "ChoirNotesModel" "thrown" "I", .fieldLink RX2 42 "ChoirNotesModel" "voices" "I", .fieldLink RX2 13 "ChoirNotesModel" "clef" "[I", .methodLink RX2 73 yX2_isMeasure, .static yX2_isMeasure, .initialized RX2, .code yX2_isMeasure cX2_isMeasure 3 (some .boolean), .methodLink RX2 45 yX2_isIn, .static yX2_isIn, .code yX2_isIn cX2_isIn 3 (some .boolean), .methodLink RX2 76 yX2_fail, .instanceMethod yX2_fail, .selects RX2 yX2_fail yX2_fail, .code yX2_fail cX2_fail 2 (some .int), .methodLink RX2 79 yX2_set, .instanceMethod yX2_set, .selects RX2 yX2_set yX2_set, .code yX2_set cX2_set 5 none, .fieldLink RX2 16 "ChoirNotesModel" "measure" "[I"] ++ wsX20)
def wsX2_addNote : List Cond := .code yX2_addNote cX2_addNote 5 (some .int) :: ([.fieldLink RX2 38 "ChoirNotesModel" "thrown" "I", .fieldLink RX2 9 "ChoirNotesModel" "many" "[I", .methodLink RX2 49 yX2_isVoice, .instanceMethod yX2_isVoice, .selects RX2 yX2_isVoice yX2_isVoice, .initialized RX2, .code yX2_isVoice cX2_isVoice 2 (some .boolean), .fieldLink RX2 42 "ChoirNotesModel" "voices" "I", .methodLink RX2 45 yX2_isIn, .static yX2_isIn, .code yX2_isIn cX2_isIn 3 (some .boolean), .methodLink RX2 76 yX2_fail, .instanceMethod yX2_fail, .selects RX2 yX2_fail yX2_fail, .code yX2_fail cX2_fail 2 (some .int), .methodLink RX2 83 yX2_put, .instanceMethod yX2_put, .selects RX2 yX2_put yX2_put, .code yX2_put cX2_put 7 none, .fieldLink RX2 19 "ChoirNotesModel" "kind" "[I", .fieldLink RX2 22 "ChoirNotesModel" "place" "[I", .fieldLink RX2 25 "ChoirNotesModel" "isRed" "[Z", .fieldLink RX2 29 "ChoirNotesModel" "tied" "[I"] ++ wsX20)
def wsX2_addRest : List Cond := .code yX2_addRest cX2_addRest 3 (some .int) :: ([.fieldLink RX2 38 "ChoirNotesModel" "thrown" "I", .fieldLink RX2 9 "ChoirNotesModel" "many" "[I", .methodLink RX2 49 yX2_isVoice, .instanceMethod yX2_isVoice, .selects RX2 yX2_isVoice yX2_isVoice, .initialized RX2, .code yX2_isVoice cX2_isVoice 2 (some .boolean), .fieldLink RX2 42 "ChoirNotesModel" "voices" "I", .methodLink RX2 45 yX2_isIn, .static yX2_isIn, .code yX2_isIn cX2_isIn 3 (some .boolean), .methodLink RX2 76 yX2_fail, .instanceMethod yX2_fail, .selects RX2 yX2_fail yX2_fail, .code yX2_fail cX2_fail 2 (some .int), .methodLink RX2 83 yX2_put, .instanceMethod yX2_put, .selects RX2 yX2_put yX2_put, .code yX2_put cX2_put 7 none, .fieldLink RX2 19 "ChoirNotesModel" "kind" "[I", .fieldLink RX2 22 "ChoirNotesModel" "place" "[I", .fieldLink RX2 25 "ChoirNotesModel" "isRed" "[Z", .fieldLink RX2 29 "ChoirNotesModel" "tied" "[I"] ++ wsX20)
def wsX2_addLigature : List Cond := .code yX2_addLigature cX2_addLigature 8 (some .int) :: ([.fieldLink RX2 38 "ChoirNotesModel" "thrown" "I", .fieldLink RX2 9 "ChoirNotesModel" "many" "[I", .methodLink RX2 49 yX2_isVoice, .instanceMethod yX2_isVoice, .selects RX2 yX2_isVoice yX2_isVoice, .initialized RX2, .code yX2_isVoice cX2_isVoice 2 (some .boolean), .fieldLink RX2 42 "ChoirNotesModel" "voices" "I", .methodLink RX2 45 yX2_isIn, .static yX2_isIn, .code yX2_isIn cX2_isIn 3 (some .boolean), .methodLink RX2 76 yX2_fail, .instanceMethod yX2_fail, .selects RX2 yX2_fail yX2_fail, .code yX2_fail cX2_fail 2 (some .int), .methodLink RX2 83 yX2_put, .instanceMethod yX2_put, .selects RX2 yX2_put yX2_put, .code yX2_put cX2_put 7 none, .fieldLink RX2 19 "ChoirNotesModel" "kind" "[I", .fieldLink RX2 22 "ChoirNotesModel" "place" "[I", .fieldLink RX2 25 "ChoirNotesModel" "isRed" "[Z", .fieldLink RX2 29 "ChoirNotesModel" "tied" "[I"] ++ wsX20)
def wsX2_erase : List Cond := .code yX2_erase cX2_erase 3 (some .int) :: ([.fieldLink RX2 38 "ChoirNotesModel" "thrown" "I", .fieldLink RX2 9 "ChoirNotesModel" "many" "[I", .fieldLink RX2 29 "ChoirNotesModel" "tied" "[I", .methodLink RX2 87 Lib.Math.max.name, .static Lib.Math.max.name, .initialized "java/lang/Math", .code Lib.Math.max.name Lib.Math.max.code 2 (some .int), .methodLink RX2 49 yX2_isVoice, .instanceMethod yX2_isVoice, .selects RX2 yX2_isVoice yX2_isVoice, .initialized RX2, .code yX2_isVoice cX2_isVoice 2 (some .boolean), .fieldLink RX2 42 "ChoirNotesModel" "voices" "I", .methodLink RX2 45 yX2_isIn, .static yX2_isIn, .code yX2_isIn cX2_isIn 3 (some .boolean), .methodLink RX2 76 yX2_fail, .instanceMethod yX2_fail, .selects RX2 yX2_fail yX2_fail, .code yX2_fail cX2_fail 2 (some .int)] ++ wsX20)
def wsX2_recolour : List Cond := .code yX2_recolour cX2_recolour 4 (some .boolean) :: ([.fieldLink RX2 22 "ChoirNotesModel" "place" "[I", .fieldLink RX2 38 "ChoirNotesModel" "thrown" "I", .fieldLink RX2 25 "ChoirNotesModel" "isRed" "[Z", .methodLink RX2 90 yX2_isSign, .instanceMethod yX2_isSign, .selects RX2 yX2_isSign yX2_isSign, .initialized RX2, .code yX2_isSign cX2_isSign 3 (some .boolean), .fieldLink RX2 9 "ChoirNotesModel" "many" "[I", .methodLink RX2 49 yX2_isVoice, .instanceMethod yX2_isVoice, .selects RX2 yX2_isVoice yX2_isVoice, .code yX2_isVoice cX2_isVoice 2 (some .boolean), .fieldLink RX2 42 "ChoirNotesModel" "voices" "I", .methodLink RX2 45 yX2_isIn, .static yX2_isIn, .code yX2_isIn cX2_isIn 3 (some .boolean)] ++ wsX20)
def wsX2_setClef : List Cond := .code yX2_setClef cX2_setClef 4 (some .int) :: ([.fieldLink RX2 38 "ChoirNotesModel" "thrown" "I", .fieldLink RX2 13 "ChoirNotesModel" "clef" "[I", .methodLink RX2 49 yX2_isVoice, .instanceMethod yX2_isVoice, .selects RX2 yX2_isVoice yX2_isVoice, .initialized RX2, .code yX2_isVoice cX2_isVoice 2 (some .boolean), .fieldLink RX2 42 "ChoirNotesModel" "voices" "I", .methodLink RX2 45 yX2_isIn, .static yX2_isIn, .code yX2_isIn cX2_isIn 3 (some .boolean), .methodLink RX2 76 yX2_fail, .instanceMethod yX2_fail, .selects RX2 yX2_fail yX2_fail, .code yX2_fail cX2_fail 2 (some .int)] ++ wsX20)
def wsX2_setMensuration_r1 : List Cond := [Cond.fieldLink RX2 38 "ChoirNotesModel" "thrown" "I", Cond.methodLink RX2 49 yX2_isVoice, Cond.instanceMethod yX2_isVoice, Cond.selects RX2 yX2_isVoice yX2_isVoice, Cond.initialized RX2, Cond.code yX2_isVoice cX2_isVoice 2 (some .boolean), Cond.fieldLink RX2 42 "ChoirNotesModel" "voices" "I", Cond.methodLink RX2 45 yX2_isIn, Cond.static yX2_isIn, Cond.code yX2_isIn cX2_isIn 3 (some .boolean), Cond.methodLink RX2 76 yX2_fail, Cond.instanceMethod yX2_fail, Cond.selects RX2 yX2_fail yX2_fail, Cond.code yX2_fail cX2_fail 2 (some .int), Cond.methodLink RX2 73 yX2_isMeasure, Cond.static yX2_isMeasure, Cond.code yX2_isMeasure cX2_isMeasure 3 (some .boolean), Cond.methodLink RX2 79 yX2_set, Cond.instanceMethod yX2_set, Cond.selects RX2 yX2_set yX2_set, Cond.code yX2_set cX2_set 5 none, Cond.fieldLink RX2 16 "ChoirNotesModel" "measure" "[I", Cond.methodLink RX2 94 yX2_all, Cond.instanceMethod yX2_all]
def wsX2_setMensuration_r2 : List Cond := [Cond.selects RX2 yX2_all yX2_all, Cond.code yX2_all cX2_all 4 (some .int), Cond.fieldLink RX2 9 "ChoirNotesModel" "many" "[I", Cond.methodLink RX2 53 yX2_lasts, Cond.instanceMethod yX2_lasts, Cond.selects RX2 yX2_lasts yX2_lasts, Cond.code yX2_lasts cX2_lasts 6 (some .int), Cond.fieldLink RX2 19 "ChoirNotesModel" "kind" "[I", Cond.fieldLink RX2 25 "ChoirNotesModel" "isRed" "[Z"]
def wsX2_setMensuration : List Cond := .code yX2_setMensuration cX2_setMensuration 5 (some .int) :: ((wsX2_setMensuration_r1 ++ wsX2_setMensuration_r2) ++ wsX20)
def wsX2_voices : List Cond := .code yX2_voices cX2_voices 1 (some .int) :: ([.fieldLink RX2 42 "ChoirNotesModel" "voices" "I", .methodLink RX2 97 yX2_told, .instanceMethod yX2_told, .selects RX2 yX2_told yX2_told, .initialized RX2, .code yX2_told cX2_told 2 (some .int), .fieldLink RX2 38 "ChoirNotesModel" "thrown" "I"] ++ wsX20)
def wsX2_signs : List Cond := .code yX2_signs cX2_signs 2 (some .int) :: ([.fieldLink RX2 38 "ChoirNotesModel" "thrown" "I", .fieldLink RX2 9 "ChoirNotesModel" "many" "[I", .methodLink RX2 49 yX2_isVoice, .instanceMethod yX2_isVoice, .selects RX2 yX2_isVoice yX2_isVoice, .initialized RX2, .code yX2_isVoice cX2_isVoice 2 (some .boolean), .fieldLink RX2 42 "ChoirNotesModel" "voices" "I", .methodLink RX2 45 yX2_isIn, .static yX2_isIn, .code yX2_isIn cX2_isIn 3 (some .boolean), .methodLink RX2 76 yX2_fail, .instanceMethod yX2_fail, .selects RX2 yX2_fail yX2_fail, .code yX2_fail cX2_fail 2 (some .int)] ++ wsX20)
def wsX2_count : List Cond := .code yX2_count cX2_count 5 (some .int) :: ([.fieldLink RX2 9 "ChoirNotesModel" "many" "[I", .fieldLink RX2 22 "ChoirNotesModel" "place" "[I", .fieldLink RX2 29 "ChoirNotesModel" "tied" "[I"] ++ wsX20)
def wsX2_notes : List Cond := .code yX2_notes cX2_notes 2 (some .int) :: ([.fieldLink RX2 38 "ChoirNotesModel" "thrown" "I", .methodLink RX2 49 yX2_isVoice, .instanceMethod yX2_isVoice, .selects RX2 yX2_isVoice yX2_isVoice, .initialized RX2, .code yX2_isVoice cX2_isVoice 2 (some .boolean), .fieldLink RX2 42 "ChoirNotesModel" "voices" "I", .methodLink RX2 45 yX2_isIn, .static yX2_isIn, .code yX2_isIn cX2_isIn 3 (some .boolean), .methodLink RX2 100 yX2_count, .instanceMethod yX2_count, .selects RX2 yX2_count yX2_count, .code yX2_count cX2_count 5 (some .int), .fieldLink RX2 9 "ChoirNotesModel" "many" "[I", .fieldLink RX2 22 "ChoirNotesModel" "place" "[I", .fieldLink RX2 29 "ChoirNotesModel" "tied" "[I", .methodLink RX2 76 yX2_fail, .instanceMethod yX2_fail, .selects RX2 yX2_fail yX2_fail, .code yX2_fail cX2_fail 2 (some .int)] ++ wsX20)
def wsX2_ligatures : List Cond := .code yX2_ligatures cX2_ligatures 2 (some .int) :: ([.fieldLink RX2 38 "ChoirNotesModel" "thrown" "I", .methodLink RX2 49 yX2_isVoice, .instanceMethod yX2_isVoice, .selects RX2 yX2_isVoice yX2_isVoice, .initialized RX2, .code yX2_isVoice cX2_isVoice 2 (some .boolean), .fieldLink RX2 42 "ChoirNotesModel" "voices" "I", .methodLink RX2 45 yX2_isIn, .static yX2_isIn, .code yX2_isIn cX2_isIn 3 (some .boolean), .methodLink RX2 100 yX2_count, .instanceMethod yX2_count, .selects RX2 yX2_count yX2_count, .code yX2_count cX2_count 5 (some .int), .fieldLink RX2 9 "ChoirNotesModel" "many" "[I", .fieldLink RX2 22 "ChoirNotesModel" "place" "[I", .fieldLink RX2 29 "ChoirNotesModel" "tied" "[I", .methodLink RX2 76 yX2_fail, .instanceMethod yX2_fail, .selects RX2 yX2_fail yX2_fail, .code yX2_fail cX2_fail 2 (some .int)] ++ wsX20)
def wsX2_of : List Cond := .code yX2_of cX2_of 4 (some .int) :: ([.fieldLink RX2 38 "ChoirNotesModel" "thrown" "I", .methodLink RX2 90 yX2_isSign, .instanceMethod yX2_isSign, .selects RX2 yX2_isSign yX2_isSign, .initialized RX2, .code yX2_isSign cX2_isSign 3 (some .boolean), .fieldLink RX2 9 "ChoirNotesModel" "many" "[I", .methodLink RX2 49 yX2_isVoice, .instanceMethod yX2_isVoice, .selects RX2 yX2_isVoice yX2_isVoice, .code yX2_isVoice cX2_isVoice 2 (some .boolean), .fieldLink RX2 42 "ChoirNotesModel" "voices" "I", .methodLink RX2 45 yX2_isIn, .static yX2_isIn, .code yX2_isIn cX2_isIn 3 (some .boolean), .methodLink RX2 76 yX2_fail, .instanceMethod yX2_fail, .selects RX2 yX2_fail yX2_fail, .code yX2_fail cX2_fail 2 (some .int)] ++ wsX20)
def wsX2_kindOf : List Cond := .code yX2_kindOf cX2_kindOf 3 (some .int) :: ([.fieldLink RX2 19 "ChoirNotesModel" "kind" "[I", .methodLink RX2 104 yX2_of, .instanceMethod yX2_of, .selects RX2 yX2_of yX2_of, .initialized RX2, .code yX2_of cX2_of 4 (some .int), .fieldLink RX2 38 "ChoirNotesModel" "thrown" "I", .methodLink RX2 90 yX2_isSign, .instanceMethod yX2_isSign, .selects RX2 yX2_isSign yX2_isSign, .code yX2_isSign cX2_isSign 3 (some .boolean), .fieldLink RX2 9 "ChoirNotesModel" "many" "[I", .methodLink RX2 49 yX2_isVoice, .instanceMethod yX2_isVoice, .selects RX2 yX2_isVoice yX2_isVoice, .code yX2_isVoice cX2_isVoice 2 (some .boolean), .fieldLink RX2 42 "ChoirNotesModel" "voices" "I", .methodLink RX2 45 yX2_isIn, .static yX2_isIn, .code yX2_isIn cX2_isIn 3 (some .boolean), .methodLink RX2 76 yX2_fail, .instanceMethod yX2_fail, .selects RX2 yX2_fail yX2_fail, .code yX2_fail cX2_fail 2 (some .int)] ++ wsX20)
def wsX2_placeOf : List Cond := .code yX2_placeOf cX2_placeOf 3 (some .int) :: ([.fieldLink RX2 22 "ChoirNotesModel" "place" "[I", .methodLink RX2 104 yX2_of, .instanceMethod yX2_of, .selects RX2 yX2_of yX2_of, .initialized RX2, .code yX2_of cX2_of 4 (some .int), .fieldLink RX2 38 "ChoirNotesModel" "thrown" "I", .methodLink RX2 90 yX2_isSign, .instanceMethod yX2_isSign, .selects RX2 yX2_isSign yX2_isSign, .code yX2_isSign cX2_isSign 3 (some .boolean), .fieldLink RX2 9 "ChoirNotesModel" "many" "[I", .methodLink RX2 49 yX2_isVoice, .instanceMethod yX2_isVoice, .selects RX2 yX2_isVoice yX2_isVoice, .code yX2_isVoice cX2_isVoice 2 (some .boolean), .fieldLink RX2 42 "ChoirNotesModel" "voices" "I", .methodLink RX2 45 yX2_isIn, .static yX2_isIn, .code yX2_isIn cX2_isIn 3 (some .boolean), .methodLink RX2 76 yX2_fail, .instanceMethod yX2_fail, .selects RX2 yX2_fail yX2_fail, .code yX2_fail cX2_fail 2 (some .int)] ++ wsX20)
def wsX2_isColoured : List Cond := .code yX2_isColoured cX2_isColoured 3 (some .boolean) :: ([.fieldLink RX2 38 "ChoirNotesModel" "thrown" "I", .fieldLink RX2 25 "ChoirNotesModel" "isRed" "[Z", .methodLink RX2 90 yX2_isSign, .instanceMethod yX2_isSign, .selects RX2 yX2_isSign yX2_isSign, .initialized RX2, .code yX2_isSign cX2_isSign 3 (some .boolean), .fieldLink RX2 9 "ChoirNotesModel" "many" "[I", .methodLink RX2 49 yX2_isVoice, .instanceMethod yX2_isVoice, .selects RX2 yX2_isVoice yX2_isVoice, .code yX2_isVoice cX2_isVoice 2 (some .boolean), .fieldLink RX2 42 "ChoirNotesModel" "voices" "I", .methodLink RX2 45 yX2_isIn, .static yX2_isIn, .code yX2_isIn cX2_isIn 3 (some .boolean)] ++ wsX20)
def wsX2_placeInLigature : List Cond := .code yX2_placeInLigature cX2_placeInLigature 3 (some .int) :: ([.fieldLink RX2 29 "ChoirNotesModel" "tied" "[I", .methodLink RX2 104 yX2_of, .instanceMethod yX2_of, .selects RX2 yX2_of yX2_of, .initialized RX2, .code yX2_of cX2_of 4 (some .int), .fieldLink RX2 38 "ChoirNotesModel" "thrown" "I", .methodLink RX2 90 yX2_isSign, .instanceMethod yX2_isSign, .selects RX2 yX2_isSign yX2_isSign, .code yX2_isSign cX2_isSign 3 (some .boolean), .fieldLink RX2 9 "ChoirNotesModel" "many" "[I", .methodLink RX2 49 yX2_isVoice, .instanceMethod yX2_isVoice, .selects RX2 yX2_isVoice yX2_isVoice, .code yX2_isVoice cX2_isVoice 2 (some .boolean), .fieldLink RX2 42 "ChoirNotesModel" "voices" "I", .methodLink RX2 45 yX2_isIn, .static yX2_isIn, .code yX2_isIn cX2_isIn 3 (some .boolean), .methodLink RX2 76 yX2_fail, .instanceMethod yX2_fail, .selects RX2 yX2_fail yX2_fail, .code yX2_fail cX2_fail 2 (some .int)] ++ wsX20)
def wsX2_lengthOf_r1 : List Cond := [Cond.fieldLink RX2 38 "ChoirNotesModel" "thrown" "I", Cond.methodLink RX2 90 yX2_isSign, Cond.instanceMethod yX2_isSign, Cond.selects RX2 yX2_isSign yX2_isSign, Cond.initialized RX2, Cond.code yX2_isSign cX2_isSign 3 (some .boolean), Cond.fieldLink RX2 9 "ChoirNotesModel" "many" "[I", Cond.methodLink RX2 49 yX2_isVoice, Cond.instanceMethod yX2_isVoice, Cond.selects RX2 yX2_isVoice yX2_isVoice, Cond.code yX2_isVoice cX2_isVoice 2 (some .boolean), Cond.fieldLink RX2 42 "ChoirNotesModel" "voices" "I", Cond.methodLink RX2 45 yX2_isIn, Cond.static yX2_isIn, Cond.code yX2_isIn cX2_isIn 3 (some .boolean), Cond.methodLink RX2 53 yX2_lasts, Cond.instanceMethod yX2_lasts, Cond.selects RX2 yX2_lasts yX2_lasts, Cond.code yX2_lasts cX2_lasts 6 (some .int), Cond.fieldLink RX2 19 "ChoirNotesModel" "kind" "[I", Cond.fieldLink RX2 25 "ChoirNotesModel" "isRed" "[Z", Cond.fieldLink RX2 16 "ChoirNotesModel" "measure" "[I", Cond.methodLink RX2 76 yX2_fail, Cond.instanceMethod yX2_fail]
def wsX2_lengthOf_r2 : List Cond := [Cond.selects RX2 yX2_fail yX2_fail, Cond.code yX2_fail cX2_fail 2 (some .int)]
def wsX2_lengthOf : List Cond := .code yX2_lengthOf cX2_lengthOf 3 (some .int) :: ((wsX2_lengthOf_r1 ++ wsX2_lengthOf_r2) ++ wsX20)
def wsX2_begins : List Cond := .code yX2_begins cX2_begins 5 (some .int) :: ([.methodLink RX2 53 yX2_lasts, .instanceMethod yX2_lasts, .selects RX2 yX2_lasts yX2_lasts, .initialized RX2, .code yX2_lasts cX2_lasts 6 (some .int), .fieldLink RX2 19 "ChoirNotesModel" "kind" "[I", .fieldLink RX2 25 "ChoirNotesModel" "isRed" "[Z", .fieldLink RX2 16 "ChoirNotesModel" "measure" "[I"] ++ wsX20)
def wsX2_beginOf_r1 : List Cond := [Cond.fieldLink RX2 38 "ChoirNotesModel" "thrown" "I", Cond.methodLink RX2 90 yX2_isSign, Cond.instanceMethod yX2_isSign, Cond.selects RX2 yX2_isSign yX2_isSign, Cond.initialized RX2, Cond.code yX2_isSign cX2_isSign 3 (some .boolean), Cond.fieldLink RX2 9 "ChoirNotesModel" "many" "[I", Cond.methodLink RX2 49 yX2_isVoice, Cond.instanceMethod yX2_isVoice, Cond.selects RX2 yX2_isVoice yX2_isVoice, Cond.code yX2_isVoice cX2_isVoice 2 (some .boolean), Cond.fieldLink RX2 42 "ChoirNotesModel" "voices" "I", Cond.methodLink RX2 45 yX2_isIn, Cond.static yX2_isIn, Cond.code yX2_isIn cX2_isIn 3 (some .boolean), Cond.methodLink RX2 108 yX2_begins, Cond.instanceMethod yX2_begins, Cond.selects RX2 yX2_begins yX2_begins, Cond.code yX2_begins cX2_begins 5 (some .int), Cond.methodLink RX2 53 yX2_lasts, Cond.instanceMethod yX2_lasts, Cond.selects RX2 yX2_lasts yX2_lasts, Cond.code yX2_lasts cX2_lasts 6 (some .int), Cond.fieldLink RX2 19 "ChoirNotesModel" "kind" "[I"]
def wsX2_beginOf_r2 : List Cond := [Cond.fieldLink RX2 25 "ChoirNotesModel" "isRed" "[Z", Cond.fieldLink RX2 16 "ChoirNotesModel" "measure" "[I", Cond.methodLink RX2 76 yX2_fail, Cond.instanceMethod yX2_fail, Cond.selects RX2 yX2_fail yX2_fail, Cond.code yX2_fail cX2_fail 2 (some .int)]
def wsX2_beginOf : List Cond := .code yX2_beginOf cX2_beginOf 3 (some .int) :: ((wsX2_beginOf_r1 ++ wsX2_beginOf_r2) ++ wsX20)
def wsX2_length_r1 : List Cond := [Cond.fieldLink RX2 38 "ChoirNotesModel" "thrown" "I", Cond.methodLink RX2 49 yX2_isVoice, Cond.instanceMethod yX2_isVoice, Cond.selects RX2 yX2_isVoice yX2_isVoice, Cond.initialized RX2, Cond.code yX2_isVoice cX2_isVoice 2 (some .boolean), Cond.fieldLink RX2 42 "ChoirNotesModel" "voices" "I", Cond.methodLink RX2 45 yX2_isIn, Cond.static yX2_isIn, Cond.code yX2_isIn cX2_isIn 3 (some .boolean), Cond.methodLink RX2 94 yX2_all, Cond.instanceMethod yX2_all, Cond.selects RX2 yX2_all yX2_all, Cond.code yX2_all cX2_all 4 (some .int), Cond.fieldLink RX2 9 "ChoirNotesModel" "many" "[I", Cond.methodLink RX2 53 yX2_lasts, Cond.instanceMethod yX2_lasts, Cond.selects RX2 yX2_lasts yX2_lasts, Cond.code yX2_lasts cX2_lasts 6 (some .int), Cond.fieldLink RX2 19 "ChoirNotesModel" "kind" "[I", Cond.fieldLink RX2 25 "ChoirNotesModel" "isRed" "[Z", Cond.fieldLink RX2 16 "ChoirNotesModel" "measure" "[I", Cond.methodLink RX2 76 yX2_fail, Cond.instanceMethod yX2_fail]
def wsX2_length_r2 : List Cond := [Cond.selects RX2 yX2_fail yX2_fail, Cond.code yX2_fail cX2_fail 2 (some .int)]
def wsX2_length : List Cond := .code yX2_length cX2_length 2 (some .int) :: ((wsX2_length_r1 ++ wsX2_length_r2) ++ wsX20)
def wsX2_most : List Cond := .code yX2_most cX2_most 3 (some .int) :: ([.fieldLink RX2 42 "ChoirNotesModel" "voices" "I", .methodLink RX2 87 Lib.Math.max.name, .static Lib.Math.max.name, .initialized "java/lang/Math", .code Lib.Math.max.name Lib.Math.max.code 2 (some .int), .methodLink RX2 94 yX2_all, .instanceMethod yX2_all, .selects RX2 yX2_all yX2_all, .initialized RX2, .code yX2_all cX2_all 4 (some .int), .fieldLink RX2 9 "ChoirNotesModel" "many" "[I", .methodLink RX2 53 yX2_lasts, .instanceMethod yX2_lasts, .selects RX2 yX2_lasts yX2_lasts, .code yX2_lasts cX2_lasts 6 (some .int), .fieldLink RX2 19 "ChoirNotesModel" "kind" "[I", .fieldLink RX2 25 "ChoirNotesModel" "isRed" "[Z", .fieldLink RX2 16 "ChoirNotesModel" "measure" "[I"] ++ wsX20)
def wsX2_longest_r1 : List Cond := [Cond.methodLink RX2 111 yX2_most, Cond.instanceMethod yX2_most, Cond.selects RX2 yX2_most yX2_most, Cond.initialized RX2, Cond.code yX2_most cX2_most 3 (some .int), Cond.fieldLink RX2 42 "ChoirNotesModel" "voices" "I", Cond.methodLink RX2 87 Lib.Math.max.name, Cond.static Lib.Math.max.name, Cond.initialized "java/lang/Math", Cond.code Lib.Math.max.name Lib.Math.max.code 2 (some .int), Cond.methodLink RX2 94 yX2_all, Cond.instanceMethod yX2_all, Cond.selects RX2 yX2_all yX2_all, Cond.code yX2_all cX2_all 4 (some .int), Cond.fieldLink RX2 9 "ChoirNotesModel" "many" "[I", Cond.methodLink RX2 53 yX2_lasts, Cond.instanceMethod yX2_lasts, Cond.selects RX2 yX2_lasts yX2_lasts, Cond.code yX2_lasts cX2_lasts 6 (some .int), Cond.fieldLink RX2 19 "ChoirNotesModel" "kind" "[I", Cond.fieldLink RX2 25 "ChoirNotesModel" "isRed" "[Z", Cond.fieldLink RX2 16 "ChoirNotesModel" "measure" "[I", Cond.methodLink RX2 97 yX2_told, Cond.instanceMethod yX2_told]
def wsX2_longest_r2 : List Cond := [Cond.selects RX2 yX2_told yX2_told, Cond.code yX2_told cX2_told 2 (some .int), Cond.fieldLink RX2 38 "ChoirNotesModel" "thrown" "I"]
def wsX2_longest : List Cond := .code yX2_longest cX2_longest 1 (some .int) :: ((wsX2_longest_r1 ++ wsX2_longest_r2) ++ wsX20)
def wsX2_signAt : List Cond := .code yX2_signAt cX2_signAt 5 (some .int) :: ([.fieldLink RX2 38 "ChoirNotesModel" "thrown" "I", .fieldLink RX2 9 "ChoirNotesModel" "many" "[I", .methodLink RX2 49 yX2_isVoice, .instanceMethod yX2_isVoice, .selects RX2 yX2_isVoice yX2_isVoice, .initialized RX2, .code yX2_isVoice cX2_isVoice 2 (some .boolean), .fieldLink RX2 42 "ChoirNotesModel" "voices" "I", .methodLink RX2 45 yX2_isIn, .static yX2_isIn, .code yX2_isIn cX2_isIn 3 (some .boolean), .methodLink RX2 76 yX2_fail, .instanceMethod yX2_fail, .selects RX2 yX2_fail yX2_fail, .code yX2_fail cX2_fail 2 (some .int), .methodLink RX2 53 yX2_lasts, .instanceMethod yX2_lasts, .selects RX2 yX2_lasts yX2_lasts, .code yX2_lasts cX2_lasts 6 (some .int), .fieldLink RX2 19 "ChoirNotesModel" "kind" "[I", .fieldLink RX2 25 "ChoirNotesModel" "isRed" "[Z", .fieldLink RX2 16 "ChoirNotesModel" "measure" "[I"] ++ wsX20)
def wsX2_clefOf : List Cond := .code yX2_clefOf cX2_clefOf 2 (some .int) :: ([.fieldLink RX2 38 "ChoirNotesModel" "thrown" "I", .fieldLink RX2 13 "ChoirNotesModel" "clef" "[I", .methodLink RX2 49 yX2_isVoice, .instanceMethod yX2_isVoice, .selects RX2 yX2_isVoice yX2_isVoice, .initialized RX2, .code yX2_isVoice cX2_isVoice 2 (some .boolean), .fieldLink RX2 42 "ChoirNotesModel" "voices" "I", .methodLink RX2 45 yX2_isIn, .static yX2_isIn, .code yX2_isIn cX2_isIn 3 (some .boolean), .methodLink RX2 76 yX2_fail, .instanceMethod yX2_fail, .selects RX2 yX2_fail yX2_fail, .code yX2_fail cX2_fail 2 (some .int)] ++ wsX20)
def wsX2_pitchOf : List Cond := .code yX2_pitchOf cX2_pitchOf 4 (some .int) :: ([.fieldLink RX2 38 "ChoirNotesModel" "thrown" "I", .fieldLink RX2 13 "ChoirNotesModel" "clef" "[I", .fieldLink RX2 22 "ChoirNotesModel" "place" "[I", .methodLink RX2 90 yX2_isSign, .instanceMethod yX2_isSign, .selects RX2 yX2_isSign yX2_isSign, .initialized RX2, .code yX2_isSign cX2_isSign 3 (some .boolean), .fieldLink RX2 9 "ChoirNotesModel" "many" "[I", .methodLink RX2 49 yX2_isVoice, .instanceMethod yX2_isVoice, .selects RX2 yX2_isVoice yX2_isVoice, .code yX2_isVoice cX2_isVoice 2 (some .boolean), .fieldLink RX2 42 "ChoirNotesModel" "voices" "I", .methodLink RX2 45 yX2_isIn, .static yX2_isIn, .code yX2_isIn cX2_isIn 3 (some .boolean), .methodLink RX2 76 yX2_fail, .instanceMethod yX2_fail, .selects RX2 yX2_fail yX2_fail, .code yX2_fail cX2_fail 2 (some .int)] ++ wsX20)
def wsX2_fit : List Cond := .code yX2_fit cX2_fit 4 (some .boolean) :: ([.fieldLink RX2 9 "ChoirNotesModel" "many" "[I", .fieldLink RX2 22 "ChoirNotesModel" "place" "[I", .methodLink RX2 45 yX2_isIn, .static yX2_isIn, .initialized RX2, .code yX2_isIn cX2_isIn 3 (some .boolean)] ++ wsX20)
def wsX2_fits : List Cond := .code yX2_fits cX2_fits 3 (some .boolean) :: ([.fieldLink RX2 38 "ChoirNotesModel" "thrown" "I", .methodLink RX2 49 yX2_isVoice, .instanceMethod yX2_isVoice, .selects RX2 yX2_isVoice yX2_isVoice, .initialized RX2, .code yX2_isVoice cX2_isVoice 2 (some .boolean), .fieldLink RX2 42 "ChoirNotesModel" "voices" "I", .methodLink RX2 45 yX2_isIn, .static yX2_isIn, .code yX2_isIn cX2_isIn 3 (some .boolean), .methodLink RX2 115 yX2_fit, .instanceMethod yX2_fit, .selects RX2 yX2_fit yX2_fit, .code yX2_fit cX2_fit 4 (some .boolean), .fieldLink RX2 9 "ChoirNotesModel" "many" "[I", .fieldLink RX2 22 "ChoirNotesModel" "place" "[I"] ++ wsX20)
def wsX2_fitting : List Cond := .code yX2_fitting cX2_fitting 4 (some .int) :: ([.methodLink RX2 115 yX2_fit, .instanceMethod yX2_fit, .selects RX2 yX2_fit yX2_fit, .initialized RX2, .code yX2_fit cX2_fit 4 (some .boolean), .fieldLink RX2 9 "ChoirNotesModel" "many" "[I", .fieldLink RX2 22 "ChoirNotesModel" "place" "[I", .methodLink RX2 45 yX2_isIn, .static yX2_isIn, .code yX2_isIn cX2_isIn 3 (some .boolean)] ++ wsX20)
def wsX2_clefsThatFit : List Cond := .code yX2_clefsThatFit cX2_clefsThatFit 2 (some .int) :: ([.fieldLink RX2 38 "ChoirNotesModel" "thrown" "I", .methodLink RX2 49 yX2_isVoice, .instanceMethod yX2_isVoice, .selects RX2 yX2_isVoice yX2_isVoice, .initialized RX2, .code yX2_isVoice cX2_isVoice 2 (some .boolean), .fieldLink RX2 42 "ChoirNotesModel" "voices" "I", .methodLink RX2 45 yX2_isIn, .static yX2_isIn, .code yX2_isIn cX2_isIn 3 (some .boolean), .methodLink RX2 118 yX2_fitting, .instanceMethod yX2_fitting, .selects RX2 yX2_fitting yX2_fitting, .code yX2_fitting cX2_fitting 4 (some .int), .methodLink RX2 115 yX2_fit, .instanceMethod yX2_fit, .selects RX2 yX2_fit yX2_fit, .code yX2_fit cX2_fit 4 (some .boolean), .fieldLink RX2 9 "ChoirNotesModel" "many" "[I", .fieldLink RX2 22 "ChoirNotesModel" "place" "[I", .methodLink RX2 76 yX2_fail, .instanceMethod yX2_fail, .selects RX2 yX2_fail yX2_fail, .code yX2_fail cX2_fail 2 (some .int)] ++ wsX20)
def wsX2_both_r1 : List Cond := [Cond.fieldLink RX2 38 "ChoirNotesModel" "thrown" "I", Cond.fieldLink RX2 13 "ChoirNotesModel" "clef" "[I", Cond.methodLink RX2 49 yX2_isVoice, Cond.instanceMethod yX2_isVoice, Cond.selects RX2 yX2_isVoice yX2_isVoice, Cond.initialized RX2, Cond.code yX2_isVoice cX2_isVoice 2 (some .boolean), Cond.fieldLink RX2 42 "ChoirNotesModel" "voices" "I", Cond.methodLink RX2 45 yX2_isIn, Cond.static yX2_isIn, Cond.code yX2_isIn cX2_isIn 3 (some .boolean), Cond.methodLink RX2 76 yX2_fail, Cond.instanceMethod yX2_fail, Cond.selects RX2 yX2_fail yX2_fail, Cond.code yX2_fail cX2_fail 2 (some .int), Cond.methodLink RX2 121 yX2_clash, Cond.instanceMethod yX2_clash, Cond.selects RX2 yX2_clash yX2_clash, Cond.code yX2_clash cX2_clash 9 (some .int), Cond.fieldLink RX2 32 "ChoirNotesModel" "mine" "[I", Cond.fieldLink RX2 35 "ChoirNotesModel" "theirs" "[I", Cond.methodLink RX2 67 Lib.Math.min.name, Cond.static Lib.Math.min.name, Cond.initialized "java/lang/Math"]
def wsX2_both_r2 : List Cond := [Cond.code Lib.Math.min.name Lib.Math.min.code 2 (some .int), Cond.methodLink RX2 63 yX2_lay, Cond.instanceMethod yX2_lay, Cond.selects RX2 yX2_lay yX2_lay, Cond.code yX2_lay cX2_lay 6 (some .int), Cond.fieldLink RX2 9 "ChoirNotesModel" "many" "[I", Cond.fieldLink RX2 22 "ChoirNotesModel" "place" "[I", Cond.methodLink RX2 53 yX2_lasts, Cond.instanceMethod yX2_lasts, Cond.selects RX2 yX2_lasts yX2_lasts, Cond.code yX2_lasts cX2_lasts 6 (some .int), Cond.fieldLink RX2 19 "ChoirNotesModel" "kind" "[I", Cond.fieldLink RX2 25 "ChoirNotesModel" "isRed" "[Z", Cond.fieldLink RX2 16 "ChoirNotesModel" "measure" "[I", Cond.methodLink RX2 70 yX2_isClash, Cond.static yX2_isClash, Cond.code yX2_isClash cX2_isClash 2 (some .boolean), Cond.methodLink RX2 57 Lib.Math.abs.name, Cond.static Lib.Math.abs.name, Cond.code Lib.Math.abs.name Lib.Math.abs.code 1 (some .int)]
def wsX2_both : List Cond := .code yX2_both cX2_both 4 (some .int) :: ((wsX2_both_r1 ++ wsX2_both_r2) ++ wsX20)
def wsX2_clashes_r1 : List Cond := [Cond.methodLink RX2 125 yX2_both, Cond.instanceMethod yX2_both, Cond.selects RX2 yX2_both yX2_both, Cond.initialized RX2, Cond.code yX2_both cX2_both 4 (some .int), Cond.fieldLink RX2 38 "ChoirNotesModel" "thrown" "I", Cond.fieldLink RX2 13 "ChoirNotesModel" "clef" "[I", Cond.methodLink RX2 49 yX2_isVoice, Cond.instanceMethod yX2_isVoice, Cond.selects RX2 yX2_isVoice yX2_isVoice, Cond.code yX2_isVoice cX2_isVoice 2 (some .boolean), Cond.fieldLink RX2 42 "ChoirNotesModel" "voices" "I", Cond.methodLink RX2 45 yX2_isIn, Cond.static yX2_isIn, Cond.code yX2_isIn cX2_isIn 3 (some .boolean), Cond.methodLink RX2 76 yX2_fail, Cond.instanceMethod yX2_fail, Cond.selects RX2 yX2_fail yX2_fail, Cond.code yX2_fail cX2_fail 2 (some .int), Cond.methodLink RX2 121 yX2_clash, Cond.instanceMethod yX2_clash, Cond.selects RX2 yX2_clash yX2_clash, Cond.code yX2_clash cX2_clash 9 (some .int), Cond.fieldLink RX2 32 "ChoirNotesModel" "mine" "[I"]
def wsX2_clashes_r2 : List Cond := [Cond.fieldLink RX2 35 "ChoirNotesModel" "theirs" "[I", Cond.methodLink RX2 67 Lib.Math.min.name, Cond.static Lib.Math.min.name, Cond.initialized "java/lang/Math", Cond.code Lib.Math.min.name Lib.Math.min.code 2 (some .int), Cond.methodLink RX2 63 yX2_lay, Cond.instanceMethod yX2_lay, Cond.selects RX2 yX2_lay yX2_lay, Cond.code yX2_lay cX2_lay 6 (some .int), Cond.fieldLink RX2 9 "ChoirNotesModel" "many" "[I", Cond.fieldLink RX2 22 "ChoirNotesModel" "place" "[I", Cond.methodLink RX2 53 yX2_lasts, Cond.instanceMethod yX2_lasts, Cond.selects RX2 yX2_lasts yX2_lasts, Cond.code yX2_lasts cX2_lasts 6 (some .int), Cond.fieldLink RX2 19 "ChoirNotesModel" "kind" "[I", Cond.fieldLink RX2 25 "ChoirNotesModel" "isRed" "[Z", Cond.fieldLink RX2 16 "ChoirNotesModel" "measure" "[I", Cond.methodLink RX2 70 yX2_isClash, Cond.static yX2_isClash, Cond.code yX2_isClash cX2_isClash 2 (some .boolean), Cond.methodLink RX2 57 Lib.Math.abs.name, Cond.static Lib.Math.abs.name, Cond.code Lib.Math.abs.name Lib.Math.abs.code 1 (some .int)]
def wsX2_clashes : List Cond := .code yX2_clashes cX2_clashes 3 (some .int) :: ((wsX2_clashes_r1 ++ wsX2_clashes_r2) ++ wsX20)
def wsX2_firstClash_r1 : List Cond := [Cond.methodLink RX2 125 yX2_both, Cond.instanceMethod yX2_both, Cond.selects RX2 yX2_both yX2_both, Cond.initialized RX2, Cond.code yX2_both cX2_both 4 (some .int), Cond.fieldLink RX2 38 "ChoirNotesModel" "thrown" "I", Cond.fieldLink RX2 13 "ChoirNotesModel" "clef" "[I", Cond.methodLink RX2 49 yX2_isVoice, Cond.instanceMethod yX2_isVoice, Cond.selects RX2 yX2_isVoice yX2_isVoice, Cond.code yX2_isVoice cX2_isVoice 2 (some .boolean), Cond.fieldLink RX2 42 "ChoirNotesModel" "voices" "I", Cond.methodLink RX2 45 yX2_isIn, Cond.static yX2_isIn, Cond.code yX2_isIn cX2_isIn 3 (some .boolean), Cond.methodLink RX2 76 yX2_fail, Cond.instanceMethod yX2_fail, Cond.selects RX2 yX2_fail yX2_fail, Cond.code yX2_fail cX2_fail 2 (some .int), Cond.methodLink RX2 121 yX2_clash, Cond.instanceMethod yX2_clash, Cond.selects RX2 yX2_clash yX2_clash, Cond.code yX2_clash cX2_clash 9 (some .int), Cond.fieldLink RX2 32 "ChoirNotesModel" "mine" "[I"]
def wsX2_firstClash_r2 : List Cond := [Cond.fieldLink RX2 35 "ChoirNotesModel" "theirs" "[I", Cond.methodLink RX2 67 Lib.Math.min.name, Cond.static Lib.Math.min.name, Cond.initialized "java/lang/Math", Cond.code Lib.Math.min.name Lib.Math.min.code 2 (some .int), Cond.methodLink RX2 63 yX2_lay, Cond.instanceMethod yX2_lay, Cond.selects RX2 yX2_lay yX2_lay, Cond.code yX2_lay cX2_lay 6 (some .int), Cond.fieldLink RX2 9 "ChoirNotesModel" "many" "[I", Cond.fieldLink RX2 22 "ChoirNotesModel" "place" "[I", Cond.methodLink RX2 53 yX2_lasts, Cond.instanceMethod yX2_lasts, Cond.selects RX2 yX2_lasts yX2_lasts, Cond.code yX2_lasts cX2_lasts 6 (some .int), Cond.fieldLink RX2 19 "ChoirNotesModel" "kind" "[I", Cond.fieldLink RX2 25 "ChoirNotesModel" "isRed" "[Z", Cond.fieldLink RX2 16 "ChoirNotesModel" "measure" "[I", Cond.methodLink RX2 70 yX2_isClash, Cond.static yX2_isClash, Cond.code yX2_isClash cX2_isClash 2 (some .boolean), Cond.methodLink RX2 57 Lib.Math.abs.name, Cond.static Lib.Math.abs.name, Cond.code Lib.Math.abs.name Lib.Math.abs.code 1 (some .int)]
def wsX2_firstClash : List Cond := .code yX2_firstClash cX2_firstClash 3 (some .int) :: ((wsX2_firstClash_r1 ++ wsX2_firstClash_r2) ++ wsX20)
def wsX2_withAll_r1 : List Cond := [Cond.fieldLink RX2 42 "ChoirNotesModel" "voices" "I", Cond.fieldLink RX2 13 "ChoirNotesModel" "clef" "[I", Cond.methodLink RX2 121 yX2_clash, Cond.instanceMethod yX2_clash, Cond.selects RX2 yX2_clash yX2_clash, Cond.initialized RX2, Cond.code yX2_clash cX2_clash 9 (some .int), Cond.fieldLink RX2 32 "ChoirNotesModel" "mine" "[I", Cond.fieldLink RX2 35 "ChoirNotesModel" "theirs" "[I", Cond.methodLink RX2 67 Lib.Math.min.name, Cond.static Lib.Math.min.name, Cond.initialized "java/lang/Math", Cond.code Lib.Math.min.name Lib.Math.min.code 2 (some .int), Cond.methodLink RX2 63 yX2_lay, Cond.instanceMethod yX2_lay, Cond.selects RX2 yX2_lay yX2_lay, Cond.code yX2_lay cX2_lay 6 (some .int), Cond.fieldLink RX2 9 "ChoirNotesModel" "many" "[I", Cond.fieldLink RX2 22 "ChoirNotesModel" "place" "[I", Cond.methodLink RX2 53 yX2_lasts, Cond.instanceMethod yX2_lasts, Cond.selects RX2 yX2_lasts yX2_lasts, Cond.code yX2_lasts cX2_lasts 6 (some .int), Cond.fieldLink RX2 19 "ChoirNotesModel" "kind" "[I"]
def wsX2_withAll_r2 : List Cond := [Cond.fieldLink RX2 25 "ChoirNotesModel" "isRed" "[Z", Cond.fieldLink RX2 16 "ChoirNotesModel" "measure" "[I", Cond.methodLink RX2 70 yX2_isClash, Cond.static yX2_isClash, Cond.code yX2_isClash cX2_isClash 2 (some .boolean), Cond.methodLink RX2 57 Lib.Math.abs.name, Cond.static Lib.Math.abs.name, Cond.code Lib.Math.abs.name Lib.Math.abs.code 1 (some .int)]
def wsX2_withAll : List Cond := .code yX2_withAll cX2_withAll 5 (some .int) :: ((wsX2_withAll_r1 ++ wsX2_withAll_r2) ++ wsX20)
def wsX2_clashesWith_r1 : List Cond := [Cond.fieldLink RX2 38 "ChoirNotesModel" "thrown" "I", Cond.methodLink RX2 49 yX2_isVoice, Cond.instanceMethod yX2_isVoice, Cond.selects RX2 yX2_isVoice yX2_isVoice, Cond.initialized RX2, Cond.code yX2_isVoice cX2_isVoice 2 (some .boolean), Cond.fieldLink RX2 42 "ChoirNotesModel" "voices" "I", Cond.methodLink RX2 45 yX2_isIn, Cond.static yX2_isIn, Cond.code yX2_isIn cX2_isIn 3 (some .boolean), Cond.methodLink RX2 76 yX2_fail, Cond.instanceMethod yX2_fail, Cond.selects RX2 yX2_fail yX2_fail, Cond.code yX2_fail cX2_fail 2 (some .int), Cond.methodLink RX2 129 yX2_withAll, Cond.instanceMethod yX2_withAll, Cond.selects RX2 yX2_withAll yX2_withAll, Cond.code yX2_withAll cX2_withAll 5 (some .int), Cond.fieldLink RX2 13 "ChoirNotesModel" "clef" "[I", Cond.methodLink RX2 121 yX2_clash, Cond.instanceMethod yX2_clash, Cond.selects RX2 yX2_clash yX2_clash, Cond.code yX2_clash cX2_clash 9 (some .int), Cond.fieldLink RX2 32 "ChoirNotesModel" "mine" "[I"]
def wsX2_clashesWith_r2 : List Cond := [Cond.fieldLink RX2 35 "ChoirNotesModel" "theirs" "[I", Cond.methodLink RX2 67 Lib.Math.min.name, Cond.static Lib.Math.min.name, Cond.initialized "java/lang/Math", Cond.code Lib.Math.min.name Lib.Math.min.code 2 (some .int), Cond.methodLink RX2 63 yX2_lay, Cond.instanceMethod yX2_lay, Cond.selects RX2 yX2_lay yX2_lay, Cond.code yX2_lay cX2_lay 6 (some .int), Cond.fieldLink RX2 9 "ChoirNotesModel" "many" "[I", Cond.fieldLink RX2 22 "ChoirNotesModel" "place" "[I", Cond.methodLink RX2 53 yX2_lasts, Cond.instanceMethod yX2_lasts, Cond.selects RX2 yX2_lasts yX2_lasts, Cond.code yX2_lasts cX2_lasts 6 (some .int), Cond.fieldLink RX2 19 "ChoirNotesModel" "kind" "[I", Cond.fieldLink RX2 25 "ChoirNotesModel" "isRed" "[Z", Cond.fieldLink RX2 16 "ChoirNotesModel" "measure" "[I", Cond.methodLink RX2 70 yX2_isClash, Cond.static yX2_isClash, Cond.code yX2_isClash cX2_isClash 2 (some .boolean), Cond.methodLink RX2 57 Lib.Math.abs.name, Cond.static Lib.Math.abs.name, Cond.code Lib.Math.abs.name Lib.Math.abs.code 1 (some .int)]
def wsX2_clashesWith : List Cond := .code yX2_clashesWith cX2_clashesWith 3 (some .int) :: ((wsX2_clashesWith_r1 ++ wsX2_clashesWith_r2) ++ wsX20)
def wsX2_best_r1 : List Cond := [Cond.methodLink RX2 115 yX2_fit, Cond.instanceMethod yX2_fit, Cond.selects RX2 yX2_fit yX2_fit, Cond.initialized RX2, Cond.code yX2_fit cX2_fit 4 (some .boolean), Cond.fieldLink RX2 9 "ChoirNotesModel" "many" "[I", Cond.fieldLink RX2 22 "ChoirNotesModel" "place" "[I", Cond.methodLink RX2 45 yX2_isIn, Cond.static yX2_isIn, Cond.code yX2_isIn cX2_isIn 3 (some .boolean), Cond.methodLink RX2 129 yX2_withAll, Cond.instanceMethod yX2_withAll, Cond.selects RX2 yX2_withAll yX2_withAll, Cond.code yX2_withAll cX2_withAll 5 (some .int), Cond.fieldLink RX2 42 "ChoirNotesModel" "voices" "I", Cond.fieldLink RX2 13 "ChoirNotesModel" "clef" "[I", Cond.methodLink RX2 121 yX2_clash, Cond.instanceMethod yX2_clash, Cond.selects RX2 yX2_clash yX2_clash, Cond.code yX2_clash cX2_clash 9 (some .int), Cond.fieldLink RX2 32 "ChoirNotesModel" "mine" "[I", Cond.fieldLink RX2 35 "ChoirNotesModel" "theirs" "[I", Cond.methodLink RX2 67 Lib.Math.min.name, Cond.static Lib.Math.min.name]
def wsX2_best_r2 : List Cond := [Cond.initialized "java/lang/Math", Cond.code Lib.Math.min.name Lib.Math.min.code 2 (some .int), Cond.methodLink RX2 63 yX2_lay, Cond.instanceMethod yX2_lay, Cond.selects RX2 yX2_lay yX2_lay, Cond.code yX2_lay cX2_lay 6 (some .int), Cond.methodLink RX2 53 yX2_lasts, Cond.instanceMethod yX2_lasts, Cond.selects RX2 yX2_lasts yX2_lasts, Cond.code yX2_lasts cX2_lasts 6 (some .int), Cond.fieldLink RX2 19 "ChoirNotesModel" "kind" "[I", Cond.fieldLink RX2 25 "ChoirNotesModel" "isRed" "[Z", Cond.fieldLink RX2 16 "ChoirNotesModel" "measure" "[I", Cond.methodLink RX2 70 yX2_isClash, Cond.static yX2_isClash, Cond.code yX2_isClash cX2_isClash 2 (some .boolean), Cond.methodLink RX2 57 Lib.Math.abs.name, Cond.static Lib.Math.abs.name, Cond.code Lib.Math.abs.name Lib.Math.abs.code 1 (some .int)]
def wsX2_best : List Cond := .code yX2_best cX2_best 6 (some .int) :: ((wsX2_best_r1 ++ wsX2_best_r2) ++ wsX20)
def wsX2_bestClef_r1 : List Cond := [Cond.fieldLink RX2 38 "ChoirNotesModel" "thrown" "I", Cond.methodLink RX2 49 yX2_isVoice, Cond.instanceMethod yX2_isVoice, Cond.selects RX2 yX2_isVoice yX2_isVoice, Cond.initialized RX2, Cond.code yX2_isVoice cX2_isVoice 2 (some .boolean), Cond.fieldLink RX2 42 "ChoirNotesModel" "voices" "I", Cond.methodLink RX2 45 yX2_isIn, Cond.static yX2_isIn, Cond.code yX2_isIn cX2_isIn 3 (some .boolean), Cond.methodLink RX2 132 yX2_best, Cond.instanceMethod yX2_best, Cond.selects RX2 yX2_best yX2_best, Cond.code yX2_best cX2_best 6 (some .int), Cond.methodLink RX2 115 yX2_fit, Cond.instanceMethod yX2_fit, Cond.selects RX2 yX2_fit yX2_fit, Cond.code yX2_fit cX2_fit 4 (some .boolean), Cond.fieldLink RX2 9 "ChoirNotesModel" "many" "[I", Cond.fieldLink RX2 22 "ChoirNotesModel" "place" "[I", Cond.methodLink RX2 129 yX2_withAll, Cond.instanceMethod yX2_withAll, Cond.selects RX2 yX2_withAll yX2_withAll, Cond.code yX2_withAll cX2_withAll 5 (some .int)]
def wsX2_bestClef_r2 : List Cond := [Cond.fieldLink RX2 13 "ChoirNotesModel" "clef" "[I", Cond.methodLink RX2 121 yX2_clash, Cond.instanceMethod yX2_clash, Cond.selects RX2 yX2_clash yX2_clash, Cond.code yX2_clash cX2_clash 9 (some .int), Cond.fieldLink RX2 32 "ChoirNotesModel" "mine" "[I", Cond.fieldLink RX2 35 "ChoirNotesModel" "theirs" "[I", Cond.methodLink RX2 67 Lib.Math.min.name, Cond.static Lib.Math.min.name, Cond.initialized "java/lang/Math", Cond.code Lib.Math.min.name Lib.Math.min.code 2 (some .int), Cond.methodLink RX2 63 yX2_lay, Cond.instanceMethod yX2_lay, Cond.selects RX2 yX2_lay yX2_lay, Cond.code yX2_lay cX2_lay 6 (some .int), Cond.methodLink RX2 53 yX2_lasts, Cond.instanceMethod yX2_lasts, Cond.selects RX2 yX2_lasts yX2_lasts, Cond.code yX2_lasts cX2_lasts 6 (some .int), Cond.fieldLink RX2 19 "ChoirNotesModel" "kind" "[I", Cond.fieldLink RX2 25 "ChoirNotesModel" "isRed" "[Z", Cond.fieldLink RX2 16 "ChoirNotesModel" "measure" "[I", Cond.methodLink RX2 70 yX2_isClash, Cond.static yX2_isClash]
def wsX2_bestClef_r3 : List Cond := [Cond.code yX2_isClash cX2_isClash 2 (some .boolean), Cond.methodLink RX2 57 Lib.Math.abs.name, Cond.static Lib.Math.abs.name, Cond.code Lib.Math.abs.name Lib.Math.abs.code 1 (some .int), Cond.methodLink RX2 76 yX2_fail, Cond.instanceMethod yX2_fail, Cond.selects RX2 yX2_fail yX2_fail, Cond.code yX2_fail cX2_fail 2 (some .int)]
def wsX2_bestClef : List Cond := .code yX2_bestClef cX2_bestClef 2 (some .int) :: ((wsX2_bestClef_r1 ++ (wsX2_bestClef_r2 ++ wsX2_bestClef_r3)) ++ wsX20)
def wsX2_canon : List Cond := .code yX2_canon cX2_canon 6 (some .int) :: ([.fieldLink RX2 32 "ChoirNotesModel" "mine" "[I", .methodLink RX2 70 yX2_isClash, .static yX2_isClash, .initialized RX2, .code yX2_isClash cX2_isClash 2 (some .boolean), .methodLink RX2 57 Lib.Math.abs.name, .static Lib.Math.abs.name, .initialized "java/lang/Math", .code Lib.Math.abs.name Lib.Math.abs.code 1 (some .int)] ++ wsX20)
def wsX2_canonClashes_r1 : List Cond := [Cond.fieldLink RX2 38 "ChoirNotesModel" "thrown" "I", Cond.fieldLink RX2 32 "ChoirNotesModel" "mine" "[I", Cond.methodLink RX2 49 yX2_isVoice, Cond.instanceMethod yX2_isVoice, Cond.selects RX2 yX2_isVoice yX2_isVoice, Cond.initialized RX2, Cond.code yX2_isVoice cX2_isVoice 2 (some .boolean), Cond.fieldLink RX2 42 "ChoirNotesModel" "voices" "I", Cond.methodLink RX2 45 yX2_isIn, Cond.static yX2_isIn, Cond.code yX2_isIn cX2_isIn 3 (some .boolean), Cond.methodLink RX2 76 yX2_fail, Cond.instanceMethod yX2_fail, Cond.selects RX2 yX2_fail yX2_fail, Cond.code yX2_fail cX2_fail 2 (some .int), Cond.methodLink RX2 63 yX2_lay, Cond.instanceMethod yX2_lay, Cond.selects RX2 yX2_lay yX2_lay, Cond.code yX2_lay cX2_lay 6 (some .int), Cond.fieldLink RX2 9 "ChoirNotesModel" "many" "[I", Cond.fieldLink RX2 22 "ChoirNotesModel" "place" "[I", Cond.methodLink RX2 53 yX2_lasts, Cond.instanceMethod yX2_lasts, Cond.selects RX2 yX2_lasts yX2_lasts]
def wsX2_canonClashes_r2 : List Cond := [Cond.code yX2_lasts cX2_lasts 6 (some .int), Cond.fieldLink RX2 19 "ChoirNotesModel" "kind" "[I", Cond.fieldLink RX2 25 "ChoirNotesModel" "isRed" "[Z", Cond.fieldLink RX2 16 "ChoirNotesModel" "measure" "[I", Cond.methodLink RX2 135 yX2_canon, Cond.instanceMethod yX2_canon, Cond.selects RX2 yX2_canon yX2_canon, Cond.code yX2_canon cX2_canon 6 (some .int), Cond.methodLink RX2 70 yX2_isClash, Cond.static yX2_isClash, Cond.code yX2_isClash cX2_isClash 2 (some .boolean), Cond.methodLink RX2 57 Lib.Math.abs.name, Cond.static Lib.Math.abs.name, Cond.initialized "java/lang/Math", Cond.code Lib.Math.abs.name Lib.Math.abs.code 1 (some .int)]
def wsX2_canonClashes : List Cond := .code yX2_canonClashes cX2_canonClashes 4 (some .int) :: ((wsX2_canonClashes_r1 ++ wsX2_canonClashes_r2) ++ wsX20)
def wsX2_delay_r1 : List Cond := [Cond.fieldLink RX2 32 "ChoirNotesModel" "mine" "[I", Cond.methodLink RX2 63 yX2_lay, Cond.instanceMethod yX2_lay, Cond.selects RX2 yX2_lay yX2_lay, Cond.initialized RX2, Cond.code yX2_lay cX2_lay 6 (some .int), Cond.fieldLink RX2 9 "ChoirNotesModel" "many" "[I", Cond.fieldLink RX2 22 "ChoirNotesModel" "place" "[I", Cond.methodLink RX2 53 yX2_lasts, Cond.instanceMethod yX2_lasts, Cond.selects RX2 yX2_lasts yX2_lasts, Cond.code yX2_lasts cX2_lasts 6 (some .int), Cond.fieldLink RX2 19 "ChoirNotesModel" "kind" "[I", Cond.fieldLink RX2 25 "ChoirNotesModel" "isRed" "[Z", Cond.fieldLink RX2 16 "ChoirNotesModel" "measure" "[I", Cond.methodLink RX2 135 yX2_canon, Cond.instanceMethod yX2_canon, Cond.selects RX2 yX2_canon yX2_canon, Cond.code yX2_canon cX2_canon 6 (some .int), Cond.methodLink RX2 70 yX2_isClash, Cond.static yX2_isClash, Cond.code yX2_isClash cX2_isClash 2 (some .boolean), Cond.methodLink RX2 57 Lib.Math.abs.name, Cond.static Lib.Math.abs.name]
def wsX2_delay_r2 : List Cond := [Cond.initialized "java/lang/Math", Cond.code Lib.Math.abs.name Lib.Math.abs.code 1 (some .int)]
def wsX2_delay : List Cond := .code yX2_delay cX2_delay 8 (some .int) :: ((wsX2_delay_r1 ++ wsX2_delay_r2) ++ wsX20)
def wsX2_bestDelay_r1 : List Cond := [Cond.fieldLink RX2 38 "ChoirNotesModel" "thrown" "I", Cond.methodLink RX2 49 yX2_isVoice, Cond.instanceMethod yX2_isVoice, Cond.selects RX2 yX2_isVoice yX2_isVoice, Cond.initialized RX2, Cond.code yX2_isVoice cX2_isVoice 2 (some .boolean), Cond.fieldLink RX2 42 "ChoirNotesModel" "voices" "I", Cond.methodLink RX2 45 yX2_isIn, Cond.static yX2_isIn, Cond.code yX2_isIn cX2_isIn 3 (some .boolean), Cond.methodLink RX2 76 yX2_fail, Cond.instanceMethod yX2_fail, Cond.selects RX2 yX2_fail yX2_fail, Cond.code yX2_fail cX2_fail 2 (some .int), Cond.methodLink RX2 139 yX2_delay, Cond.instanceMethod yX2_delay, Cond.selects RX2 yX2_delay yX2_delay, Cond.code yX2_delay cX2_delay 8 (some .int), Cond.fieldLink RX2 32 "ChoirNotesModel" "mine" "[I", Cond.methodLink RX2 63 yX2_lay, Cond.instanceMethod yX2_lay, Cond.selects RX2 yX2_lay yX2_lay, Cond.code yX2_lay cX2_lay 6 (some .int), Cond.fieldLink RX2 9 "ChoirNotesModel" "many" "[I"]
def wsX2_bestDelay_r2 : List Cond := [Cond.fieldLink RX2 22 "ChoirNotesModel" "place" "[I", Cond.methodLink RX2 53 yX2_lasts, Cond.instanceMethod yX2_lasts, Cond.selects RX2 yX2_lasts yX2_lasts, Cond.code yX2_lasts cX2_lasts 6 (some .int), Cond.fieldLink RX2 19 "ChoirNotesModel" "kind" "[I", Cond.fieldLink RX2 25 "ChoirNotesModel" "isRed" "[Z", Cond.fieldLink RX2 16 "ChoirNotesModel" "measure" "[I", Cond.methodLink RX2 135 yX2_canon, Cond.instanceMethod yX2_canon, Cond.selects RX2 yX2_canon yX2_canon, Cond.code yX2_canon cX2_canon 6 (some .int), Cond.methodLink RX2 70 yX2_isClash, Cond.static yX2_isClash, Cond.code yX2_isClash cX2_isClash 2 (some .boolean), Cond.methodLink RX2 57 Lib.Math.abs.name, Cond.static Lib.Math.abs.name, Cond.initialized "java/lang/Math", Cond.code Lib.Math.abs.name Lib.Math.abs.code 1 (some .int)]
def wsX2_bestDelay : List Cond := .code yX2_bestDelay cX2_bestDelay 3 (some .int) :: ((wsX2_bestDelay_r1 ++ wsX2_bestDelay_r2) ++ wsX20)
def wsX2_meanLength : List Cond := .code yX2_meanLength cX2_meanLength 3 (some .double) :: ([.fieldLink RX2 38 "ChoirNotesModel" "thrown" "I", .fieldLink RX2 42 "ChoirNotesModel" "voices" "I", .methodLink RX2 94 yX2_all, .instanceMethod yX2_all, .selects RX2 yX2_all yX2_all, .initialized RX2, .code yX2_all cX2_all 4 (some .int), .fieldLink RX2 9 "ChoirNotesModel" "many" "[I", .methodLink RX2 53 yX2_lasts, .instanceMethod yX2_lasts, .selects RX2 yX2_lasts yX2_lasts, .code yX2_lasts cX2_lasts 6 (some .int), .fieldLink RX2 19 "ChoirNotesModel" "kind" "[I", .fieldLink RX2 25 "ChoirNotesModel" "isRed" "[Z", .fieldLink RX2 16 "ChoirNotesModel" "measure" "[I"] ++ wsX20)
def wsX2_digest_r1 : List Cond := [Cond.fieldLink RX2 38 "ChoirNotesModel" "thrown" "I", Cond.constantLong RX2 142 (2311), Cond.constantLong RX2 144 (31), Cond.fieldLink RX2 42 "ChoirNotesModel" "voices" "I", Cond.arrayClass .int, Cond.fieldLink RX2 9 "ChoirNotesModel" "many" "[I", Cond.fieldLink RX2 13 "ChoirNotesModel" "clef" "[I", Cond.fieldLink RX2 32 "ChoirNotesModel" "mine" "[I", Cond.fieldLink RX2 19 "ChoirNotesModel" "kind" "[I", Cond.fieldLink RX2 22 "ChoirNotesModel" "place" "[I", Cond.fieldLink RX2 29 "ChoirNotesModel" "tied" "[I", Cond.methodLink RX2 111 yX2_most, Cond.instanceMethod yX2_most, Cond.selects RX2 yX2_most yX2_most, Cond.initialized RX2, Cond.code yX2_most cX2_most 3 (some .int), Cond.methodLink RX2 87 Lib.Math.max.name, Cond.static Lib.Math.max.name, Cond.initialized "java/lang/Math", Cond.code Lib.Math.max.name Lib.Math.max.code 2 (some .int), Cond.methodLink RX2 94 yX2_all, Cond.instanceMethod yX2_all, Cond.selects RX2 yX2_all yX2_all, Cond.code yX2_all cX2_all 4 (some .int)]
def wsX2_digest_r2 : List Cond := [Cond.methodLink RX2 53 yX2_lasts, Cond.instanceMethod yX2_lasts, Cond.selects RX2 yX2_lasts yX2_lasts, Cond.code yX2_lasts cX2_lasts 6 (some .int), Cond.fieldLink RX2 25 "ChoirNotesModel" "isRed" "[Z", Cond.fieldLink RX2 16 "ChoirNotesModel" "measure" "[I", Cond.methodLink RX2 100 yX2_count, Cond.instanceMethod yX2_count, Cond.selects RX2 yX2_count yX2_count, Cond.code yX2_count cX2_count 5 (some .int), Cond.methodLink RX2 118 yX2_fitting, Cond.instanceMethod yX2_fitting, Cond.selects RX2 yX2_fitting yX2_fitting, Cond.code yX2_fitting cX2_fitting 4 (some .int), Cond.methodLink RX2 115 yX2_fit, Cond.instanceMethod yX2_fit, Cond.selects RX2 yX2_fit yX2_fit, Cond.code yX2_fit cX2_fit 4 (some .boolean), Cond.methodLink RX2 45 yX2_isIn, Cond.static yX2_isIn, Cond.code yX2_isIn cX2_isIn 3 (some .boolean), Cond.methodLink RX2 132 yX2_best, Cond.instanceMethod yX2_best, Cond.selects RX2 yX2_best yX2_best]
def wsX2_digest_r3 : List Cond := [Cond.code yX2_best cX2_best 6 (some .int), Cond.methodLink RX2 129 yX2_withAll, Cond.instanceMethod yX2_withAll, Cond.selects RX2 yX2_withAll yX2_withAll, Cond.code yX2_withAll cX2_withAll 5 (some .int), Cond.methodLink RX2 121 yX2_clash, Cond.instanceMethod yX2_clash, Cond.selects RX2 yX2_clash yX2_clash, Cond.code yX2_clash cX2_clash 9 (some .int), Cond.fieldLink RX2 35 "ChoirNotesModel" "theirs" "[I", Cond.methodLink RX2 67 Lib.Math.min.name, Cond.static Lib.Math.min.name, Cond.code Lib.Math.min.name Lib.Math.min.code 2 (some .int), Cond.methodLink RX2 63 yX2_lay, Cond.instanceMethod yX2_lay, Cond.selects RX2 yX2_lay yX2_lay, Cond.code yX2_lay cX2_lay 6 (some .int), Cond.methodLink RX2 70 yX2_isClash, Cond.static yX2_isClash, Cond.code yX2_isClash cX2_isClash 2 (some .boolean), Cond.methodLink RX2 57 Lib.Math.abs.name, Cond.static Lib.Math.abs.name, Cond.code Lib.Math.abs.name Lib.Math.abs.code 1 (some .int), Cond.methodLink RX2 135 yX2_canon]
def wsX2_digest_r4 : List Cond := [Cond.instanceMethod yX2_canon, Cond.selects RX2 yX2_canon yX2_canon, Cond.code yX2_canon cX2_canon 6 (some .int), Cond.methodLink RX2 139 yX2_delay, Cond.instanceMethod yX2_delay, Cond.selects RX2 yX2_delay yX2_delay, Cond.code yX2_delay cX2_delay 8 (some .int), Cond.methodLink RX2 108 yX2_begins, Cond.instanceMethod yX2_begins, Cond.selects RX2 yX2_begins yX2_begins, Cond.code yX2_begins cX2_begins 5 (some .int)]
def wsX2_digest : List Cond := .code yX2_digest cX2_digest 12 (some .long) :: ((wsX2_digest_r1 ++ (wsX2_digest_r2 ++ (wsX2_digest_r3 ++ wsX2_digest_r4))) ++ wsX20)
def wsJ9_abs_0f7a4 : List Cond := .code yJ9_abs_0f7a4 cJ9_abs_0f7a4 1 (some .int) :: ([])
def wsJ9_max_7cf53 : List Cond := .code yJ9_max_7cf53 cJ9_max_7cf53 2 (some .int) :: ([])
def wsJ9_min_7cf53 : List Cond := .code yJ9_min_7cf53 cJ9_min_7cf53 2 (some .int) :: ([])
theorem inJ9 : ∀ w ∈ wsJ90, w ∈ lw_tbl := by decide +kernel
theorem inJ0 : ∀ w ∈ wsJ00, w ∈ lw_tbl := by decide +kernel
set_option maxRecDepth 20000 in
theorem ggX0_measure_X0_timeFrom : GoodIn wsX0_measure wsX0_timeFrom := goodIn_r _ [8, 9, 10, 11, 12, 13, 14, 15, 7, 16, 1, 2, 3, 17, 18, 19, 20, 21, 22, 23, 24, 25, 26] (by decide +kernel) (by decide +kernel)
set_option maxRecDepth 20000 in
theorem gX0_measure_X0_timeFrom : GoodIn wsX0_measure (wsV RX0 41 RX0 yX0_timeFrom wsX0_timeFrom) := goodIn_app (goodIn_of _ (by decide +kernel)) ggX0_measure_X0_timeFrom
set_option maxRecDepth 20000 in
theorem ggX0_append_X0_timeFrom : GoodIn wsX0_append wsX0_timeFrom := goodIn_r _ [10, 1, 11, 2, 4, 12, 13, 14, 9, 15, 16, 17, 18, 19, 20, 21, 22, 23, 24, 25, 26, 27, 28] (by decide +kernel) (by decide +kernel)
set_option maxRecDepth 20000 in
theorem gX0_append_X0_timeFrom : GoodIn wsX0_append (wsV RX0 41 RX0 yX0_timeFrom wsX0_timeFrom) := goodIn_app (goodIn_of _ (by decide +kernel)) ggX0_append_X0_timeFrom
set_option maxRecDepth 20000 in
theorem ggX0_turnColour_X0_timeFrom : GoodIn wsX0_turnColour wsX0_timeFrom := goodIn_r _ [6, 7, 8, 9, 1, 10, 11, 12, 5, 13, 14, 15, 16, 17, 18, 19, 20, 21, 22, 23, 24, 25, 26] (by decide +kernel) (by decide +kernel)
set_option maxRecDepth 20000 in
theorem gX0_turnColour_X0_timeFrom : GoodIn wsX0_turnColour (wsV RX0 41 RX0 yX0_timeFrom wsX0_timeFrom) := goodIn_app (goodIn_of _ (by decide +kernel)) ggX0_turnColour_X0_timeFrom
set_option maxRecDepth 20000 in
theorem ggX0_timeFrom_X0_minimsByKind : GoodIn wsX0_timeFrom wsX0_minimsByKind := goodIn_r _ [9, 10, 11, 12, 13, 14, 15, 16, 17, 18, 19, 20, 21, 22] (by decide +kernel) (by decide +kernel)
set_option maxRecDepth 20000 in
theorem gX0_timeFrom_X0_minimsByKind : GoodIn wsX0_timeFrom (wsV RX0 48 RX0 yX0_minimsByKind wsX0_minimsByKind) := goodIn_app (goodIn_of _ (by decide +kernel)) ggX0_timeFrom_X0_minimsByKind
set_option maxRecDepth 20000 in
theorem ggX0_countNotes_X0_isRest : GoodIn wsX0_countNotes wsX0_isRest := goodIn_r _ [6, 7, 8, 9, 10, 11, 12, 13, 14, 15, 16, 17] (by decide +kernel) (by decide +kernel)
set_option maxRecDepth 20000 in
theorem gX0_countNotes_X0_isRest : GoodIn wsX0_countNotes (wsV RX0 52 RX0 yX0_isRest wsX0_isRest) := goodIn_app (goodIn_of _ (by decide +kernel)) ggX0_countNotes_X0_isRest
set_option maxRecDepth 20000 in
theorem ggX0_wouldFit_X0_isRest : GoodIn wsX0_wouldFit wsX0_isRest := goodIn_r _ [7, 2, 8, 9, 10, 11, 12, 13, 14, 15, 16, 17] (by decide +kernel) (by decide +kernel)
set_option maxRecDepth 20000 in
theorem gX0_wouldFit_X0_isRest : GoodIn wsX0_wouldFit (wsV RX0 52 RX0 yX0_isRest wsX0_isRest) := goodIn_app (goodIn_of _ (by decide +kernel)) ggX0_wouldFit_X0_isRest
set_option maxRecDepth 20000 in
theorem ggX0_countFittingClefs_X0_wouldFit : GoodIn wsX0_countFittingClefs wsX0_wouldFit := goodIn_r _ [5, 6, 7, 8, 9, 10, 4, 11, 12, 13, 14, 15, 16, 17, 18, 19, 20, 21] (by decide +kernel) (by decide +kernel)
set_option maxRecDepth 20000 in
theorem gX0_countFittingClefs_X0_wouldFit : GoodIn wsX0_countFittingClefs (wsV RX0 56 RX0 yX0_wouldFit wsX0_wouldFit) := goodIn_app (goodIn_of _ (by decide +kernel)) ggX0_countFittingClefs_X0_wouldFit
set_option maxRecDepth 20000 in
theorem ggX1_init_X0_init : GoodIn wsX1_init wsX0_init := goodIn_r _ [9, 10, 2, 3, 11, 12, 13, 14, 15, 16, 17, 18, 21, 22, 23, 24, 25, 26, 27, 28, 29, 30] (by decide +kernel) (by decide +kernel)
set_option maxRecDepth 20000 in
theorem gX1_init_X0_init_n15 : GoodIn wsX1_init (wsX0_init) := ggX1_init_X0_init
set_option maxRecDepth 20000 in
theorem ggX1_addVoice_X1_checkMensuration : GoodIn wsX1_addVoice wsX1_checkMensuration := goodIn_ca (goodIn_r _ [8, 9, 10, 7, 11, 12, 13] (by decide +kernel) (by decide +kernel)) (goodIn_sub (fun _ h => List.mem_cons_of_mem _ (List.mem_append_right _ h)) (by decide +kernel))
set_option maxRecDepth 20000 in
theorem gX1_addVoice_X1_checkMensuration : GoodIn wsX1_addVoice (va_wsS RX1 16 yX1_checkMensuration wsX1_checkMensuration) := goodIn_app (goodIn_of _ (by decide +kernel)) ggX1_addVoice_X1_checkMensuration
set_option maxRecDepth 20000 in
theorem ggX1_addVoice_X0_measure : GoodIn wsX1_addVoice wsX0_measure := goodIn_r _ [17, 18, 19, 20, 21, 22, 23, 15, 24, 25, 26, 27, 28, 29, 30, 31, 32, 35, 36, 37, 38, 39, 40, 41, 42, 43, 44] (by decide +kernel) (by decide +kernel)
set_option maxRecDepth 20000 in
theorem gX1_addVoice_X0_measure_n31 : GoodIn wsX1_addVoice (wsX0_measure) := ggX1_addVoice_X0_measure
set_option maxRecDepth 20000 in
theorem ggX1_addNote_X1_knownVoice : GoodIn wsX1_addNote wsX1_knownVoice := goodIn_ca (goodIn_r _ [5, 6, 7, 8, 9, 41, 42] (by decide +kernel) (by decide +kernel)) (goodIn_sub (fun _ h => List.mem_cons_of_mem _ (List.mem_append_left _ (List.mem_append_left _ (List.mem_append_right _ h)))) (by decide +kernel))
set_option maxRecDepth 20000 in
theorem gX1_addNote_X1_knownVoice : GoodIn wsX1_addNote (wsV RX1 34 RX1 yX1_knownVoice wsX1_knownVoice) := goodIn_app (goodIn_of _ (by decide +kernel)) ggX1_addNote_X1_knownVoice
set_option maxRecDepth 20000 in
theorem ggX1_addNote_X1_checkRange : GoodIn wsX1_addNote wsX1_checkRange := goodIn_ca (goodIn_r _ [12, 13, 14] (by decide +kernel) (by decide +kernel)) (goodIn_sub (fun _ h => List.mem_cons_of_mem _ (List.mem_append_left _ (List.mem_append_right _ h))) (by decide +kernel))
set_option maxRecDepth 20000 in
theorem gX1_addNote_X1_checkRange : GoodIn wsX1_addNote (va_wsS RX1 38 yX1_checkRange wsX1_checkRange) := goodIn_app (goodIn_of _ (by decide +kernel)) ggX1_addNote_X1_checkRange
set_option maxRecDepth 20000 in
theorem ggX1_addNote_X1_checkRoom : GoodIn wsX1_addNote wsX1_checkRoom := goodIn_ca (goodIn_r _ [17, 18, 19, 43, 44, 45, 46, 47, 48, 49, 50, 51, 52] (by decide +kernel) (by decide +kernel)) (goodIn_sub (fun _ h => List.mem_cons_of_mem _ (List.mem_append_right _ h)) (by decide +kernel))
set_option maxRecDepth 20000 in
theorem gX1_addNote_X1_checkRoom : GoodIn wsX1_addNote (va_wsS RX1 41 yX1_checkRoom wsX1_checkRoom) := goodIn_app (goodIn_of _ (by decide +kernel)) ggX1_addNote_X1_checkRoom
set_option maxRecDepth 20000 in
theorem ggX1_addNote_X0_append : GoodIn wsX1_addNote wsX0_append := goodIn_r _ [23, 24, 25, 26, 27, 28, 29, 30, 31, 21, 32, 33, 34, 35, 36, 37, 38, 39, 40, 43, 44, 45, 46, 47, 48, 49, 50, 51, 52] (by decide +kernel) (by decide +kernel)
set_option maxRecDepth 20000 in
theorem gX1_addNote_X0_append_n45 : GoodIn wsX1_addNote (wsX0_append) := ggX1_addNote_X0_append
set_option maxRecDepth 20000 in
theorem ggX1_addRest_X1_knownVoice : GoodIn wsX1_addRest wsX1_knownVoice := goodIn_ca (goodIn_r _ [5, 6, 7, 8, 9, 41, 42] (by decide +kernel) (by decide +kernel)) (goodIn_sub (fun _ h => List.mem_cons_of_mem _ (List.mem_append_left _ (List.mem_append_left _ (List.mem_append_right _ h)))) (by decide +kernel))
set_option maxRecDepth 20000 in
theorem gX1_addRest_X1_knownVoice : GoodIn wsX1_addRest (wsV RX1 34 RX1 yX1_knownVoice wsX1_knownVoice) := goodIn_app (goodIn_of _ (by decide +kernel)) ggX1_addRest_X1_knownVoice
set_option maxRecDepth 20000 in
theorem ggX1_addRest_X1_checkRange : GoodIn wsX1_addRest wsX1_checkRange := goodIn_ca (goodIn_r _ [12, 13, 14] (by decide +kernel) (by decide +kernel)) (goodIn_sub (fun _ h => List.mem_cons_of_mem _ (List.mem_append_left _ (List.mem_append_right _ h))) (by decide +kernel))
set_option maxRecDepth 20000 in
theorem gX1_addRest_X1_checkRange : GoodIn wsX1_addRest (va_wsS RX1 38 yX1_checkRange wsX1_checkRange) := goodIn_app (goodIn_of _ (by decide +kernel)) ggX1_addRest_X1_checkRange
set_option maxRecDepth 20000 in
theorem ggX1_addRest_X1_checkRoom : GoodIn wsX1_addRest wsX1_checkRoom := goodIn_ca (goodIn_r _ [17, 18, 19, 43, 44, 45, 46, 47, 48, 49, 50, 51, 52] (by decide +kernel) (by decide +kernel)) (goodIn_sub (fun _ h => List.mem_cons_of_mem _ (List.mem_append_right _ h)) (by decide +kernel))
set_option maxRecDepth 20000 in
theorem gX1_addRest_X1_checkRoom : GoodIn wsX1_addRest (va_wsS RX1 41 yX1_checkRoom wsX1_checkRoom) := goodIn_app (goodIn_of _ (by decide +kernel)) ggX1_addRest_X1_checkRoom
set_option maxRecDepth 20000 in
theorem ggX1_addRest_X0_append : GoodIn wsX1_addRest wsX0_append := goodIn_r _ [23, 24, 25, 26, 27, 28, 29, 30, 31, 21, 32, 33, 34, 35, 36, 37, 38, 39, 40, 43, 44, 45, 46, 47, 48, 49, 50, 51, 52] (by decide +kernel) (by decide +kernel)
set_option maxRecDepth 20000 in
theorem gX1_addRest_X0_append_n45 : GoodIn wsX1_addRest (wsX0_append) := ggX1_addRest_X0_append
set_option maxRecDepth 20000 in
theorem ggX1_addLigature_X1_knownVoice : GoodIn wsX1_addLigature wsX1_knownVoice := goodIn_ca (goodIn_r _ [5, 6, 7, 8, 9, 53, 54] (by decide +kernel) (by decide +kernel)) (goodIn_sub (fun _ h => List.mem_cons_of_mem _ (List.mem_append_left _ (List.mem_append_left _ (List.mem_append_right _ h)))) (by decide +kernel))
set_option maxRecDepth 20000 in
theorem gX1_addLigature_X1_knownVoice : GoodIn wsX1_addLigature (wsV RX1 34 RX1 yX1_knownVoice wsX1_knownVoice) := goodIn_app (goodIn_of _ (by decide +kernel)) ggX1_addLigature_X1_knownVoice
set_option maxRecDepth 20000 in
theorem ggX1_addLigature_X1_checkLigature : GoodIn wsX1_addLigature wsX1_checkLigature := goodIn_ca (goodIn_r _ [12, 13, 14, 15, 16, 4, 17] (by decide +kernel) (by decide +kernel)) (goodIn_sub (fun _ h => List.mem_cons_of_mem _ (List.mem_append_left _ (List.mem_append_right _ h))) (by decide +kernel))
set_option maxRecDepth 20000 in
theorem gX1_addLigature_X1_checkLigature : GoodIn wsX1_addLigature (va_wsS RX1 49 yX1_checkLigature wsX1_checkLigature) := goodIn_app (goodIn_of _ (by decide +kernel)) ggX1_addLigature_X1_checkLigature
set_option maxRecDepth 20000 in
theorem ggX1_addLigature_X1_checkRoom : GoodIn wsX1_addLigature wsX1_checkRoom := goodIn_ca (goodIn_r _ [20, 21, 22, 55, 56, 57, 58, 59, 60, 61, 62, 63, 64] (by decide +kernel) (by decide +kernel)) (goodIn_sub (fun _ h => List.mem_cons_of_mem _ (List.mem_append_right _ h)) (by decide +kernel))
set_option maxRecDepth 20000 in
theorem gX1_addLigature_X1_checkRoom : GoodIn wsX1_addLigature (va_wsS RX1 41 yX1_checkRoom wsX1_checkRoom) := goodIn_app (goodIn_of _ (by decide +kernel)) ggX1_addLigature_X1_checkRoom
set_option maxRecDepth 20000 in
theorem ggX1_addLigature_X1_firstKind : GoodIn wsX1_addLigature wsX1_firstKind := goodIn_r _ [25, 26, 27, 4, 28] (by decide +kernel) (by decide +kernel)
set_option maxRecDepth 20000 in
theorem gX1_addLigature_X1_firstKind : GoodIn wsX1_addLigature (va_wsS RX1 52 yX1_firstKind wsX1_firstKind) := goodIn_app (goodIn_of _ (by decide +kernel)) ggX1_addLigature_X1_firstKind
set_option maxRecDepth 20000 in
theorem ggX1_addLigature_X0_append : GoodIn wsX1_addLigature wsX0_append := goodIn_r _ [32, 33, 34, 35, 36, 37, 38, 39, 40, 30, 41, 42, 43, 44, 45, 46, 47, 48, 49, 55, 56, 57, 58, 59, 60, 61, 62, 63, 64] (by decide +kernel) (by decide +kernel)
set_option maxRecDepth 20000 in
theorem gX1_addLigature_X0_append_n45 : GoodIn wsX1_addLigature (wsX0_append) := ggX1_addLigature_X0_append
set_option maxRecDepth 20000 in
theorem ggX1_addLigature_X1_secondKind : GoodIn wsX1_addLigature wsX1_secondKind := goodIn_r _ [52, 26, 27, 4, 28] (by decide +kernel) (by decide +kernel)
set_option maxRecDepth 20000 in
theorem gX1_addLigature_X1_secondKind : GoodIn wsX1_addLigature (va_wsS RX1 56 yX1_secondKind wsX1_secondKind) := goodIn_app (goodIn_of _ (by decide +kernel)) ggX1_addLigature_X1_secondKind
set_option maxRecDepth 20000 in
theorem ggX1_addLigature_X1_lastKind : GoodIn wsX1_addLigature wsX1_lastKind := goodIn_r _ [28] (by decide +kernel) (by decide +kernel)
set_option maxRecDepth 20000 in
theorem gX1_addLigature_X1_lastKind : GoodIn wsX1_addLigature (va_wsS RX1 60 yX1_lastKind wsX1_lastKind) := goodIn_app (goodIn_of _ (by decide +kernel)) ggX1_addLigature_X1_lastKind
set_option maxRecDepth 20000 in
theorem ggX1_erase_X1_knownVoice : GoodIn wsX1_erase wsX1_knownVoice := goodIn_ca (goodIn_r _ [7, 8, 9, 10, 11, 28, 29] (by decide +kernel) (by decide +kernel)) (goodIn_sub (fun _ h => List.mem_cons_of_mem _ (List.mem_append_right _ h)) (by decide +kernel))
set_option maxRecDepth 20000 in
theorem gX1_erase_X1_knownVoice : GoodIn wsX1_erase (wsV RX1 34 RX1 yX1_knownVoice wsX1_knownVoice) := goodIn_app (goodIn_of _ (by decide +kernel)) ggX1_erase_X1_knownVoice
set_option maxRecDepth 20000 in
theorem ggX1_erase_X0_dropLast : GoodIn wsX1_erase wsX0_dropLast := goodIn_r _ [15, 16, 17, 18, 19, 20, 21, 22, 23, 24, 25, 26, 27] (by decide +kernel) (by decide +kernel)
set_option maxRecDepth 20000 in
theorem gX1_erase_X0_dropLast_n69 : GoodIn wsX1_erase (wsX0_dropLast) := ggX1_erase_X0_dropLast
set_option maxRecDepth 20000 in
theorem ggX1_recolour_X1_voiceWithSign : GoodIn wsX1_recolour wsX1_voiceWithSign := goodIn_ca (goodIn_r _ [7, 8, 9, 10, 11, 12, 6, 13, 14, 15, 39, 40, 41, 42, 43, 44, 45, 46, 47, 48, 49, 50] (by decide +kernel) (by decide +kernel)) (goodIn_sub (fun _ h => List.mem_cons_of_mem _ (List.mem_append_right _ h)) (by decide +kernel))
set_option maxRecDepth 20000 in
theorem gX1_recolour_X1_voiceWithSign : GoodIn wsX1_recolour (wsV RX1 73 RX1 yX1_voiceWithSign wsX1_voiceWithSign) := goodIn_app (goodIn_of _ (by decide +kernel)) ggX1_recolour_X1_voiceWithSign
set_option maxRecDepth 20000 in
theorem ggX1_recolour_X0_isRest : GoodIn wsX1_recolour wsX0_isRest := goodIn_r _ [19, 20, 39, 40, 41, 42, 43, 44, 45, 46, 47, 48] (by decide +kernel) (by decide +kernel)
set_option maxRecDepth 20000 in
theorem gX1_recolour_X0_isRest_n77 : GoodIn wsX1_recolour (wsX0_isRest) := ggX1_recolour_X0_isRest
set_option maxRecDepth 20000 in
theorem ggX1_recolour_X0_turnColour : GoodIn wsX1_recolour wsX0_turnColour := goodIn_r _ [23, 24, 25, 26, 27, 17, 28, 29, 30, 31, 32, 33, 34, 35, 36, 37, 38, 39, 40, 41, 42, 43, 44, 45, 46, 47, 48] (by decide +kernel) (by decide +kernel)
set_option maxRecDepth 20000 in
theorem gX1_recolour_X0_turnColour_n83 : GoodIn wsX1_recolour (wsX0_turnColour) := ggX1_recolour_X0_turnColour
set_option maxRecDepth 20000 in
theorem ggX1_setClef_X1_knownVoice : GoodIn wsX1_setClef wsX1_knownVoice := goodIn_ca (goodIn_r _ [5, 6, 7, 8, 9, 25, 26] (by decide +kernel) (by decide +kernel)) (goodIn_sub (fun _ h => List.mem_cons_of_mem _ (List.mem_append_left _ (List.mem_append_right _ h))) (by decide +kernel))
set_option maxRecDepth 20000 in
theorem gX1_setClef_X1_knownVoice : GoodIn wsX1_setClef (wsV RX1 34 RX1 yX1_knownVoice wsX1_knownVoice) := goodIn_app (goodIn_of _ (by decide +kernel)) ggX1_setClef_X1_knownVoice
set_option maxRecDepth 20000 in
theorem ggX1_setClef_X1_checkRange : GoodIn wsX1_setClef wsX1_checkRange := goodIn_ca (goodIn_r _ [12, 13, 14] (by decide +kernel) (by decide +kernel)) (goodIn_sub (fun _ h => List.mem_cons_of_mem _ (List.mem_append_right _ h)) (by decide +kernel))
set_option maxRecDepth 20000 in
theorem gX1_setClef_X1_checkRange : GoodIn wsX1_setClef (va_wsS RX1 38 yX1_checkRange wsX1_checkRange) := goodIn_app (goodIn_of _ (by decide +kernel)) ggX1_setClef_X1_checkRange
set_option maxRecDepth 20000 in
theorem ggX1_setMensuration_X1_knownVoice : GoodIn wsX1_setMensuration wsX1_knownVoice := goodIn_ca (goodIn_r _ [5, 6, 7, 8, 9, 40, 41] (by decide +kernel) (by decide +kernel)) (goodIn_sub (fun _ h => List.mem_cons_of_mem _ (List.mem_append_left _ (List.mem_append_right _ h))) (by decide +kernel))
set_option maxRecDepth 20000 in
theorem gX1_setMensuration_X1_knownVoice : GoodIn wsX1_setMensuration (wsV RX1 34 RX1 yX1_knownVoice wsX1_knownVoice) := goodIn_app (goodIn_of _ (by decide +kernel)) ggX1_setMensuration_X1_knownVoice
set_option maxRecDepth 20000 in
theorem ggX1_setMensuration_X1_checkMensuration : GoodIn wsX1_setMensuration wsX1_checkMensuration := goodIn_ca (goodIn_r _ [12, 13, 14, 4, 15, 16, 17] (by decide +kernel) (by decide +kernel)) (goodIn_sub (fun _ h => List.mem_cons_of_mem _ (List.mem_append_right _ h)) (by decide +kernel))
set_option maxRecDepth 20000 in
theorem gX1_setMensuration_X1_checkMensuration : GoodIn wsX1_setMensuration (va_wsS RX1 16 yX1_checkMensuration wsX1_checkMensuration) := goodIn_app (goodIn_of _ (by decide +kernel)) ggX1_setMensuration_X1_checkMensuration
set_option maxRecDepth 20000 in
theorem ggX1_setMensuration_X0_measure : GoodIn wsX1_setMensuration wsX0_measure := goodIn_r _ [21, 22, 23, 24, 25, 26, 27, 19, 28, 29, 30, 31, 32, 33, 34, 35, 36, 42, 43, 44, 45, 46, 47, 48, 49, 50, 51] (by decide +kernel) (by decide +kernel)
set_option maxRecDepth 20000 in
theorem gX1_setMensuration_X0_measure_n31 : GoodIn wsX1_setMensuration (wsX0_measure) := ggX1_setMensuration_X0_measure
set_option maxRecDepth 20000 in
theorem ggX1_setMensuration_X0_end : GoodIn wsX1_setMensuration wsX0_end := goodIn_r _ [39, 30, 29, 42, 43, 44, 45, 46, 47, 48, 49, 50, 51] (by decide +kernel) (by decide +kernel)
set_option maxRecDepth 20000 in
theorem gX1_setMensuration_X0_end_n89 : GoodIn wsX1_setMensuration (wsX0_end) := ggX1_setMensuration_X0_end
set_option maxRecDepth 20000 in
theorem ggX1_signs_X1_knownVoice : GoodIn wsX1_signs wsX1_knownVoice := goodIn_ca (goodIn_r _ [5, 6, 7, 8, 9, 20, 21] (by decide +kernel) (by decide +kernel)) (goodIn_sub (fun _ h => List.mem_cons_of_mem _ (List.mem_append_right _ h)) (by decide +kernel))
set_option maxRecDepth 20000 in
theorem gX1_signs_X1_knownVoice : GoodIn wsX1_signs (wsV RX1 34 RX1 yX1_knownVoice wsX1_knownVoice) := goodIn_app (goodIn_of _ (by decide +kernel)) ggX1_signs_X1_knownVoice
set_option maxRecDepth 20000 in
theorem ggX1_notes_X1_knownVoice : GoodIn wsX1_notes wsX1_knownVoice := goodIn_ca (goodIn_r _ [5, 6, 7, 8, 9, 20, 21] (by decide +kernel) (by decide +kernel)) (goodIn_sub (fun _ h => List.mem_cons_of_mem _ (List.mem_append_right _ h)) (by decide +kernel))
set_option maxRecDepth 20000 in
theorem gX1_notes_X1_knownVoice : GoodIn wsX1_notes (wsV RX1 34 RX1 yX1_knownVoice wsX1_knownVoice) := goodIn_app (goodIn_of _ (by decide +kernel)) ggX1_notes_X1_knownVoice
set_option maxRecDepth 20000 in
theorem ggX1_notes_X0_countNotes : GoodIn wsX1_notes wsX0_countNotes := goodIn_r _ [13, 14, 15, 16, 17, 11, 18, 19, 22, 23, 24, 25, 26, 27, 28, 29, 30, 31] (by decide +kernel) (by decide +kernel)
set_option maxRecDepth 20000 in
theorem gX1_notes_X0_countNotes_n92 : GoodIn wsX1_notes (wsX0_countNotes) := ggX1_notes_X0_countNotes
set_option maxRecDepth 20000 in
theorem ggX1_ligatures_X1_knownVoice : GoodIn wsX1_ligatures wsX1_knownVoice := goodIn_ca (goodIn_r _ [5, 6, 7, 8, 9, 16, 17] (by decide +kernel) (by decide +kernel)) (goodIn_sub (fun _ h => List.mem_cons_of_mem _ (List.mem_append_right _ h)) (by decide +kernel))
set_option maxRecDepth 20000 in
theorem gX1_ligatures_X1_knownVoice : GoodIn wsX1_ligatures (wsV RX1 34 RX1 yX1_knownVoice wsX1_knownVoice) := goodIn_app (goodIn_of _ (by decide +kernel)) ggX1_ligatures_X1_knownVoice
set_option maxRecDepth 20000 in
theorem ggX1_ligatures_X0_countLigatures : GoodIn wsX1_ligatures wsX0_countLigatures := goodIn_r _ [13, 14, 15, 18, 19, 20, 21, 22, 23, 24, 25, 26, 27] (by decide +kernel) (by decide +kernel)
set_option maxRecDepth 20000 in
theorem gX1_ligatures_X0_countLigatures_n95 : GoodIn wsX1_ligatures (wsX0_countLigatures) := ggX1_ligatures_X0_countLigatures
set_option maxRecDepth 20000 in
theorem ggX1_kindOf_X1_voiceWithSign : GoodIn wsX1_kindOf wsX1_voiceWithSign := goodIn_ca (goodIn_r _ [5, 6, 7, 8, 9, 10, 4, 11, 12, 13, 14, 15, 16, 17, 18, 19, 20, 21, 22, 23, 24, 25] (by decide +kernel) (by decide +kernel)) (goodIn_sub (fun _ h => List.mem_cons_of_mem _ (List.mem_append_right _ h)) (by decide +kernel))
set_option maxRecDepth 20000 in
theorem gX1_kindOf_X1_voiceWithSign : GoodIn wsX1_kindOf (wsV RX1 73 RX1 yX1_voiceWithSign wsX1_voiceWithSign) := goodIn_app (goodIn_of _ (by decide +kernel)) ggX1_kindOf_X1_voiceWithSign
set_option maxRecDepth 20000 in
theorem ggX1_placeOf_X1_voiceWithSign : GoodIn wsX1_placeOf wsX1_voiceWithSign := goodIn_ca (goodIn_r _ [5, 6, 7, 8, 9, 10, 4, 11, 12, 13, 14, 15, 16, 17, 18, 19, 20, 21, 22, 23, 24, 25] (by decide +kernel) (by decide +kernel)) (goodIn_sub (fun _ h => List.mem_cons_of_mem _ (List.mem_append_right _ h)) (by decide +kernel))
set_option maxRecDepth 20000 in
theorem gX1_placeOf_X1_voiceWithSign : GoodIn wsX1_placeOf (wsV RX1 73 RX1 yX1_voiceWithSign wsX1_voiceWithSign) := goodIn_app (goodIn_of _ (by decide +kernel)) ggX1_placeOf_X1_voiceWithSign
set_option maxRecDepth 20000 in
theorem ggX1_isColoured_X1_voiceWithSign : GoodIn wsX1_isColoured wsX1_voiceWithSign := goodIn_ca (goodIn_r _ [5, 6, 7, 8, 9, 10, 4, 11, 12, 13, 14, 15, 16, 17, 18, 19, 20, 21, 22, 23, 24, 25] (by decide +kernel) (by decide +kernel)) (goodIn_sub (fun _ h => List.mem_cons_of_mem _ (List.mem_append_right _ h)) (by decide +kernel))
set_option maxRecDepth 20000 in
theorem gX1_isColoured_X1_voiceWithSign : GoodIn wsX1_isColoured (wsV RX1 73 RX1 yX1_voiceWithSign wsX1_voiceWithSign) := goodIn_app (goodIn_of _ (by decide +kernel)) ggX1_isColoured_X1_voiceWithSign
set_option maxRecDepth 20000 in
theorem ggX1_placeInLigature_X1_voiceWithSign : GoodIn wsX1_placeInLigature wsX1_voiceWithSign := goodIn_ca (goodIn_r _ [5, 6, 7, 8, 9, 10, 4, 11, 12, 13, 14, 15, 16, 17, 18, 19, 20, 21, 22, 23, 24, 25] (by decide +kernel) (by decide +kernel)) (goodIn_sub (fun _ h => List.mem_cons_of_mem _ (List.mem_append_right _ h)) (by decide +kernel))
set_option maxRecDepth 20000 in
theorem gX1_placeInLigature_X1_voiceWithSign : GoodIn wsX1_placeInLigature (wsV RX1 73 RX1 yX1_voiceWithSign wsX1_voiceWithSign) := goodIn_app (goodIn_of _ (by decide +kernel)) ggX1_placeInLigature_X1_voiceWithSign
set_option maxRecDepth 20000 in
theorem ggX1_lengthOf_X1_voiceWithSign : GoodIn wsX1_lengthOf wsX1_voiceWithSign := goodIn_ca (goodIn_r _ [5, 6, 7, 8, 9, 10, 4, 11, 12, 13, 19, 20, 21, 22, 23, 24, 25, 26, 27, 28, 29, 30] (by decide +kernel) (by decide +kernel)) (goodIn_sub (fun _ h => List.mem_cons_of_mem _ (List.mem_append_right _ h)) (by decide +kernel))
set_option maxRecDepth 20000 in
theorem gX1_lengthOf_X1_voiceWithSign : GoodIn wsX1_lengthOf (wsV RX1 73 RX1 yX1_voiceWithSign wsX1_voiceWithSign) := goodIn_app (goodIn_of _ (by decide +kernel)) ggX1_lengthOf_X1_voiceWithSign
set_option maxRecDepth 20000 in
theorem ggX1_lengthOf_X0_minimsOf : GoodIn wsX1_lengthOf wsX0_minimsOf := goodIn_r _ [17, 18, 19, 20, 21, 22, 23, 24, 25, 26, 27, 28] (by decide +kernel) (by decide +kernel)
set_option maxRecDepth 20000 in
theorem gX1_lengthOf_X0_minimsOf_n112 : GoodIn wsX1_lengthOf (wsX0_minimsOf) := ggX1_lengthOf_X0_minimsOf
set_option maxRecDepth 20000 in
theorem ggX1_beginOf_X1_voiceWithSign : GoodIn wsX1_beginOf wsX1_voiceWithSign := goodIn_ca (goodIn_r _ [5, 6, 7, 8, 9, 10, 4, 11, 12, 13, 14, 15, 16, 17, 18, 19, 20, 21, 22, 23, 24, 25] (by decide +kernel) (by decide +kernel)) (goodIn_sub (fun _ h => List.mem_cons_of_mem _ (List.mem_append_right _ h)) (by decide +kernel))
set_option maxRecDepth 20000 in
theorem gX1_beginOf_X1_voiceWithSign : GoodIn wsX1_beginOf (wsV RX1 73 RX1 yX1_voiceWithSign wsX1_voiceWithSign) := goodIn_app (goodIn_of _ (by decide +kernel)) ggX1_beginOf_X1_voiceWithSign
set_option maxRecDepth 20000 in
theorem ggX1_length_X1_knownVoice : GoodIn wsX1_length wsX1_knownVoice := goodIn_ca (goodIn_r _ [5, 6, 7, 8, 9, 16, 17] (by decide +kernel) (by decide +kernel)) (goodIn_sub (fun _ h => List.mem_cons_of_mem _ (List.mem_append_right _ h)) (by decide +kernel))
set_option maxRecDepth 20000 in
theorem gX1_length_X1_knownVoice : GoodIn wsX1_length (wsV RX1 34 RX1 yX1_knownVoice wsX1_knownVoice) := goodIn_app (goodIn_of _ (by decide +kernel)) ggX1_length_X1_knownVoice
set_option maxRecDepth 20000 in
theorem ggX1_length_X0_end : GoodIn wsX1_length wsX0_end := goodIn_r _ [13, 14, 15, 18, 19, 20, 21, 22, 23, 24, 25, 26, 27] (by decide +kernel) (by decide +kernel)
set_option maxRecDepth 20000 in
theorem gX1_length_X0_end_n89 : GoodIn wsX1_length (wsX0_end) := ggX1_length_X0_end
set_option maxRecDepth 20000 in
theorem ggX1_longest_X0_end : GoodIn wsX1_longest wsX0_end := goodIn_r _ [10, 11, 12, 15, 16, 17, 18, 19, 20, 21, 22, 23, 24] (by decide +kernel) (by decide +kernel)
set_option maxRecDepth 20000 in
theorem gX1_longest_X0_end_n89 : GoodIn wsX1_longest (wsX0_end) := ggX1_longest_X0_end
set_option maxRecDepth 20000 in
theorem ggX1_signAt_X1_knownVoice : GoodIn wsX1_signAt wsX1_knownVoice := goodIn_ca (goodIn_r _ [6, 7, 8, 9, 10, 22, 23] (by decide +kernel) (by decide +kernel)) (goodIn_sub (fun _ h => List.mem_cons_of_mem _ (List.mem_append_left _ (List.mem_append_right _ h))) (by decide +kernel))
set_option maxRecDepth 20000 in
theorem gX1_signAt_X1_knownVoice : GoodIn wsX1_signAt (wsV RX1 34 RX1 yX1_knownVoice wsX1_knownVoice) := goodIn_app (goodIn_of _ (by decide +kernel)) ggX1_signAt_X1_knownVoice
set_option maxRecDepth 20000 in
theorem ggX1_signAt_X1_checkRange : GoodIn wsX1_signAt wsX1_checkRange := goodIn_ca (goodIn_r _ [13, 14, 15] (by decide +kernel) (by decide +kernel)) (goodIn_sub (fun _ h => List.mem_cons_of_mem _ (List.mem_append_right _ h)) (by decide +kernel))
set_option maxRecDepth 20000 in
theorem gX1_signAt_X1_checkRange : GoodIn wsX1_signAt (va_wsS RX1 38 yX1_checkRange wsX1_checkRange) := goodIn_app (goodIn_of _ (by decide +kernel)) ggX1_signAt_X1_checkRange
set_option maxRecDepth 20000 in
theorem ggX1_signAt_X0_signLastingAt : GoodIn wsX1_signAt wsX0_signLastingAt := goodIn_r _ [19, 20, 21, 24, 25, 26, 27, 28, 29, 30, 31, 32, 33] (by decide +kernel) (by decide +kernel)
set_option maxRecDepth 20000 in
theorem gX1_signAt_X0_signLastingAt_n127 : GoodIn wsX1_signAt (wsX0_signLastingAt) := ggX1_signAt_X0_signLastingAt
set_option maxRecDepth 20000 in
theorem ggX1_clefOf_X1_knownVoice : GoodIn wsX1_clefOf wsX1_knownVoice := goodIn_ca (goodIn_r _ [5, 6, 7, 8, 9, 20, 21] (by decide +kernel) (by decide +kernel)) (goodIn_sub (fun _ h => List.mem_cons_of_mem _ (List.mem_append_right _ h)) (by decide +kernel))
set_option maxRecDepth 20000 in
theorem gX1_clefOf_X1_knownVoice : GoodIn wsX1_clefOf (wsV RX1 34 RX1 yX1_knownVoice wsX1_knownVoice) := goodIn_app (goodIn_of _ (by decide +kernel)) ggX1_clefOf_X1_knownVoice
set_option maxRecDepth 20000 in
theorem ggX1_pitchOf_X1_voiceWithSign : GoodIn wsX1_pitchOf wsX1_voiceWithSign := goodIn_ca (goodIn_r _ [5, 6, 7, 8, 9, 10, 4, 11, 12, 13, 24, 25, 26, 27, 28, 29, 30, 31, 32, 33, 34, 35] (by decide +kernel) (by decide +kernel)) (goodIn_sub (fun _ h => List.mem_cons_of_mem _ (List.mem_append_left _ (List.mem_append_right _ h))) (by decide +kernel))
set_option maxRecDepth 20000 in
theorem gX1_pitchOf_X1_voiceWithSign : GoodIn wsX1_pitchOf (wsV RX1 73 RX1 yX1_voiceWithSign wsX1_voiceWithSign) := goodIn_app (goodIn_of _ (by decide +kernel)) ggX1_pitchOf_X1_voiceWithSign
set_option maxRecDepth 20000 in
theorem ggX1_pitchOf_X1_checkHasClef : GoodIn wsX1_pitchOf wsX1_checkHasClef := goodIn_ca (goodIn_r _ [16, 17, 18, 24, 25, 26, 27, 28, 29, 30, 31, 32, 33] (by decide +kernel) (by decide +kernel)) (goodIn_sub (fun _ h => List.mem_cons_of_mem _ (List.mem_append_right _ h)) (by decide +kernel))
set_option maxRecDepth 20000 in
theorem gX1_pitchOf_X1_checkHasClef : GoodIn wsX1_pitchOf (va_wsS RX1 130 yX1_checkHasClef wsX1_checkHasClef) := goodIn_app (goodIn_of _ (by decide +kernel)) ggX1_pitchOf_X1_checkHasClef
set_option maxRecDepth 20000 in
theorem ggX1_pitchOf_X0_isRest : GoodIn wsX1_pitchOf wsX0_isRest := goodIn_r _ [22, 23, 24, 25, 26, 27, 28, 29, 30, 31, 32, 33] (by decide +kernel) (by decide +kernel)
set_option maxRecDepth 20000 in
theorem gX1_pitchOf_X0_isRest_n77 : GoodIn wsX1_pitchOf (wsX0_isRest) := ggX1_pitchOf_X0_isRest
set_option maxRecDepth 20000 in
theorem ggX1_fits_X1_knownVoice : GoodIn wsX1_fits wsX1_knownVoice := goodIn_ca (goodIn_r _ [5, 6, 7, 8, 9, 25, 26] (by decide +kernel) (by decide +kernel)) (goodIn_sub (fun _ h => List.mem_cons_of_mem _ (List.mem_append_left _ (List.mem_append_right _ h))) (by decide +kernel))
set_option maxRecDepth 20000 in
theorem gX1_fits_X1_knownVoice : GoodIn wsX1_fits (wsV RX1 34 RX1 yX1_knownVoice wsX1_knownVoice) := goodIn_app (goodIn_of _ (by decide +kernel)) ggX1_fits_X1_knownVoice
set_option maxRecDepth 20000 in
theorem ggX1_fits_X1_checkRange : GoodIn wsX1_fits wsX1_checkRange := goodIn_ca (goodIn_r _ [12, 13, 14] (by decide +kernel) (by decide +kernel)) (goodIn_sub (fun _ h => List.mem_cons_of_mem _ (List.mem_append_right _ h)) (by decide +kernel))
set_option maxRecDepth 20000 in
theorem gX1_fits_X1_checkRange : GoodIn wsX1_fits (va_wsS RX1 38 yX1_checkRange wsX1_checkRange) := goodIn_app (goodIn_of _ (by decide +kernel)) ggX1_fits_X1_checkRange
set_option maxRecDepth 20000 in
theorem ggX1_fits_X0_wouldFit : GoodIn wsX1_fits wsX0_wouldFit := goodIn_r _ [18, 19, 20, 21, 22, 23, 16, 24, 27, 28, 29, 30, 31, 32, 33, 34, 35, 36] (by decide +kernel) (by decide +kernel)
set_option maxRecDepth 20000 in
theorem gX1_fits_X0_wouldFit_n134 : GoodIn wsX1_fits (wsX0_wouldFit) := ggX1_fits_X0_wouldFit
set_option maxRecDepth 20000 in
theorem ggX1_clefsThatFit_X1_knownVoice : GoodIn wsX1_clefsThatFit wsX1_knownVoice := goodIn_ca (goodIn_r _ [5, 6, 7, 8, 9, 24, 25] (by decide +kernel) (by decide +kernel)) (goodIn_sub (fun _ h => List.mem_cons_of_mem _ (List.mem_append_right _ h)) (by decide +kernel))
set_option maxRecDepth 20000 in
theorem gX1_clefsThatFit_X1_knownVoice : GoodIn wsX1_clefsThatFit (wsV RX1 34 RX1 yX1_knownVoice wsX1_knownVoice) := goodIn_app (goodIn_of _ (by decide +kernel)) ggX1_clefsThatFit_X1_knownVoice
set_option maxRecDepth 20000 in
theorem ggX1_clefsThatFit_X0_countFittingClefs : GoodIn wsX1_clefsThatFit wsX0_countFittingClefs := goodIn_r _ [13, 14, 15, 16, 11, 17, 18, 19, 20, 21, 22, 23, 26, 27, 28, 29, 30, 31, 32, 33, 34, 35] (by decide +kernel) (by decide +kernel)
set_option maxRecDepth 20000 in
theorem gX1_clefsThatFit_X0_countFittingClefs_n137 : GoodIn wsX1_clefsThatFit (wsX0_countFittingClefs) := ggX1_clefsThatFit_X0_countFittingClefs
set_option maxRecDepth 20000 in
theorem ggX1_clashes_X1_knownVoice : GoodIn wsX1_clashes wsX1_knownVoice := goodIn_ca (goodIn_r _ [5, 6, 7, 8, 9, 46, 47] (by decide +kernel) (by decide +kernel)) (goodIn_sub (fun _ h => List.mem_cons_of_mem _ (List.mem_append_left _ (List.mem_append_right _ h))) (by decide +kernel))
set_option maxRecDepth 20000 in
theorem gX1_clashes_X1_knownVoice : GoodIn wsX1_clashes (wsV RX1 34 RX1 yX1_knownVoice wsX1_knownVoice) := goodIn_app (goodIn_of _ (by decide +kernel)) ggX1_clashes_X1_knownVoice
set_option maxRecDepth 20000 in
theorem ggX1_clashes_X1_checkHasClef : GoodIn wsX1_clashes wsX1_checkHasClef := goodIn_ca (goodIn_r _ [12, 13, 14, 36, 37, 38, 39, 40, 41, 42, 43, 44, 45] (by decide +kernel) (by decide +kernel)) (goodIn_sub (fun _ h => List.mem_cons_of_mem _ (List.mem_append_right _ h)) (by decide +kernel))
set_option maxRecDepth 20000 in
theorem gX1_clashes_X1_checkHasClef : GoodIn wsX1_clashes (va_wsS RX1 130 yX1_checkHasClef wsX1_checkHasClef) := goodIn_app (goodIn_of _ (by decide +kernel)) ggX1_clashes_X1_checkHasClef
set_option maxRecDepth 20000 in
theorem ggX1_clashes_X1_clashingMinims : GoodIn wsX1_clashes wsX1_clashingMinims := goodIn_r _ [17, 18, 19, 20, 21, 22, 23, 24, 25, 26, 4, 27, 28, 29, 30, 31, 32, 33, 34, 35, 36, 37, 38, 39, 40, 41, 42, 43, 44, 45] (by decide +kernel) (by decide +kernel)
set_option maxRecDepth 20000 in
theorem gX1_clashes_X1_clashingMinims : GoodIn wsX1_clashes (va_wsS RX1 140 yX1_clashingMinims wsX1_clashingMinims) := goodIn_app (goodIn_of _ (by decide +kernel)) ggX1_clashes_X1_clashingMinims
set_option maxRecDepth 20000 in
theorem ggX1_firstClash_X1_knownVoice : GoodIn wsX1_firstClash wsX1_knownVoice := goodIn_ca (goodIn_r _ [5, 6, 7, 8, 9, 46, 47] (by decide +kernel) (by decide +kernel)) (goodIn_sub (fun _ h => List.mem_cons_of_mem _ (List.mem_append_left _ (List.mem_append_right _ h))) (by decide +kernel))
set_option maxRecDepth 20000 in
theorem gX1_firstClash_X1_knownVoice : GoodIn wsX1_firstClash (wsV RX1 34 RX1 yX1_knownVoice wsX1_knownVoice) := goodIn_app (goodIn_of _ (by decide +kernel)) ggX1_firstClash_X1_knownVoice
set_option maxRecDepth 20000 in
theorem ggX1_firstClash_X1_checkHasClef : GoodIn wsX1_firstClash wsX1_checkHasClef := goodIn_ca (goodIn_r _ [12, 13, 14, 36, 37, 38, 39, 40, 41, 42, 43, 44, 45] (by decide +kernel) (by decide +kernel)) (goodIn_sub (fun _ h => List.mem_cons_of_mem _ (List.mem_append_right _ h)) (by decide +kernel))
set_option maxRecDepth 20000 in
theorem gX1_firstClash_X1_checkHasClef : GoodIn wsX1_firstClash (va_wsS RX1 130 yX1_checkHasClef wsX1_checkHasClef) := goodIn_app (goodIn_of _ (by decide +kernel)) ggX1_firstClash_X1_checkHasClef
set_option maxRecDepth 20000 in
theorem ggX1_firstClash_X1_firstClashingMinim : GoodIn wsX1_firstClash wsX1_firstClashingMinim := goodIn_r _ [17, 18, 19, 20, 21, 22, 23, 24, 25, 26, 4, 27, 28, 29, 30, 31, 32, 33, 34, 35, 36, 37, 38, 39, 40, 41, 42, 43, 44, 45] (by decide +kernel) (by decide +kernel)
set_option maxRecDepth 20000 in
theorem gX1_firstClash_X1_firstClashingMinim : GoodIn wsX1_firstClash (va_wsS RX1 144 yX1_firstClashingMinim wsX1_firstClashingMinim) := goodIn_app (goodIn_of _ (by decide +kernel)) ggX1_firstClash_X1_firstClashingMinim
set_option maxRecDepth 20000 in
theorem ggX1_clashesWith_X1_knownVoice : GoodIn wsX1_clashesWith wsX1_knownVoice := goodIn_ca (goodIn_r _ [5, 6, 7, 8, 9, 40, 41] (by decide +kernel) (by decide +kernel)) (goodIn_sub (fun _ h => List.mem_cons_of_mem _ (List.mem_append_left _ (List.mem_append_right _ h))) (by decide +kernel))
set_option maxRecDepth 20000 in
theorem gX1_clashesWith_X1_knownVoice : GoodIn wsX1_clashesWith (wsV RX1 34 RX1 yX1_knownVoice wsX1_knownVoice) := goodIn_app (goodIn_of _ (by decide +kernel)) ggX1_clashesWith_X1_knownVoice
set_option maxRecDepth 20000 in
theorem ggX1_clashesWith_X1_checkRange : GoodIn wsX1_clashesWith wsX1_checkRange := goodIn_ca (goodIn_r _ [12, 13, 14] (by decide +kernel) (by decide +kernel)) (goodIn_sub (fun _ h => List.mem_cons_of_mem _ (List.mem_append_right _ h)) (by decide +kernel))
set_option maxRecDepth 20000 in
theorem gX1_clashesWith_X1_checkRange : GoodIn wsX1_clashesWith (va_wsS RX1 38 yX1_checkRange wsX1_checkRange) := goodIn_app (goodIn_of _ (by decide +kernel)) ggX1_clashesWith_X1_checkRange
set_option maxRecDepth 20000 in
theorem ggX1_clashesWith_X1_clashesIfClef : GoodIn wsX1_clashesWith wsX1_clashesIfClef := goodIn_r _ [18, 8, 9, 19, 20, 4, 21, 22, 23, 24, 25, 26, 27, 28, 29, 30, 31, 32, 33, 34, 35, 36, 37, 38, 39, 40, 41, 42, 43, 44, 45, 46, 47, 48, 49, 50, 51] (by decide +kernel) (by decide +kernel)
set_option maxRecDepth 20000 in
theorem gX1_clashesWith_X1_clashesIfClef : GoodIn wsX1_clashesWith (wsV RX1 148 RX1 yX1_clashesIfClef wsX1_clashesIfClef) := goodIn_app (goodIn_of _ (by decide +kernel)) ggX1_clashesWith_X1_clashesIfClef
set_option maxRecDepth 20000 in
theorem ggX1_bestClef_X1_knownVoice : GoodIn wsX1_bestClef wsX1_knownVoice := goodIn_ca (goodIn_r _ [5, 6, 7, 8, 9, 45, 46] (by decide +kernel) (by decide +kernel)) (goodIn_sub (fun _ h => List.mem_cons_of_mem _ (List.mem_append_right _ h)) (by decide +kernel))
set_option maxRecDepth 20000 in
theorem gX1_bestClef_X1_knownVoice : GoodIn wsX1_bestClef (wsV RX1 34 RX1 yX1_knownVoice wsX1_knownVoice) := goodIn_app (goodIn_of _ (by decide +kernel)) ggX1_bestClef_X1_knownVoice
set_option maxRecDepth 20000 in
theorem ggX1_bestClef_X1_clefWithFewestClashes : GoodIn wsX1_bestClef wsX1_clefWithFewestClashes := goodIn_r _ [13, 14, 15, 16, 17, 18, 19, 20, 21, 22, 23, 24, 25, 26, 27, 4, 28, 8, 9, 29, 30, 31, 32, 33, 34, 35, 36, 37, 38, 39, 40, 41, 42, 43, 44, 47, 48, 49, 50, 51, 52, 53, 54, 55, 56, 45, 46] (by decide +kernel) (by decide +kernel)
set_option maxRecDepth 20000 in
theorem gX1_bestClef_X1_clefWithFewestClashes : GoodIn wsX1_bestClef (wsV RX1 152 RX1 yX1_clefWithFewestClashes wsX1_clefWithFewestClashes) := goodIn_app (goodIn_of _ (by decide +kernel)) ggX1_bestClef_X1_clefWithFewestClashes
set_option maxRecDepth 20000 in
theorem ggX1_canonClashes_X1_knownVoice : GoodIn wsX1_canonClashes wsX1_knownVoice := goodIn_ca (goodIn_r _ [5, 6, 7, 8, 9, 36, 37] (by decide +kernel) (by decide +kernel)) (goodIn_sub (fun _ h => List.mem_cons_of_mem _ (List.mem_append_left _ (List.mem_append_right _ h))) (by decide +kernel))
set_option maxRecDepth 20000 in
theorem gX1_canonClashes_X1_knownVoice : GoodIn wsX1_canonClashes (wsV RX1 34 RX1 yX1_knownVoice wsX1_knownVoice) := goodIn_app (goodIn_of _ (by decide +kernel)) ggX1_canonClashes_X1_knownVoice
set_option maxRecDepth 20000 in
theorem ggX1_canonClashes_X1_checkRange : GoodIn wsX1_canonClashes wsX1_checkRange := goodIn_ca (goodIn_r _ [12, 13, 14] (by decide +kernel) (by decide +kernel)) (goodIn_sub (fun _ h => List.mem_cons_of_mem _ (List.mem_append_right _ h)) (by decide +kernel))
set_option maxRecDepth 20000 in
theorem gX1_canonClashes_X1_checkRange : GoodIn wsX1_canonClashes (va_wsS RX1 38 yX1_checkRange wsX1_checkRange) := goodIn_app (goodIn_of _ (by decide +kernel)) ggX1_canonClashes_X1_checkRange
set_option maxRecDepth 20000 in
theorem ggX1_canonClashes_X1_clashingMinims : GoodIn wsX1_canonClashes wsX1_clashingMinims := goodIn_r _ [17, 18, 19, 20, 21, 22, 23, 24, 25, 26, 4, 27, 28, 29, 30, 31, 32, 33, 34, 35, 38, 39, 40, 41, 42, 43, 44, 45, 46, 47] (by decide +kernel) (by decide +kernel)
set_option maxRecDepth 20000 in
theorem gX1_canonClashes_X1_clashingMinims : GoodIn wsX1_canonClashes (va_wsS RX1 140 yX1_clashingMinims wsX1_clashingMinims) := goodIn_app (goodIn_of _ (by decide +kernel)) ggX1_canonClashes_X1_clashingMinims
set_option maxRecDepth 20000 in
theorem ggX1_bestDelay_X1_knownVoice : GoodIn wsX1_bestDelay wsX1_knownVoice := goodIn_ca (goodIn_r _ [5, 6, 7, 8, 9, 40, 41] (by decide +kernel) (by decide +kernel)) (goodIn_sub (fun _ h => List.mem_cons_of_mem _ (List.mem_append_left _ (List.mem_append_right _ h))) (by decide +kernel))
set_option maxRecDepth 20000 in
theorem gX1_bestDelay_X1_knownVoice : GoodIn wsX1_bestDelay (wsV RX1 34 RX1 yX1_knownVoice wsX1_knownVoice) := goodIn_app (goodIn_of _ (by decide +kernel)) ggX1_bestDelay_X1_knownVoice
set_option maxRecDepth 20000 in
theorem ggX1_bestDelay_X1_checkRange : GoodIn wsX1_bestDelay wsX1_checkRange := goodIn_ca (goodIn_r _ [12, 13, 14] (by decide +kernel) (by decide +kernel)) (goodIn_sub (fun _ h => List.mem_cons_of_mem _ (List.mem_append_right _ h)) (by decide +kernel))
set_option maxRecDepth 20000 in
theorem gX1_bestDelay_X1_checkRange : GoodIn wsX1_bestDelay (va_wsS RX1 38 yX1_checkRange wsX1_checkRange) := goodIn_app (goodIn_of _ (by decide +kernel)) ggX1_bestDelay_X1_checkRange
set_option maxRecDepth 20000 in
theorem ggX1_bestDelay_X1_delayWithFewestClashes : GoodIn wsX1_bestDelay wsX1_delayWithFewestClashes := goodIn_r _ [17, 18, 19, 20, 4, 21, 22, 23, 24, 25, 26, 27, 28, 29, 30, 31, 32, 33, 34, 35, 36, 37, 38, 39, 42, 43, 44, 45, 46, 47, 48, 49, 50, 51] (by decide +kernel) (by decide +kernel)
set_option maxRecDepth 20000 in
theorem gX1_bestDelay_X1_delayWithFewestClashes : GoodIn wsX1_bestDelay (va_wsS RX1 156 yX1_delayWithFewestClashes wsX1_delayWithFewestClashes) := goodIn_app (goodIn_of _ (by decide +kernel)) ggX1_bestDelay_X1_delayWithFewestClashes
set_option maxRecDepth 20000 in
theorem ggX1_meanLength_X0_end : GoodIn wsX1_meanLength wsX0_end := goodIn_r _ [6, 7, 8, 11, 12, 13, 14, 15, 16, 17, 18, 19, 20] (by decide +kernel) (by decide +kernel)
set_option maxRecDepth 20000 in
theorem gX1_meanLength_X0_end_n89 : GoodIn wsX1_meanLength (wsX0_end) := ggX1_meanLength_X0_end
set_option maxRecDepth 20000 in
theorem ggX1_digest_X1_mix : GoodIn wsX1_digest wsX1_mix := goodIn_r _ [7, 8] (by decide +kernel) (by decide +kernel)
set_option maxRecDepth 20000 in
theorem gX1_digest_X1_mix : GoodIn wsX1_digest (va_wsS RX1 161 yX1_mix wsX1_mix) := goodIn_app (goodIn_of _ (by decide +kernel)) ggX1_digest_X1_mix
set_option maxRecDepth 20000 in
theorem ggX1_digest_X1_longest : GoodIn wsX1_digest wsX1_longest := goodIn_r _ [12, 2, 3, 13, 14, 15, 16, 17, 18, 19, 20, 21, 22, 76, 77, 78, 79, 80, 81, 82, 83, 84, 85, 86, 87] (by decide +kernel) (by decide +kernel)
set_option maxRecDepth 20000 in
theorem gX1_digest_X1_longest : GoodIn wsX1_digest (wsV RX1 165 RX1 yX1_longest wsX1_longest) := goodIn_app (goodIn_of _ (by decide +kernel)) ggX1_digest_X1_longest
set_option maxRecDepth 20000 in
theorem ggX1_digest_X1_mixVoice : GoodIn wsX1_digest wsX1_mixVoice := goodIn_r _ [26, 4, 5, 6, 7, 8, 27, 18, 28, 29, 22, 30, 31, 32, 33, 34, 35, 36, 37, 38, 17, 19, 20, 21, 39, 40, 41, 42, 43, 44, 45, 46, 47, 48, 49, 50, 51, 52, 53, 54, 2, 3, 55, 56, 57, 13, 14, 15, 16, 58, 59, 60, 61, 62, 63, 64, 65, 66, 67, 68, 69, 70, 71, 72, 73, 74, 75, 78, 79, 80, 81, 82, 83, 84, 85, 86, 87, 76, 77] (by decide +kernel) (by decide +kernel)
set_option maxRecDepth 20000 in
theorem gX1_digest_X1_mixVoice : GoodIn wsX1_digest (wsV RX1 168 RX1 yX1_mixVoice wsX1_mixVoice) := goodIn_app (goodIn_of _ (by decide +kernel)) ggX1_digest_X1_mixVoice
set_option maxRecDepth 20000 in
theorem ggX1_voiceWithSign_X1_knownVoice : GoodIn wsX1_voiceWithSign wsX1_knownVoice := goodIn_ca (goodIn_r _ [7, 1, 2, 8, 9, 20, 21] (by decide +kernel) (by decide +kernel)) (goodIn_sub (fun _ h => List.mem_cons_of_mem _ (List.mem_append_right _ h)) (by decide +kernel))
set_option maxRecDepth 20000 in
theorem gX1_voiceWithSign_X1_knownVoice : GoodIn wsX1_voiceWithSign (wsV RX1 34 RX1 yX1_knownVoice wsX1_knownVoice) := goodIn_app (goodIn_of _ (by decide +kernel)) ggX1_voiceWithSign_X1_knownVoice
set_option maxRecDepth 20000 in
theorem ggX1_checkMensuration_X1_checkRange : GoodIn wsX1_checkMensuration wsX1_checkRange := goodIn_ca (goodIn_r _ [4, 5, 6] (by decide +kernel) (by decide +kernel)) (goodIn_sub (fun _ h => List.mem_cons_of_mem _ (List.mem_append_right _ h)) (by decide +kernel))
set_option maxRecDepth 20000 in
theorem gX1_checkMensuration_X1_checkRange : GoodIn wsX1_checkMensuration (va_wsS RX1 38 yX1_checkRange wsX1_checkRange) := goodIn_app (goodIn_of _ (by decide +kernel)) ggX1_checkMensuration_X1_checkRange
set_option maxRecDepth 20000 in
theorem ggX1_checkLigature_X1_checkRange : GoodIn wsX1_checkLigature wsX1_checkRange := goodIn_ca (goodIn_r _ [6, 1, 2] (by decide +kernel) (by decide +kernel)) (goodIn_sub (fun _ h => List.mem_cons_of_mem _ (List.mem_append_right _ h)) (by decide +kernel))
set_option maxRecDepth 20000 in
theorem gX1_checkLigature_X1_checkRange : GoodIn wsX1_checkLigature (va_wsS RX1 38 yX1_checkRange wsX1_checkRange) := goodIn_app (goodIn_of _ (by decide +kernel)) ggX1_checkLigature_X1_checkRange
set_option maxRecDepth 20000 in
theorem ggX1_firstKind_X1_lastKind : GoodIn wsX1_firstKind wsX1_lastKind := goodIn_r _ [4] (by decide +kernel) (by decide +kernel)
set_option maxRecDepth 20000 in
theorem gX1_firstKind_X1_lastKind : GoodIn wsX1_firstKind (va_wsS RX1 60 yX1_lastKind wsX1_lastKind) := goodIn_app (goodIn_of _ (by decide +kernel)) ggX1_firstKind_X1_lastKind
set_option maxRecDepth 20000 in
theorem ggX1_secondKind_X1_lastKind : GoodIn wsX1_secondKind wsX1_lastKind := goodIn_r _ [4] (by decide +kernel) (by decide +kernel)
set_option maxRecDepth 20000 in
theorem gX1_secondKind_X1_lastKind : GoodIn wsX1_secondKind (va_wsS RX1 60 yX1_lastKind wsX1_lastKind) := goodIn_app (goodIn_of _ (by decide +kernel)) ggX1_secondKind_X1_lastKind
set_option maxRecDepth 20000 in
theorem ggX1_clashingMinims_X1_signsClash : GoodIn wsX1_clashingMinims wsX1_signsClash := goodIn_r _ [11, 12, 13, 3, 14, 15, 16, 17, 18, 19, 20, 21, 22, 23, 24, 25, 26, 27, 28, 29] (by decide +kernel) (by decide +kernel)
set_option maxRecDepth 20000 in
theorem gX1_clashingMinims_X1_signsClash : GoodIn wsX1_clashingMinims (va_wsS RX1 193 yX1_signsClash wsX1_signsClash) := goodIn_app (goodIn_of _ (by decide +kernel)) ggX1_clashingMinims_X1_signsClash
set_option maxRecDepth 20000 in
theorem ggX1_firstClashingMinim_X1_signsClash : GoodIn wsX1_firstClashingMinim wsX1_signsClash := goodIn_r _ [11, 12, 13, 3, 14, 15, 16, 17, 18, 19, 20, 21, 22, 23, 24, 25, 26, 27, 28, 29] (by decide +kernel) (by decide +kernel)
set_option maxRecDepth 20000 in
theorem gX1_firstClashingMinim_X1_signsClash : GoodIn wsX1_firstClashingMinim (va_wsS RX1 193 yX1_signsClash wsX1_signsClash) := goodIn_app (goodIn_of _ (by decide +kernel)) ggX1_firstClashingMinim_X1_signsClash
set_option maxRecDepth 20000 in
theorem ggX1_signsClash_X0_isRest : GoodIn wsX1_signsClash wsX0_isRest := goodIn_r _ [8, 9, 10, 11, 12, 13, 14, 15, 16, 17, 18, 19] (by decide +kernel) (by decide +kernel)
set_option maxRecDepth 20000 in
theorem gX1_signsClash_X0_isRest_n77 : GoodIn wsX1_signsClash (wsX0_isRest) := ggX1_signsClash_X0_isRest
set_option maxRecDepth 20000 in
theorem ggX1_clashesIfClef_X1_clashingMinims : GoodIn wsX1_clashesIfClef wsX1_clashingMinims := goodIn_r _ [6, 7, 8, 9, 10, 11, 12, 13, 14, 15, 5, 16, 17, 18, 19, 20, 21, 22, 23, 24, 27, 28, 29, 30, 31, 32, 33, 34, 35, 36] (by decide +kernel) (by decide +kernel)
set_option maxRecDepth 20000 in
theorem gX1_clashesIfClef_X1_clashingMinims : GoodIn wsX1_clashesIfClef (va_wsS RX1 140 yX1_clashingMinims wsX1_clashingMinims) := goodIn_app (goodIn_of _ (by decide +kernel)) ggX1_clashesIfClef_X1_clashingMinims
set_option maxRecDepth 20000 in
theorem ggX1_clefWithFewestClashes_X0_wouldFit : GoodIn wsX1_clefWithFewestClashes wsX0_wouldFit := goodIn_r _ [5, 6, 7, 8, 9, 10, 3, 11, 35, 36, 37, 38, 39, 40, 41, 42, 43, 44] (by decide +kernel) (by decide +kernel)
set_option maxRecDepth 20000 in
theorem gX1_clefWithFewestClashes_X0_wouldFit_n134 : GoodIn wsX1_clefWithFewestClashes (wsX0_wouldFit) := ggX1_clefWithFewestClashes_X0_wouldFit
set_option maxRecDepth 20000 in
theorem ggX1_clefWithFewestClashes_X1_clashesIfClef : GoodIn wsX1_clefWithFewestClashes wsX1_clashesIfClef := goodIn_r _ [16, 17, 18, 19, 20, 15, 21, 22, 23, 24, 25, 26, 27, 28, 29, 30, 31, 32, 33, 34, 9, 3, 10, 11, 7, 45, 46, 35, 36, 37, 38, 39, 40, 41, 42, 43, 44] (by decide +kernel) (by decide +kernel)
set_option maxRecDepth 20000 in
theorem gX1_clefWithFewestClashes_X1_clashesIfClef : GoodIn wsX1_clefWithFewestClashes (wsV RX1 148 RX1 yX1_clashesIfClef wsX1_clashesIfClef) := goodIn_app (goodIn_of _ (by decide +kernel)) ggX1_clefWithFewestClashes_X1_clashesIfClef
set_option maxRecDepth 20000 in
theorem ggX1_delayWithFewestClashes_X1_clashingMinims : GoodIn wsX1_delayWithFewestClashes wsX1_clashingMinims := goodIn_r _ [5, 6, 7, 8, 9, 10, 11, 12, 13, 14, 4, 15, 16, 17, 18, 19, 20, 21, 22, 23, 24, 25, 26, 27, 28, 29, 30, 31, 32, 33] (by decide +kernel) (by decide +kernel)
set_option maxRecDepth 20000 in
theorem gX1_delayWithFewestClashes_X1_clashingMinims : GoodIn wsX1_delayWithFewestClashes (va_wsS RX1 140 yX1_clashingMinims wsX1_clashingMinims) := goodIn_app (goodIn_of _ (by decide +kernel)) ggX1_delayWithFewestClashes_X1_clashingMinims
set_option maxRecDepth 20000 in
theorem ggX1_mixVoice_X1_mix : GoodIn wsX1_mixVoice wsX1_mix := goodIn_r _ [4, 5] (by decide +kernel) (by decide +kernel)
set_option maxRecDepth 20000 in
theorem gX1_mixVoice_X1_mix : GoodIn wsX1_mixVoice (va_wsS RX1 161 yX1_mix wsX1_mix) := goodIn_app (goodIn_of _ (by decide +kernel)) ggX1_mixVoice_X1_mix
set_option maxRecDepth 20000 in
theorem ggX1_mixVoice_X0_countNotes : GoodIn wsX1_mixVoice wsX0_countNotes := goodIn_r _ [9, 10, 11, 12, 13, 7, 14, 15, 67, 68, 69, 70, 71, 72, 73, 74, 75, 76] (by decide +kernel) (by decide +kernel)
set_option maxRecDepth 20000 in
theorem gX1_mixVoice_X0_countNotes_n92 : GoodIn wsX1_mixVoice (wsX0_countNotes) := ggX1_mixVoice_X0_countNotes
set_option maxRecDepth 20000 in
theorem ggX1_mixVoice_X0_countLigatures : GoodIn wsX1_mixVoice wsX0_countLigatures := goodIn_r _ [18, 10, 19, 67, 68, 69, 70, 71, 72, 73, 74, 75, 76] (by decide +kernel) (by decide +kernel)
set_option maxRecDepth 20000 in
theorem gX1_mixVoice_X0_countLigatures_n95 : GoodIn wsX1_mixVoice (wsX0_countLigatures) := ggX1_mixVoice_X0_countLigatures
set_option maxRecDepth 20000 in
theorem ggX1_mixVoice_X0_end : GoodIn wsX1_mixVoice wsX0_end := goodIn_r _ [22, 23, 10, 67, 68, 69, 70, 71, 72, 73, 74, 75, 76] (by decide +kernel) (by decide +kernel)
set_option maxRecDepth 20000 in
theorem gX1_mixVoice_X0_end_n89 : GoodIn wsX1_mixVoice (wsX0_end) := ggX1_mixVoice_X0_end
set_option maxRecDepth 20000 in
theorem ggX1_mixVoice_X0_countFittingClefs : GoodIn wsX1_mixVoice wsX0_countFittingClefs := goodIn_r _ [26, 27, 28, 29, 7, 30, 10, 15, 11, 12, 13, 14, 67, 68, 69, 70, 71, 72, 73, 74, 75, 76] (by decide +kernel) (by decide +kernel)
set_option maxRecDepth 20000 in
theorem gX1_mixVoice_X0_countFittingClefs_n137 : GoodIn wsX1_mixVoice (wsX0_countFittingClefs) := ggX1_mixVoice_X0_countFittingClefs
set_option maxRecDepth 20000 in
theorem ggX1_mixVoice_X1_clefWithFewestClashes : GoodIn wsX1_mixVoice wsX1_clefWithFewestClashes := goodIn_r _ [34, 35, 28, 7, 29, 30, 10, 15, 11, 12, 13, 14, 36, 37, 38, 3, 39, 40, 41, 42, 43, 44, 45, 46, 47, 48, 49, 50, 51, 52, 53, 54, 55, 56, 57, 67, 68, 69, 70, 71, 72, 73, 74, 75, 76, 77, 78] (by decide +kernel) (by decide +kernel)
set_option maxRecDepth 20000 in
theorem gX1_mixVoice_X1_clefWithFewestClashes : GoodIn wsX1_mixVoice (wsV RX1 152 RX1 yX1_clefWithFewestClashes wsX1_clefWithFewestClashes) := goodIn_app (goodIn_of _ (by decide +kernel)) ggX1_mixVoice_X1_clefWithFewestClashes
set_option maxRecDepth 20000 in
theorem ggX1_mixVoice_X1_clashingMinims : GoodIn wsX1_mixVoice wsX1_clashingMinims := goodIn_r _ [44, 45, 46, 47, 48, 49, 50, 51, 52, 53, 3, 54, 55, 56, 57, 12, 7, 13, 14, 15, 67, 68, 69, 70, 71, 72, 73, 74, 75, 76] (by decide +kernel) (by decide +kernel)
set_option maxRecDepth 20000 in
theorem gX1_mixVoice_X1_clashingMinims : GoodIn wsX1_mixVoice (va_wsS RX1 140 yX1_clashingMinims wsX1_clashingMinims) := goodIn_app (goodIn_of _ (by decide +kernel)) ggX1_mixVoice_X1_clashingMinims
set_option maxRecDepth 20000 in
theorem ggX1_mixVoice_X1_delayWithFewestClashes : GoodIn wsX1_mixVoice wsX1_delayWithFewestClashes := goodIn_r _ [60, 35, 42, 43, 3, 44, 45, 46, 47, 48, 49, 50, 51, 52, 53, 54, 55, 56, 57, 12, 7, 13, 14, 15, 67, 68, 69, 70, 71, 72, 73, 74, 75, 76] (by decide +kernel) (by decide +kernel)
set_option maxRecDepth 20000 in
theorem gX1_mixVoice_X1_delayWithFewestClashes : GoodIn wsX1_mixVoice (va_wsS RX1 156 yX1_delayWithFewestClashes wsX1_delayWithFewestClashes) := goodIn_app (goodIn_of _ (by decide +kernel)) ggX1_mixVoice_X1_delayWithFewestClashes
set_option maxRecDepth 20000 in
theorem ggX1_mixVoice_X1_mixSign : GoodIn wsX1_mixVoice wsX1_mixSign := goodIn_r _ [63, 1, 2, 3, 4, 5, 64, 7, 65, 66, 23, 67, 68, 69, 70, 71, 72, 73, 74, 75, 76] (by decide +kernel) (by decide +kernel)
set_option maxRecDepth 20000 in
theorem gX1_mixVoice_X1_mixSign : GoodIn wsX1_mixVoice (va_wsS RX1 202 yX1_mixSign wsX1_mixSign) := goodIn_app (goodIn_of _ (by decide +kernel)) ggX1_mixVoice_X1_mixSign
set_option maxRecDepth 20000 in
theorem ggX1_mixSign_X1_mix : GoodIn wsX1_mixSign wsX1_mix := goodIn_r _ [4, 5] (by decide +kernel) (by decide +kernel)
set_option maxRecDepth 20000 in
theorem gX1_mixSign_X1_mix : GoodIn wsX1_mixSign (va_wsS RX1 161 yX1_mix wsX1_mix) := goodIn_app (goodIn_of _ (by decide +kernel)) ggX1_mixSign_X1_mix
set_option maxRecDepth 20000 in
theorem ggX1_mixSign_X0_minimsOf : GoodIn wsX1_mixSign wsX0_minimsOf := goodIn_r _ [9, 10, 11, 12, 13, 14, 15, 16, 17, 18, 19, 20] (by decide +kernel) (by decide +kernel)
set_option maxRecDepth 20000 in
theorem gX1_mixSign_X0_minimsOf_n112 : GoodIn wsX1_mixSign (wsX0_minimsOf) := ggX1_mixSign_X0_minimsOf
set_option maxRecDepth 20000 in
theorem ggX2_isVoice_X2_isIn : GoodIn wsX2_isVoice wsX2_isIn := goodIn_r _ [5] (by decide +kernel) (by decide +kernel)
set_option maxRecDepth 20000 in
theorem gX2_isVoice_X2_isIn : GoodIn wsX2_isVoice (va_wsS RX2 45 yX2_isIn wsX2_isIn) := goodIn_app (goodIn_of _ (by decide +kernel)) ggX2_isVoice_X2_isIn
set_option maxRecDepth 20000 in
theorem ggX2_isSign_X2_isVoice : GoodIn wsX2_isSign wsX2_isVoice := goodIn_r _ [6, 7, 8, 9, 5, 10, 11, 12, 13, 14, 15, 16, 17, 18, 19, 20, 21] (by decide +kernel) (by decide +kernel)
set_option maxRecDepth 20000 in
theorem gX2_isSign_X2_isVoice : GoodIn wsX2_isSign (wsV RX2 49 RX2 yX2_isVoice wsX2_isVoice) := goodIn_app (goodIn_of _ (by decide +kernel)) ggX2_isSign_X2_isVoice
set_option maxRecDepth 20000 in
theorem ggX2_isSign_X2_isIn : GoodIn wsX2_isSign wsX2_isIn := goodIn_r _ [10] (by decide +kernel) (by decide +kernel)
set_option maxRecDepth 20000 in
theorem gX2_isSign_X2_isIn : GoodIn wsX2_isSign (va_wsS RX2 45 yX2_isIn wsX2_isIn) := goodIn_app (goodIn_of _ (by decide +kernel)) ggX2_isSign_X2_isIn
set_option maxRecDepth 20000 in
theorem ggX2_isMeasure_X2_isIn : GoodIn wsX2_isMeasure wsX2_isIn := goodIn_r _ [4] (by decide +kernel) (by decide +kernel)
set_option maxRecDepth 20000 in
theorem gX2_isMeasure_X2_isIn : GoodIn wsX2_isMeasure (va_wsS RX2 45 yX2_isIn wsX2_isIn) := goodIn_app (goodIn_of _ (by decide +kernel)) ggX2_isMeasure_X2_isIn
set_option maxRecDepth 20000 in
theorem ggX2_all_X2_lasts : GoodIn wsX2_all wsX2_lasts := goodIn_r _ [6, 7, 8, 9, 10, 11, 12, 13, 14, 15, 16, 17, 18, 19, 20] (by decide +kernel) (by decide +kernel)
set_option maxRecDepth 20000 in
theorem gX2_all_X2_lasts : GoodIn wsX2_all (wsV RX2 53 RX2 yX2_lasts wsX2_lasts) := goodIn_app (goodIn_of _ (by decide +kernel)) ggX2_all_X2_lasts
set_option maxRecDepth 20000 in
theorem ggX2_lay_X2_lasts : GoodIn wsX2_lay wsX2_lasts := goodIn_r _ [7, 8, 9, 10, 11, 12, 13, 14, 15, 16, 17, 18, 19, 20, 21] (by decide +kernel) (by decide +kernel)
set_option maxRecDepth 20000 in
theorem gX2_lay_X2_lasts : GoodIn wsX2_lay (wsV RX2 53 RX2 yX2_lasts wsX2_lasts) := goodIn_app (goodIn_of _ (by decide +kernel)) ggX2_lay_X2_lasts
set_option maxRecDepth 20000 in
theorem ggX2_clash_X2_lay : GoodIn wsX2_clash wsX2_lay := goodIn_r _ [11, 12, 13, 14, 15, 16, 10, 17, 18, 19, 20, 27, 28, 29, 30, 31, 32, 33, 34, 35, 36, 37] (by decide +kernel) (by decide +kernel)
set_option maxRecDepth 20000 in
theorem gX2_clash_X2_lay : GoodIn wsX2_clash (wsV RX2 63 RX2 yX2_lay wsX2_lay) := goodIn_app (goodIn_of _ (by decide +kernel)) ggX2_clash_X2_lay
set_option maxRecDepth 20000 in
theorem ggX2_clash_X2_isClash : GoodIn wsX2_clash wsX2_isClash := goodIn_r _ [23, 24, 25, 5, 26] (by decide +kernel) (by decide +kernel)
set_option maxRecDepth 20000 in
theorem gX2_clash_X2_isClash : GoodIn wsX2_clash (va_wsS RX2 70 yX2_isClash wsX2_isClash) := goodIn_app (goodIn_of _ (by decide +kernel)) ggX2_clash_X2_isClash
set_option maxRecDepth 20000 in
theorem ggX2_addVoice_X2_isMeasure : GoodIn wsX2_addVoice wsX2_isMeasure := goodIn_r _ [7, 8, 9, 6, 10] (by decide +kernel) (by decide +kernel)
set_option maxRecDepth 20000 in
theorem gX2_addVoice_X2_isMeasure : GoodIn wsX2_addVoice (va_wsS RX2 73 yX2_isMeasure wsX2_isMeasure) := goodIn_app (goodIn_of _ (by decide +kernel)) ggX2_addVoice_X2_isMeasure
set_option maxRecDepth 20000 in
theorem ggX2_addVoice_X2_fail : GoodIn wsX2_addVoice wsX2_fail := goodIn_r _ [14, 1, 20, 21, 22, 23, 24, 25, 26, 27, 28, 29, 30] (by decide +kernel) (by decide +kernel)
set_option maxRecDepth 20000 in
theorem gX2_addVoice_X2_fail : GoodIn wsX2_addVoice (wsV RX2 76 RX2 yX2_fail wsX2_fail) := goodIn_app (goodIn_of _ (by decide +kernel)) ggX2_addVoice_X2_fail
set_option maxRecDepth 20000 in
theorem ggX2_addVoice_X2_set : GoodIn wsX2_addVoice wsX2_set := goodIn_r _ [18, 19, 20, 21, 22, 23, 24, 25, 26, 27, 28, 29, 30] (by decide +kernel) (by decide +kernel)
set_option maxRecDepth 20000 in
theorem gX2_addVoice_X2_set : GoodIn wsX2_addVoice (wsV RX2 79 RX2 yX2_set wsX2_set) := goodIn_app (goodIn_of _ (by decide +kernel)) ggX2_addVoice_X2_set
set_option maxRecDepth 20000 in
theorem ggX2_addNote_X2_isVoice : GoodIn wsX2_addNote wsX2_isVoice := goodIn_r _ [7, 8, 9, 10, 6, 11, 24, 25, 26, 27, 28, 29, 30, 31, 32, 33, 34] (by decide +kernel) (by decide +kernel)
set_option maxRecDepth 20000 in
theorem gX2_addNote_X2_isVoice : GoodIn wsX2_addNote (wsV RX2 49 RX2 yX2_isVoice wsX2_isVoice) := goodIn_app (goodIn_of _ (by decide +kernel)) ggX2_addNote_X2_isVoice
set_option maxRecDepth 20000 in
theorem ggX2_addNote_X2_fail : GoodIn wsX2_addNote wsX2_fail := goodIn_r _ [15, 1, 24, 25, 26, 27, 28, 29, 30, 31, 32, 33, 34] (by decide +kernel) (by decide +kernel)
set_option maxRecDepth 20000 in
theorem gX2_addNote_X2_fail : GoodIn wsX2_addNote (wsV RX2 76 RX2 yX2_fail wsX2_fail) := goodIn_app (goodIn_of _ (by decide +kernel)) ggX2_addNote_X2_fail
set_option maxRecDepth 20000 in
theorem ggX2_addNote_X2_isIn : GoodIn wsX2_addNote wsX2_isIn := goodIn_r _ [11] (by decide +kernel) (by decide +kernel)
set_option maxRecDepth 20000 in
theorem gX2_addNote_X2_isIn : GoodIn wsX2_addNote (va_wsS RX2 45 yX2_isIn wsX2_isIn) := goodIn_app (goodIn_of _ (by decide +kernel)) ggX2_addNote_X2_isIn
set_option maxRecDepth 20000 in
theorem ggX2_addNote_X2_put : GoodIn wsX2_addNote wsX2_put := goodIn_r _ [19, 2, 20, 21, 22, 23, 24, 25, 26, 27, 28, 29, 30, 31, 32, 33, 34] (by decide +kernel) (by decide +kernel)
set_option maxRecDepth 20000 in
theorem gX2_addNote_X2_put : GoodIn wsX2_addNote (wsV RX2 83 RX2 yX2_put wsX2_put) := goodIn_app (goodIn_of _ (by decide +kernel)) ggX2_addNote_X2_put
set_option maxRecDepth 20000 in
theorem ggX2_addRest_X2_isVoice : GoodIn wsX2_addRest wsX2_isVoice := goodIn_r _ [7, 8, 9, 10, 6, 11, 24, 25, 26, 27, 28, 29, 30, 31, 32, 33, 34] (by decide +kernel) (by decide +kernel)
set_option maxRecDepth 20000 in
theorem gX2_addRest_X2_isVoice : GoodIn wsX2_addRest (wsV RX2 49 RX2 yX2_isVoice wsX2_isVoice) := goodIn_app (goodIn_of _ (by decide +kernel)) ggX2_addRest_X2_isVoice
set_option maxRecDepth 20000 in
theorem ggX2_addRest_X2_fail : GoodIn wsX2_addRest wsX2_fail := goodIn_r _ [15, 1, 24, 25, 26, 27, 28, 29, 30, 31, 32, 33, 34] (by decide +kernel) (by decide +kernel)
set_option maxRecDepth 20000 in
theorem gX2_addRest_X2_fail : GoodIn wsX2_addRest (wsV RX2 76 RX2 yX2_fail wsX2_fail) := goodIn_app (goodIn_of _ (by decide +kernel)) ggX2_addRest_X2_fail
set_option maxRecDepth 20000 in
theorem ggX2_addRest_X2_isIn : GoodIn wsX2_addRest wsX2_isIn := goodIn_r _ [11] (by decide +kernel) (by decide +kernel)
set_option maxRecDepth 20000 in
theorem gX2_addRest_X2_isIn : GoodIn wsX2_addRest (va_wsS RX2 45 yX2_isIn wsX2_isIn) := goodIn_app (goodIn_of _ (by decide +kernel)) ggX2_addRest_X2_isIn
set_option maxRecDepth 20000 in
theorem ggX2_addRest_X2_put : GoodIn wsX2_addRest wsX2_put := goodIn_r _ [19, 2, 20, 21, 22, 23, 24, 25, 26, 27, 28, 29, 30, 31, 32, 33, 34] (by decide +kernel) (by decide +kernel)
set_option maxRecDepth 20000 in
theorem gX2_addRest_X2_put : GoodIn wsX2_addRest (wsV RX2 83 RX2 yX2_put wsX2_put) := goodIn_app (goodIn_of _ (by decide +kernel)) ggX2_addRest_X2_put
set_option maxRecDepth 20000 in
theorem ggX2_addLigature_X2_isVoice : GoodIn wsX2_addLigature wsX2_isVoice := goodIn_r _ [7, 8, 9, 10, 6, 11, 24, 25, 26, 27, 28, 29, 30, 31, 32, 33, 34] (by decide +kernel) (by decide +kernel)
set_option maxRecDepth 20000 in
theorem gX2_addLigature_X2_isVoice : GoodIn wsX2_addLigature (wsV RX2 49 RX2 yX2_isVoice wsX2_isVoice) := goodIn_app (goodIn_of _ (by decide +kernel)) ggX2_addLigature_X2_isVoice
set_option maxRecDepth 20000 in
theorem ggX2_addLigature_X2_fail : GoodIn wsX2_addLigature wsX2_fail := goodIn_r _ [15, 1, 24, 25, 26, 27, 28, 29, 30, 31, 32, 33, 34] (by decide +kernel) (by decide +kernel)
set_option maxRecDepth 20000 in
theorem gX2_addLigature_X2_fail : GoodIn wsX2_addLigature (wsV RX2 76 RX2 yX2_fail wsX2_fail) := goodIn_app (goodIn_of _ (by decide +kernel)) ggX2_addLigature_X2_fail
set_option maxRecDepth 20000 in
theorem ggX2_addLigature_X2_isIn : GoodIn wsX2_addLigature wsX2_isIn := goodIn_r _ [11] (by decide +kernel) (by decide +kernel)
set_option maxRecDepth 20000 in
theorem gX2_addLigature_X2_isIn : GoodIn wsX2_addLigature (va_wsS RX2 45 yX2_isIn wsX2_isIn) := goodIn_app (goodIn_of _ (by decide +kernel)) ggX2_addLigature_X2_isIn
set_option maxRecDepth 20000 in
theorem ggX2_addLigature_X2_put : GoodIn wsX2_addLigature wsX2_put := goodIn_r _ [19, 2, 20, 21, 22, 23, 24, 25, 26, 27, 28, 29, 30, 31, 32, 33, 34] (by decide +kernel) (by decide +kernel)
set_option maxRecDepth 20000 in
theorem gX2_addLigature_X2_put : GoodIn wsX2_addLigature (wsV RX2 83 RX2 yX2_put wsX2_put) := goodIn_app (goodIn_of _ (by decide +kernel)) ggX2_addLigature_X2_put
set_option maxRecDepth 20000 in
theorem ggX2_erase_X2_isVoice : GoodIn wsX2_erase wsX2_isVoice := goodIn_r _ [12, 13, 14, 15, 11, 16, 21, 22, 23, 24, 25, 26, 27, 28, 29, 30, 31] (by decide +kernel) (by decide +kernel)
set_option maxRecDepth 20000 in
theorem gX2_erase_X2_isVoice : GoodIn wsX2_erase (wsV RX2 49 RX2 yX2_isVoice wsX2_isVoice) := goodIn_app (goodIn_of _ (by decide +kernel)) ggX2_erase_X2_isVoice
set_option maxRecDepth 20000 in
theorem ggX2_erase_X2_fail : GoodIn wsX2_erase wsX2_fail := goodIn_r _ [20, 1, 21, 22, 23, 24, 25, 26, 27, 28, 29, 30, 31] (by decide +kernel) (by decide +kernel)
set_option maxRecDepth 20000 in
theorem gX2_erase_X2_fail : GoodIn wsX2_erase (wsV RX2 76 RX2 yX2_fail wsX2_fail) := goodIn_app (goodIn_of _ (by decide +kernel)) ggX2_erase_X2_fail
set_option maxRecDepth 20000 in
theorem ggX2_recolour_X2_isSign : GoodIn wsX2_recolour wsX2_isSign := goodIn_r _ [8, 9, 10, 11, 12, 7, 13, 14, 15, 16, 17, 18, 19, 20, 21, 22, 23, 24, 25, 26, 27, 28] (by decide +kernel) (by decide +kernel)
set_option maxRecDepth 20000 in
theorem gX2_recolour_X2_isSign : GoodIn wsX2_recolour (wsV RX2 90 RX2 yX2_isSign wsX2_isSign) := goodIn_app (goodIn_of _ (by decide +kernel)) ggX2_recolour_X2_isSign
set_option maxRecDepth 20000 in
theorem ggX2_setClef_X2_isVoice : GoodIn wsX2_setClef wsX2_isVoice := goodIn_r _ [7, 8, 9, 10, 6, 11, 16, 17, 18, 19, 20, 21, 22, 23, 24, 25, 26] (by decide +kernel) (by decide +kernel)
set_option maxRecDepth 20000 in
theorem gX2_setClef_X2_isVoice : GoodIn wsX2_setClef (wsV RX2 49 RX2 yX2_isVoice wsX2_isVoice) := goodIn_app (goodIn_of _ (by decide +kernel)) ggX2_setClef_X2_isVoice
set_option maxRecDepth 20000 in
theorem ggX2_setClef_X2_fail : GoodIn wsX2_setClef wsX2_fail := goodIn_r _ [15, 1, 16, 17, 18, 19, 20, 21, 22, 23, 24, 25, 26] (by decide +kernel) (by decide +kernel)
set_option maxRecDepth 20000 in
theorem gX2_setClef_X2_fail : GoodIn wsX2_setClef (wsV RX2 76 RX2 yX2_fail wsX2_fail) := goodIn_app (goodIn_of _ (by decide +kernel)) ggX2_setClef_X2_fail
set_option maxRecDepth 20000 in
theorem ggX2_setClef_X2_isIn : GoodIn wsX2_setClef wsX2_isIn := goodIn_r _ [11] (by decide +kernel) (by decide +kernel)
set_option maxRecDepth 20000 in
theorem gX2_setClef_X2_isIn : GoodIn wsX2_setClef (va_wsS RX2 45 yX2_isIn wsX2_isIn) := goodIn_app (goodIn_of _ (by decide +kernel)) ggX2_setClef_X2_isIn
set_option maxRecDepth 20000 in
theorem ggX2_setMensuration_X2_isVoice : GoodIn wsX2_setMensuration wsX2_isVoice := goodIn_r _ [6, 7, 8, 9, 5, 10, 34, 35, 36, 37, 38, 39, 40, 41, 42, 43, 44] (by decide +kernel) (by decide +kernel)
set_option maxRecDepth 20000 in
theorem gX2_setMensuration_X2_isVoice : GoodIn wsX2_setMensuration (wsV RX2 49 RX2 yX2_isVoice wsX2_isVoice) := goodIn_app (goodIn_of _ (by decide +kernel)) ggX2_setMensuration_X2_isVoice
set_option maxRecDepth 20000 in
theorem ggX2_setMensuration_X2_fail : GoodIn wsX2_setMensuration wsX2_fail := goodIn_r _ [14, 1, 34, 35, 36, 37, 38, 39, 40, 41, 42, 43, 44] (by decide +kernel) (by decide +kernel)
set_option maxRecDepth 20000 in
theorem gX2_setMensuration_X2_fail : GoodIn wsX2_setMensuration (wsV RX2 76 RX2 yX2_fail wsX2_fail) := goodIn_app (goodIn_of _ (by decide +kernel)) ggX2_setMensuration_X2_fail
set_option maxRecDepth 20000 in
theorem ggX2_setMensuration_X2_isMeasure : GoodIn wsX2_setMensuration wsX2_isMeasure := goodIn_r _ [17, 8, 9, 5, 10] (by decide +kernel) (by decide +kernel)
set_option maxRecDepth 20000 in
theorem gX2_setMensuration_X2_isMeasure : GoodIn wsX2_setMensuration (va_wsS RX2 73 yX2_isMeasure wsX2_isMeasure) := goodIn_app (goodIn_of _ (by decide +kernel)) ggX2_setMensuration_X2_isMeasure
set_option maxRecDepth 20000 in
theorem ggX2_setMensuration_X2_set : GoodIn wsX2_setMensuration wsX2_set := goodIn_r _ [21, 22, 34, 35, 36, 37, 38, 39, 40, 41, 42, 43, 44] (by decide +kernel) (by decide +kernel)
set_option maxRecDepth 20000 in
theorem gX2_setMensuration_X2_set : GoodIn wsX2_setMensuration (wsV RX2 79 RX2 yX2_set wsX2_set) := goodIn_app (goodIn_of _ (by decide +kernel)) ggX2_setMensuration_X2_set
set_option maxRecDepth 20000 in
theorem ggX2_setMensuration_X2_all : GoodIn wsX2_setMensuration wsX2_all := goodIn_r _ [26, 27, 28, 29, 30, 5, 31, 32, 33, 22, 34, 35, 36, 37, 38, 39, 40, 41, 42, 43, 44] (by decide +kernel) (by decide +kernel)
set_option maxRecDepth 20000 in
theorem gX2_setMensuration_X2_all : GoodIn wsX2_setMensuration (wsV RX2 94 RX2 yX2_all wsX2_all) := goodIn_app (goodIn_of _ (by decide +kernel)) ggX2_setMensuration_X2_all
set_option maxRecDepth 20000 in
theorem ggX2_voices_X2_told : GoodIn wsX2_voices wsX2_told := goodIn_r _ [6, 7, 8, 9, 10, 11, 12, 13, 14, 15, 16, 17, 18] (by decide +kernel) (by decide +kernel)
set_option maxRecDepth 20000 in
theorem gX2_voices_X2_told : GoodIn wsX2_voices (wsV RX2 97 RX2 yX2_told wsX2_told) := goodIn_app (goodIn_of _ (by decide +kernel)) ggX2_voices_X2_told
set_option maxRecDepth 20000 in
theorem ggX2_signs_X2_isVoice : GoodIn wsX2_signs wsX2_isVoice := goodIn_r _ [7, 8, 9, 10, 6, 11, 16, 17, 18, 19, 20, 21, 22, 23, 24, 25, 26] (by decide +kernel) (by decide +kernel)
set_option maxRecDepth 20000 in
theorem gX2_signs_X2_isVoice : GoodIn wsX2_signs (wsV RX2 49 RX2 yX2_isVoice wsX2_isVoice) := goodIn_app (goodIn_of _ (by decide +kernel)) ggX2_signs_X2_isVoice
set_option maxRecDepth 20000 in
theorem ggX2_signs_X2_fail : GoodIn wsX2_signs wsX2_fail := goodIn_r _ [15, 1, 16, 17, 18, 19, 20, 21, 22, 23, 24, 25, 26] (by decide +kernel) (by decide +kernel)
set_option maxRecDepth 20000 in
theorem gX2_signs_X2_fail : GoodIn wsX2_signs (wsV RX2 76 RX2 yX2_fail wsX2_fail) := goodIn_app (goodIn_of _ (by decide +kernel)) ggX2_signs_X2_fail
set_option maxRecDepth 20000 in
theorem ggX2_notes_X2_isVoice : GoodIn wsX2_notes wsX2_isVoice := goodIn_r _ [6, 7, 8, 9, 5, 10, 22, 23, 24, 25, 26, 27, 28, 29, 30, 31, 32] (by decide +kernel) (by decide +kernel)
set_option maxRecDepth 20000 in
theorem gX2_notes_X2_isVoice : GoodIn wsX2_notes (wsV RX2 49 RX2 yX2_isVoice wsX2_isVoice) := goodIn_app (goodIn_of _ (by decide +kernel)) ggX2_notes_X2_isVoice
set_option maxRecDepth 20000 in
theorem ggX2_notes_X2_count : GoodIn wsX2_notes wsX2_count := goodIn_r _ [14, 15, 16, 17, 22, 23, 24, 25, 26, 27, 28, 29, 30, 31, 32] (by decide +kernel) (by decide +kernel)
set_option maxRecDepth 20000 in
theorem gX2_notes_X2_count : GoodIn wsX2_notes (wsV RX2 100 RX2 yX2_count wsX2_count) := goodIn_app (goodIn_of _ (by decide +kernel)) ggX2_notes_X2_count
set_option maxRecDepth 20000 in
theorem ggX2_notes_X2_fail : GoodIn wsX2_notes wsX2_fail := goodIn_r _ [21, 1, 22, 23, 24, 25, 26, 27, 28, 29, 30, 31, 32] (by decide +kernel) (by decide +kernel)
set_option maxRecDepth 20000 in
theorem gX2_notes_X2_fail : GoodIn wsX2_notes (wsV RX2 76 RX2 yX2_fail wsX2_fail) := goodIn_app (goodIn_of _ (by decide +kernel)) ggX2_notes_X2_fail
set_option maxRecDepth 20000 in
theorem ggX2_ligatures_X2_isVoice : GoodIn wsX2_ligatures wsX2_isVoice := goodIn_r _ [6, 7, 8, 9, 5, 10, 22, 23, 24, 25, 26, 27, 28, 29, 30, 31, 32] (by decide +kernel) (by decide +kernel)
set_option maxRecDepth 20000 in
theorem gX2_ligatures_X2_isVoice : GoodIn wsX2_ligatures (wsV RX2 49 RX2 yX2_isVoice wsX2_isVoice) := goodIn_app (goodIn_of _ (by decide +kernel)) ggX2_ligatures_X2_isVoice
set_option maxRecDepth 20000 in
theorem ggX2_ligatures_X2_count : GoodIn wsX2_ligatures wsX2_count := goodIn_r _ [14, 15, 16, 17, 22, 23, 24, 25, 26, 27, 28, 29, 30, 31, 32] (by decide +kernel) (by decide +kernel)
set_option maxRecDepth 20000 in
theorem gX2_ligatures_X2_count : GoodIn wsX2_ligatures (wsV RX2 100 RX2 yX2_count wsX2_count) := goodIn_app (goodIn_of _ (by decide +kernel)) ggX2_ligatures_X2_count
set_option maxRecDepth 20000 in
theorem ggX2_ligatures_X2_fail : GoodIn wsX2_ligatures wsX2_fail := goodIn_r _ [21, 1, 22, 23, 24, 25, 26, 27, 28, 29, 30, 31, 32] (by decide +kernel) (by decide +kernel)
set_option maxRecDepth 20000 in
theorem gX2_ligatures_X2_fail : GoodIn wsX2_ligatures (wsV RX2 76 RX2 yX2_fail wsX2_fail) := goodIn_app (goodIn_of _ (by decide +kernel)) ggX2_ligatures_X2_fail
set_option maxRecDepth 20000 in
theorem ggX2_of_X2_isSign : GoodIn wsX2_of wsX2_isSign := goodIn_r _ [6, 7, 8, 9, 10, 5, 11, 12, 13, 14, 15, 20, 21, 22, 23, 24, 25, 26, 27, 28, 29, 30] (by decide +kernel) (by decide +kernel)
set_option maxRecDepth 20000 in
theorem gX2_of_X2_isSign : GoodIn wsX2_of (wsV RX2 90 RX2 yX2_isSign wsX2_isSign) := goodIn_app (goodIn_of _ (by decide +kernel)) ggX2_of_X2_isSign
set_option maxRecDepth 20000 in
theorem ggX2_of_X2_fail : GoodIn wsX2_of wsX2_fail := goodIn_r _ [19, 1, 20, 21, 22, 23, 24, 25, 26, 27, 28, 29, 30] (by decide +kernel) (by decide +kernel)
set_option maxRecDepth 20000 in
theorem gX2_of_X2_fail : GoodIn wsX2_of (wsV RX2 76 RX2 yX2_fail wsX2_fail) := goodIn_app (goodIn_of _ (by decide +kernel)) ggX2_of_X2_fail
set_option maxRecDepth 20000 in
theorem ggX2_kindOf_X2_of : GoodIn wsX2_kindOf wsX2_of := goodIn_r _ [6, 7, 8, 9, 10, 5, 11, 12, 13, 14, 15, 16, 17, 18, 19, 20, 21, 22, 23, 24, 25, 26, 27, 28, 29, 30, 31, 32, 33, 34, 35] (by decide +kernel) (by decide +kernel)
set_option maxRecDepth 20000 in
theorem gX2_kindOf_X2_of : GoodIn wsX2_kindOf (wsV RX2 104 RX2 yX2_of wsX2_of) := goodIn_app (goodIn_of _ (by decide +kernel)) ggX2_kindOf_X2_of
set_option maxRecDepth 20000 in
theorem ggX2_placeOf_X2_of : GoodIn wsX2_placeOf wsX2_of := goodIn_r _ [6, 7, 8, 9, 10, 5, 11, 12, 13, 14, 15, 16, 17, 18, 19, 20, 21, 22, 23, 24, 25, 26, 27, 28, 29, 30, 31, 32, 33, 34, 35] (by decide +kernel) (by decide +kernel)
set_option maxRecDepth 20000 in
theorem gX2_placeOf_X2_of : GoodIn wsX2_placeOf (wsV RX2 104 RX2 yX2_of wsX2_of) := goodIn_app (goodIn_of _ (by decide +kernel)) ggX2_placeOf_X2_of
set_option maxRecDepth 20000 in
theorem ggX2_isColoured_X2_isSign : GoodIn wsX2_isColoured wsX2_isSign := goodIn_r _ [7, 8, 9, 10, 11, 6, 12, 13, 14, 15, 16, 17, 18, 19, 20, 21, 22, 23, 24, 25, 26, 27] (by decide +kernel) (by decide +kernel)
set_option maxRecDepth 20000 in
theorem gX2_isColoured_X2_isSign : GoodIn wsX2_isColoured (wsV RX2 90 RX2 yX2_isSign wsX2_isSign) := goodIn_app (goodIn_of _ (by decide +kernel)) ggX2_isColoured_X2_isSign
set_option maxRecDepth 20000 in
theorem ggX2_placeInLigature_X2_of : GoodIn wsX2_placeInLigature wsX2_of := goodIn_r _ [6, 7, 8, 9, 10, 5, 11, 12, 13, 14, 15, 16, 17, 18, 19, 20, 21, 22, 23, 24, 25, 26, 27, 28, 29, 30, 31, 32, 33, 34, 35] (by decide +kernel) (by decide +kernel)
set_option maxRecDepth 20000 in
theorem gX2_placeInLigature_X2_of : GoodIn wsX2_placeInLigature (wsV RX2 104 RX2 yX2_of wsX2_of) := goodIn_app (goodIn_of _ (by decide +kernel)) ggX2_placeInLigature_X2_of
set_option maxRecDepth 20000 in
theorem ggX2_lengthOf_X2_isSign : GoodIn wsX2_lengthOf wsX2_isSign := goodIn_r _ [6, 7, 8, 9, 10, 5, 11, 12, 13, 14, 15, 27, 28, 29, 30, 31, 32, 33, 34, 35, 36, 37] (by decide +kernel) (by decide +kernel)
set_option maxRecDepth 20000 in
theorem gX2_lengthOf_X2_isSign : GoodIn wsX2_lengthOf (wsV RX2 90 RX2 yX2_isSign wsX2_isSign) := goodIn_app (goodIn_of _ (by decide +kernel)) ggX2_lengthOf_X2_isSign
set_option maxRecDepth 20000 in
theorem ggX2_lengthOf_X2_lasts : GoodIn wsX2_lengthOf wsX2_lasts := goodIn_r _ [19, 20, 21, 22, 27, 28, 29, 30, 31, 32, 33, 34, 35, 36, 37] (by decide +kernel) (by decide +kernel)
set_option maxRecDepth 20000 in
theorem gX2_lengthOf_X2_lasts : GoodIn wsX2_lengthOf (wsV RX2 53 RX2 yX2_lasts wsX2_lasts) := goodIn_app (goodIn_of _ (by decide +kernel)) ggX2_lengthOf_X2_lasts
set_option maxRecDepth 20000 in
theorem ggX2_lengthOf_X2_fail : GoodIn wsX2_lengthOf wsX2_fail := goodIn_r _ [26, 1, 27, 28, 29, 30, 31, 32, 33, 34, 35, 36, 37] (by decide +kernel) (by decide +kernel)
set_option maxRecDepth 20000 in
theorem gX2_lengthOf_X2_fail : GoodIn wsX2_lengthOf (wsV RX2 76 RX2 yX2_fail wsX2_fail) := goodIn_app (goodIn_of _ (by decide +kernel)) ggX2_lengthOf_X2_fail
set_option maxRecDepth 20000 in
theorem ggX2_begins_X2_lasts : GoodIn wsX2_begins wsX2_lasts := goodIn_r _ [5, 6, 7, 8, 9, 10, 11, 12, 13, 14, 15, 16, 17, 18, 19] (by decide +kernel) (by decide +kernel)
set_option maxRecDepth 20000 in
theorem gX2_begins_X2_lasts : GoodIn wsX2_begins (wsV RX2 53 RX2 yX2_lasts wsX2_lasts) := goodIn_app (goodIn_of _ (by decide +kernel)) ggX2_begins_X2_lasts
set_option maxRecDepth 20000 in
theorem ggX2_beginOf_X2_isSign : GoodIn wsX2_beginOf wsX2_isSign := goodIn_r _ [6, 7, 8, 9, 10, 5, 11, 12, 13, 14, 15, 31, 32, 33, 34, 35, 36, 37, 38, 39, 40, 41] (by decide +kernel) (by decide +kernel)
set_option maxRecDepth 20000 in
theorem gX2_beginOf_X2_isSign : GoodIn wsX2_beginOf (wsV RX2 90 RX2 yX2_isSign wsX2_isSign) := goodIn_app (goodIn_of _ (by decide +kernel)) ggX2_beginOf_X2_isSign
set_option maxRecDepth 20000 in
theorem ggX2_beginOf_X2_begins : GoodIn wsX2_beginOf wsX2_begins := goodIn_r _ [19, 20, 21, 22, 5, 23, 24, 25, 26, 31, 32, 33, 34, 35, 36, 37, 38, 39, 40, 41] (by decide +kernel) (by decide +kernel)
set_option maxRecDepth 20000 in
theorem gX2_beginOf_X2_begins : GoodIn wsX2_beginOf (wsV RX2 108 RX2 yX2_begins wsX2_begins) := goodIn_app (goodIn_of _ (by decide +kernel)) ggX2_beginOf_X2_begins
set_option maxRecDepth 20000 in
theorem ggX2_beginOf_X2_fail : GoodIn wsX2_beginOf wsX2_fail := goodIn_r _ [30, 1, 31, 32, 33, 34, 35, 36, 37, 38, 39, 40, 41] (by decide +kernel) (by decide +kernel)
set_option maxRecDepth 20000 in
theorem gX2_beginOf_X2_fail : GoodIn wsX2_beginOf (wsV RX2 76 RX2 yX2_fail wsX2_fail) := goodIn_app (goodIn_of _ (by decide +kernel)) ggX2_beginOf_X2_fail
set_option maxRecDepth 20000 in
theorem ggX2_length_X2_isVoice : GoodIn wsX2_length wsX2_isVoice := goodIn_r _ [6, 7, 8, 9, 5, 10, 27, 28, 29, 30, 31, 32, 33, 34, 35, 36, 37] (by decide +kernel) (by decide +kernel)
set_option maxRecDepth 20000 in
theorem gX2_length_X2_isVoice : GoodIn wsX2_length (wsV RX2 49 RX2 yX2_isVoice wsX2_isVoice) := goodIn_app (goodIn_of _ (by decide +kernel)) ggX2_length_X2_isVoice
set_option maxRecDepth 20000 in
theorem ggX2_length_X2_all : GoodIn wsX2_length wsX2_all := goodIn_r _ [14, 15, 16, 17, 18, 5, 19, 20, 21, 22, 27, 28, 29, 30, 31, 32, 33, 34, 35, 36, 37] (by decide +kernel) (by decide +kernel)
set_option maxRecDepth 20000 in
theorem gX2_length_X2_all : GoodIn wsX2_length (wsV RX2 94 RX2 yX2_all wsX2_all) := goodIn_app (goodIn_of _ (by decide +kernel)) ggX2_length_X2_all
set_option maxRecDepth 20000 in
theorem ggX2_length_X2_fail : GoodIn wsX2_length wsX2_fail := goodIn_r _ [26, 1, 27, 28, 29, 30, 31, 32, 33, 34, 35, 36, 37] (by decide +kernel) (by decide +kernel)
set_option maxRecDepth 20000 in
theorem gX2_length_X2_fail : GoodIn wsX2_length (wsV RX2 76 RX2 yX2_fail wsX2_fail) := goodIn_app (goodIn_of _ (by decide +kernel)) ggX2_length_X2_fail
set_option maxRecDepth 20000 in
theorem ggX2_most_X2_all : GoodIn wsX2_most wsX2_all := goodIn_r _ [10, 11, 12, 13, 14, 9, 15, 16, 17, 18, 19, 20, 21, 22, 23, 24, 25, 26, 27, 28, 29] (by decide +kernel) (by decide +kernel)
set_option maxRecDepth 20000 in
theorem gX2_most_X2_all : GoodIn wsX2_most (wsV RX2 94 RX2 yX2_all wsX2_all) := goodIn_app (goodIn_of _ (by decide +kernel)) ggX2_most_X2_all
set_option maxRecDepth 20000 in
theorem ggX2_longest_X2_most : GoodIn wsX2_longest wsX2_most := goodIn_r _ [5, 6, 7, 8, 9, 10, 11, 12, 13, 4, 14, 15, 16, 17, 18, 19, 20, 21, 22, 28, 29, 30, 31, 32, 33, 34, 35, 36, 37, 38] (by decide +kernel) (by decide +kernel)
set_option maxRecDepth 20000 in
theorem gX2_longest_X2_most : GoodIn wsX2_longest (wsV RX2 111 RX2 yX2_most wsX2_most) := goodIn_app (goodIn_of _ (by decide +kernel)) ggX2_longest_X2_most
set_option maxRecDepth 20000 in
theorem ggX2_longest_X2_told : GoodIn wsX2_longest wsX2_told := goodIn_r _ [26, 27, 28, 29, 30, 31, 32, 33, 34, 35, 36, 37, 38] (by decide +kernel) (by decide +kernel)
set_option maxRecDepth 20000 in
theorem gX2_longest_X2_told : GoodIn wsX2_longest (wsV RX2 97 RX2 yX2_told wsX2_told) := goodIn_app (goodIn_of _ (by decide +kernel)) ggX2_longest_X2_told
set_option maxRecDepth 20000 in
theorem ggX2_signAt_X2_isVoice : GoodIn wsX2_signAt wsX2_isVoice := goodIn_r _ [7, 8, 9, 10, 6, 11, 23, 24, 25, 26, 27, 28, 29, 30, 31, 32, 33] (by decide +kernel) (by decide +kernel)
set_option maxRecDepth 20000 in
theorem gX2_signAt_X2_isVoice : GoodIn wsX2_signAt (wsV RX2 49 RX2 yX2_isVoice wsX2_isVoice) := goodIn_app (goodIn_of _ (by decide +kernel)) ggX2_signAt_X2_isVoice
set_option maxRecDepth 20000 in
theorem ggX2_signAt_X2_fail : GoodIn wsX2_signAt wsX2_fail := goodIn_r _ [15, 1, 23, 24, 25, 26, 27, 28, 29, 30, 31, 32, 33] (by decide +kernel) (by decide +kernel)
set_option maxRecDepth 20000 in
theorem gX2_signAt_X2_fail : GoodIn wsX2_signAt (wsV RX2 76 RX2 yX2_fail wsX2_fail) := goodIn_app (goodIn_of _ (by decide +kernel)) ggX2_signAt_X2_fail
set_option maxRecDepth 20000 in
theorem ggX2_signAt_X2_lasts : GoodIn wsX2_signAt wsX2_lasts := goodIn_r _ [19, 20, 21, 22, 23, 24, 25, 26, 27, 28, 29, 30, 31, 32, 33] (by decide +kernel) (by decide +kernel)
set_option maxRecDepth 20000 in
theorem gX2_signAt_X2_lasts : GoodIn wsX2_signAt (wsV RX2 53 RX2 yX2_lasts wsX2_lasts) := goodIn_app (goodIn_of _ (by decide +kernel)) ggX2_signAt_X2_lasts
set_option maxRecDepth 20000 in
theorem ggX2_clefOf_X2_isVoice : GoodIn wsX2_clefOf wsX2_isVoice := goodIn_r _ [7, 8, 9, 10, 6, 11, 16, 17, 18, 19, 20, 21, 22, 23, 24, 25, 26] (by decide +kernel) (by decide +kernel)
set_option maxRecDepth 20000 in
theorem gX2_clefOf_X2_isVoice : GoodIn wsX2_clefOf (wsV RX2 49 RX2 yX2_isVoice wsX2_isVoice) := goodIn_app (goodIn_of _ (by decide +kernel)) ggX2_clefOf_X2_isVoice
set_option maxRecDepth 20000 in
theorem ggX2_clefOf_X2_fail : GoodIn wsX2_clefOf wsX2_fail := goodIn_r _ [15, 1, 16, 17, 18, 19, 20, 21, 22, 23, 24, 25, 26] (by decide +kernel) (by decide +kernel)
set_option maxRecDepth 20000 in
theorem gX2_clefOf_X2_fail : GoodIn wsX2_clefOf (wsV RX2 76 RX2 yX2_fail wsX2_fail) := goodIn_app (goodIn_of _ (by decide +kernel)) ggX2_clefOf_X2_fail
set_option maxRecDepth 20000 in
theorem ggX2_pitchOf_X2_isSign : GoodIn wsX2_pitchOf wsX2_isSign := goodIn_r _ [8, 9, 10, 11, 12, 7, 13, 14, 15, 16, 17, 22, 23, 24, 25, 26, 27, 28, 29, 30, 31, 32] (by decide +kernel) (by decide +kernel)
set_option maxRecDepth 20000 in
theorem gX2_pitchOf_X2_isSign : GoodIn wsX2_pitchOf (wsV RX2 90 RX2 yX2_isSign wsX2_isSign) := goodIn_app (goodIn_of _ (by decide +kernel)) ggX2_pitchOf_X2_isSign
set_option maxRecDepth 20000 in
theorem ggX2_pitchOf_X2_fail : GoodIn wsX2_pitchOf wsX2_fail := goodIn_r _ [21, 1, 22, 23, 24, 25, 26, 27, 28, 29, 30, 31, 32] (by decide +kernel) (by decide +kernel)
set_option maxRecDepth 20000 in
theorem gX2_pitchOf_X2_fail : GoodIn wsX2_pitchOf (wsV RX2 76 RX2 yX2_fail wsX2_fail) := goodIn_app (goodIn_of _ (by decide +kernel)) ggX2_pitchOf_X2_fail
set_option maxRecDepth 20000 in
theorem ggX2_fit_X2_isIn : GoodIn wsX2_fit wsX2_isIn := goodIn_r _ [6] (by decide +kernel) (by decide +kernel)
set_option maxRecDepth 20000 in
theorem gX2_fit_X2_isIn : GoodIn wsX2_fit (va_wsS RX2 45 yX2_isIn wsX2_isIn) := goodIn_app (goodIn_of _ (by decide +kernel)) ggX2_fit_X2_isIn
set_option maxRecDepth 20000 in
theorem ggX2_fits_X2_isVoice : GoodIn wsX2_fits wsX2_isVoice := goodIn_r _ [6, 7, 8, 9, 5, 10, 17, 18, 19, 20, 21, 22, 23, 24, 25, 26, 27] (by decide +kernel) (by decide +kernel)
set_option maxRecDepth 20000 in
theorem gX2_fits_X2_isVoice : GoodIn wsX2_fits (wsV RX2 49 RX2 yX2_isVoice wsX2_isVoice) := goodIn_app (goodIn_of _ (by decide +kernel)) ggX2_fits_X2_isVoice
set_option maxRecDepth 20000 in
theorem ggX2_fits_X2_isIn : GoodIn wsX2_fits wsX2_isIn := goodIn_r _ [10] (by decide +kernel) (by decide +kernel)
set_option maxRecDepth 20000 in
theorem gX2_fits_X2_isIn : GoodIn wsX2_fits (va_wsS RX2 45 yX2_isIn wsX2_isIn) := goodIn_app (goodIn_of _ (by decide +kernel)) ggX2_fits_X2_isIn
set_option maxRecDepth 20000 in
theorem ggX2_fits_X2_fit : GoodIn wsX2_fits wsX2_fit := goodIn_r _ [14, 15, 16, 8, 9, 5, 10, 17, 18, 19, 20, 21, 22, 23, 24, 25, 26, 27] (by decide +kernel) (by decide +kernel)
set_option maxRecDepth 20000 in
theorem gX2_fits_X2_fit : GoodIn wsX2_fits (wsV RX2 115 RX2 yX2_fit wsX2_fit) := goodIn_app (goodIn_of _ (by decide +kernel)) ggX2_fits_X2_fit
set_option maxRecDepth 20000 in
theorem ggX2_fitting_X2_fit : GoodIn wsX2_fitting wsX2_fit := goodIn_r _ [5, 6, 7, 8, 9, 4, 10, 11, 12, 13, 14, 15, 16, 17, 18, 19, 20, 21] (by decide +kernel) (by decide +kernel)
set_option maxRecDepth 20000 in
theorem gX2_fitting_X2_fit : GoodIn wsX2_fitting (wsV RX2 115 RX2 yX2_fit wsX2_fit) := goodIn_app (goodIn_of _ (by decide +kernel)) ggX2_fitting_X2_fit
set_option maxRecDepth 20000 in
theorem ggX2_clefsThatFit_X2_isVoice : GoodIn wsX2_clefsThatFit wsX2_isVoice := goodIn_r _ [6, 7, 8, 9, 5, 10, 25, 26, 27, 28, 29, 30, 31, 32, 33, 34, 35] (by decide +kernel) (by decide +kernel)
set_option maxRecDepth 20000 in
theorem gX2_clefsThatFit_X2_isVoice : GoodIn wsX2_clefsThatFit (wsV RX2 49 RX2 yX2_isVoice wsX2_isVoice) := goodIn_app (goodIn_of _ (by decide +kernel)) ggX2_clefsThatFit_X2_isVoice
set_option maxRecDepth 20000 in
theorem ggX2_clefsThatFit_X2_fitting : GoodIn wsX2_clefsThatFit wsX2_fitting := goodIn_r _ [14, 15, 16, 17, 5, 18, 19, 20, 8, 9, 10, 25, 26, 27, 28, 29, 30, 31, 32, 33, 34, 35] (by decide +kernel) (by decide +kernel)
set_option maxRecDepth 20000 in
theorem gX2_clefsThatFit_X2_fitting : GoodIn wsX2_clefsThatFit (wsV RX2 118 RX2 yX2_fitting wsX2_fitting) := goodIn_app (goodIn_of _ (by decide +kernel)) ggX2_clefsThatFit_X2_fitting
set_option maxRecDepth 20000 in
theorem ggX2_clefsThatFit_X2_fail : GoodIn wsX2_clefsThatFit wsX2_fail := goodIn_r _ [24, 1, 25, 26, 27, 28, 29, 30, 31, 32, 33, 34, 35] (by decide +kernel) (by decide +kernel)
set_option maxRecDepth 20000 in
theorem gX2_clefsThatFit_X2_fail : GoodIn wsX2_clefsThatFit (wsV RX2 76 RX2 yX2_fail wsX2_fail) := goodIn_app (goodIn_of _ (by decide +kernel)) ggX2_clefsThatFit_X2_fail
set_option maxRecDepth 20000 in
theorem ggX2_both_X2_isVoice : GoodIn wsX2_both wsX2_isVoice := goodIn_r _ [7, 8, 9, 10, 6, 11, 45, 46, 47, 48, 49, 50, 51, 52, 53, 54, 55] (by decide +kernel) (by decide +kernel)
set_option maxRecDepth 20000 in
theorem gX2_both_X2_isVoice : GoodIn wsX2_both (wsV RX2 49 RX2 yX2_isVoice wsX2_isVoice) := goodIn_app (goodIn_of _ (by decide +kernel)) ggX2_both_X2_isVoice
set_option maxRecDepth 20000 in
theorem ggX2_both_X2_fail : GoodIn wsX2_both wsX2_fail := goodIn_r _ [15, 1, 45, 46, 47, 48, 49, 50, 51, 52, 53, 54, 55] (by decide +kernel) (by decide +kernel)
set_option maxRecDepth 20000 in
theorem gX2_both_X2_fail : GoodIn wsX2_both (wsV RX2 76 RX2 yX2_fail wsX2_fail) := goodIn_app (goodIn_of _ (by decide +kernel)) ggX2_both_X2_fail
set_option maxRecDepth 20000 in
theorem ggX2_both_X2_clash : GoodIn wsX2_both wsX2_clash := goodIn_r _ [19, 20, 21, 22, 23, 24, 25, 26, 27, 28, 6, 29, 30, 31, 32, 33, 34, 35, 36, 37, 38, 39, 40, 41, 42, 43, 44, 45, 46, 47, 48, 49, 50, 51, 52, 53, 54, 55] (by decide +kernel) (by decide +kernel)
set_option maxRecDepth 20000 in
theorem gX2_both_X2_clash : GoodIn wsX2_both (wsV RX2 121 RX2 yX2_clash wsX2_clash) := goodIn_app (goodIn_of _ (by decide +kernel)) ggX2_both_X2_clash
set_option maxRecDepth 20000 in
theorem ggX2_clashes_X2_both : GoodIn wsX2_clashes wsX2_both := goodIn_r _ [5, 6, 7, 8, 9, 10, 4, 11, 12, 13, 14, 15, 16, 17, 18, 19, 20, 21, 22, 23, 24, 25, 26, 27, 28, 29, 30, 31, 32, 33, 34, 35, 36, 37, 38, 39, 40, 41, 42, 43, 44, 45, 46, 47, 48, 49, 50, 51, 52, 53, 54, 55, 56, 57, 58, 59] (by decide +kernel) (by decide +kernel)
set_option maxRecDepth 20000 in
theorem gX2_clashes_X2_both : GoodIn wsX2_clashes (wsV RX2 125 RX2 yX2_both wsX2_both) := goodIn_app (goodIn_of _ (by decide +kernel)) ggX2_clashes_X2_both
set_option maxRecDepth 20000 in
theorem ggX2_firstClash_X2_both : GoodIn wsX2_firstClash wsX2_both := goodIn_r _ [5, 6, 7, 8, 9, 10, 4, 11, 12, 13, 14, 15, 16, 17, 18, 19, 20, 21, 22, 23, 24, 25, 26, 27, 28, 29, 30, 31, 32, 33, 34, 35, 36, 37, 38, 39, 40, 41, 42, 43, 44, 45, 46, 47, 48, 49, 50, 51, 52, 53, 54, 55, 56, 57, 58, 59] (by decide +kernel) (by decide +kernel)
set_option maxRecDepth 20000 in
theorem gX2_firstClash_X2_both : GoodIn wsX2_firstClash (wsV RX2 125 RX2 yX2_both wsX2_both) := goodIn_app (goodIn_of _ (by decide +kernel)) ggX2_firstClash_X2_both
set_option maxRecDepth 20000 in
theorem ggX2_withAll_X2_clash : GoodIn wsX2_withAll wsX2_clash := goodIn_r _ [7, 8, 9, 10, 11, 12, 13, 14, 15, 16, 6, 17, 18, 19, 20, 21, 22, 23, 24, 25, 26, 27, 28, 29, 30, 31, 32, 33, 34, 35, 36, 37, 38, 39, 40, 41, 42, 43] (by decide +kernel) (by decide +kernel)
set_option maxRecDepth 20000 in
theorem gX2_withAll_X2_clash : GoodIn wsX2_withAll (wsV RX2 121 RX2 yX2_clash wsX2_clash) := goodIn_app (goodIn_of _ (by decide +kernel)) ggX2_withAll_X2_clash
set_option maxRecDepth 20000 in
theorem ggX2_clashesWith_X2_isVoice : GoodIn wsX2_clashesWith wsX2_isVoice := goodIn_r _ [6, 7, 8, 9, 5, 10, 49, 50, 51, 52, 53, 54, 55, 56, 57, 58, 59] (by decide +kernel) (by decide +kernel)
set_option maxRecDepth 20000 in
theorem gX2_clashesWith_X2_isVoice : GoodIn wsX2_clashesWith (wsV RX2 49 RX2 yX2_isVoice wsX2_isVoice) := goodIn_app (goodIn_of _ (by decide +kernel)) ggX2_clashesWith_X2_isVoice
set_option maxRecDepth 20000 in
theorem ggX2_clashesWith_X2_fail : GoodIn wsX2_clashesWith wsX2_fail := goodIn_r _ [14, 1, 49, 50, 51, 52, 53, 54, 55, 56, 57, 58, 59] (by decide +kernel) (by decide +kernel)
set_option maxRecDepth 20000 in
theorem gX2_clashesWith_X2_fail : GoodIn wsX2_clashesWith (wsV RX2 76 RX2 yX2_fail wsX2_fail) := goodIn_app (goodIn_of _ (by decide +kernel)) ggX2_clashesWith_X2_fail
set_option maxRecDepth 20000 in
theorem ggX2_clashesWith_X2_isIn : GoodIn wsX2_clashesWith wsX2_isIn := goodIn_r _ [10] (by decide +kernel) (by decide +kernel)
set_option maxRecDepth 20000 in
theorem gX2_clashesWith_X2_isIn : GoodIn wsX2_clashesWith (va_wsS RX2 45 yX2_isIn wsX2_isIn) := goodIn_app (goodIn_of _ (by decide +kernel)) ggX2_clashesWith_X2_isIn
set_option maxRecDepth 20000 in
theorem ggX2_clashesWith_X2_withAll : GoodIn wsX2_clashesWith wsX2_withAll := goodIn_r _ [18, 7, 19, 20, 21, 22, 5, 23, 24, 25, 26, 27, 28, 29, 30, 31, 32, 33, 34, 35, 36, 37, 38, 39, 40, 41, 42, 43, 44, 45, 46, 47, 48, 49, 50, 51, 52, 53, 54, 55, 56, 57, 58, 59] (by decide +kernel) (by decide +kernel)
set_option maxRecDepth 20000 in
theorem gX2_clashesWith_X2_withAll : GoodIn wsX2_clashesWith (wsV RX2 129 RX2 yX2_withAll wsX2_withAll) := goodIn_app (goodIn_of _ (by decide +kernel)) ggX2_clashesWith_X2_withAll
set_option maxRecDepth 20000 in
theorem ggX2_best_X2_fit : GoodIn wsX2_best wsX2_fit := goodIn_r _ [5, 6, 7, 8, 9, 4, 10, 44, 45, 46, 47, 48, 49, 50, 51, 52, 53, 54] (by decide +kernel) (by decide +kernel)
set_option maxRecDepth 20000 in
theorem gX2_best_X2_fit : GoodIn wsX2_best (wsV RX2 115 RX2 yX2_fit wsX2_fit) := goodIn_app (goodIn_of _ (by decide +kernel)) ggX2_best_X2_fit
set_option maxRecDepth 20000 in
theorem ggX2_best_X2_withAll : GoodIn wsX2_best wsX2_withAll := goodIn_r _ [14, 15, 16, 17, 18, 19, 4, 20, 21, 22, 23, 24, 25, 26, 27, 28, 29, 30, 6, 7, 31, 32, 33, 34, 35, 36, 37, 38, 39, 40, 41, 42, 43, 44, 45, 46, 47, 48, 49, 50, 51, 52, 53, 54] (by decide +kernel) (by decide +kernel)
set_option maxRecDepth 20000 in
theorem gX2_best_X2_withAll : GoodIn wsX2_best (wsV RX2 129 RX2 yX2_withAll wsX2_withAll) := goodIn_app (goodIn_of _ (by decide +kernel)) ggX2_best_X2_withAll
set_option maxRecDepth 20000 in
theorem ggX2_bestClef_X2_isVoice : GoodIn wsX2_bestClef wsX2_isVoice := goodIn_r _ [6, 7, 8, 9, 5, 10, 57, 58, 59, 60, 61, 62, 63, 64, 65, 66, 67] (by decide +kernel) (by decide +kernel)
set_option maxRecDepth 20000 in
theorem gX2_bestClef_X2_isVoice : GoodIn wsX2_bestClef (wsV RX2 49 RX2 yX2_isVoice wsX2_isVoice) := goodIn_app (goodIn_of _ (by decide +kernel)) ggX2_bestClef_X2_isVoice
set_option maxRecDepth 20000 in
theorem ggX2_bestClef_X2_best : GoodIn wsX2_bestClef wsX2_best := goodIn_r _ [14, 15, 16, 17, 5, 18, 19, 20, 8, 9, 10, 21, 22, 23, 24, 7, 25, 26, 27, 28, 29, 30, 31, 32, 33, 34, 35, 36, 37, 38, 39, 40, 41, 42, 43, 44, 45, 46, 47, 48, 49, 50, 51, 52, 57, 58, 59, 60, 61, 62, 63, 64, 65, 66, 67] (by decide +kernel) (by decide +kernel)
set_option maxRecDepth 20000 in
theorem gX2_bestClef_X2_best : GoodIn wsX2_bestClef (wsV RX2 132 RX2 yX2_best wsX2_best) := goodIn_app (goodIn_of _ (by decide +kernel)) ggX2_bestClef_X2_best
set_option maxRecDepth 20000 in
theorem ggX2_bestClef_X2_fail : GoodIn wsX2_bestClef wsX2_fail := goodIn_r _ [56, 1, 57, 58, 59, 60, 61, 62, 63, 64, 65, 66, 67] (by decide +kernel) (by decide +kernel)
set_option maxRecDepth 20000 in
theorem gX2_bestClef_X2_fail : GoodIn wsX2_bestClef (wsV RX2 76 RX2 yX2_fail wsX2_fail) := goodIn_app (goodIn_of _ (by decide +kernel)) ggX2_bestClef_X2_fail
set_option maxRecDepth 20000 in
theorem ggX2_canon_X2_isClash : GoodIn wsX2_canon wsX2_isClash := goodIn_r _ [5, 6, 7, 8, 9] (by decide +kernel) (by decide +kernel)
set_option maxRecDepth 20000 in
theorem gX2_canon_X2_isClash : GoodIn wsX2_canon (va_wsS RX2 70 yX2_isClash wsX2_isClash) := goodIn_app (goodIn_of _ (by decide +kernel)) ggX2_canon_X2_isClash
set_option maxRecDepth 20000 in
theorem ggX2_canonClashes_X2_isVoice : GoodIn wsX2_canonClashes wsX2_isVoice := goodIn_r _ [7, 8, 9, 10, 6, 11, 40, 41, 42, 43, 44, 45, 46, 47, 48, 49, 50] (by decide +kernel) (by decide +kernel)
set_option maxRecDepth 20000 in
theorem gX2_canonClashes_X2_isVoice : GoodIn wsX2_canonClashes (wsV RX2 49 RX2 yX2_isVoice wsX2_isVoice) := goodIn_app (goodIn_of _ (by decide +kernel)) ggX2_canonClashes_X2_isVoice
set_option maxRecDepth 20000 in
theorem ggX2_canonClashes_X2_fail : GoodIn wsX2_canonClashes wsX2_fail := goodIn_r _ [15, 1, 40, 41, 42, 43, 44, 45, 46, 47, 48, 49, 50] (by decide +kernel) (by decide +kernel)
set_option maxRecDepth 20000 in
theorem gX2_canonClashes_X2_fail : GoodIn wsX2_canonClashes (wsV RX2 76 RX2 yX2_fail wsX2_fail) := goodIn_app (goodIn_of _ (by decide +kernel)) ggX2_canonClashes_X2_fail
set_option maxRecDepth 20000 in
theorem ggX2_canonClashes_X2_isIn : GoodIn wsX2_canonClashes wsX2_isIn := goodIn_r _ [11] (by decide +kernel) (by decide +kernel)
set_option maxRecDepth 20000 in
theorem gX2_canonClashes_X2_isIn : GoodIn wsX2_canonClashes (va_wsS RX2 45 yX2_isIn wsX2_isIn) := goodIn_app (goodIn_of _ (by decide +kernel)) ggX2_canonClashes_X2_isIn
set_option maxRecDepth 20000 in
theorem ggX2_canonClashes_X2_lay : GoodIn wsX2_canonClashes wsX2_lay := goodIn_r _ [19, 20, 21, 22, 23, 24, 6, 25, 26, 27, 28, 40, 41, 42, 43, 44, 45, 46, 47, 48, 49, 50] (by decide +kernel) (by decide +kernel)
set_option maxRecDepth 20000 in
theorem gX2_canonClashes_X2_lay : GoodIn wsX2_canonClashes (wsV RX2 63 RX2 yX2_lay wsX2_lay) := goodIn_app (goodIn_of _ (by decide +kernel)) ggX2_canonClashes_X2_lay
set_option maxRecDepth 20000 in
theorem ggX2_canonClashes_X2_canon : GoodIn wsX2_canonClashes wsX2_canon := goodIn_r _ [32, 2, 33, 34, 6, 35, 36, 37, 38, 39, 40, 41, 42, 43, 44, 45, 46, 47, 48, 49, 50] (by decide +kernel) (by decide +kernel)
set_option maxRecDepth 20000 in
theorem gX2_canonClashes_X2_canon : GoodIn wsX2_canonClashes (wsV RX2 135 RX2 yX2_canon wsX2_canon) := goodIn_app (goodIn_of _ (by decide +kernel)) ggX2_canonClashes_X2_canon
set_option maxRecDepth 20000 in
theorem ggX2_delay_X2_lay : GoodIn wsX2_delay wsX2_lay := goodIn_r _ [6, 7, 8, 9, 10, 11, 5, 12, 13, 14, 15, 27, 28, 29, 30, 31, 32, 33, 34, 35, 36, 37] (by decide +kernel) (by decide +kernel)
set_option maxRecDepth 20000 in
theorem gX2_delay_X2_lay : GoodIn wsX2_delay (wsV RX2 63 RX2 yX2_lay wsX2_lay) := goodIn_app (goodIn_of _ (by decide +kernel)) ggX2_delay_X2_lay
set_option maxRecDepth 20000 in
theorem ggX2_delay_X2_canon : GoodIn wsX2_delay wsX2_canon := goodIn_r _ [19, 1, 20, 21, 5, 22, 23, 24, 25, 26, 27, 28, 29, 30, 31, 32, 33, 34, 35, 36, 37] (by decide +kernel) (by decide +kernel)
set_option maxRecDepth 20000 in
theorem gX2_delay_X2_canon : GoodIn wsX2_delay (wsV RX2 135 RX2 yX2_canon wsX2_canon) := goodIn_app (goodIn_of _ (by decide +kernel)) ggX2_delay_X2_canon
set_option maxRecDepth 20000 in
theorem ggX2_bestDelay_X2_isVoice : GoodIn wsX2_bestDelay wsX2_isVoice := goodIn_r _ [6, 7, 8, 9, 5, 10, 44, 45, 46, 47, 48, 49, 50, 51, 52, 53, 54] (by decide +kernel) (by decide +kernel)
set_option maxRecDepth 20000 in
theorem gX2_bestDelay_X2_isVoice : GoodIn wsX2_bestDelay (wsV RX2 49 RX2 yX2_isVoice wsX2_isVoice) := goodIn_app (goodIn_of _ (by decide +kernel)) ggX2_bestDelay_X2_isVoice
set_option maxRecDepth 20000 in
theorem ggX2_bestDelay_X2_fail : GoodIn wsX2_bestDelay wsX2_fail := goodIn_r _ [14, 1, 44, 45, 46, 47, 48, 49, 50, 51, 52, 53, 54] (by decide +kernel) (by decide +kernel)
set_option maxRecDepth 20000 in
theorem gX2_bestDelay_X2_fail : GoodIn wsX2_bestDelay (wsV RX2 76 RX2 yX2_fail wsX2_fail) := goodIn_app (goodIn_of _ (by decide +kernel)) ggX2_bestDelay_X2_fail
set_option maxRecDepth 20000 in
theorem ggX2_bestDelay_X2_isIn : GoodIn wsX2_bestDelay wsX2_isIn := goodIn_r _ [10] (by decide +kernel) (by decide +kernel)
set_option maxRecDepth 20000 in
theorem gX2_bestDelay_X2_isIn : GoodIn wsX2_bestDelay (va_wsS RX2 45 yX2_isIn wsX2_isIn) := goodIn_app (goodIn_of _ (by decide +kernel)) ggX2_bestDelay_X2_isIn
set_option maxRecDepth 20000 in
theorem ggX2_bestDelay_X2_delay : GoodIn wsX2_bestDelay wsX2_delay := goodIn_r _ [18, 19, 20, 21, 22, 5, 23, 24, 25, 26, 27, 28, 29, 30, 31, 32, 33, 34, 35, 36, 37, 38, 39, 40, 41, 42, 43, 44, 45, 46, 47, 48, 49, 50, 51, 52, 53, 54] (by decide +kernel) (by decide +kernel)
set_option maxRecDepth 20000 in
theorem gX2_bestDelay_X2_delay : GoodIn wsX2_bestDelay (wsV RX2 139 RX2 yX2_delay wsX2_delay) := goodIn_app (goodIn_of _ (by decide +kernel)) ggX2_bestDelay_X2_delay
set_option maxRecDepth 20000 in
theorem ggX2_meanLength_X2_all : GoodIn wsX2_meanLength wsX2_all := goodIn_r _ [7, 8, 9, 10, 11, 6, 12, 13, 14, 15, 16, 17, 18, 19, 20, 21, 22, 23, 24, 25, 26] (by decide +kernel) (by decide +kernel)
set_option maxRecDepth 20000 in
theorem gX2_meanLength_X2_all : GoodIn wsX2_meanLength (wsV RX2 94 RX2 yX2_all wsX2_all) := goodIn_app (goodIn_of _ (by decide +kernel)) ggX2_meanLength_X2_all
set_option maxRecDepth 20000 in
theorem ggX2_digest_X2_most : GoodIn wsX2_digest wsX2_most := goodIn_r _ [16, 4, 17, 18, 19, 20, 21, 22, 23, 15, 24, 6, 25, 26, 27, 28, 9, 29, 30, 84, 85, 86, 87, 88, 89, 90, 91, 92, 93, 94] (by decide +kernel) (by decide +kernel)
set_option maxRecDepth 20000 in
theorem gX2_digest_X2_most : GoodIn wsX2_digest (wsV RX2 111 RX2 yX2_most wsX2_most) := goodIn_app (goodIn_of _ (by decide +kernel)) ggX2_digest_X2_most
set_option maxRecDepth 20000 in
theorem ggX2_digest_X2_count : GoodIn wsX2_digest wsX2_count := goodIn_r _ [34, 6, 10, 11, 84, 85, 86, 87, 88, 89, 90, 91, 92, 93, 94] (by decide +kernel) (by decide +kernel)
set_option maxRecDepth 20000 in
theorem gX2_digest_X2_count : GoodIn wsX2_digest (wsV RX2 100 RX2 yX2_count wsX2_count) := goodIn_app (goodIn_of _ (by decide +kernel)) ggX2_digest_X2_count
set_option maxRecDepth 20000 in
theorem ggX2_digest_X2_all : GoodIn wsX2_digest wsX2_all := goodIn_r _ [24, 6, 25, 26, 27, 15, 28, 9, 29, 30, 84, 85, 86, 87, 88, 89, 90, 91, 92, 93, 94] (by decide +kernel) (by decide +kernel)
set_option maxRecDepth 20000 in
theorem gX2_digest_X2_all : GoodIn wsX2_digest (wsV RX2 94 RX2 yX2_all wsX2_all) := goodIn_app (goodIn_of _ (by decide +kernel)) ggX2_digest_X2_all
set_option maxRecDepth 20000 in
theorem ggX2_digest_X2_fitting : GoodIn wsX2_digest wsX2_fitting := goodIn_r _ [38, 39, 40, 41, 15, 42, 6, 10, 43, 44, 45, 84, 85, 86, 87, 88, 89, 90, 91, 92, 93, 94] (by decide +kernel) (by decide +kernel)
set_option maxRecDepth 20000 in
theorem gX2_digest_X2_fitting : GoodIn wsX2_digest (wsV RX2 118 RX2 yX2_fitting wsX2_fitting) := goodIn_app (goodIn_of _ (by decide +kernel)) ggX2_digest_X2_fitting
set_option maxRecDepth 20000 in
theorem ggX2_digest_X2_best : GoodIn wsX2_digest wsX2_best := goodIn_r _ [49, 39, 40, 41, 15, 42, 6, 10, 43, 44, 45, 50, 51, 52, 53, 4, 7, 54, 55, 56, 57, 8, 58, 59, 60, 19, 61, 62, 63, 64, 65, 25, 26, 27, 28, 9, 29, 30, 66, 67, 68, 69, 70, 71, 84, 85, 86, 87, 88, 89, 90, 91, 92, 93, 94] (by decide +kernel) (by decide +kernel)
set_option maxRecDepth 20000 in
theorem gX2_digest_X2_best : GoodIn wsX2_digest (wsV RX2 132 RX2 yX2_best wsX2_best) := goodIn_app (goodIn_of _ (by decide +kernel)) ggX2_digest_X2_best
set_option maxRecDepth 20000 in
theorem ggX2_digest_X2_lay : GoodIn wsX2_digest wsX2_lay := goodIn_r _ [65, 6, 10, 25, 26, 27, 15, 28, 9, 29, 30, 84, 85, 86, 87, 88, 89, 90, 91, 92, 93, 94] (by decide +kernel) (by decide +kernel)
set_option maxRecDepth 20000 in
theorem gX2_digest_X2_lay : GoodIn wsX2_digest (wsV RX2 63 RX2 yX2_lay wsX2_lay) := goodIn_app (goodIn_of _ (by decide +kernel)) ggX2_digest_X2_lay
set_option maxRecDepth 20000 in
theorem ggX2_digest_X2_canon : GoodIn wsX2_digest wsX2_canon := goodIn_r _ [75, 8, 66, 67, 15, 68, 69, 70, 19, 71, 84, 85, 86, 87, 88, 89, 90, 91, 92, 93, 94] (by decide +kernel) (by decide +kernel)
set_option maxRecDepth 20000 in
theorem gX2_digest_X2_canon : GoodIn wsX2_digest (wsV RX2 135 RX2 yX2_canon wsX2_canon) := goodIn_app (goodIn_of _ (by decide +kernel)) ggX2_digest_X2_canon
set_option maxRecDepth 20000 in
theorem ggX2_digest_X2_delay : GoodIn wsX2_digest wsX2_delay := goodIn_r _ [79, 8, 62, 63, 64, 15, 65, 6, 10, 25, 26, 27, 28, 9, 29, 30, 72, 73, 74, 75, 66, 67, 68, 69, 70, 19, 71, 84, 85, 86, 87, 88, 89, 90, 91, 92, 93, 94] (by decide +kernel) (by decide +kernel)
set_option maxRecDepth 20000 in
theorem gX2_digest_X2_delay : GoodIn wsX2_digest (wsV RX2 139 RX2 yX2_delay wsX2_delay) := goodIn_app (goodIn_of _ (by decide +kernel)) ggX2_digest_X2_delay
set_option maxRecDepth 20000 in
theorem ggX2_digest_X2_lasts : GoodIn wsX2_digest wsX2_lasts := goodIn_r _ [28, 9, 29, 30, 84, 85, 86, 87, 88, 89, 90, 91, 92, 93, 94] (by decide +kernel) (by decide +kernel)
set_option maxRecDepth 20000 in
theorem gX2_digest_X2_lasts : GoodIn wsX2_digest (wsV RX2 53 RX2 yX2_lasts wsX2_lasts) := goodIn_app (goodIn_of _ (by decide +kernel)) ggX2_digest_X2_lasts
set_option maxRecDepth 20000 in
theorem ggX2_digest_X2_begins : GoodIn wsX2_digest wsX2_begins := goodIn_r _ [83, 25, 26, 27, 15, 28, 9, 29, 30, 84, 85, 86, 87, 88, 89, 90, 91, 92, 93, 94] (by decide +kernel) (by decide +kernel)
set_option maxRecDepth 20000 in
theorem gX2_digest_X2_begins : GoodIn wsX2_digest (wsV RX2 108 RX2 yX2_begins wsX2_begins) := goodIn_app (goodIn_of _ (by decide +kernel)) ggX2_digest_X2_begins
theorem dJ9_abs_0f7a4_0 : decode cJ9_abs_0f7a4 0 = .ok (.iload_n 0, 1) := by decide +kernel
theorem dJ9_abs_0f7a4_1 : decode cJ9_abs_0f7a4 1 = .ok (.ifCond .ge 8, 3) := by decide +kernel
theorem dJ9_abs_0f7a4_4 : decode cJ9_abs_0f7a4 4 = .ok (.iload_n 0, 1) := by decide +kernel
theorem dJ9_abs_0f7a4_5 : decode cJ9_abs_0f7a4 5 = .ok (.ineg, 1) := by decide +kernel
theorem dJ9_abs_0f7a4_6 : decode cJ9_abs_0f7a4 6 = .ok (.goto 4, 3) := by decide +kernel
theorem dJ9_abs_0f7a4_9 : decode cJ9_abs_0f7a4 9 = .ok (.iload_n 0, 1) := by decide +kernel
theorem dJ9_abs_0f7a4_10 : decode cJ9_abs_0f7a4 10 = .ok (.ireturn, 1) := by decide +kernel
theorem dJ9_max_7cf53_0 : decode cJ9_max_7cf53 0 = .ok (.iload_n 0, 1) := by decide +kernel
theorem dJ9_max_7cf53_1 : decode cJ9_max_7cf53 1 = .ok (.iload_n 1, 1) := by decide +kernel
theorem dJ9_max_7cf53_2 : decode cJ9_max_7cf53 2 = .ok (.if_icmp .lt 7, 3) := by decide +kernel
theorem dJ9_max_7cf53_5 : decode cJ9_max_7cf53 5 = .ok (.iload_n 0, 1) := by decide +kernel
theorem dJ9_max_7cf53_6 : decode cJ9_max_7cf53 6 = .ok (.goto 4, 3) := by decide +kernel
theorem dJ9_max_7cf53_9 : decode cJ9_max_7cf53 9 = .ok (.iload_n 1, 1) := by decide +kernel
theorem dJ9_max_7cf53_10 : decode cJ9_max_7cf53 10 = .ok (.ireturn, 1) := by decide +kernel
theorem dJ9_min_7cf53_0 : decode cJ9_min_7cf53 0 = .ok (.iload_n 0, 1) := by decide +kernel
theorem dJ9_min_7cf53_1 : decode cJ9_min_7cf53 1 = .ok (.iload_n 1, 1) := by decide +kernel
theorem dJ9_min_7cf53_2 : decode cJ9_min_7cf53 2 = .ok (.if_icmp .gt 7, 3) := by decide +kernel
theorem dJ9_min_7cf53_5 : decode cJ9_min_7cf53 5 = .ok (.iload_n 0, 1) := by decide +kernel
theorem dJ9_min_7cf53_6 : decode cJ9_min_7cf53 6 = .ok (.goto 4, 3) := by decide +kernel
theorem dJ9_min_7cf53_9 : decode cJ9_min_7cf53 9 = .ok (.iload_n 1, 1) := by decide +kernel
theorem dJ9_min_7cf53_10 : decode cJ9_min_7cf53 10 = .ok (.ireturn, 1) := by decide +kernel
abbrev vwCl : List vw_C := [(RX0, TX0, 10), (RX1, TX1, 2), (RX2, TX2, 11)]
end
section
theorem dX0_init_0 : decode cX0_init 0 = .ok (.aload_n 0, 1) := by decide +kernel
theorem dX0_init_1 : decode cX0_init 1 = .ok (.invokespecial 3, 3) := by decide +kernel
theorem dX0_init_4 : decode cX0_init 4 = .ok (.aload_n 0, 1) := by decide +kernel
theorem dX0_init_5 : decode cX0_init 5 = .ok (.iconst (-1), 1) := by decide +kernel
theorem dX0_init_6 : decode cX0_init 6 = .ok (.putfield 9, 3) := by decide +kernel
theorem dX0_init_9 : decode cX0_init 9 = .ok (.aload_n 0, 1) := by decide +kernel
theorem dX0_init_10 : decode cX0_init 10 = .ok (.bipush 24, 2) := by decide +kernel
theorem dX0_init_12 : decode cX0_init 12 = .ok (.newarray .int, 2) := by decide +kernel
theorem dX0_init_14 : decode cX0_init 14 = .ok (.putfield 15, 3) := by decide +kernel
theorem dX0_init_17 : decode cX0_init 17 = .ok (.aload_n 0, 1) := by decide +kernel
theorem dX0_init_18 : decode cX0_init 18 = .ok (.bipush 24, 2) := by decide +kernel
theorem dX0_init_20 : decode cX0_init 20 = .ok (.newarray .int, 2) := by decide +kernel
theorem dX0_init_22 : decode cX0_init 22 = .ok (.putfield 19, 3) := by decide +kernel
theorem dX0_init_25 : decode cX0_init 25 = .ok (.aload_n 0, 1) := by decide +kernel
theorem dX0_init_26 : decode cX0_init 26 = .ok (.bipush 24, 2) := by decide +kernel
theorem dX0_init_28 : decode cX0_init 28 = .ok (.newarray .boolean, 2) := by decide +kernel
theorem dX0_init_30 : decode cX0_init 30 = .ok (.putfield 22, 3) := by decide +kernel
theorem dX0_init_33 : decode cX0_init 33 = .ok (.aload_n 0, 1) := by decide +kernel
theorem dX0_init_34 : decode cX0_init 34 = .ok (.bipush 24, 2) := by decide +kernel
theorem dX0_init_36 : decode cX0_init 36 = .ok (.newarray .int, 2) := by decide +kernel
theorem dX0_init_38 : decode cX0_init 38 = .ok (.putfield 26, 3) := by decide +kernel
theorem dX0_init_41 : decode cX0_init 41 = .ok (.aload_n 0, 1) := by decide +kernel
theorem dX0_init_42 : decode cX0_init 42 = .ok (.bipush 25, 2) := by decide +kernel
theorem dX0_init_44 : decode cX0_init 44 = .ok (.newarray .int, 2) := by decide +kernel
theorem dX0_init_46 : decode cX0_init 46 = .ok (.putfield 29, 3) := by decide +kernel
theorem dX0_init_49 : decode cX0_init 49 = .ok (.return_, 1) := by decide +kernel
theorem dX0_measure_0 : decode cX0_measure 0 = .ok (.aload_n 0, 1) := by decide +kernel
theorem dX0_measure_1 : decode cX0_measure 1 = .ok (.iload_n 1, 1) := by decide +kernel
theorem dX0_measure_2 : decode cX0_measure 2 = .ok (.putfield 32, 3) := by decide +kernel
theorem dX0_measure_5 : decode cX0_measure 5 = .ok (.aload_n 0, 1) := by decide +kernel
theorem dX0_measure_6 : decode cX0_measure 6 = .ok (.iload_n 2, 1) := by decide +kernel
theorem dX0_measure_7 : decode cX0_measure 7 = .ok (.putfield 35, 3) := by decide +kernel
theorem dX0_measure_10 : decode cX0_measure 10 = .ok (.aload_n 0, 1) := by decide +kernel
theorem dX0_measure_11 : decode cX0_measure 11 = .ok (.iload_n 3, 1) := by decide +kernel
theorem dX0_measure_12 : decode cX0_measure 12 = .ok (.putfield 38, 3) := by decide +kernel
theorem dX0_measure_15 : decode cX0_measure 15 = .ok (.aload_n 0, 1) := by decide +kernel
theorem dX0_measure_16 : decode cX0_measure 16 = .ok (.iconst 0, 1) := by decide +kernel
theorem dX0_measure_17 : decode cX0_measure 17 = .ok (.invokevirtual 41, 3) := by decide +kernel
theorem dX0_measure_20 : decode cX0_measure 20 = .ok (.return_, 1) := by decide +kernel
theorem dX0_append_0 : decode cX0_append 0 = .ok (.aload_n 0, 1) := by decide +kernel
theorem dX0_append_1 : decode cX0_append 1 = .ok (.getfield 45, 3) := by decide +kernel
theorem dX0_append_4 : decode cX0_append 4 = .ok (.istore 5, 2) := by decide +kernel
theorem dX0_append_6 : decode cX0_append 6 = .ok (.aload_n 0, 1) := by decide +kernel
theorem dX0_append_7 : decode cX0_append 7 = .ok (.getfield 15, 3) := by decide +kernel
theorem dX0_append_10 : decode cX0_append 10 = .ok (.iload 5, 2) := by decide +kernel
theorem dX0_append_12 : decode cX0_append 12 = .ok (.iload_n 1, 1) := by decide +kernel
theorem dX0_append_13 : decode cX0_append 13 = .ok (.iastore, 1) := by decide +kernel
theorem dX0_append_14 : decode cX0_append 14 = .ok (.aload_n 0, 1) := by decide +kernel
theorem dX0_append_15 : decode cX0_append 15 = .ok (.getfield 19, 3) := by decide +kernel
theorem dX0_append_18 : decode cX0_append 18 = .ok (.iload 5, 2) := by decide +kernel
theorem dX0_append_20 : decode cX0_append 20 = .ok (.iload_n 2, 1) := by decide +kernel
theorem dX0_append_21 : decode cX0_append 21 = .ok (.iastore, 1) := by decide +kernel
theorem dX0_append_22 : decode cX0_append 22 = .ok (.aload_n 0, 1) := by decide +kernel
theorem dX0_append_23 : decode cX0_append 23 = .ok (.getfield 22, 3) := by decide +kernel
theorem dX0_append_26 : decode cX0_append 26 = .ok (.iload 5, 2) := by decide +kernel
theorem dX0_append_28 : decode cX0_append 28 = .ok (.iload_n 3, 1) := by decide +kernel
theorem dX0_append_29 : decode cX0_append 29 = .ok (.bastore, 1) := by decide +kernel
theorem dX0_append_30 : decode cX0_append 30 = .ok (.aload_n 0, 1) := by decide +kernel
theorem dX0_append_31 : decode cX0_append 31 = .ok (.getfield 26, 3) := by decide +kernel
theorem dX0_append_34 : decode cX0_append 34 = .ok (.iload 5, 2) := by decide +kernel
theorem dX0_append_36 : decode cX0_append 36 = .ok (.iload 4, 2) := by decide +kernel
theorem dX0_append_38 : decode cX0_append 38 = .ok (.iastore, 1) := by decide +kernel
theorem dX0_append_39 : decode cX0_append 39 = .ok (.aload_n 0, 1) := by decide +kernel
theorem dX0_append_40 : decode cX0_append 40 = .ok (.dup, 1) := by decide +kernel
theorem dX0_append_41 : decode cX0_append 41 = .ok (.getfield 45, 3) := by decide +kernel
theorem dX0_append_44 : decode cX0_append 44 = .ok (.iconst 1, 1) := by decide +kernel
theorem dX0_append_45 : decode cX0_append 45 = .ok (.iadd, 1) := by decide +kernel
theorem dX0_append_46 : decode cX0_append 46 = .ok (.putfield 45, 3) := by decide +kernel
theorem dX0_append_49 : decode cX0_append 49 = .ok (.aload_n 0, 1) := by decide +kernel
theorem dX0_append_50 : decode cX0_append 50 = .ok (.iload 5, 2) := by decide +kernel
theorem dX0_append_52 : decode cX0_append 52 = .ok (.invokevirtual 41, 3) := by decide +kernel
theorem dX0_append_55 : decode cX0_append 55 = .ok (.iload 5, 2) := by decide +kernel
theorem dX0_append_57 : decode cX0_append 57 = .ok (.ireturn, 1) := by decide +kernel
theorem dX0_dropLast_0 : decode cX0_dropLast 0 = .ok (.aload_n 0, 1) := by decide +kernel
theorem dX0_dropLast_1 : decode cX0_dropLast 1 = .ok (.getfield 26, 3) := by decide +kernel
theorem dX0_dropLast_4 : decode cX0_dropLast 4 = .ok (.aload_n 0, 1) := by decide +kernel
theorem dX0_dropLast_5 : decode cX0_dropLast 5 = .ok (.getfield 45, 3) := by decide +kernel
theorem dX0_dropLast_8 : decode cX0_dropLast 8 = .ok (.iconst 1, 1) := by decide +kernel
theorem dX0_dropLast_9 : decode cX0_dropLast 9 = .ok (.isub, 1) := by decide +kernel
theorem dX0_dropLast_10 : decode cX0_dropLast 10 = .ok (.iaload, 1) := by decide +kernel
theorem dX0_dropLast_11 : decode cX0_dropLast 11 = .ok (.istore_n 1, 1) := by decide +kernel
theorem dX0_dropLast_12 : decode cX0_dropLast 12 = .ok (.iload_n 1, 1) := by decide +kernel
theorem dX0_dropLast_13 : decode cX0_dropLast 13 = .ok (.iconst (-1), 1) := by decide +kernel
theorem dX0_dropLast_14 : decode cX0_dropLast 14 = .ok (.if_icmp .ne 7, 3) := by decide +kernel
theorem dX0_dropLast_17 : decode cX0_dropLast 17 = .ok (.iconst 1, 1) := by decide +kernel
theorem dX0_dropLast_18 : decode cX0_dropLast 18 = .ok (.goto 6, 3) := by decide +kernel
theorem dX0_dropLast_21 : decode cX0_dropLast 21 = .ok (.iload_n 1, 1) := by decide +kernel
theorem dX0_dropLast_22 : decode cX0_dropLast 22 = .ok (.iconst 1, 1) := by decide +kernel
theorem dX0_dropLast_23 : decode cX0_dropLast 23 = .ok (.iadd, 1) := by decide +kernel
theorem dX0_dropLast_24 : decode cX0_dropLast 24 = .ok (.istore_n 2, 1) := by decide +kernel
theorem dX0_dropLast_25 : decode cX0_dropLast 25 = .ok (.aload_n 0, 1) := by decide +kernel
theorem dX0_dropLast_26 : decode cX0_dropLast 26 = .ok (.dup, 1) := by decide +kernel
theorem dX0_dropLast_27 : decode cX0_dropLast 27 = .ok (.getfield 45, 3) := by decide +kernel
theorem dX0_dropLast_30 : decode cX0_dropLast 30 = .ok (.iload_n 2, 1) := by decide +kernel
theorem dX0_dropLast_31 : decode cX0_dropLast 31 = .ok (.isub, 1) := by decide +kernel
theorem dX0_dropLast_32 : decode cX0_dropLast 32 = .ok (.putfield 45, 3) := by decide +kernel
theorem dX0_dropLast_35 : decode cX0_dropLast 35 = .ok (.iload_n 2, 1) := by decide +kernel
theorem dX0_dropLast_36 : decode cX0_dropLast 36 = .ok (.ireturn, 1) := by decide +kernel
theorem dX0_turnColour_0 : decode cX0_turnColour 0 = .ok (.aload_n 0, 1) := by decide +kernel
theorem dX0_turnColour_1 : decode cX0_turnColour 1 = .ok (.getfield 22, 3) := by decide +kernel
theorem dX0_turnColour_4 : decode cX0_turnColour 4 = .ok (.iload_n 1, 1) := by decide +kernel
theorem dX0_turnColour_5 : decode cX0_turnColour 5 = .ok (.aload_n 0, 1) := by decide +kernel
theorem dX0_turnColour_6 : decode cX0_turnColour 6 = .ok (.getfield 22, 3) := by decide +kernel
theorem dX0_turnColour_9 : decode cX0_turnColour 9 = .ok (.iload_n 1, 1) := by decide +kernel
theorem dX0_turnColour_10 : decode cX0_turnColour 10 = .ok (.baload, 1) := by decide +kernel
theorem dX0_turnColour_11 : decode cX0_turnColour 11 = .ok (.ifCond .ne 7, 3) := by decide +kernel
theorem dX0_turnColour_14 : decode cX0_turnColour 14 = .ok (.iconst 1, 1) := by decide +kernel
theorem dX0_turnColour_15 : decode cX0_turnColour 15 = .ok (.goto 4, 3) := by decide +kernel
theorem dX0_turnColour_18 : decode cX0_turnColour 18 = .ok (.iconst 0, 1) := by decide +kernel
theorem dX0_turnColour_19 : decode cX0_turnColour 19 = .ok (.bastore, 1) := by decide +kernel
theorem dX0_turnColour_20 : decode cX0_turnColour 20 = .ok (.aload_n 0, 1) := by decide +kernel
theorem dX0_turnColour_21 : decode cX0_turnColour 21 = .ok (.iload_n 1, 1) := by decide +kernel
theorem dX0_turnColour_22 : decode cX0_turnColour 22 = .ok (.invokevirtual 41, 3) := by decide +kernel
theorem dX0_turnColour_25 : decode cX0_turnColour 25 = .ok (.aload_n 0, 1) := by decide +kernel
theorem dX0_turnColour_26 : decode cX0_turnColour 26 = .ok (.getfield 22, 3) := by decide +kernel
theorem dX0_turnColour_29 : decode cX0_turnColour 29 = .ok (.iload_n 1, 1) := by decide +kernel
theorem dX0_turnColour_30 : decode cX0_turnColour 30 = .ok (.baload, 1) := by decide +kernel
theorem dX0_turnColour_31 : decode cX0_turnColour 31 = .ok (.ireturn, 1) := by decide +kernel
theorem dX0_timeFrom_0 : decode cX0_timeFrom 0 = .ok (.iload_n 1, 1) := by decide +kernel
theorem dX0_timeFrom_1 : decode cX0_timeFrom 1 = .ok (.istore_n 2, 1) := by decide +kernel
theorem dX0_timeFrom_2 : decode cX0_timeFrom 2 = .ok (.iload_n 2, 1) := by decide +kernel
theorem dX0_timeFrom_3 : decode cX0_timeFrom 3 = .ok (.aload_n 0, 1) := by decide +kernel
theorem dX0_timeFrom_4 : decode cX0_timeFrom 4 = .ok (.getfield 45, 3) := by decide +kernel
theorem dX0_timeFrom_7 : decode cX0_timeFrom 7 = .ok (.if_icmp .ge 40, 3) := by decide +kernel
theorem dX0_timeFrom_10 : decode cX0_timeFrom 10 = .ok (.aload_n 0, 1) := by decide +kernel
theorem dX0_timeFrom_11 : decode cX0_timeFrom 11 = .ok (.getfield 29, 3) := by decide +kernel
theorem dX0_timeFrom_14 : decode cX0_timeFrom 14 = .ok (.iload_n 2, 1) := by decide +kernel
theorem dX0_timeFrom_15 : decode cX0_timeFrom 15 = .ok (.iconst 1, 1) := by decide +kernel
theorem dX0_timeFrom_16 : decode cX0_timeFrom 16 = .ok (.iadd, 1) := by decide +kernel
theorem dX0_timeFrom_17 : decode cX0_timeFrom 17 = .ok (.aload_n 0, 1) := by decide +kernel
theorem dX0_timeFrom_18 : decode cX0_timeFrom 18 = .ok (.getfield 29, 3) := by decide +kernel
theorem dX0_timeFrom_21 : decode cX0_timeFrom 21 = .ok (.iload_n 2, 1) := by decide +kernel
theorem dX0_timeFrom_22 : decode cX0_timeFrom 22 = .ok (.iaload, 1) := by decide +kernel
theorem dX0_timeFrom_23 : decode cX0_timeFrom 23 = .ok (.aload_n 0, 1) := by decide +kernel
theorem dX0_timeFrom_24 : decode cX0_timeFrom 24 = .ok (.aload_n 0, 1) := by decide +kernel
theorem dX0_timeFrom_25 : decode cX0_timeFrom 25 = .ok (.getfield 15, 3) := by decide +kernel
theorem dX0_timeFrom_28 : decode cX0_timeFrom 28 = .ok (.iload_n 2, 1) := by decide +kernel
theorem dX0_timeFrom_29 : decode cX0_timeFrom 29 = .ok (.iaload, 1) := by decide +kernel
theorem dX0_timeFrom_30 : decode cX0_timeFrom 30 = .ok (.aload_n 0, 1) := by decide +kernel
theorem dX0_timeFrom_31 : decode cX0_timeFrom 31 = .ok (.getfield 22, 3) := by decide +kernel
theorem dX0_timeFrom_34 : decode cX0_timeFrom 34 = .ok (.iload_n 2, 1) := by decide +kernel
theorem dX0_timeFrom_35 : decode cX0_timeFrom 35 = .ok (.baload, 1) := by decide +kernel
theorem dX0_timeFrom_36 : decode cX0_timeFrom 36 = .ok (.invokevirtual 48, 3) := by decide +kernel
theorem dX0_timeFrom_39 : decode cX0_timeFrom 39 = .ok (.iadd, 1) := by decide +kernel
theorem dX0_timeFrom_40 : decode cX0_timeFrom 40 = .ok (.iastore, 1) := by decide +kernel
theorem dX0_timeFrom_41 : decode cX0_timeFrom 41 = .ok (.iinc 2 1, 3) := by decide +kernel
theorem dX0_timeFrom_44 : decode cX0_timeFrom 44 = .ok (.goto (-42), 3) := by decide +kernel
theorem dX0_timeFrom_47 : decode cX0_timeFrom 47 = .ok (.return_, 1) := by decide +kernel
theorem dX0_minimsByKind_0 : decode cX0_minimsByKind 0 = .ok (.iload_n 1, 1) := by decide +kernel
theorem dX0_minimsByKind_1 : decode cX0_minimsByKind 1 = .ok (.tableswitch 81 0 2 #[27, 50, 68], 27) := by decide +kernel
theorem dX0_minimsByKind_28 : decode cX0_minimsByKind 28 = .ok (.iload_n 2, 1) := by decide +kernel
theorem dX0_minimsByKind_29 : decode cX0_minimsByKind 29 = .ok (.ifCond .eq 7, 3) := by decide +kernel
theorem dX0_minimsByKind_32 : decode cX0_minimsByKind 32 = .ok (.iconst 2, 1) := by decide +kernel
theorem dX0_minimsByKind_33 : decode cX0_minimsByKind 33 = .ok (.goto 7, 3) := by decide +kernel
theorem dX0_minimsByKind_36 : decode cX0_minimsByKind 36 = .ok (.aload_n 0, 1) := by decide +kernel
theorem dX0_minimsByKind_37 : decode cX0_minimsByKind 37 = .ok (.getfield 32, 3) := by decide +kernel
theorem dX0_minimsByKind_40 : decode cX0_minimsByKind 40 = .ok (.aload_n 0, 1) := by decide +kernel
theorem dX0_minimsByKind_41 : decode cX0_minimsByKind 41 = .ok (.getfield 35, 3) := by decide +kernel
theorem dX0_minimsByKind_44 : decode cX0_minimsByKind 44 = .ok (.imul, 1) := by decide +kernel
theorem dX0_minimsByKind_45 : decode cX0_minimsByKind 45 = .ok (.aload_n 0, 1) := by decide +kernel
theorem dX0_minimsByKind_46 : decode cX0_minimsByKind 46 = .ok (.getfield 38, 3) := by decide +kernel
theorem dX0_minimsByKind_49 : decode cX0_minimsByKind 49 = .ok (.imul, 1) := by decide +kernel
theorem dX0_minimsByKind_50 : decode cX0_minimsByKind 50 = .ok (.ireturn, 1) := by decide +kernel
theorem dX0_minimsByKind_51 : decode cX0_minimsByKind 51 = .ok (.iload_n 2, 1) := by decide +kernel
theorem dX0_minimsByKind_52 : decode cX0_minimsByKind 52 = .ok (.ifCond .eq 7, 3) := by decide +kernel
theorem dX0_minimsByKind_55 : decode cX0_minimsByKind 55 = .ok (.iconst 2, 1) := by decide +kernel
theorem dX0_minimsByKind_56 : decode cX0_minimsByKind 56 = .ok (.goto 7, 3) := by decide +kernel
theorem dX0_minimsByKind_59 : decode cX0_minimsByKind 59 = .ok (.aload_n 0, 1) := by decide +kernel
theorem dX0_minimsByKind_60 : decode cX0_minimsByKind 60 = .ok (.getfield 35, 3) := by decide +kernel
theorem dX0_minimsByKind_63 : decode cX0_minimsByKind 63 = .ok (.aload_n 0, 1) := by decide +kernel
theorem dX0_minimsByKind_64 : decode cX0_minimsByKind 64 = .ok (.getfield 38, 3) := by decide +kernel
theorem dX0_minimsByKind_67 : decode cX0_minimsByKind 67 = .ok (.imul, 1) := by decide +kernel
theorem dX0_minimsByKind_68 : decode cX0_minimsByKind 68 = .ok (.ireturn, 1) := by decide +kernel
theorem dX0_minimsByKind_69 : decode cX0_minimsByKind 69 = .ok (.iload_n 2, 1) := by decide +kernel
theorem dX0_minimsByKind_70 : decode cX0_minimsByKind 70 = .ok (.ifCond .eq 7, 3) := by decide +kernel
theorem dX0_minimsByKind_73 : decode cX0_minimsByKind 73 = .ok (.iconst 2, 1) := by decide +kernel
theorem dX0_minimsByKind_74 : decode cX0_minimsByKind 74 = .ok (.goto 7, 3) := by decide +kernel
theorem dX0_minimsByKind_77 : decode cX0_minimsByKind 77 = .ok (.aload_n 0, 1) := by decide +kernel
theorem dX0_minimsByKind_78 : decode cX0_minimsByKind 78 = .ok (.getfield 38, 3) := by decide +kernel
theorem dX0_minimsByKind_81 : decode cX0_minimsByKind 81 = .ok (.ireturn, 1) := by decide +kernel
theorem dX0_minimsByKind_82 : decode cX0_minimsByKind 82 = .ok (.iconst 1, 1) := by decide +kernel
theorem dX0_minimsByKind_83 : decode cX0_minimsByKind 83 = .ok (.ireturn, 1) := by decide +kernel
theorem dX0_minimsOf_0 : decode cX0_minimsOf 0 = .ok (.aload_n 0, 1) := by decide +kernel
theorem dX0_minimsOf_1 : decode cX0_minimsOf 1 = .ok (.getfield 29, 3) := by decide +kernel
theorem dX0_minimsOf_4 : decode cX0_minimsOf 4 = .ok (.iload_n 1, 1) := by decide +kernel
theorem dX0_minimsOf_5 : decode cX0_minimsOf 5 = .ok (.iconst 1, 1) := by decide +kernel
theorem dX0_minimsOf_6 : decode cX0_minimsOf 6 = .ok (.iadd, 1) := by decide +kernel
theorem dX0_minimsOf_7 : decode cX0_minimsOf 7 = .ok (.iaload, 1) := by decide +kernel
theorem dX0_minimsOf_8 : decode cX0_minimsOf 8 = .ok (.aload_n 0, 1) := by decide +kernel
theorem dX0_minimsOf_9 : decode cX0_minimsOf 9 = .ok (.getfield 29, 3) := by decide +kernel
theorem dX0_minimsOf_12 : decode cX0_minimsOf 12 = .ok (.iload_n 1, 1) := by decide +kernel
theorem dX0_minimsOf_13 : decode cX0_minimsOf 13 = .ok (.iaload, 1) := by decide +kernel
theorem dX0_minimsOf_14 : decode cX0_minimsOf 14 = .ok (.isub, 1) := by decide +kernel
theorem dX0_minimsOf_15 : decode cX0_minimsOf 15 = .ok (.ireturn, 1) := by decide +kernel
theorem dX0_end_0 : decode cX0_end 0 = .ok (.aload_n 0, 1) := by decide +kernel
theorem dX0_end_1 : decode cX0_end 1 = .ok (.getfield 29, 3) := by decide +kernel
theorem dX0_end_4 : decode cX0_end 4 = .ok (.aload_n 0, 1) := by decide +kernel
theorem dX0_end_5 : decode cX0_end 5 = .ok (.getfield 45, 3) := by decide +kernel
theorem dX0_end_8 : decode cX0_end 8 = .ok (.iaload, 1) := by decide +kernel
theorem dX0_end_9 : decode cX0_end 9 = .ok (.ireturn, 1) := by decide +kernel
theorem dX0_signLastingAt_0 : decode cX0_signLastingAt 0 = .ok (.iconst 0, 1) := by decide +kernel
theorem dX0_signLastingAt_1 : decode cX0_signLastingAt 1 = .ok (.istore_n 2, 1) := by decide +kernel
theorem dX0_signLastingAt_2 : decode cX0_signLastingAt 2 = .ok (.iload_n 2, 1) := by decide +kernel
theorem dX0_signLastingAt_3 : decode cX0_signLastingAt 3 = .ok (.aload_n 0, 1) := by decide +kernel
theorem dX0_signLastingAt_4 : decode cX0_signLastingAt 4 = .ok (.getfield 45, 3) := by decide +kernel
theorem dX0_signLastingAt_7 : decode cX0_signLastingAt 7 = .ok (.if_icmp .ge 23, 3) := by decide +kernel
theorem dX0_signLastingAt_10 : decode cX0_signLastingAt 10 = .ok (.iload_n 1, 1) := by decide +kernel
theorem dX0_signLastingAt_11 : decode cX0_signLastingAt 11 = .ok (.aload_n 0, 1) := by decide +kernel
theorem dX0_signLastingAt_12 : decode cX0_signLastingAt 12 = .ok (.getfield 29, 3) := by decide +kernel
theorem dX0_signLastingAt_15 : decode cX0_signLastingAt 15 = .ok (.iload_n 2, 1) := by decide +kernel
theorem dX0_signLastingAt_16 : decode cX0_signLastingAt 16 = .ok (.iconst 1, 1) := by decide +kernel
theorem dX0_signLastingAt_17 : decode cX0_signLastingAt 17 = .ok (.iadd, 1) := by decide +kernel
theorem dX0_signLastingAt_18 : decode cX0_signLastingAt 18 = .ok (.iaload, 1) := by decide +kernel
theorem dX0_signLastingAt_19 : decode cX0_signLastingAt 19 = .ok (.if_icmp .ge 5, 3) := by decide +kernel
theorem dX0_signLastingAt_22 : decode cX0_signLastingAt 22 = .ok (.iload_n 2, 1) := by decide +kernel
theorem dX0_signLastingAt_23 : decode cX0_signLastingAt 23 = .ok (.ireturn, 1) := by decide +kernel
theorem dX0_signLastingAt_24 : decode cX0_signLastingAt 24 = .ok (.iinc 2 1, 3) := by decide +kernel
theorem dX0_signLastingAt_27 : decode cX0_signLastingAt 27 = .ok (.goto (-25), 3) := by decide +kernel
theorem dX0_signLastingAt_30 : decode cX0_signLastingAt 30 = .ok (.iconst (-1), 1) := by decide +kernel
theorem dX0_signLastingAt_31 : decode cX0_signLastingAt 31 = .ok (.ireturn, 1) := by decide +kernel
theorem dX0_isRest_0 : decode cX0_isRest 0 = .ok (.aload_n 0, 1) := by decide +kernel
theorem dX0_isRest_1 : decode cX0_isRest 1 = .ok (.getfield 19, 3) := by decide +kernel
theorem dX0_isRest_4 : decode cX0_isRest 4 = .ok (.iload_n 1, 1) := by decide +kernel
theorem dX0_isRest_5 : decode cX0_isRest 5 = .ok (.iaload, 1) := by decide +kernel
theorem dX0_isRest_6 : decode cX0_isRest 6 = .ok (.iconst (-1), 1) := by decide +kernel
theorem dX0_isRest_7 : decode cX0_isRest 7 = .ok (.if_icmp .ne 7, 3) := by decide +kernel
theorem dX0_isRest_10 : decode cX0_isRest 10 = .ok (.iconst 1, 1) := by decide +kernel
theorem dX0_isRest_11 : decode cX0_isRest 11 = .ok (.goto 4, 3) := by decide +kernel
theorem dX0_isRest_14 : decode cX0_isRest 14 = .ok (.iconst 0, 1) := by decide +kernel
theorem dX0_isRest_15 : decode cX0_isRest 15 = .ok (.ireturn, 1) := by decide +kernel
theorem dX0_countNotes_0 : decode cX0_countNotes 0 = .ok (.iconst 0, 1) := by decide +kernel
theorem dX0_countNotes_1 : decode cX0_countNotes 1 = .ok (.istore_n 1, 1) := by decide +kernel
theorem dX0_countNotes_2 : decode cX0_countNotes 2 = .ok (.iconst 0, 1) := by decide +kernel
theorem dX0_countNotes_3 : decode cX0_countNotes 3 = .ok (.istore_n 2, 1) := by decide +kernel
theorem dX0_countNotes_4 : decode cX0_countNotes 4 = .ok (.iload_n 2, 1) := by decide +kernel
theorem dX0_countNotes_5 : decode cX0_countNotes 5 = .ok (.aload_n 0, 1) := by decide +kernel
theorem dX0_countNotes_6 : decode cX0_countNotes 6 = .ok (.getfield 45, 3) := by decide +kernel
theorem dX0_countNotes_9 : decode cX0_countNotes 9 = .ok (.if_icmp .ge 20, 3) := by decide +kernel
theorem dX0_countNotes_12 : decode cX0_countNotes 12 = .ok (.aload_n 0, 1) := by decide +kernel
theorem dX0_countNotes_13 : decode cX0_countNotes 13 = .ok (.iload_n 2, 1) := by decide +kernel
theorem dX0_countNotes_14 : decode cX0_countNotes 14 = .ok (.invokevirtual 52, 3) := by decide +kernel
theorem dX0_countNotes_17 : decode cX0_countNotes 17 = .ok (.ifCond .ne 6, 3) := by decide +kernel
theorem dX0_countNotes_20 : decode cX0_countNotes 20 = .ok (.iinc 1 1, 3) := by decide +kernel
theorem dX0_countNotes_23 : decode cX0_countNotes 23 = .ok (.iinc 2 1, 3) := by decide +kernel
theorem dX0_countNotes_26 : decode cX0_countNotes 26 = .ok (.goto (-22), 3) := by decide +kernel
theorem dX0_countNotes_29 : decode cX0_countNotes 29 = .ok (.iload_n 1, 1) := by decide +kernel
theorem dX0_countNotes_30 : decode cX0_countNotes 30 = .ok (.ireturn, 1) := by decide +kernel
theorem dX0_countLigatures_0 : decode cX0_countLigatures 0 = .ok (.iconst 0, 1) := by decide +kernel
theorem dX0_countLigatures_1 : decode cX0_countLigatures 1 = .ok (.istore_n 1, 1) := by decide +kernel
theorem dX0_countLigatures_2 : decode cX0_countLigatures 2 = .ok (.iconst 0, 1) := by decide +kernel
theorem dX0_countLigatures_3 : decode cX0_countLigatures 3 = .ok (.istore_n 2, 1) := by decide +kernel
theorem dX0_countLigatures_4 : decode cX0_countLigatures 4 = .ok (.iload_n 2, 1) := by decide +kernel
theorem dX0_countLigatures_5 : decode cX0_countLigatures 5 = .ok (.aload_n 0, 1) := by decide +kernel
theorem dX0_countLigatures_6 : decode cX0_countLigatures 6 = .ok (.getfield 45, 3) := by decide +kernel
theorem dX0_countLigatures_9 : decode cX0_countLigatures 9 = .ok (.if_icmp .ge 21, 3) := by decide +kernel
theorem dX0_countLigatures_12 : decode cX0_countLigatures 12 = .ok (.aload_n 0, 1) := by decide +kernel
theorem dX0_countLigatures_13 : decode cX0_countLigatures 13 = .ok (.getfield 26, 3) := by decide +kernel
theorem dX0_countLigatures_16 : decode cX0_countLigatures 16 = .ok (.iload_n 2, 1) := by decide +kernel
theorem dX0_countLigatures_17 : decode cX0_countLigatures 17 = .ok (.iaload, 1) := by decide +kernel
theorem dX0_countLigatures_18 : decode cX0_countLigatures 18 = .ok (.ifCond .ne 6, 3) := by decide +kernel
theorem dX0_countLigatures_21 : decode cX0_countLigatures 21 = .ok (.iinc 1 1, 3) := by decide +kernel
theorem dX0_countLigatures_24 : decode cX0_countLigatures 24 = .ok (.iinc 2 1, 3) := by decide +kernel
theorem dX0_countLigatures_27 : decode cX0_countLigatures 27 = .ok (.goto (-23), 3) := by decide +kernel
theorem dX0_countLigatures_30 : decode cX0_countLigatures 30 = .ok (.iload_n 1, 1) := by decide +kernel
theorem dX0_countLigatures_31 : decode cX0_countLigatures 31 = .ok (.ireturn, 1) := by decide +kernel
theorem dX0_wouldFit_0 : decode cX0_wouldFit 0 = .ok (.iconst 0, 1) := by decide +kernel
theorem dX0_wouldFit_1 : decode cX0_wouldFit 1 = .ok (.istore_n 2, 1) := by decide +kernel
theorem dX0_wouldFit_2 : decode cX0_wouldFit 2 = .ok (.iload_n 2, 1) := by decide +kernel
theorem dX0_wouldFit_3 : decode cX0_wouldFit 3 = .ok (.aload_n 0, 1) := by decide +kernel
theorem dX0_wouldFit_4 : decode cX0_wouldFit 4 = .ok (.getfield 45, 3) := by decide +kernel
theorem dX0_wouldFit_7 : decode cX0_wouldFit 7 = .ok (.if_icmp .ge 41, 3) := by decide +kernel
theorem dX0_wouldFit_10 : decode cX0_wouldFit 10 = .ok (.aload_n 0, 1) := by decide +kernel
theorem dX0_wouldFit_11 : decode cX0_wouldFit 11 = .ok (.getfield 19, 3) := by decide +kernel
theorem dX0_wouldFit_14 : decode cX0_wouldFit 14 = .ok (.iload_n 2, 1) := by decide +kernel
theorem dX0_wouldFit_15 : decode cX0_wouldFit 15 = .ok (.iaload, 1) := by decide +kernel
theorem dX0_wouldFit_16 : decode cX0_wouldFit 16 = .ok (.iconst 2, 1) := by decide +kernel
theorem dX0_wouldFit_17 : decode cX0_wouldFit 17 = .ok (.iload_n 1, 1) := by decide +kernel
theorem dX0_wouldFit_18 : decode cX0_wouldFit 18 = .ok (.imul, 1) := by decide +kernel
theorem dX0_wouldFit_19 : decode cX0_wouldFit 19 = .ok (.iadd, 1) := by decide +kernel
theorem dX0_wouldFit_20 : decode cX0_wouldFit 20 = .ok (.istore_n 3, 1) := by decide +kernel
theorem dX0_wouldFit_21 : decode cX0_wouldFit 21 = .ok (.aload_n 0, 1) := by decide +kernel
theorem dX0_wouldFit_22 : decode cX0_wouldFit 22 = .ok (.iload_n 2, 1) := by decide +kernel
theorem dX0_wouldFit_23 : decode cX0_wouldFit 23 = .ok (.invokevirtual 52, 3) := by decide +kernel
theorem dX0_wouldFit_26 : decode cX0_wouldFit 26 = .ok (.ifCond .ne 16, 3) := by decide +kernel
theorem dX0_wouldFit_29 : decode cX0_wouldFit 29 = .ok (.iload_n 3, 1) := by decide +kernel
theorem dX0_wouldFit_30 : decode cX0_wouldFit 30 = .ok (.iconst 3, 1) := by decide +kernel
theorem dX0_wouldFit_31 : decode cX0_wouldFit 31 = .ok (.if_icmp .lt 9, 3) := by decide +kernel
theorem dX0_wouldFit_34 : decode cX0_wouldFit 34 = .ok (.iload_n 3, 1) := by decide +kernel
theorem dX0_wouldFit_35 : decode cX0_wouldFit 35 = .ok (.bipush 16, 2) := by decide +kernel
theorem dX0_wouldFit_37 : decode cX0_wouldFit 37 = .ok (.if_icmp .le 5, 3) := by decide +kernel
theorem dX0_wouldFit_40 : decode cX0_wouldFit 40 = .ok (.iconst 0, 1) := by decide +kernel
theorem dX0_wouldFit_41 : decode cX0_wouldFit 41 = .ok (.ireturn, 1) := by decide +kernel
theorem dX0_wouldFit_42 : decode cX0_wouldFit 42 = .ok (.iinc 2 1, 3) := by decide +kernel
theorem dX0_wouldFit_45 : decode cX0_wouldFit 45 = .ok (.goto (-43), 3) := by decide +kernel
theorem dX0_wouldFit_48 : decode cX0_wouldFit 48 = .ok (.iconst 1, 1) := by decide +kernel
theorem dX0_wouldFit_49 : decode cX0_wouldFit 49 = .ok (.ireturn, 1) := by decide +kernel
theorem dX0_countFittingClefs_0 : decode cX0_countFittingClefs 0 = .ok (.iconst 0, 1) := by decide +kernel
theorem dX0_countFittingClefs_1 : decode cX0_countFittingClefs 1 = .ok (.istore_n 1, 1) := by decide +kernel
theorem dX0_countFittingClefs_2 : decode cX0_countFittingClefs 2 = .ok (.iconst 0, 1) := by decide +kernel
theorem dX0_countFittingClefs_3 : decode cX0_countFittingClefs 3 = .ok (.istore_n 2, 1) := by decide +kernel
theorem dX0_countFittingClefs_4 : decode cX0_countFittingClefs 4 = .ok (.iload_n 2, 1) := by decide +kernel
theorem dX0_countFittingClefs_5 : decode cX0_countFittingClefs 5 = .ok (.iconst 5, 1) := by decide +kernel
theorem dX0_countFittingClefs_6 : decode cX0_countFittingClefs 6 = .ok (.if_icmp .gt 20, 3) := by decide +kernel
theorem dX0_countFittingClefs_9 : decode cX0_countFittingClefs 9 = .ok (.aload_n 0, 1) := by decide +kernel
theorem dX0_countFittingClefs_10 : decode cX0_countFittingClefs 10 = .ok (.iload_n 2, 1) := by decide +kernel
theorem dX0_countFittingClefs_11 : decode cX0_countFittingClefs 11 = .ok (.invokevirtual 56, 3) := by decide +kernel
theorem dX0_countFittingClefs_14 : decode cX0_countFittingClefs 14 = .ok (.ifCond .eq 6, 3) := by decide +kernel
theorem dX0_countFittingClefs_17 : decode cX0_countFittingClefs 17 = .ok (.iinc 1 1, 3) := by decide +kernel
theorem dX0_countFittingClefs_20 : decode cX0_countFittingClefs 20 = .ok (.iinc 2 1, 3) := by decide +kernel
theorem dX0_countFittingClefs_23 : decode cX0_countFittingClefs 23 = .ok (.goto (-19), 3) := by decide +kernel
theorem dX0_countFittingClefs_26 : decode cX0_countFittingClefs 26 = .ok (.iload_n 1, 1) := by decide +kernel
theorem dX0_countFittingClefs_27 : decode cX0_countFittingClefs 27 = .ok (.ireturn, 1) := by decide +kernel
theorem dX1_init_0 : decode cX1_init 0 = .ok (.aload_n 0, 1) := by decide +kernel
theorem dX1_init_1 : decode cX1_init 1 = .ok (.invokespecial 1, 3) := by decide +kernel
theorem dX1_init_4 : decode cX1_init 4 = .ok (.aload_n 0, 1) := by decide +kernel
theorem dX1_init_5 : decode cX1_init 5 = .ok (.iconst 4, 1) := by decide +kernel
theorem dX1_init_6 : decode cX1_init 6 = .ok (.anewarray 9, 3) := by decide +kernel
theorem dX1_init_9 : decode cX1_init 9 = .ok (.putfield 11, 3) := by decide +kernel
theorem dX1_init_12 : decode cX1_init 12 = .ok (.iconst 0, 1) := by decide +kernel
theorem dX1_init_13 : decode cX1_init 13 = .ok (.istore_n 1, 1) := by decide +kernel
theorem dX1_init_14 : decode cX1_init 14 = .ok (.iload_n 1, 1) := by decide +kernel
theorem dX1_init_15 : decode cX1_init 15 = .ok (.iconst 4, 1) := by decide +kernel
theorem dX1_init_16 : decode cX1_init 16 = .ok (.if_icmp .ge 22, 3) := by decide +kernel
theorem dX1_init_19 : decode cX1_init 19 = .ok (.aload_n 0, 1) := by decide +kernel
theorem dX1_init_20 : decode cX1_init 20 = .ok (.getfield 11, 3) := by decide +kernel
theorem dX1_init_23 : decode cX1_init 23 = .ok (.iload_n 1, 1) := by decide +kernel
theorem dX1_init_24 : decode cX1_init 24 = .ok (.new 9, 3) := by decide +kernel
theorem dX1_init_27 : decode cX1_init 27 = .ok (.dup, 1) := by decide +kernel
theorem dX1_init_28 : decode cX1_init 28 = .ok (.invokespecial 15, 3) := by decide +kernel
theorem dX1_init_31 : decode cX1_init 31 = .ok (.aastore, 1) := by decide +kernel
theorem dX1_init_32 : decode cX1_init 32 = .ok (.iinc 1 1, 3) := by decide +kernel
theorem dX1_init_35 : decode cX1_init 35 = .ok (.goto (-21), 3) := by decide +kernel
theorem dX1_init_38 : decode cX1_init 38 = .ok (.return_, 1) := by decide +kernel
theorem dX1_addVoice_0 : decode cX1_addVoice 0 = .ok (.iload_n 1, 1) := by decide +kernel
theorem dX1_addVoice_1 : decode cX1_addVoice 1 = .ok (.iload_n 2, 1) := by decide +kernel
theorem dX1_addVoice_2 : decode cX1_addVoice 2 = .ok (.iload_n 3, 1) := by decide +kernel
theorem dX1_addVoice_3 : decode cX1_addVoice 3 = .ok (.invokestatic 16, 3) := by decide +kernel
theorem dX1_addVoice_6 : decode cX1_addVoice 6 = .ok (.aload_n 0, 1) := by decide +kernel
theorem dX1_addVoice_7 : decode cX1_addVoice 7 = .ok (.getfield 20, 3) := by decide +kernel
theorem dX1_addVoice_10 : decode cX1_addVoice 10 = .ok (.iconst 4, 1) := by decide +kernel
theorem dX1_addVoice_11 : decode cX1_addVoice 11 = .ok (.if_icmp .lt 13, 3) := by decide +kernel
theorem dX1_addVoice_14 : decode cX1_addVoice 14 = .ok (.new 24, 3) := by decide +kernel
theorem dX1_addVoice_17 : decode cX1_addVoice 17 = .ok (.dup, 1) := by decide +kernel
theorem dX1_addVoice_18 : decode cX1_addVoice 18 = .ok (.ldc 26, 2) := by decide +kernel
theorem dX1_addVoice_20 : decode cX1_addVoice 20 = .ok (.invokespecial 28, 3) := by decide +kernel
theorem dX1_addVoice_23 : decode cX1_addVoice 23 = .ok (.athrow, 1) := by decide +kernel
theorem dX1_addVoice_24 : decode cX1_addVoice 24 = .ok (.aload_n 0, 1) := by decide +kernel
theorem dX1_addVoice_25 : decode cX1_addVoice 25 = .ok (.getfield 11, 3) := by decide +kernel
theorem dX1_addVoice_28 : decode cX1_addVoice 28 = .ok (.aload_n 0, 1) := by decide +kernel
theorem dX1_addVoice_29 : decode cX1_addVoice 29 = .ok (.getfield 20, 3) := by decide +kernel
theorem dX1_addVoice_32 : decode cX1_addVoice 32 = .ok (.aaload, 1) := by decide +kernel
theorem dX1_addVoice_33 : decode cX1_addVoice 33 = .ok (.iload_n 1, 1) := by decide +kernel
theorem dX1_addVoice_34 : decode cX1_addVoice 34 = .ok (.iload_n 2, 1) := by decide +kernel
theorem dX1_addVoice_35 : decode cX1_addVoice 35 = .ok (.iload_n 3, 1) := by decide +kernel
theorem dX1_addVoice_36 : decode cX1_addVoice 36 = .ok (.invokevirtual 31, 3) := by decide +kernel
theorem dX1_addVoice_39 : decode cX1_addVoice 39 = .ok (.aload_n 0, 1) := by decide +kernel
theorem dX1_addVoice_40 : decode cX1_addVoice 40 = .ok (.dup, 1) := by decide +kernel
theorem dX1_addVoice_41 : decode cX1_addVoice 41 = .ok (.getfield 20, 3) := by decide +kernel
theorem dX1_addVoice_44 : decode cX1_addVoice 44 = .ok (.iconst 1, 1) := by decide +kernel
theorem dX1_addVoice_45 : decode cX1_addVoice 45 = .ok (.iadd, 1) := by decide +kernel
theorem dX1_addVoice_46 : decode cX1_addVoice 46 = .ok (.putfield 20, 3) := by decide +kernel
theorem dX1_addVoice_49 : decode cX1_addVoice 49 = .ok (.aload_n 0, 1) := by decide +kernel
theorem dX1_addVoice_50 : decode cX1_addVoice 50 = .ok (.getfield 20, 3) := by decide +kernel
theorem dX1_addVoice_53 : decode cX1_addVoice 53 = .ok (.iconst 1, 1) := by decide +kernel
theorem dX1_addVoice_54 : decode cX1_addVoice 54 = .ok (.isub, 1) := by decide +kernel
theorem dX1_addVoice_55 : decode cX1_addVoice 55 = .ok (.ireturn, 1) := by decide +kernel
theorem dX1_addNote_0 : decode cX1_addNote 0 = .ok (.aload_n 0, 1) := by decide +kernel
theorem dX1_addNote_1 : decode cX1_addNote 1 = .ok (.iload_n 1, 1) := by decide +kernel
theorem dX1_addNote_2 : decode cX1_addNote 2 = .ok (.invokevirtual 34, 3) := by decide +kernel
theorem dX1_addNote_5 : decode cX1_addNote 5 = .ok (.astore 5, 2) := by decide +kernel
theorem dX1_addNote_7 : decode cX1_addNote 7 = .ok (.iload_n 2, 1) := by decide +kernel
theorem dX1_addNote_8 : decode cX1_addNote 8 = .ok (.iconst 0, 1) := by decide +kernel
theorem dX1_addNote_9 : decode cX1_addNote 9 = .ok (.iconst 3, 1) := by decide +kernel
theorem dX1_addNote_10 : decode cX1_addNote 10 = .ok (.invokestatic 38, 3) := by decide +kernel
theorem dX1_addNote_13 : decode cX1_addNote 13 = .ok (.iload_n 3, 1) := by decide +kernel
theorem dX1_addNote_14 : decode cX1_addNote 14 = .ok (.iconst 0, 1) := by decide +kernel
theorem dX1_addNote_15 : decode cX1_addNote 15 = .ok (.bipush 9, 2) := by decide +kernel
theorem dX1_addNote_17 : decode cX1_addNote 17 = .ok (.invokestatic 38, 3) := by decide +kernel
theorem dX1_addNote_20 : decode cX1_addNote 20 = .ok (.aload 5, 2) := by decide +kernel
theorem dX1_addNote_22 : decode cX1_addNote 22 = .ok (.iconst 1, 1) := by decide +kernel
theorem dX1_addNote_23 : decode cX1_addNote 23 = .ok (.invokestatic 41, 3) := by decide +kernel
theorem dX1_addNote_26 : decode cX1_addNote 26 = .ok (.aload 5, 2) := by decide +kernel
theorem dX1_addNote_28 : decode cX1_addNote 28 = .ok (.iload_n 2, 1) := by decide +kernel
theorem dX1_addNote_29 : decode cX1_addNote 29 = .ok (.iload_n 3, 1) := by decide +kernel
theorem dX1_addNote_30 : decode cX1_addNote 30 = .ok (.iload 4, 2) := by decide +kernel
theorem dX1_addNote_32 : decode cX1_addNote 32 = .ok (.iconst (-1), 1) := by decide +kernel
theorem dX1_addNote_33 : decode cX1_addNote 33 = .ok (.invokevirtual 45, 3) := by decide +kernel
theorem dX1_addNote_36 : decode cX1_addNote 36 = .ok (.ireturn, 1) := by decide +kernel
theorem dX1_addRest_0 : decode cX1_addRest 0 = .ok (.aload_n 0, 1) := by decide +kernel
theorem dX1_addRest_1 : decode cX1_addRest 1 = .ok (.iload_n 1, 1) := by decide +kernel
theorem dX1_addRest_2 : decode cX1_addRest 2 = .ok (.invokevirtual 34, 3) := by decide +kernel
theorem dX1_addRest_5 : decode cX1_addRest 5 = .ok (.astore_n 3, 1) := by decide +kernel
theorem dX1_addRest_6 : decode cX1_addRest 6 = .ok (.iload_n 2, 1) := by decide +kernel
theorem dX1_addRest_7 : decode cX1_addRest 7 = .ok (.iconst 0, 1) := by decide +kernel
theorem dX1_addRest_8 : decode cX1_addRest 8 = .ok (.iconst 3, 1) := by decide +kernel
theorem dX1_addRest_9 : decode cX1_addRest 9 = .ok (.invokestatic 38, 3) := by decide +kernel
theorem dX1_addRest_12 : decode cX1_addRest 12 = .ok (.aload_n 3, 1) := by decide +kernel
theorem dX1_addRest_13 : decode cX1_addRest 13 = .ok (.iconst 1, 1) := by decide +kernel
theorem dX1_addRest_14 : decode cX1_addRest 14 = .ok (.invokestatic 41, 3) := by decide +kernel
theorem dX1_addRest_17 : decode cX1_addRest 17 = .ok (.aload_n 3, 1) := by decide +kernel
theorem dX1_addRest_18 : decode cX1_addRest 18 = .ok (.iload_n 2, 1) := by decide +kernel
theorem dX1_addRest_19 : decode cX1_addRest 19 = .ok (.iconst (-1), 1) := by decide +kernel
theorem dX1_addRest_20 : decode cX1_addRest 20 = .ok (.iconst 0, 1) := by decide +kernel
theorem dX1_addRest_21 : decode cX1_addRest 21 = .ok (.iconst (-1), 1) := by decide +kernel
theorem dX1_addRest_22 : decode cX1_addRest 22 = .ok (.invokevirtual 45, 3) := by decide +kernel
theorem dX1_addRest_25 : decode cX1_addRest 25 = .ok (.ireturn, 1) := by decide +kernel
theorem dX1_addLigature_0 : decode cX1_addLigature 0 = .ok (.aload_n 0, 1) := by decide +kernel
theorem dX1_addLigature_1 : decode cX1_addLigature 1 = .ok (.iload_n 1, 1) := by decide +kernel
theorem dX1_addLigature_2 : decode cX1_addLigature 2 = .ok (.invokevirtual 34, 3) := by decide +kernel
theorem dX1_addLigature_5 : decode cX1_addLigature 5 = .ok (.astore 6, 2) := by decide +kernel
theorem dX1_addLigature_7 : decode cX1_addLigature 7 = .ok (.iload_n 2, 1) := by decide +kernel
theorem dX1_addLigature_8 : decode cX1_addLigature 8 = .ok (.iload_n 3, 1) := by decide +kernel
theorem dX1_addLigature_9 : decode cX1_addLigature 9 = .ok (.iload 4, 2) := by decide +kernel
theorem dX1_addLigature_11 : decode cX1_addLigature 11 = .ok (.invokestatic 49, 3) := by decide +kernel
theorem dX1_addLigature_14 : decode cX1_addLigature 14 = .ok (.iload 4, 2) := by decide +kernel
theorem dX1_addLigature_16 : decode cX1_addLigature 16 = .ok (.iconst (-1), 1) := by decide +kernel
theorem dX1_addLigature_17 : decode cX1_addLigature 17 = .ok (.if_icmp .eq 7, 3) := by decide +kernel
theorem dX1_addLigature_20 : decode cX1_addLigature 20 = .ok (.iconst 1, 1) := by decide +kernel
theorem dX1_addLigature_21 : decode cX1_addLigature 21 = .ok (.goto 4, 3) := by decide +kernel
theorem dX1_addLigature_24 : decode cX1_addLigature 24 = .ok (.iconst 0, 1) := by decide +kernel
theorem dX1_addLigature_25 : decode cX1_addLigature 25 = .ok (.istore 7, 2) := by decide +kernel
theorem dX1_addLigature_27 : decode cX1_addLigature 27 = .ok (.aload 6, 2) := by decide +kernel
theorem dX1_addLigature_29 : decode cX1_addLigature 29 = .ok (.iload 7, 2) := by decide +kernel
theorem dX1_addLigature_31 : decode cX1_addLigature 31 = .ok (.ifCond .eq 7, 3) := by decide +kernel
theorem dX1_addLigature_34 : decode cX1_addLigature 34 = .ok (.iconst 3, 1) := by decide +kernel
theorem dX1_addLigature_35 : decode cX1_addLigature 35 = .ok (.goto 4, 3) := by decide +kernel
theorem dX1_addLigature_38 : decode cX1_addLigature 38 = .ok (.iconst 2, 1) := by decide +kernel
theorem dX1_addLigature_39 : decode cX1_addLigature 39 = .ok (.invokestatic 41, 3) := by decide +kernel
theorem dX1_addLigature_42 : decode cX1_addLigature 42 = .ok (.aload 6, 2) := by decide +kernel
theorem dX1_addLigature_44 : decode cX1_addLigature 44 = .ok (.iload_n 2, 1) := by decide +kernel
theorem dX1_addLigature_45 : decode cX1_addLigature 45 = .ok (.iload_n 3, 1) := by decide +kernel
theorem dX1_addLigature_46 : decode cX1_addLigature 46 = .ok (.iload 5, 2) := by decide +kernel
theorem dX1_addLigature_48 : decode cX1_addLigature 48 = .ok (.invokestatic 52, 3) := by decide +kernel
theorem dX1_addLigature_51 : decode cX1_addLigature 51 = .ok (.iload_n 2, 1) := by decide +kernel
theorem dX1_addLigature_52 : decode cX1_addLigature 52 = .ok (.iconst 0, 1) := by decide +kernel
theorem dX1_addLigature_53 : decode cX1_addLigature 53 = .ok (.iconst 0, 1) := by decide +kernel
theorem dX1_addLigature_54 : decode cX1_addLigature 54 = .ok (.invokevirtual 45, 3) := by decide +kernel
theorem dX1_addLigature_57 : decode cX1_addLigature 57 = .ok (.istore 8, 2) := by decide +kernel
theorem dX1_addLigature_59 : decode cX1_addLigature 59 = .ok (.aload 6, 2) := by decide +kernel
theorem dX1_addLigature_61 : decode cX1_addLigature 61 = .ok (.iload_n 2, 1) := by decide +kernel
theorem dX1_addLigature_62 : decode cX1_addLigature 62 = .ok (.iload_n 3, 1) := by decide +kernel
theorem dX1_addLigature_63 : decode cX1_addLigature 63 = .ok (.iload 7, 2) := by decide +kernel
theorem dX1_addLigature_65 : decode cX1_addLigature 65 = .ok (.iload 5, 2) := by decide +kernel
theorem dX1_addLigature_67 : decode cX1_addLigature 67 = .ok (.invokestatic 56, 3) := by decide +kernel
theorem dX1_addLigature_70 : decode cX1_addLigature 70 = .ok (.iload_n 3, 1) := by decide +kernel
theorem dX1_addLigature_71 : decode cX1_addLigature 71 = .ok (.iconst 0, 1) := by decide +kernel
theorem dX1_addLigature_72 : decode cX1_addLigature 72 = .ok (.iconst 1, 1) := by decide +kernel
theorem dX1_addLigature_73 : decode cX1_addLigature 73 = .ok (.invokevirtual 45, 3) := by decide +kernel
theorem dX1_addLigature_76 : decode cX1_addLigature 76 = .ok (.pop, 1) := by decide +kernel
theorem dX1_addLigature_77 : decode cX1_addLigature 77 = .ok (.iload 7, 2) := by decide +kernel
theorem dX1_addLigature_79 : decode cX1_addLigature 79 = .ok (.ifCond .eq 19, 3) := by decide +kernel
theorem dX1_addLigature_82 : decode cX1_addLigature 82 = .ok (.aload 6, 2) := by decide +kernel
theorem dX1_addLigature_84 : decode cX1_addLigature 84 = .ok (.iload_n 3, 1) := by decide +kernel
theorem dX1_addLigature_85 : decode cX1_addLigature 85 = .ok (.iload 4, 2) := by decide +kernel
theorem dX1_addLigature_87 : decode cX1_addLigature 87 = .ok (.invokestatic 60, 3) := by decide +kernel
theorem dX1_addLigature_90 : decode cX1_addLigature 90 = .ok (.iload 4, 2) := by decide +kernel
theorem dX1_addLigature_92 : decode cX1_addLigature 92 = .ok (.iconst 0, 1) := by decide +kernel
theorem dX1_addLigature_93 : decode cX1_addLigature 93 = .ok (.iconst 2, 1) := by decide +kernel
theorem dX1_addLigature_94 : decode cX1_addLigature 94 = .ok (.invokevirtual 45, 3) := by decide +kernel
theorem dX1_addLigature_97 : decode cX1_addLigature 97 = .ok (.pop, 1) := by decide +kernel
theorem dX1_addLigature_98 : decode cX1_addLigature 98 = .ok (.iload 8, 2) := by decide +kernel
theorem dX1_addLigature_100 : decode cX1_addLigature 100 = .ok (.ireturn, 1) := by decide +kernel
theorem dX1_erase_0 : decode cX1_erase 0 = .ok (.aload_n 0, 1) := by decide +kernel
theorem dX1_erase_1 : decode cX1_erase 1 = .ok (.iload_n 1, 1) := by decide +kernel
theorem dX1_erase_2 : decode cX1_erase 2 = .ok (.invokevirtual 34, 3) := by decide +kernel
theorem dX1_erase_5 : decode cX1_erase 5 = .ok (.astore_n 2, 1) := by decide +kernel
theorem dX1_erase_6 : decode cX1_erase 6 = .ok (.aload_n 2, 1) := by decide +kernel
theorem dX1_erase_7 : decode cX1_erase 7 = .ok (.getfield 64, 3) := by decide +kernel
theorem dX1_erase_10 : decode cX1_erase 10 = .ok (.ifCond .ne 13, 3) := by decide +kernel
theorem dX1_erase_13 : decode cX1_erase 13 = .ok (.new 24, 3) := by decide +kernel
theorem dX1_erase_16 : decode cX1_erase 16 = .ok (.dup, 1) := by decide +kernel
theorem dX1_erase_17 : decode cX1_erase 17 = .ok (.ldc 67, 2) := by decide +kernel
theorem dX1_erase_19 : decode cX1_erase 19 = .ok (.invokespecial 28, 3) := by decide +kernel
theorem dX1_erase_22 : decode cX1_erase 22 = .ok (.athrow, 1) := by decide +kernel
theorem dX1_erase_23 : decode cX1_erase 23 = .ok (.aload_n 2, 1) := by decide +kernel
theorem dX1_erase_24 : decode cX1_erase 24 = .ok (.invokevirtual 69, 3) := by decide +kernel
theorem dX1_erase_27 : decode cX1_erase 27 = .ok (.ireturn, 1) := by decide +kernel
theorem dX1_recolour_0 : decode cX1_recolour 0 = .ok (.aload_n 0, 1) := by decide +kernel
theorem dX1_recolour_1 : decode cX1_recolour 1 = .ok (.iload_n 1, 1) := by decide +kernel
theorem dX1_recolour_2 : decode cX1_recolour 2 = .ok (.iload_n 2, 1) := by decide +kernel
theorem dX1_recolour_3 : decode cX1_recolour 3 = .ok (.invokevirtual 73, 3) := by decide +kernel
theorem dX1_recolour_6 : decode cX1_recolour 6 = .ok (.astore_n 3, 1) := by decide +kernel
theorem dX1_recolour_7 : decode cX1_recolour 7 = .ok (.aload_n 3, 1) := by decide +kernel
theorem dX1_recolour_8 : decode cX1_recolour 8 = .ok (.iload_n 2, 1) := by decide +kernel
theorem dX1_recolour_9 : decode cX1_recolour 9 = .ok (.invokevirtual 77, 3) := by decide +kernel
theorem dX1_recolour_12 : decode cX1_recolour 12 = .ok (.ifCond .eq 13, 3) := by decide +kernel
theorem dX1_recolour_15 : decode cX1_recolour 15 = .ok (.new 24, 3) := by decide +kernel
theorem dX1_recolour_18 : decode cX1_recolour 18 = .ok (.dup, 1) := by decide +kernel
theorem dX1_recolour_19 : decode cX1_recolour 19 = .ok (.ldc 81, 2) := by decide +kernel
theorem dX1_recolour_21 : decode cX1_recolour 21 = .ok (.invokespecial 28, 3) := by decide +kernel
theorem dX1_recolour_24 : decode cX1_recolour 24 = .ok (.athrow, 1) := by decide +kernel
theorem dX1_recolour_25 : decode cX1_recolour 25 = .ok (.aload_n 3, 1) := by decide +kernel
theorem dX1_recolour_26 : decode cX1_recolour 26 = .ok (.iload_n 2, 1) := by decide +kernel
theorem dX1_recolour_27 : decode cX1_recolour 27 = .ok (.invokevirtual 83, 3) := by decide +kernel
theorem dX1_recolour_30 : decode cX1_recolour 30 = .ok (.ireturn, 1) := by decide +kernel
theorem dX1_setClef_0 : decode cX1_setClef 0 = .ok (.aload_n 0, 1) := by decide +kernel
theorem dX1_setClef_1 : decode cX1_setClef 1 = .ok (.iload_n 1, 1) := by decide +kernel
theorem dX1_setClef_2 : decode cX1_setClef 2 = .ok (.invokevirtual 34, 3) := by decide +kernel
theorem dX1_setClef_5 : decode cX1_setClef 5 = .ok (.astore_n 3, 1) := by decide +kernel
theorem dX1_setClef_6 : decode cX1_setClef 6 = .ok (.iload_n 2, 1) := by decide +kernel
theorem dX1_setClef_7 : decode cX1_setClef 7 = .ok (.iconst (-1), 1) := by decide +kernel
theorem dX1_setClef_8 : decode cX1_setClef 8 = .ok (.iconst 5, 1) := by decide +kernel
theorem dX1_setClef_9 : decode cX1_setClef 9 = .ok (.invokestatic 38, 3) := by decide +kernel
theorem dX1_setClef_12 : decode cX1_setClef 12 = .ok (.aload_n 3, 1) := by decide +kernel
theorem dX1_setClef_13 : decode cX1_setClef 13 = .ok (.getfield 86, 3) := by decide +kernel
theorem dX1_setClef_16 : decode cX1_setClef 16 = .ok (.istore 4, 2) := by decide +kernel
theorem dX1_setClef_18 : decode cX1_setClef 18 = .ok (.aload_n 3, 1) := by decide +kernel
theorem dX1_setClef_19 : decode cX1_setClef 19 = .ok (.iload_n 2, 1) := by decide +kernel
theorem dX1_setClef_20 : decode cX1_setClef 20 = .ok (.putfield 86, 3) := by decide +kernel
theorem dX1_setClef_23 : decode cX1_setClef 23 = .ok (.iload 4, 2) := by decide +kernel
theorem dX1_setClef_25 : decode cX1_setClef 25 = .ok (.ireturn, 1) := by decide +kernel
theorem dX1_setMensuration_0 : decode cX1_setMensuration 0 = .ok (.aload_n 0, 1) := by decide +kernel
theorem dX1_setMensuration_1 : decode cX1_setMensuration 1 = .ok (.iload_n 1, 1) := by decide +kernel
theorem dX1_setMensuration_2 : decode cX1_setMensuration 2 = .ok (.invokevirtual 34, 3) := by decide +kernel
theorem dX1_setMensuration_5 : decode cX1_setMensuration 5 = .ok (.astore 5, 2) := by decide +kernel
theorem dX1_setMensuration_7 : decode cX1_setMensuration 7 = .ok (.iload_n 2, 1) := by decide +kernel
theorem dX1_setMensuration_8 : decode cX1_setMensuration 8 = .ok (.iload_n 3, 1) := by decide +kernel
theorem dX1_setMensuration_9 : decode cX1_setMensuration 9 = .ok (.iload 4, 2) := by decide +kernel
theorem dX1_setMensuration_11 : decode cX1_setMensuration 11 = .ok (.invokestatic 16, 3) := by decide +kernel
theorem dX1_setMensuration_14 : decode cX1_setMensuration 14 = .ok (.aload 5, 2) := by decide +kernel
theorem dX1_setMensuration_16 : decode cX1_setMensuration 16 = .ok (.iload_n 2, 1) := by decide +kernel
theorem dX1_setMensuration_17 : decode cX1_setMensuration 17 = .ok (.iload_n 3, 1) := by decide +kernel
theorem dX1_setMensuration_18 : decode cX1_setMensuration 18 = .ok (.iload 4, 2) := by decide +kernel
theorem dX1_setMensuration_20 : decode cX1_setMensuration 20 = .ok (.invokevirtual 31, 3) := by decide +kernel
theorem dX1_setMensuration_23 : decode cX1_setMensuration 23 = .ok (.aload 5, 2) := by decide +kernel
theorem dX1_setMensuration_25 : decode cX1_setMensuration 25 = .ok (.invokevirtual 89, 3) := by decide +kernel
theorem dX1_setMensuration_28 : decode cX1_setMensuration 28 = .ok (.ireturn, 1) := by decide +kernel
theorem dX1_voices_0 : decode cX1_voices 0 = .ok (.aload_n 0, 1) := by decide +kernel
theorem dX1_voices_1 : decode cX1_voices 1 = .ok (.getfield 20, 3) := by decide +kernel
theorem dX1_voices_4 : decode cX1_voices 4 = .ok (.ireturn, 1) := by decide +kernel
theorem dX1_signs_0 : decode cX1_signs 0 = .ok (.aload_n 0, 1) := by decide +kernel
theorem dX1_signs_1 : decode cX1_signs 1 = .ok (.iload_n 1, 1) := by decide +kernel
theorem dX1_signs_2 : decode cX1_signs 2 = .ok (.invokevirtual 34, 3) := by decide +kernel
theorem dX1_signs_5 : decode cX1_signs 5 = .ok (.getfield 64, 3) := by decide +kernel
theorem dX1_signs_8 : decode cX1_signs 8 = .ok (.ireturn, 1) := by decide +kernel
theorem dX1_notes_0 : decode cX1_notes 0 = .ok (.aload_n 0, 1) := by decide +kernel
theorem dX1_notes_1 : decode cX1_notes 1 = .ok (.iload_n 1, 1) := by decide +kernel
theorem dX1_notes_2 : decode cX1_notes 2 = .ok (.invokevirtual 34, 3) := by decide +kernel
theorem dX1_notes_5 : decode cX1_notes 5 = .ok (.invokevirtual 92, 3) := by decide +kernel
theorem dX1_notes_8 : decode cX1_notes 8 = .ok (.ireturn, 1) := by decide +kernel
theorem dX1_ligatures_0 : decode cX1_ligatures 0 = .ok (.aload_n 0, 1) := by decide +kernel
theorem dX1_ligatures_1 : decode cX1_ligatures 1 = .ok (.iload_n 1, 1) := by decide +kernel
theorem dX1_ligatures_2 : decode cX1_ligatures 2 = .ok (.invokevirtual 34, 3) := by decide +kernel
theorem dX1_ligatures_5 : decode cX1_ligatures 5 = .ok (.invokevirtual 95, 3) := by decide +kernel
theorem dX1_ligatures_8 : decode cX1_ligatures 8 = .ok (.ireturn, 1) := by decide +kernel
theorem dX1_kindOf_0 : decode cX1_kindOf 0 = .ok (.aload_n 0, 1) := by decide +kernel
theorem dX1_kindOf_1 : decode cX1_kindOf 1 = .ok (.iload_n 1, 1) := by decide +kernel
theorem dX1_kindOf_2 : decode cX1_kindOf 2 = .ok (.iload_n 2, 1) := by decide +kernel
theorem dX1_kindOf_3 : decode cX1_kindOf 3 = .ok (.invokevirtual 73, 3) := by decide +kernel
theorem dX1_kindOf_6 : decode cX1_kindOf 6 = .ok (.getfield 98, 3) := by decide +kernel
theorem dX1_kindOf_9 : decode cX1_kindOf 9 = .ok (.iload_n 2, 1) := by decide +kernel
theorem dX1_kindOf_10 : decode cX1_kindOf 10 = .ok (.iaload, 1) := by decide +kernel
theorem dX1_kindOf_11 : decode cX1_kindOf 11 = .ok (.ireturn, 1) := by decide +kernel
theorem dX1_placeOf_0 : decode cX1_placeOf 0 = .ok (.aload_n 0, 1) := by decide +kernel
theorem dX1_placeOf_1 : decode cX1_placeOf 1 = .ok (.iload_n 1, 1) := by decide +kernel
theorem dX1_placeOf_2 : decode cX1_placeOf 2 = .ok (.iload_n 2, 1) := by decide +kernel
theorem dX1_placeOf_3 : decode cX1_placeOf 3 = .ok (.invokevirtual 73, 3) := by decide +kernel
theorem dX1_placeOf_6 : decode cX1_placeOf 6 = .ok (.getfield 102, 3) := by decide +kernel
theorem dX1_placeOf_9 : decode cX1_placeOf 9 = .ok (.iload_n 2, 1) := by decide +kernel
theorem dX1_placeOf_10 : decode cX1_placeOf 10 = .ok (.iaload, 1) := by decide +kernel
theorem dX1_placeOf_11 : decode cX1_placeOf 11 = .ok (.ireturn, 1) := by decide +kernel
theorem dX1_isColoured_0 : decode cX1_isColoured 0 = .ok (.aload_n 0, 1) := by decide +kernel
theorem dX1_isColoured_1 : decode cX1_isColoured 1 = .ok (.iload_n 1, 1) := by decide +kernel
theorem dX1_isColoured_2 : decode cX1_isColoured 2 = .ok (.iload_n 2, 1) := by decide +kernel
theorem dX1_isColoured_3 : decode cX1_isColoured 3 = .ok (.invokevirtual 73, 3) := by decide +kernel
theorem dX1_isColoured_6 : decode cX1_isColoured 6 = .ok (.getfield 105, 3) := by decide +kernel
theorem dX1_isColoured_9 : decode cX1_isColoured 9 = .ok (.iload_n 2, 1) := by decide +kernel
theorem dX1_isColoured_10 : decode cX1_isColoured 10 = .ok (.baload, 1) := by decide +kernel
theorem dX1_isColoured_11 : decode cX1_isColoured 11 = .ok (.ireturn, 1) := by decide +kernel
theorem dX1_placeInLigature_0 : decode cX1_placeInLigature 0 = .ok (.aload_n 0, 1) := by decide +kernel
theorem dX1_placeInLigature_1 : decode cX1_placeInLigature 1 = .ok (.iload_n 1, 1) := by decide +kernel
theorem dX1_placeInLigature_2 : decode cX1_placeInLigature 2 = .ok (.iload_n 2, 1) := by decide +kernel
theorem dX1_placeInLigature_3 : decode cX1_placeInLigature 3 = .ok (.invokevirtual 73, 3) := by decide +kernel
theorem dX1_placeInLigature_6 : decode cX1_placeInLigature 6 = .ok (.getfield 109, 3) := by decide +kernel
theorem dX1_placeInLigature_9 : decode cX1_placeInLigature 9 = .ok (.iload_n 2, 1) := by decide +kernel
theorem dX1_placeInLigature_10 : decode cX1_placeInLigature 10 = .ok (.iaload, 1) := by decide +kernel
theorem dX1_placeInLigature_11 : decode cX1_placeInLigature 11 = .ok (.ireturn, 1) := by decide +kernel
theorem dX1_lengthOf_0 : decode cX1_lengthOf 0 = .ok (.aload_n 0, 1) := by decide +kernel
theorem dX1_lengthOf_1 : decode cX1_lengthOf 1 = .ok (.iload_n 1, 1) := by decide +kernel
theorem dX1_lengthOf_2 : decode cX1_lengthOf 2 = .ok (.iload_n 2, 1) := by decide +kernel
theorem dX1_lengthOf_3 : decode cX1_lengthOf 3 = .ok (.invokevirtual 73, 3) := by decide +kernel
theorem dX1_lengthOf_6 : decode cX1_lengthOf 6 = .ok (.iload_n 2, 1) := by decide +kernel
theorem dX1_lengthOf_7 : decode cX1_lengthOf 7 = .ok (.invokevirtual 112, 3) := by decide +kernel
theorem dX1_lengthOf_10 : decode cX1_lengthOf 10 = .ok (.ireturn, 1) := by decide +kernel
theorem dX1_beginOf_0 : decode cX1_beginOf 0 = .ok (.aload_n 0, 1) := by decide +kernel
theorem dX1_beginOf_1 : decode cX1_beginOf 1 = .ok (.iload_n 1, 1) := by decide +kernel
theorem dX1_beginOf_2 : decode cX1_beginOf 2 = .ok (.iload_n 2, 1) := by decide +kernel
theorem dX1_beginOf_3 : decode cX1_beginOf 3 = .ok (.invokevirtual 73, 3) := by decide +kernel
theorem dX1_beginOf_6 : decode cX1_beginOf 6 = .ok (.getfield 116, 3) := by decide +kernel
theorem dX1_beginOf_9 : decode cX1_beginOf 9 = .ok (.iload_n 2, 1) := by decide +kernel
theorem dX1_beginOf_10 : decode cX1_beginOf 10 = .ok (.iaload, 1) := by decide +kernel
theorem dX1_beginOf_11 : decode cX1_beginOf 11 = .ok (.ireturn, 1) := by decide +kernel
theorem dX1_length_0 : decode cX1_length 0 = .ok (.aload_n 0, 1) := by decide +kernel
theorem dX1_length_1 : decode cX1_length 1 = .ok (.iload_n 1, 1) := by decide +kernel
theorem dX1_length_2 : decode cX1_length 2 = .ok (.invokevirtual 34, 3) := by decide +kernel
theorem dX1_length_5 : decode cX1_length 5 = .ok (.invokevirtual 89, 3) := by decide +kernel
theorem dX1_length_8 : decode cX1_length 8 = .ok (.ireturn, 1) := by decide +kernel
theorem dX1_longest_0 : decode cX1_longest 0 = .ok (.iconst 0, 1) := by decide +kernel
theorem dX1_longest_1 : decode cX1_longest 1 = .ok (.istore_n 1, 1) := by decide +kernel
theorem dX1_longest_2 : decode cX1_longest 2 = .ok (.iconst 0, 1) := by decide +kernel
theorem dX1_longest_3 : decode cX1_longest 3 = .ok (.istore_n 2, 1) := by decide +kernel
theorem dX1_longest_4 : decode cX1_longest 4 = .ok (.iload_n 2, 1) := by decide +kernel
theorem dX1_longest_5 : decode cX1_longest 5 = .ok (.aload_n 0, 1) := by decide +kernel
theorem dX1_longest_6 : decode cX1_longest 6 = .ok (.getfield 20, 3) := by decide +kernel
theorem dX1_longest_9 : decode cX1_longest 9 = .ok (.if_icmp .ge 23, 3) := by decide +kernel
theorem dX1_longest_12 : decode cX1_longest 12 = .ok (.iload_n 1, 1) := by decide +kernel
theorem dX1_longest_13 : decode cX1_longest 13 = .ok (.aload_n 0, 1) := by decide +kernel
theorem dX1_longest_14 : decode cX1_longest 14 = .ok (.getfield 11, 3) := by decide +kernel
theorem dX1_longest_17 : decode cX1_longest 17 = .ok (.iload_n 2, 1) := by decide +kernel
theorem dX1_longest_18 : decode cX1_longest 18 = .ok (.aaload, 1) := by decide +kernel
theorem dX1_longest_19 : decode cX1_longest 19 = .ok (.invokevirtual 89, 3) := by decide +kernel
theorem dX1_longest_22 : decode cX1_longest 22 = .ok (.invokestatic 119, 3) := by decide +kernel
theorem dX1_longest_25 : decode cX1_longest 25 = .ok (.istore_n 1, 1) := by decide +kernel
theorem dX1_longest_26 : decode cX1_longest 26 = .ok (.iinc 2 1, 3) := by decide +kernel
theorem dX1_longest_29 : decode cX1_longest 29 = .ok (.goto (-25), 3) := by decide +kernel
theorem dX1_longest_32 : decode cX1_longest 32 = .ok (.iload_n 1, 1) := by decide +kernel
theorem dX1_longest_33 : decode cX1_longest 33 = .ok (.ireturn, 1) := by decide +kernel
theorem dX1_signAt_0 : decode cX1_signAt 0 = .ok (.aload_n 0, 1) := by decide +kernel
theorem dX1_signAt_1 : decode cX1_signAt 1 = .ok (.iload_n 1, 1) := by decide +kernel
theorem dX1_signAt_2 : decode cX1_signAt 2 = .ok (.invokevirtual 34, 3) := by decide +kernel
theorem dX1_signAt_5 : decode cX1_signAt 5 = .ok (.astore_n 3, 1) := by decide +kernel
theorem dX1_signAt_6 : decode cX1_signAt 6 = .ok (.iload_n 2, 1) := by decide +kernel
theorem dX1_signAt_7 : decode cX1_signAt 7 = .ok (.iconst 0, 1) := by decide +kernel
theorem dX1_signAt_8 : decode cX1_signAt 8 = .ok (.ldc 126, 2) := by decide +kernel
theorem dX1_signAt_10 : decode cX1_signAt 10 = .ok (.invokestatic 38, 3) := by decide +kernel
theorem dX1_signAt_13 : decode cX1_signAt 13 = .ok (.aload_n 3, 1) := by decide +kernel
theorem dX1_signAt_14 : decode cX1_signAt 14 = .ok (.iload_n 2, 1) := by decide +kernel
theorem dX1_signAt_15 : decode cX1_signAt 15 = .ok (.invokevirtual 127, 3) := by decide +kernel
theorem dX1_signAt_18 : decode cX1_signAt 18 = .ok (.ireturn, 1) := by decide +kernel
theorem dX1_clefOf_0 : decode cX1_clefOf 0 = .ok (.aload_n 0, 1) := by decide +kernel
theorem dX1_clefOf_1 : decode cX1_clefOf 1 = .ok (.iload_n 1, 1) := by decide +kernel
theorem dX1_clefOf_2 : decode cX1_clefOf 2 = .ok (.invokevirtual 34, 3) := by decide +kernel
theorem dX1_clefOf_5 : decode cX1_clefOf 5 = .ok (.getfield 86, 3) := by decide +kernel
theorem dX1_clefOf_8 : decode cX1_clefOf 8 = .ok (.ireturn, 1) := by decide +kernel
theorem dX1_pitchOf_0 : decode cX1_pitchOf 0 = .ok (.aload_n 0, 1) := by decide +kernel
theorem dX1_pitchOf_1 : decode cX1_pitchOf 1 = .ok (.iload_n 1, 1) := by decide +kernel
theorem dX1_pitchOf_2 : decode cX1_pitchOf 2 = .ok (.iload_n 2, 1) := by decide +kernel
theorem dX1_pitchOf_3 : decode cX1_pitchOf 3 = .ok (.invokevirtual 73, 3) := by decide +kernel
theorem dX1_pitchOf_6 : decode cX1_pitchOf 6 = .ok (.astore_n 3, 1) := by decide +kernel
theorem dX1_pitchOf_7 : decode cX1_pitchOf 7 = .ok (.aload_n 3, 1) := by decide +kernel
theorem dX1_pitchOf_8 : decode cX1_pitchOf 8 = .ok (.invokestatic 130, 3) := by decide +kernel
theorem dX1_pitchOf_11 : decode cX1_pitchOf 11 = .ok (.aload_n 3, 1) := by decide +kernel
theorem dX1_pitchOf_12 : decode cX1_pitchOf 12 = .ok (.iload_n 2, 1) := by decide +kernel
theorem dX1_pitchOf_13 : decode cX1_pitchOf 13 = .ok (.invokevirtual 77, 3) := by decide +kernel
theorem dX1_pitchOf_16 : decode cX1_pitchOf 16 = .ok (.ifCond .eq 7, 3) := by decide +kernel
theorem dX1_pitchOf_19 : decode cX1_pitchOf 19 = .ok (.iconst (-1), 1) := by decide +kernel
theorem dX1_pitchOf_20 : decode cX1_pitchOf 20 = .ok (.goto 16, 3) := by decide +kernel
theorem dX1_pitchOf_23 : decode cX1_pitchOf 23 = .ok (.aload_n 3, 1) := by decide +kernel
theorem dX1_pitchOf_24 : decode cX1_pitchOf 24 = .ok (.getfield 102, 3) := by decide +kernel
theorem dX1_pitchOf_27 : decode cX1_pitchOf 27 = .ok (.iload_n 2, 1) := by decide +kernel
theorem dX1_pitchOf_28 : decode cX1_pitchOf 28 = .ok (.iaload, 1) := by decide +kernel
theorem dX1_pitchOf_29 : decode cX1_pitchOf 29 = .ok (.iconst 2, 1) := by decide +kernel
theorem dX1_pitchOf_30 : decode cX1_pitchOf 30 = .ok (.aload_n 3, 1) := by decide +kernel
theorem dX1_pitchOf_31 : decode cX1_pitchOf 31 = .ok (.getfield 86, 3) := by decide +kernel
theorem dX1_pitchOf_34 : decode cX1_pitchOf 34 = .ok (.imul, 1) := by decide +kernel
theorem dX1_pitchOf_35 : decode cX1_pitchOf 35 = .ok (.iadd, 1) := by decide +kernel
theorem dX1_pitchOf_36 : decode cX1_pitchOf 36 = .ok (.ireturn, 1) := by decide +kernel
theorem dX1_fits_0 : decode cX1_fits 0 = .ok (.aload_n 0, 1) := by decide +kernel
theorem dX1_fits_1 : decode cX1_fits 1 = .ok (.iload_n 1, 1) := by decide +kernel
theorem dX1_fits_2 : decode cX1_fits 2 = .ok (.invokevirtual 34, 3) := by decide +kernel
theorem dX1_fits_5 : decode cX1_fits 5 = .ok (.astore_n 3, 1) := by decide +kernel
theorem dX1_fits_6 : decode cX1_fits 6 = .ok (.iload_n 2, 1) := by decide +kernel
theorem dX1_fits_7 : decode cX1_fits 7 = .ok (.iconst 0, 1) := by decide +kernel
theorem dX1_fits_8 : decode cX1_fits 8 = .ok (.iconst 5, 1) := by decide +kernel
theorem dX1_fits_9 : decode cX1_fits 9 = .ok (.invokestatic 38, 3) := by decide +kernel
theorem dX1_fits_12 : decode cX1_fits 12 = .ok (.aload_n 3, 1) := by decide +kernel
theorem dX1_fits_13 : decode cX1_fits 13 = .ok (.iload_n 2, 1) := by decide +kernel
theorem dX1_fits_14 : decode cX1_fits 14 = .ok (.invokevirtual 134, 3) := by decide +kernel
theorem dX1_fits_17 : decode cX1_fits 17 = .ok (.ireturn, 1) := by decide +kernel
theorem dX1_clefsThatFit_0 : decode cX1_clefsThatFit 0 = .ok (.aload_n 0, 1) := by decide +kernel
theorem dX1_clefsThatFit_1 : decode cX1_clefsThatFit 1 = .ok (.iload_n 1, 1) := by decide +kernel
theorem dX1_clefsThatFit_2 : decode cX1_clefsThatFit 2 = .ok (.invokevirtual 34, 3) := by decide +kernel
theorem dX1_clefsThatFit_5 : decode cX1_clefsThatFit 5 = .ok (.invokevirtual 137, 3) := by decide +kernel
theorem dX1_clefsThatFit_8 : decode cX1_clefsThatFit 8 = .ok (.ireturn, 1) := by decide +kernel
theorem dX1_clashes_0 : decode cX1_clashes 0 = .ok (.aload_n 0, 1) := by decide +kernel
theorem dX1_clashes_1 : decode cX1_clashes 1 = .ok (.iload_n 1, 1) := by decide +kernel
theorem dX1_clashes_2 : decode cX1_clashes 2 = .ok (.invokevirtual 34, 3) := by decide +kernel
theorem dX1_clashes_5 : decode cX1_clashes 5 = .ok (.astore_n 3, 1) := by decide +kernel
theorem dX1_clashes_6 : decode cX1_clashes 6 = .ok (.aload_n 0, 1) := by decide +kernel
theorem dX1_clashes_7 : decode cX1_clashes 7 = .ok (.iload_n 2, 1) := by decide +kernel
theorem dX1_clashes_8 : decode cX1_clashes 8 = .ok (.invokevirtual 34, 3) := by decide +kernel
theorem dX1_clashes_11 : decode cX1_clashes 11 = .ok (.astore 4, 2) := by decide +kernel
theorem dX1_clashes_13 : decode cX1_clashes 13 = .ok (.aload_n 3, 1) := by decide +kernel
theorem dX1_clashes_14 : decode cX1_clashes 14 = .ok (.invokestatic 130, 3) := by decide +kernel
theorem dX1_clashes_17 : decode cX1_clashes 17 = .ok (.aload 4, 2) := by decide +kernel
theorem dX1_clashes_19 : decode cX1_clashes 19 = .ok (.invokestatic 130, 3) := by decide +kernel
theorem dX1_clashes_22 : decode cX1_clashes 22 = .ok (.aload_n 3, 1) := by decide +kernel
theorem dX1_clashes_23 : decode cX1_clashes 23 = .ok (.aload 4, 2) := by decide +kernel
theorem dX1_clashes_25 : decode cX1_clashes 25 = .ok (.iconst 0, 1) := by decide +kernel
theorem dX1_clashes_26 : decode cX1_clashes 26 = .ok (.iconst 2, 1) := by decide +kernel
theorem dX1_clashes_27 : decode cX1_clashes 27 = .ok (.aload 4, 2) := by decide +kernel
theorem dX1_clashes_29 : decode cX1_clashes 29 = .ok (.getfield 86, 3) := by decide +kernel
theorem dX1_clashes_32 : decode cX1_clashes 32 = .ok (.aload_n 3, 1) := by decide +kernel
theorem dX1_clashes_33 : decode cX1_clashes 33 = .ok (.getfield 86, 3) := by decide +kernel
theorem dX1_clashes_36 : decode cX1_clashes 36 = .ok (.isub, 1) := by decide +kernel
theorem dX1_clashes_37 : decode cX1_clashes 37 = .ok (.imul, 1) := by decide +kernel
theorem dX1_clashes_38 : decode cX1_clashes 38 = .ok (.invokestatic 140, 3) := by decide +kernel
theorem dX1_clashes_41 : decode cX1_clashes 41 = .ok (.ireturn, 1) := by decide +kernel
theorem dX1_firstClash_0 : decode cX1_firstClash 0 = .ok (.aload_n 0, 1) := by decide +kernel
theorem dX1_firstClash_1 : decode cX1_firstClash 1 = .ok (.iload_n 1, 1) := by decide +kernel
theorem dX1_firstClash_2 : decode cX1_firstClash 2 = .ok (.invokevirtual 34, 3) := by decide +kernel
theorem dX1_firstClash_5 : decode cX1_firstClash 5 = .ok (.astore_n 3, 1) := by decide +kernel
theorem dX1_firstClash_6 : decode cX1_firstClash 6 = .ok (.aload_n 0, 1) := by decide +kernel
theorem dX1_firstClash_7 : decode cX1_firstClash 7 = .ok (.iload_n 2, 1) := by decide +kernel
theorem dX1_firstClash_8 : decode cX1_firstClash 8 = .ok (.invokevirtual 34, 3) := by decide +kernel
theorem dX1_firstClash_11 : decode cX1_firstClash 11 = .ok (.astore 4, 2) := by decide +kernel
theorem dX1_firstClash_13 : decode cX1_firstClash 13 = .ok (.aload_n 3, 1) := by decide +kernel
theorem dX1_firstClash_14 : decode cX1_firstClash 14 = .ok (.invokestatic 130, 3) := by decide +kernel
theorem dX1_firstClash_17 : decode cX1_firstClash 17 = .ok (.aload 4, 2) := by decide +kernel
theorem dX1_firstClash_19 : decode cX1_firstClash 19 = .ok (.invokestatic 130, 3) := by decide +kernel
theorem dX1_firstClash_22 : decode cX1_firstClash 22 = .ok (.aload_n 3, 1) := by decide +kernel
theorem dX1_firstClash_23 : decode cX1_firstClash 23 = .ok (.aload 4, 2) := by decide +kernel
theorem dX1_firstClash_25 : decode cX1_firstClash 25 = .ok (.iconst 2, 1) := by decide +kernel
theorem dX1_firstClash_26 : decode cX1_firstClash 26 = .ok (.aload 4, 2) := by decide +kernel
theorem dX1_firstClash_28 : decode cX1_firstClash 28 = .ok (.getfield 86, 3) := by decide +kernel
theorem dX1_firstClash_31 : decode cX1_firstClash 31 = .ok (.aload_n 3, 1) := by decide +kernel
theorem dX1_firstClash_32 : decode cX1_firstClash 32 = .ok (.getfield 86, 3) := by decide +kernel
theorem dX1_firstClash_35 : decode cX1_firstClash 35 = .ok (.isub, 1) := by decide +kernel
theorem dX1_firstClash_36 : decode cX1_firstClash 36 = .ok (.imul, 1) := by decide +kernel
theorem dX1_firstClash_37 : decode cX1_firstClash 37 = .ok (.invokestatic 144, 3) := by decide +kernel
theorem dX1_firstClash_40 : decode cX1_firstClash 40 = .ok (.ireturn, 1) := by decide +kernel
theorem dX1_clashesWith_0 : decode cX1_clashesWith 0 = .ok (.aload_n 0, 1) := by decide +kernel
theorem dX1_clashesWith_1 : decode cX1_clashesWith 1 = .ok (.iload_n 1, 1) := by decide +kernel
theorem dX1_clashesWith_2 : decode cX1_clashesWith 2 = .ok (.invokevirtual 34, 3) := by decide +kernel
theorem dX1_clashesWith_5 : decode cX1_clashesWith 5 = .ok (.astore_n 3, 1) := by decide +kernel
theorem dX1_clashesWith_6 : decode cX1_clashesWith 6 = .ok (.iload_n 2, 1) := by decide +kernel
theorem dX1_clashesWith_7 : decode cX1_clashesWith 7 = .ok (.iconst 0, 1) := by decide +kernel
theorem dX1_clashesWith_8 : decode cX1_clashesWith 8 = .ok (.iconst 5, 1) := by decide +kernel
theorem dX1_clashesWith_9 : decode cX1_clashesWith 9 = .ok (.invokestatic 38, 3) := by decide +kernel
theorem dX1_clashesWith_12 : decode cX1_clashesWith 12 = .ok (.aload_n 0, 1) := by decide +kernel
theorem dX1_clashesWith_13 : decode cX1_clashesWith 13 = .ok (.aload_n 3, 1) := by decide +kernel
theorem dX1_clashesWith_14 : decode cX1_clashesWith 14 = .ok (.iload_n 2, 1) := by decide +kernel
theorem dX1_clashesWith_15 : decode cX1_clashesWith 15 = .ok (.invokevirtual 148, 3) := by decide +kernel
theorem dX1_clashesWith_18 : decode cX1_clashesWith 18 = .ok (.ireturn, 1) := by decide +kernel
theorem dX1_bestClef_0 : decode cX1_bestClef 0 = .ok (.aload_n 0, 1) := by decide +kernel
theorem dX1_bestClef_1 : decode cX1_bestClef 1 = .ok (.aload_n 0, 1) := by decide +kernel
theorem dX1_bestClef_2 : decode cX1_bestClef 2 = .ok (.iload_n 1, 1) := by decide +kernel
theorem dX1_bestClef_3 : decode cX1_bestClef 3 = .ok (.invokevirtual 34, 3) := by decide +kernel
theorem dX1_bestClef_6 : decode cX1_bestClef 6 = .ok (.invokevirtual 152, 3) := by decide +kernel
theorem dX1_bestClef_9 : decode cX1_bestClef 9 = .ok (.ireturn, 1) := by decide +kernel
theorem dX1_canonClashes_0 : decode cX1_canonClashes 0 = .ok (.aload_n 0, 1) := by decide +kernel
theorem dX1_canonClashes_1 : decode cX1_canonClashes 1 = .ok (.iload_n 1, 1) := by decide +kernel
theorem dX1_canonClashes_2 : decode cX1_canonClashes 2 = .ok (.invokevirtual 34, 3) := by decide +kernel
theorem dX1_canonClashes_5 : decode cX1_canonClashes 5 = .ok (.astore 4, 2) := by decide +kernel
theorem dX1_canonClashes_7 : decode cX1_canonClashes 7 = .ok (.iload_n 2, 1) := by decide +kernel
theorem dX1_canonClashes_8 : decode cX1_canonClashes 8 = .ok (.iconst 1, 1) := by decide +kernel
theorem dX1_canonClashes_9 : decode cX1_canonClashes 9 = .ok (.bipush 48, 2) := by decide +kernel
theorem dX1_canonClashes_11 : decode cX1_canonClashes 11 = .ok (.invokestatic 38, 3) := by decide +kernel
theorem dX1_canonClashes_14 : decode cX1_canonClashes 14 = .ok (.iload_n 3, 1) := by decide +kernel
theorem dX1_canonClashes_15 : decode cX1_canonClashes 15 = .ok (.bipush (-7), 2) := by decide +kernel
theorem dX1_canonClashes_17 : decode cX1_canonClashes 17 = .ok (.bipush 7, 2) := by decide +kernel
theorem dX1_canonClashes_19 : decode cX1_canonClashes 19 = .ok (.invokestatic 38, 3) := by decide +kernel
theorem dX1_canonClashes_22 : decode cX1_canonClashes 22 = .ok (.aload 4, 2) := by decide +kernel
theorem dX1_canonClashes_24 : decode cX1_canonClashes 24 = .ok (.aload 4, 2) := by decide +kernel
theorem dX1_canonClashes_26 : decode cX1_canonClashes 26 = .ok (.iload_n 2, 1) := by decide +kernel
theorem dX1_canonClashes_27 : decode cX1_canonClashes 27 = .ok (.iload_n 3, 1) := by decide +kernel
theorem dX1_canonClashes_28 : decode cX1_canonClashes 28 = .ok (.invokestatic 140, 3) := by decide +kernel
theorem dX1_canonClashes_31 : decode cX1_canonClashes 31 = .ok (.ireturn, 1) := by decide +kernel
theorem dX1_bestDelay_0 : decode cX1_bestDelay 0 = .ok (.aload_n 0, 1) := by decide +kernel
theorem dX1_bestDelay_1 : decode cX1_bestDelay 1 = .ok (.iload_n 1, 1) := by decide +kernel
theorem dX1_bestDelay_2 : decode cX1_bestDelay 2 = .ok (.invokevirtual 34, 3) := by decide +kernel
theorem dX1_bestDelay_5 : decode cX1_bestDelay 5 = .ok (.astore_n 3, 1) := by decide +kernel
theorem dX1_bestDelay_6 : decode cX1_bestDelay 6 = .ok (.iload_n 2, 1) := by decide +kernel
theorem dX1_bestDelay_7 : decode cX1_bestDelay 7 = .ok (.bipush (-7), 2) := by decide +kernel
theorem dX1_bestDelay_9 : decode cX1_bestDelay 9 = .ok (.bipush 7, 2) := by decide +kernel
theorem dX1_bestDelay_11 : decode cX1_bestDelay 11 = .ok (.invokestatic 38, 3) := by decide +kernel
theorem dX1_bestDelay_14 : decode cX1_bestDelay 14 = .ok (.aload_n 3, 1) := by decide +kernel
theorem dX1_bestDelay_15 : decode cX1_bestDelay 15 = .ok (.iload_n 2, 1) := by decide +kernel
theorem dX1_bestDelay_16 : decode cX1_bestDelay 16 = .ok (.invokestatic 156, 3) := by decide +kernel
theorem dX1_bestDelay_19 : decode cX1_bestDelay 19 = .ok (.ireturn, 1) := by decide +kernel
theorem dX1_meanLength_0 : decode cX1_meanLength 0 = .ok (.aload_n 0, 1) := by decide +kernel
theorem dX1_meanLength_1 : decode cX1_meanLength 1 = .ok (.getfield 20, 3) := by decide +kernel
theorem dX1_meanLength_4 : decode cX1_meanLength 4 = .ok (.ifCond .ne 5, 3) := by decide +kernel
theorem dX1_meanLength_7 : decode cX1_meanLength 7 = .ok (.dconst 0, 1) := by decide +kernel
theorem dX1_meanLength_8 : decode cX1_meanLength 8 = .ok (.dreturn, 1) := by decide +kernel
theorem dX1_meanLength_9 : decode cX1_meanLength 9 = .ok (.iconst 0, 1) := by decide +kernel
theorem dX1_meanLength_10 : decode cX1_meanLength 10 = .ok (.istore_n 1, 1) := by decide +kernel
theorem dX1_meanLength_11 : decode cX1_meanLength 11 = .ok (.iconst 0, 1) := by decide +kernel
theorem dX1_meanLength_12 : decode cX1_meanLength 12 = .ok (.istore_n 2, 1) := by decide +kernel
theorem dX1_meanLength_13 : decode cX1_meanLength 13 = .ok (.iload_n 2, 1) := by decide +kernel
theorem dX1_meanLength_14 : decode cX1_meanLength 14 = .ok (.aload_n 0, 1) := by decide +kernel
theorem dX1_meanLength_15 : decode cX1_meanLength 15 = .ok (.getfield 20, 3) := by decide +kernel
theorem dX1_meanLength_18 : decode cX1_meanLength 18 = .ok (.if_icmp .ge 21, 3) := by decide +kernel
theorem dX1_meanLength_21 : decode cX1_meanLength 21 = .ok (.iload_n 1, 1) := by decide +kernel
theorem dX1_meanLength_22 : decode cX1_meanLength 22 = .ok (.aload_n 0, 1) := by decide +kernel
theorem dX1_meanLength_23 : decode cX1_meanLength 23 = .ok (.getfield 11, 3) := by decide +kernel
theorem dX1_meanLength_26 : decode cX1_meanLength 26 = .ok (.iload_n 2, 1) := by decide +kernel
theorem dX1_meanLength_27 : decode cX1_meanLength 27 = .ok (.aaload, 1) := by decide +kernel
theorem dX1_meanLength_28 : decode cX1_meanLength 28 = .ok (.invokevirtual 89, 3) := by decide +kernel
theorem dX1_meanLength_31 : decode cX1_meanLength 31 = .ok (.iadd, 1) := by decide +kernel
theorem dX1_meanLength_32 : decode cX1_meanLength 32 = .ok (.istore_n 1, 1) := by decide +kernel
theorem dX1_meanLength_33 : decode cX1_meanLength 33 = .ok (.iinc 2 1, 3) := by decide +kernel
theorem dX1_meanLength_36 : decode cX1_meanLength 36 = .ok (.goto (-23), 3) := by decide +kernel
theorem dX1_meanLength_39 : decode cX1_meanLength 39 = .ok (.iload_n 1, 1) := by decide +kernel
theorem dX1_meanLength_40 : decode cX1_meanLength 40 = .ok (.i2d, 1) := by decide +kernel
theorem dX1_meanLength_41 : decode cX1_meanLength 41 = .ok (.aload_n 0, 1) := by decide +kernel
theorem dX1_meanLength_42 : decode cX1_meanLength 42 = .ok (.getfield 20, 3) := by decide +kernel
theorem dX1_meanLength_45 : decode cX1_meanLength 45 = .ok (.i2d, 1) := by decide +kernel
theorem dX1_meanLength_46 : decode cX1_meanLength 46 = .ok (.ddiv, 1) := by decide +kernel
theorem dX1_meanLength_47 : decode cX1_meanLength 47 = .ok (.dreturn, 1) := by decide +kernel
theorem dX1_digest_0 : decode cX1_digest 0 = .ok (.ldc2_w 159, 3) := by decide +kernel
theorem dX1_digest_3 : decode cX1_digest 3 = .ok (.aload_n 0, 1) := by decide +kernel
theorem dX1_digest_4 : decode cX1_digest 4 = .ok (.getfield 20, 3) := by decide +kernel
theorem dX1_digest_7 : decode cX1_digest 7 = .ok (.invokestatic 161, 3) := by decide +kernel
theorem dX1_digest_10 : decode cX1_digest 10 = .ok (.lstore_n 1, 1) := by decide +kernel
theorem dX1_digest_11 : decode cX1_digest 11 = .ok (.lload_n 1, 1) := by decide +kernel
theorem dX1_digest_12 : decode cX1_digest 12 = .ok (.aload_n 0, 1) := by decide +kernel
theorem dX1_digest_13 : decode cX1_digest 13 = .ok (.invokevirtual 165, 3) := by decide +kernel
theorem dX1_digest_16 : decode cX1_digest 16 = .ok (.invokestatic 161, 3) := by decide +kernel
theorem dX1_digest_19 : decode cX1_digest 19 = .ok (.lstore_n 1, 1) := by decide +kernel
theorem dX1_digest_20 : decode cX1_digest 20 = .ok (.iconst 0, 1) := by decide +kernel
theorem dX1_digest_21 : decode cX1_digest 21 = .ok (.istore_n 3, 1) := by decide +kernel
theorem dX1_digest_22 : decode cX1_digest 22 = .ok (.iload_n 3, 1) := by decide +kernel
theorem dX1_digest_23 : decode cX1_digest 23 = .ok (.aload_n 0, 1) := by decide +kernel
theorem dX1_digest_24 : decode cX1_digest 24 = .ok (.getfield 20, 3) := by decide +kernel
theorem dX1_digest_27 : decode cX1_digest 27 = .ok (.if_icmp .ge 21, 3) := by decide +kernel
theorem dX1_digest_30 : decode cX1_digest 30 = .ok (.aload_n 0, 1) := by decide +kernel
theorem dX1_digest_31 : decode cX1_digest 31 = .ok (.lload_n 1, 1) := by decide +kernel
theorem dX1_digest_32 : decode cX1_digest 32 = .ok (.aload_n 0, 1) := by decide +kernel
theorem dX1_digest_33 : decode cX1_digest 33 = .ok (.getfield 11, 3) := by decide +kernel
theorem dX1_digest_36 : decode cX1_digest 36 = .ok (.iload_n 3, 1) := by decide +kernel
theorem dX1_digest_37 : decode cX1_digest 37 = .ok (.aaload, 1) := by decide +kernel
theorem dX1_digest_38 : decode cX1_digest 38 = .ok (.invokevirtual 168, 3) := by decide +kernel
theorem dX1_digest_41 : decode cX1_digest 41 = .ok (.lstore_n 1, 1) := by decide +kernel
theorem dX1_digest_42 : decode cX1_digest 42 = .ok (.iinc 3 1, 3) := by decide +kernel
theorem dX1_digest_45 : decode cX1_digest 45 = .ok (.goto (-23), 3) := by decide +kernel
theorem dX1_digest_48 : decode cX1_digest 48 = .ok (.lload_n 1, 1) := by decide +kernel
theorem dX1_digest_49 : decode cX1_digest 49 = .ok (.lreturn, 1) := by decide +kernel
theorem dX1_knownVoice_0 : decode cX1_knownVoice 0 = .ok (.iload_n 1, 1) := by decide +kernel
theorem dX1_knownVoice_1 : decode cX1_knownVoice 1 = .ok (.ifCond .lt 11, 3) := by decide +kernel
theorem dX1_knownVoice_4 : decode cX1_knownVoice 4 = .ok (.iload_n 1, 1) := by decide +kernel
theorem dX1_knownVoice_5 : decode cX1_knownVoice 5 = .ok (.aload_n 0, 1) := by decide +kernel
theorem dX1_knownVoice_6 : decode cX1_knownVoice 6 = .ok (.getfield 20, 3) := by decide +kernel
theorem dX1_knownVoice_9 : decode cX1_knownVoice 9 = .ok (.if_icmp .lt 13, 3) := by decide +kernel
theorem dX1_knownVoice_12 : decode cX1_knownVoice 12 = .ok (.new 172, 3) := by decide +kernel
theorem dX1_knownVoice_15 : decode cX1_knownVoice 15 = .ok (.dup, 1) := by decide +kernel
theorem dX1_knownVoice_16 : decode cX1_knownVoice 16 = .ok (.ldc 174, 2) := by decide +kernel
theorem dX1_knownVoice_18 : decode cX1_knownVoice 18 = .ok (.invokespecial 176, 3) := by decide +kernel
theorem dX1_knownVoice_21 : decode cX1_knownVoice 21 = .ok (.athrow, 1) := by decide +kernel
theorem dX1_knownVoice_22 : decode cX1_knownVoice 22 = .ok (.aload_n 0, 1) := by decide +kernel
theorem dX1_knownVoice_23 : decode cX1_knownVoice 23 = .ok (.getfield 11, 3) := by decide +kernel
theorem dX1_knownVoice_26 : decode cX1_knownVoice 26 = .ok (.iload_n 1, 1) := by decide +kernel
theorem dX1_knownVoice_27 : decode cX1_knownVoice 27 = .ok (.aaload, 1) := by decide +kernel
theorem dX1_knownVoice_28 : decode cX1_knownVoice 28 = .ok (.areturn, 1) := by decide +kernel
theorem dX1_voiceWithSign_0 : decode cX1_voiceWithSign 0 = .ok (.aload_n 0, 1) := by decide +kernel
theorem dX1_voiceWithSign_1 : decode cX1_voiceWithSign 1 = .ok (.iload_n 1, 1) := by decide +kernel
theorem dX1_voiceWithSign_2 : decode cX1_voiceWithSign 2 = .ok (.invokevirtual 34, 3) := by decide +kernel
theorem dX1_voiceWithSign_5 : decode cX1_voiceWithSign 5 = .ok (.astore_n 3, 1) := by decide +kernel
theorem dX1_voiceWithSign_6 : decode cX1_voiceWithSign 6 = .ok (.iload_n 2, 1) := by decide +kernel
theorem dX1_voiceWithSign_7 : decode cX1_voiceWithSign 7 = .ok (.ifCond .lt 11, 3) := by decide +kernel
theorem dX1_voiceWithSign_10 : decode cX1_voiceWithSign 10 = .ok (.iload_n 2, 1) := by decide +kernel
theorem dX1_voiceWithSign_11 : decode cX1_voiceWithSign 11 = .ok (.aload_n 3, 1) := by decide +kernel
theorem dX1_voiceWithSign_12 : decode cX1_voiceWithSign 12 = .ok (.getfield 64, 3) := by decide +kernel
theorem dX1_voiceWithSign_15 : decode cX1_voiceWithSign 15 = .ok (.if_icmp .lt 13, 3) := by decide +kernel
theorem dX1_voiceWithSign_18 : decode cX1_voiceWithSign 18 = .ok (.new 172, 3) := by decide +kernel
theorem dX1_voiceWithSign_21 : decode cX1_voiceWithSign 21 = .ok (.dup, 1) := by decide +kernel
theorem dX1_voiceWithSign_22 : decode cX1_voiceWithSign 22 = .ok (.ldc 177, 2) := by decide +kernel
theorem dX1_voiceWithSign_24 : decode cX1_voiceWithSign 24 = .ok (.invokespecial 176, 3) := by decide +kernel
theorem dX1_voiceWithSign_27 : decode cX1_voiceWithSign 27 = .ok (.athrow, 1) := by decide +kernel
theorem dX1_voiceWithSign_28 : decode cX1_voiceWithSign 28 = .ok (.aload_n 3, 1) := by decide +kernel
theorem dX1_voiceWithSign_29 : decode cX1_voiceWithSign 29 = .ok (.areturn, 1) := by decide +kernel
theorem dX1_checkRange_0 : decode cX1_checkRange 0 = .ok (.iload_n 0, 1) := by decide +kernel
theorem dX1_checkRange_1 : decode cX1_checkRange 1 = .ok (.iload_n 1, 1) := by decide +kernel
theorem dX1_checkRange_2 : decode cX1_checkRange 2 = .ok (.if_icmp .lt 8, 3) := by decide +kernel
theorem dX1_checkRange_5 : decode cX1_checkRange 5 = .ok (.iload_n 0, 1) := by decide +kernel
theorem dX1_checkRange_6 : decode cX1_checkRange 6 = .ok (.iload_n 2, 1) := by decide +kernel
theorem dX1_checkRange_7 : decode cX1_checkRange 7 = .ok (.if_icmp .le 13, 3) := by decide +kernel
theorem dX1_checkRange_10 : decode cX1_checkRange 10 = .ok (.new 179, 3) := by decide +kernel
theorem dX1_checkRange_13 : decode cX1_checkRange 13 = .ok (.dup, 1) := by decide +kernel
theorem dX1_checkRange_14 : decode cX1_checkRange 14 = .ok (.ldc 181, 2) := by decide +kernel
theorem dX1_checkRange_16 : decode cX1_checkRange 16 = .ok (.invokespecial 183, 3) := by decide +kernel
theorem dX1_checkRange_19 : decode cX1_checkRange 19 = .ok (.athrow, 1) := by decide +kernel
theorem dX1_checkRange_20 : decode cX1_checkRange 20 = .ok (.return_, 1) := by decide +kernel
theorem dX1_checkMensuration_0 : decode cX1_checkMensuration 0 = .ok (.iload_n 0, 1) := by decide +kernel
theorem dX1_checkMensuration_1 : decode cX1_checkMensuration 1 = .ok (.iconst 2, 1) := by decide +kernel
theorem dX1_checkMensuration_2 : decode cX1_checkMensuration 2 = .ok (.iconst 3, 1) := by decide +kernel
theorem dX1_checkMensuration_3 : decode cX1_checkMensuration 3 = .ok (.invokestatic 38, 3) := by decide +kernel
theorem dX1_checkMensuration_6 : decode cX1_checkMensuration 6 = .ok (.iload_n 1, 1) := by decide +kernel
theorem dX1_checkMensuration_7 : decode cX1_checkMensuration 7 = .ok (.iconst 2, 1) := by decide +kernel
theorem dX1_checkMensuration_8 : decode cX1_checkMensuration 8 = .ok (.iconst 3, 1) := by decide +kernel
theorem dX1_checkMensuration_9 : decode cX1_checkMensuration 9 = .ok (.invokestatic 38, 3) := by decide +kernel
theorem dX1_checkMensuration_12 : decode cX1_checkMensuration 12 = .ok (.iload_n 2, 1) := by decide +kernel
theorem dX1_checkMensuration_13 : decode cX1_checkMensuration 13 = .ok (.iconst 2, 1) := by decide +kernel
theorem dX1_checkMensuration_14 : decode cX1_checkMensuration 14 = .ok (.iconst 3, 1) := by decide +kernel
theorem dX1_checkMensuration_15 : decode cX1_checkMensuration 15 = .ok (.invokestatic 38, 3) := by decide +kernel
theorem dX1_checkMensuration_18 : decode cX1_checkMensuration 18 = .ok (.return_, 1) := by decide +kernel
theorem dX1_checkLigature_0 : decode cX1_checkLigature 0 = .ok (.iload_n 0, 1) := by decide +kernel
theorem dX1_checkLigature_1 : decode cX1_checkLigature 1 = .ok (.iconst 0, 1) := by decide +kernel
theorem dX1_checkLigature_2 : decode cX1_checkLigature 2 = .ok (.bipush 9, 2) := by decide +kernel
theorem dX1_checkLigature_4 : decode cX1_checkLigature 4 = .ok (.invokestatic 38, 3) := by decide +kernel
theorem dX1_checkLigature_7 : decode cX1_checkLigature 7 = .ok (.iload_n 1, 1) := by decide +kernel
theorem dX1_checkLigature_8 : decode cX1_checkLigature 8 = .ok (.iconst 0, 1) := by decide +kernel
theorem dX1_checkLigature_9 : decode cX1_checkLigature 9 = .ok (.bipush 9, 2) := by decide +kernel
theorem dX1_checkLigature_11 : decode cX1_checkLigature 11 = .ok (.invokestatic 38, 3) := by decide +kernel
theorem dX1_checkLigature_14 : decode cX1_checkLigature 14 = .ok (.iload_n 2, 1) := by decide +kernel
theorem dX1_checkLigature_15 : decode cX1_checkLigature 15 = .ok (.iconst (-1), 1) := by decide +kernel
theorem dX1_checkLigature_16 : decode cX1_checkLigature 16 = .ok (.bipush 9, 2) := by decide +kernel
theorem dX1_checkLigature_18 : decode cX1_checkLigature 18 = .ok (.invokestatic 38, 3) := by decide +kernel
theorem dX1_checkLigature_21 : decode cX1_checkLigature 21 = .ok (.iload_n 1, 1) := by decide +kernel
theorem dX1_checkLigature_22 : decode cX1_checkLigature 22 = .ok (.iload_n 0, 1) := by decide +kernel
theorem dX1_checkLigature_23 : decode cX1_checkLigature 23 = .ok (.if_icmp .eq 8, 3) := by decide +kernel
theorem dX1_checkLigature_26 : decode cX1_checkLigature 26 = .ok (.iload_n 2, 1) := by decide +kernel
theorem dX1_checkLigature_27 : decode cX1_checkLigature 27 = .ok (.iload_n 1, 1) := by decide +kernel
theorem dX1_checkLigature_28 : decode cX1_checkLigature 28 = .ok (.if_icmp .ne 13, 3) := by decide +kernel
theorem dX1_checkLigature_31 : decode cX1_checkLigature 31 = .ok (.new 179, 3) := by decide +kernel
theorem dX1_checkLigature_34 : decode cX1_checkLigature 34 = .ok (.dup, 1) := by decide +kernel
theorem dX1_checkLigature_35 : decode cX1_checkLigature 35 = .ok (.ldc 184, 2) := by decide +kernel
theorem dX1_checkLigature_37 : decode cX1_checkLigature 37 = .ok (.invokespecial 183, 3) := by decide +kernel
theorem dX1_checkLigature_40 : decode cX1_checkLigature 40 = .ok (.athrow, 1) := by decide +kernel
theorem dX1_checkLigature_41 : decode cX1_checkLigature 41 = .ok (.return_, 1) := by decide +kernel
theorem dX1_checkRoom_0 : decode cX1_checkRoom 0 = .ok (.aload_n 0, 1) := by decide +kernel
theorem dX1_checkRoom_1 : decode cX1_checkRoom 1 = .ok (.getfield 64, 3) := by decide +kernel
theorem dX1_checkRoom_4 : decode cX1_checkRoom 4 = .ok (.iload_n 1, 1) := by decide +kernel
theorem dX1_checkRoom_5 : decode cX1_checkRoom 5 = .ok (.iadd, 1) := by decide +kernel
theorem dX1_checkRoom_6 : decode cX1_checkRoom 6 = .ok (.bipush 24, 2) := by decide +kernel
theorem dX1_checkRoom_8 : decode cX1_checkRoom 8 = .ok (.if_icmp .le 13, 3) := by decide +kernel
theorem dX1_checkRoom_11 : decode cX1_checkRoom 11 = .ok (.new 24, 3) := by decide +kernel
theorem dX1_checkRoom_14 : decode cX1_checkRoom 14 = .ok (.dup, 1) := by decide +kernel
theorem dX1_checkRoom_15 : decode cX1_checkRoom 15 = .ok (.ldc 186, 2) := by decide +kernel
theorem dX1_checkRoom_17 : decode cX1_checkRoom 17 = .ok (.invokespecial 28, 3) := by decide +kernel
theorem dX1_checkRoom_20 : decode cX1_checkRoom 20 = .ok (.athrow, 1) := by decide +kernel
theorem dX1_checkRoom_21 : decode cX1_checkRoom 21 = .ok (.return_, 1) := by decide +kernel
theorem dX1_checkHasClef_0 : decode cX1_checkHasClef 0 = .ok (.aload_n 0, 1) := by decide +kernel
theorem dX1_checkHasClef_1 : decode cX1_checkHasClef 1 = .ok (.getfield 86, 3) := by decide +kernel
theorem dX1_checkHasClef_4 : decode cX1_checkHasClef 4 = .ok (.iconst (-1), 1) := by decide +kernel
theorem dX1_checkHasClef_5 : decode cX1_checkHasClef 5 = .ok (.if_icmp .ne 13, 3) := by decide +kernel
theorem dX1_checkHasClef_8 : decode cX1_checkHasClef 8 = .ok (.new 24, 3) := by decide +kernel
theorem dX1_checkHasClef_11 : decode cX1_checkHasClef 11 = .ok (.dup, 1) := by decide +kernel
theorem dX1_checkHasClef_12 : decode cX1_checkHasClef 12 = .ok (.ldc 188, 2) := by decide +kernel
theorem dX1_checkHasClef_14 : decode cX1_checkHasClef 14 = .ok (.invokespecial 28, 3) := by decide +kernel
theorem dX1_checkHasClef_17 : decode cX1_checkHasClef 17 = .ok (.athrow, 1) := by decide +kernel
theorem dX1_checkHasClef_18 : decode cX1_checkHasClef 18 = .ok (.return_, 1) := by decide +kernel
theorem dX1_firstKind_0 : decode cX1_firstKind 0 = .ok (.iload_n 2, 1) := by decide +kernel
theorem dX1_firstKind_1 : decode cX1_firstKind 1 = .ok (.ifCond .eq 7, 3) := by decide +kernel
theorem dX1_firstKind_4 : decode cX1_firstKind 4 = .ok (.iconst 2, 1) := by decide +kernel
theorem dX1_firstKind_5 : decode cX1_firstKind 5 = .ok (.goto 8, 3) := by decide +kernel
theorem dX1_firstKind_8 : decode cX1_firstKind 8 = .ok (.iload_n 0, 1) := by decide +kernel
theorem dX1_firstKind_9 : decode cX1_firstKind 9 = .ok (.iload_n 1, 1) := by decide +kernel
theorem dX1_firstKind_10 : decode cX1_firstKind 10 = .ok (.invokestatic 60, 3) := by decide +kernel
theorem dX1_firstKind_13 : decode cX1_firstKind 13 = .ok (.ireturn, 1) := by decide +kernel
theorem dX1_secondKind_0 : decode cX1_secondKind 0 = .ok (.iload_n 3, 1) := by decide +kernel
theorem dX1_secondKind_1 : decode cX1_secondKind 1 = .ok (.ifCond .eq 5, 3) := by decide +kernel
theorem dX1_secondKind_4 : decode cX1_secondKind 4 = .ok (.iconst 2, 1) := by decide +kernel
theorem dX1_secondKind_5 : decode cX1_secondKind 5 = .ok (.ireturn, 1) := by decide +kernel
theorem dX1_secondKind_6 : decode cX1_secondKind 6 = .ok (.iload_n 2, 1) := by decide +kernel
theorem dX1_secondKind_7 : decode cX1_secondKind 7 = .ok (.ifCond .eq 7, 3) := by decide +kernel
theorem dX1_secondKind_10 : decode cX1_secondKind 10 = .ok (.iconst 1, 1) := by decide +kernel
theorem dX1_secondKind_11 : decode cX1_secondKind 11 = .ok (.goto 8, 3) := by decide +kernel
theorem dX1_secondKind_14 : decode cX1_secondKind 14 = .ok (.iload_n 0, 1) := by decide +kernel
theorem dX1_secondKind_15 : decode cX1_secondKind 15 = .ok (.iload_n 1, 1) := by decide +kernel
theorem dX1_secondKind_16 : decode cX1_secondKind 16 = .ok (.invokestatic 60, 3) := by decide +kernel
theorem dX1_secondKind_19 : decode cX1_secondKind 19 = .ok (.ireturn, 1) := by decide +kernel
theorem dX1_lastKind_0 : decode cX1_lastKind 0 = .ok (.iload_n 1, 1) := by decide +kernel
theorem dX1_lastKind_1 : decode cX1_lastKind 1 = .ok (.iload_n 0, 1) := by decide +kernel
theorem dX1_lastKind_2 : decode cX1_lastKind 2 = .ok (.if_icmp .ge 7, 3) := by decide +kernel
theorem dX1_lastKind_5 : decode cX1_lastKind 5 = .ok (.iconst 0, 1) := by decide +kernel
theorem dX1_lastKind_6 : decode cX1_lastKind 6 = .ok (.goto 4, 3) := by decide +kernel
theorem dX1_lastKind_9 : decode cX1_lastKind 9 = .ok (.iconst 1, 1) := by decide +kernel
theorem dX1_lastKind_10 : decode cX1_lastKind 10 = .ok (.ireturn, 1) := by decide +kernel
theorem dX1_clashingMinims_0 : decode cX1_clashingMinims 0 = .ok (.iconst 0, 1) := by decide +kernel
theorem dX1_clashingMinims_1 : decode cX1_clashingMinims 1 = .ok (.istore 4, 2) := by decide +kernel
theorem dX1_clashingMinims_3 : decode cX1_clashingMinims 3 = .ok (.iconst 0, 1) := by decide +kernel
theorem dX1_clashingMinims_4 : decode cX1_clashingMinims 4 = .ok (.istore 5, 2) := by decide +kernel
theorem dX1_clashingMinims_6 : decode cX1_clashingMinims 6 = .ok (.iconst 0, 1) := by decide +kernel
theorem dX1_clashingMinims_7 : decode cX1_clashingMinims 7 = .ok (.istore 6, 2) := by decide +kernel
theorem dX1_clashingMinims_9 : decode cX1_clashingMinims 9 = .ok (.iload 5, 2) := by decide +kernel
theorem dX1_clashingMinims_11 : decode cX1_clashingMinims 11 = .ok (.aload_n 0, 1) := by decide +kernel
theorem dX1_clashingMinims_12 : decode cX1_clashingMinims 12 = .ok (.getfield 64, 3) := by decide +kernel
theorem dX1_clashingMinims_15 : decode cX1_clashingMinims 15 = .ok (.if_icmp .ge 115, 3) := by decide +kernel
theorem dX1_clashingMinims_18 : decode cX1_clashingMinims 18 = .ok (.iload 6, 2) := by decide +kernel
theorem dX1_clashingMinims_20 : decode cX1_clashingMinims 20 = .ok (.aload_n 1, 1) := by decide +kernel
theorem dX1_clashingMinims_21 : decode cX1_clashingMinims 21 = .ok (.getfield 64, 3) := by decide +kernel
theorem dX1_clashingMinims_24 : decode cX1_clashingMinims 24 = .ok (.if_icmp .ge 106, 3) := by decide +kernel
theorem dX1_clashingMinims_27 : decode cX1_clashingMinims 27 = .ok (.aload_n 0, 1) := by decide +kernel
theorem dX1_clashingMinims_28 : decode cX1_clashingMinims 28 = .ok (.getfield 116, 3) := by decide +kernel
theorem dX1_clashingMinims_31 : decode cX1_clashingMinims 31 = .ok (.iload 5, 2) := by decide +kernel
theorem dX1_clashingMinims_33 : decode cX1_clashingMinims 33 = .ok (.iconst 1, 1) := by decide +kernel
theorem dX1_clashingMinims_34 : decode cX1_clashingMinims 34 = .ok (.iadd, 1) := by decide +kernel
theorem dX1_clashingMinims_35 : decode cX1_clashingMinims 35 = .ok (.iaload, 1) := by decide +kernel
theorem dX1_clashingMinims_36 : decode cX1_clashingMinims 36 = .ok (.istore 7, 2) := by decide +kernel
theorem dX1_clashingMinims_38 : decode cX1_clashingMinims 38 = .ok (.aload_n 1, 1) := by decide +kernel
theorem dX1_clashingMinims_39 : decode cX1_clashingMinims 39 = .ok (.getfield 116, 3) := by decide +kernel
theorem dX1_clashingMinims_42 : decode cX1_clashingMinims 42 = .ok (.iload 6, 2) := by decide +kernel
theorem dX1_clashingMinims_44 : decode cX1_clashingMinims 44 = .ok (.iconst 1, 1) := by decide +kernel
theorem dX1_clashingMinims_45 : decode cX1_clashingMinims 45 = .ok (.iadd, 1) := by decide +kernel
theorem dX1_clashingMinims_46 : decode cX1_clashingMinims 46 = .ok (.iaload, 1) := by decide +kernel
theorem dX1_clashingMinims_47 : decode cX1_clashingMinims 47 = .ok (.iload_n 2, 1) := by decide +kernel
theorem dX1_clashingMinims_48 : decode cX1_clashingMinims 48 = .ok (.iadd, 1) := by decide +kernel
theorem dX1_clashingMinims_49 : decode cX1_clashingMinims 49 = .ok (.istore 8, 2) := by decide +kernel
theorem dX1_clashingMinims_51 : decode cX1_clashingMinims 51 = .ok (.aload_n 0, 1) := by decide +kernel
theorem dX1_clashingMinims_52 : decode cX1_clashingMinims 52 = .ok (.getfield 116, 3) := by decide +kernel
theorem dX1_clashingMinims_55 : decode cX1_clashingMinims 55 = .ok (.iload 5, 2) := by decide +kernel
theorem dX1_clashingMinims_57 : decode cX1_clashingMinims 57 = .ok (.iaload, 1) := by decide +kernel
theorem dX1_clashingMinims_58 : decode cX1_clashingMinims 58 = .ok (.aload_n 1, 1) := by decide +kernel
theorem dX1_clashingMinims_59 : decode cX1_clashingMinims 59 = .ok (.getfield 116, 3) := by decide +kernel
theorem dX1_clashingMinims_62 : decode cX1_clashingMinims 62 = .ok (.iload 6, 2) := by decide +kernel
theorem dX1_clashingMinims_64 : decode cX1_clashingMinims 64 = .ok (.iaload, 1) := by decide +kernel
theorem dX1_clashingMinims_65 : decode cX1_clashingMinims 65 = .ok (.iload_n 2, 1) := by decide +kernel
theorem dX1_clashingMinims_66 : decode cX1_clashingMinims 66 = .ok (.iadd, 1) := by decide +kernel
theorem dX1_clashingMinims_67 : decode cX1_clashingMinims 67 = .ok (.invokestatic 119, 3) := by decide +kernel
theorem dX1_clashingMinims_70 : decode cX1_clashingMinims 70 = .ok (.istore 9, 2) := by decide +kernel
theorem dX1_clashingMinims_72 : decode cX1_clashingMinims 72 = .ok (.iload 7, 2) := by decide +kernel
theorem dX1_clashingMinims_74 : decode cX1_clashingMinims 74 = .ok (.iload 8, 2) := by decide +kernel
theorem dX1_clashingMinims_76 : decode cX1_clashingMinims 76 = .ok (.invokestatic 190, 3) := by decide +kernel
theorem dX1_clashingMinims_79 : decode cX1_clashingMinims 79 = .ok (.istore 10, 2) := by decide +kernel
theorem dX1_clashingMinims_81 : decode cX1_clashingMinims 81 = .ok (.iload 9, 2) := by decide +kernel
theorem dX1_clashingMinims_83 : decode cX1_clashingMinims 83 = .ok (.iload 10, 2) := by decide +kernel
theorem dX1_clashingMinims_85 : decode cX1_clashingMinims 85 = .ok (.if_icmp .ge 26, 3) := by decide +kernel
theorem dX1_clashingMinims_88 : decode cX1_clashingMinims 88 = .ok (.aload_n 0, 1) := by decide +kernel
theorem dX1_clashingMinims_89 : decode cX1_clashingMinims 89 = .ok (.iload 5, 2) := by decide +kernel
theorem dX1_clashingMinims_91 : decode cX1_clashingMinims 91 = .ok (.aload_n 1, 1) := by decide +kernel
theorem dX1_clashingMinims_92 : decode cX1_clashingMinims 92 = .ok (.iload 6, 2) := by decide +kernel
theorem dX1_clashingMinims_94 : decode cX1_clashingMinims 94 = .ok (.iload_n 3, 1) := by decide +kernel
theorem dX1_clashingMinims_95 : decode cX1_clashingMinims 95 = .ok (.invokestatic 193, 3) := by decide +kernel
theorem dX1_clashingMinims_98 : decode cX1_clashingMinims 98 = .ok (.ifCond .eq 13, 3) := by decide +kernel
theorem dX1_clashingMinims_101 : decode cX1_clashingMinims 101 = .ok (.iload 4, 2) := by decide +kernel
theorem dX1_clashingMinims_103 : decode cX1_clashingMinims 103 = .ok (.iload 10, 2) := by decide +kernel
theorem dX1_clashingMinims_105 : decode cX1_clashingMinims 105 = .ok (.iload 9, 2) := by decide +kernel
theorem dX1_clashingMinims_107 : decode cX1_clashingMinims 107 = .ok (.isub, 1) := by decide +kernel
theorem dX1_clashingMinims_108 : decode cX1_clashingMinims 108 = .ok (.iadd, 1) := by decide +kernel
theorem dX1_clashingMinims_109 : decode cX1_clashingMinims 109 = .ok (.istore 4, 2) := by decide +kernel
theorem dX1_clashingMinims_111 : decode cX1_clashingMinims 111 = .ok (.iload 7, 2) := by decide +kernel
theorem dX1_clashingMinims_113 : decode cX1_clashingMinims 113 = .ok (.iload 8, 2) := by decide +kernel
theorem dX1_clashingMinims_115 : decode cX1_clashingMinims 115 = .ok (.if_icmp .gt 9, 3) := by decide +kernel
theorem dX1_clashingMinims_118 : decode cX1_clashingMinims 118 = .ok (.iinc 5 1, 3) := by decide +kernel
theorem dX1_clashingMinims_121 : decode cX1_clashingMinims 121 = .ok (.goto 6, 3) := by decide +kernel
theorem dX1_clashingMinims_124 : decode cX1_clashingMinims 124 = .ok (.iinc 6 1, 3) := by decide +kernel
theorem dX1_clashingMinims_127 : decode cX1_clashingMinims 127 = .ok (.goto (-118), 3) := by decide +kernel
theorem dX1_clashingMinims_130 : decode cX1_clashingMinims 130 = .ok (.iload 4, 2) := by decide +kernel
theorem dX1_clashingMinims_132 : decode cX1_clashingMinims 132 = .ok (.ireturn, 1) := by decide +kernel
theorem dX1_firstClashingMinim_0 : decode cX1_firstClashingMinim 0 = .ok (.iconst 0, 1) := by decide +kernel
theorem dX1_firstClashingMinim_1 : decode cX1_firstClashingMinim 1 = .ok (.istore_n 3, 1) := by decide +kernel
theorem dX1_firstClashingMinim_2 : decode cX1_firstClashingMinim 2 = .ok (.iconst 0, 1) := by decide +kernel
theorem dX1_firstClashingMinim_3 : decode cX1_firstClashingMinim 3 = .ok (.istore 4, 2) := by decide +kernel
theorem dX1_firstClashingMinim_5 : decode cX1_firstClashingMinim 5 = .ok (.iload_n 3, 1) := by decide +kernel
theorem dX1_firstClashingMinim_6 : decode cX1_firstClashingMinim 6 = .ok (.aload_n 0, 1) := by decide +kernel
theorem dX1_firstClashingMinim_7 : decode cX1_firstClashingMinim 7 = .ok (.getfield 64, 3) := by decide +kernel
theorem dX1_firstClashingMinim_10 : decode cX1_firstClashingMinim 10 = .ok (.if_icmp .ge 101, 3) := by decide +kernel
theorem dX1_firstClashingMinim_13 : decode cX1_firstClashingMinim 13 = .ok (.iload 4, 2) := by decide +kernel
theorem dX1_firstClashingMinim_15 : decode cX1_firstClashingMinim 15 = .ok (.aload_n 1, 1) := by decide +kernel
theorem dX1_firstClashingMinim_16 : decode cX1_firstClashingMinim 16 = .ok (.getfield 64, 3) := by decide +kernel
theorem dX1_firstClashingMinim_19 : decode cX1_firstClashingMinim 19 = .ok (.if_icmp .ge 92, 3) := by decide +kernel
theorem dX1_firstClashingMinim_22 : decode cX1_firstClashingMinim 22 = .ok (.aload_n 0, 1) := by decide +kernel
theorem dX1_firstClashingMinim_23 : decode cX1_firstClashingMinim 23 = .ok (.getfield 116, 3) := by decide +kernel
theorem dX1_firstClashingMinim_26 : decode cX1_firstClashingMinim 26 = .ok (.iload_n 3, 1) := by decide +kernel
theorem dX1_firstClashingMinim_27 : decode cX1_firstClashingMinim 27 = .ok (.iconst 1, 1) := by decide +kernel
theorem dX1_firstClashingMinim_28 : decode cX1_firstClashingMinim 28 = .ok (.iadd, 1) := by decide +kernel
theorem dX1_firstClashingMinim_29 : decode cX1_firstClashingMinim 29 = .ok (.iaload, 1) := by decide +kernel
theorem dX1_firstClashingMinim_30 : decode cX1_firstClashingMinim 30 = .ok (.istore 5, 2) := by decide +kernel
theorem dX1_firstClashingMinim_32 : decode cX1_firstClashingMinim 32 = .ok (.aload_n 1, 1) := by decide +kernel
theorem dX1_firstClashingMinim_33 : decode cX1_firstClashingMinim 33 = .ok (.getfield 116, 3) := by decide +kernel
theorem dX1_firstClashingMinim_36 : decode cX1_firstClashingMinim 36 = .ok (.iload 4, 2) := by decide +kernel
theorem dX1_firstClashingMinim_38 : decode cX1_firstClashingMinim 38 = .ok (.iconst 1, 1) := by decide +kernel
theorem dX1_firstClashingMinim_39 : decode cX1_firstClashingMinim 39 = .ok (.iadd, 1) := by decide +kernel
theorem dX1_firstClashingMinim_40 : decode cX1_firstClashingMinim 40 = .ok (.iaload, 1) := by decide +kernel
theorem dX1_firstClashingMinim_41 : decode cX1_firstClashingMinim 41 = .ok (.istore 6, 2) := by decide +kernel
theorem dX1_firstClashingMinim_43 : decode cX1_firstClashingMinim 43 = .ok (.aload_n 0, 1) := by decide +kernel
theorem dX1_firstClashingMinim_44 : decode cX1_firstClashingMinim 44 = .ok (.getfield 116, 3) := by decide +kernel
theorem dX1_firstClashingMinim_47 : decode cX1_firstClashingMinim 47 = .ok (.iload_n 3, 1) := by decide +kernel
theorem dX1_firstClashingMinim_48 : decode cX1_firstClashingMinim 48 = .ok (.iaload, 1) := by decide +kernel
theorem dX1_firstClashingMinim_49 : decode cX1_firstClashingMinim 49 = .ok (.aload_n 1, 1) := by decide +kernel
theorem dX1_firstClashingMinim_50 : decode cX1_firstClashingMinim 50 = .ok (.getfield 116, 3) := by decide +kernel
theorem dX1_firstClashingMinim_53 : decode cX1_firstClashingMinim 53 = .ok (.iload 4, 2) := by decide +kernel
theorem dX1_firstClashingMinim_55 : decode cX1_firstClashingMinim 55 = .ok (.iaload, 1) := by decide +kernel
theorem dX1_firstClashingMinim_56 : decode cX1_firstClashingMinim 56 = .ok (.invokestatic 119, 3) := by decide +kernel
theorem dX1_firstClashingMinim_59 : decode cX1_firstClashingMinim 59 = .ok (.istore 7, 2) := by decide +kernel
theorem dX1_firstClashingMinim_61 : decode cX1_firstClashingMinim 61 = .ok (.iload 5, 2) := by decide +kernel
theorem dX1_firstClashingMinim_63 : decode cX1_firstClashingMinim 63 = .ok (.iload 6, 2) := by decide +kernel
theorem dX1_firstClashingMinim_65 : decode cX1_firstClashingMinim 65 = .ok (.invokestatic 190, 3) := by decide +kernel
theorem dX1_firstClashingMinim_68 : decode cX1_firstClashingMinim 68 = .ok (.istore 8, 2) := by decide +kernel
theorem dX1_firstClashingMinim_70 : decode cX1_firstClashingMinim 70 = .ok (.iload 7, 2) := by decide +kernel
theorem dX1_firstClashingMinim_72 : decode cX1_firstClashingMinim 72 = .ok (.iload 8, 2) := by decide +kernel
theorem dX1_firstClashingMinim_74 : decode cX1_firstClashingMinim 74 = .ok (.if_icmp .ge 18, 3) := by decide +kernel
theorem dX1_firstClashingMinim_77 : decode cX1_firstClashingMinim 77 = .ok (.aload_n 0, 1) := by decide +kernel
theorem dX1_firstClashingMinim_78 : decode cX1_firstClashingMinim 78 = .ok (.iload_n 3, 1) := by decide +kernel
theorem dX1_firstClashingMinim_79 : decode cX1_firstClashingMinim 79 = .ok (.aload_n 1, 1) := by decide +kernel
theorem dX1_firstClashingMinim_80 : decode cX1_firstClashingMinim 80 = .ok (.iload 4, 2) := by decide +kernel
theorem dX1_firstClashingMinim_82 : decode cX1_firstClashingMinim 82 = .ok (.iload_n 2, 1) := by decide +kernel
theorem dX1_firstClashingMinim_83 : decode cX1_firstClashingMinim 83 = .ok (.invokestatic 193, 3) := by decide +kernel
theorem dX1_firstClashingMinim_86 : decode cX1_firstClashingMinim 86 = .ok (.ifCond .eq 6, 3) := by decide +kernel
theorem dX1_firstClashingMinim_89 : decode cX1_firstClashingMinim 89 = .ok (.iload 7, 2) := by decide +kernel
theorem dX1_firstClashingMinim_91 : decode cX1_firstClashingMinim 91 = .ok (.ireturn, 1) := by decide +kernel
theorem dX1_firstClashingMinim_92 : decode cX1_firstClashingMinim 92 = .ok (.iload 5, 2) := by decide +kernel
theorem dX1_firstClashingMinim_94 : decode cX1_firstClashingMinim 94 = .ok (.iload 6, 2) := by decide +kernel
theorem dX1_firstClashingMinim_96 : decode cX1_firstClashingMinim 96 = .ok (.if_icmp .gt 9, 3) := by decide +kernel
theorem dX1_firstClashingMinim_99 : decode cX1_firstClashingMinim 99 = .ok (.iinc 3 1, 3) := by decide +kernel
theorem dX1_firstClashingMinim_102 : decode cX1_firstClashingMinim 102 = .ok (.goto 6, 3) := by decide +kernel
theorem dX1_firstClashingMinim_105 : decode cX1_firstClashingMinim 105 = .ok (.iinc 4 1, 3) := by decide +kernel
theorem dX1_firstClashingMinim_108 : decode cX1_firstClashingMinim 108 = .ok (.goto (-103), 3) := by decide +kernel
theorem dX1_firstClashingMinim_111 : decode cX1_firstClashingMinim 111 = .ok (.iconst (-1), 1) := by decide +kernel
theorem dX1_firstClashingMinim_112 : decode cX1_firstClashingMinim 112 = .ok (.ireturn, 1) := by decide +kernel
theorem dX1_signsClash_0 : decode cX1_signsClash 0 = .ok (.aload_n 0, 1) := by decide +kernel
theorem dX1_signsClash_1 : decode cX1_signsClash 1 = .ok (.iload_n 1, 1) := by decide +kernel
theorem dX1_signsClash_2 : decode cX1_signsClash 2 = .ok (.invokevirtual 77, 3) := by decide +kernel
theorem dX1_signsClash_5 : decode cX1_signsClash 5 = .ok (.ifCond .ne 11, 3) := by decide +kernel
theorem dX1_signsClash_8 : decode cX1_signsClash 8 = .ok (.aload_n 2, 1) := by decide +kernel
theorem dX1_signsClash_9 : decode cX1_signsClash 9 = .ok (.iload_n 3, 1) := by decide +kernel
theorem dX1_signsClash_10 : decode cX1_signsClash 10 = .ok (.invokevirtual 77, 3) := by decide +kernel
theorem dX1_signsClash_13 : decode cX1_signsClash 13 = .ok (.ifCond .eq 5, 3) := by decide +kernel
theorem dX1_signsClash_16 : decode cX1_signsClash 16 = .ok (.iconst 0, 1) := by decide +kernel
theorem dX1_signsClash_17 : decode cX1_signsClash 17 = .ok (.ireturn, 1) := by decide +kernel
theorem dX1_signsClash_18 : decode cX1_signsClash 18 = .ok (.aload_n 0, 1) := by decide +kernel
theorem dX1_signsClash_19 : decode cX1_signsClash 19 = .ok (.getfield 102, 3) := by decide +kernel
theorem dX1_signsClash_22 : decode cX1_signsClash 22 = .ok (.iload_n 1, 1) := by decide +kernel
theorem dX1_signsClash_23 : decode cX1_signsClash 23 = .ok (.iaload, 1) := by decide +kernel
theorem dX1_signsClash_24 : decode cX1_signsClash 24 = .ok (.aload_n 2, 1) := by decide +kernel
theorem dX1_signsClash_25 : decode cX1_signsClash 25 = .ok (.getfield 102, 3) := by decide +kernel
theorem dX1_signsClash_28 : decode cX1_signsClash 28 = .ok (.iload_n 3, 1) := by decide +kernel
theorem dX1_signsClash_29 : decode cX1_signsClash 29 = .ok (.iaload, 1) := by decide +kernel
theorem dX1_signsClash_30 : decode cX1_signsClash 30 = .ok (.isub, 1) := by decide +kernel
theorem dX1_signsClash_31 : decode cX1_signsClash 31 = .ok (.iload 4, 2) := by decide +kernel
theorem dX1_signsClash_33 : decode cX1_signsClash 33 = .ok (.isub, 1) := by decide +kernel
theorem dX1_signsClash_34 : decode cX1_signsClash 34 = .ok (.invokestatic 197, 3) := by decide +kernel
theorem dX1_signsClash_37 : decode cX1_signsClash 37 = .ok (.bipush 7, 2) := by decide +kernel
theorem dX1_signsClash_39 : decode cX1_signsClash 39 = .ok (.irem, 1) := by decide +kernel
theorem dX1_signsClash_40 : decode cX1_signsClash 40 = .ok (.istore 5, 2) := by decide +kernel
theorem dX1_signsClash_42 : decode cX1_signsClash 42 = .ok (.iload 5, 2) := by decide +kernel
theorem dX1_signsClash_44 : decode cX1_signsClash 44 = .ok (.iconst 1, 1) := by decide +kernel
theorem dX1_signsClash_45 : decode cX1_signsClash 45 = .ok (.if_icmp .eq 16, 3) := by decide +kernel
theorem dX1_signsClash_48 : decode cX1_signsClash 48 = .ok (.iload 5, 2) := by decide +kernel
theorem dX1_signsClash_50 : decode cX1_signsClash 50 = .ok (.iconst 3, 1) := by decide +kernel
theorem dX1_signsClash_51 : decode cX1_signsClash 51 = .ok (.if_icmp .eq 10, 3) := by decide +kernel
theorem dX1_signsClash_54 : decode cX1_signsClash 54 = .ok (.iload 5, 2) := by decide +kernel
theorem dX1_signsClash_56 : decode cX1_signsClash 56 = .ok (.bipush 6, 2) := by decide +kernel
theorem dX1_signsClash_58 : decode cX1_signsClash 58 = .ok (.if_icmp .ne 7, 3) := by decide +kernel
theorem dX1_signsClash_61 : decode cX1_signsClash 61 = .ok (.iconst 1, 1) := by decide +kernel
theorem dX1_signsClash_62 : decode cX1_signsClash 62 = .ok (.goto 4, 3) := by decide +kernel
theorem dX1_signsClash_65 : decode cX1_signsClash 65 = .ok (.iconst 0, 1) := by decide +kernel
theorem dX1_signsClash_66 : decode cX1_signsClash 66 = .ok (.ireturn, 1) := by decide +kernel
theorem dX1_clashesIfClef_0 : decode cX1_clashesIfClef 0 = .ok (.iconst 0, 1) := by decide +kernel
theorem dX1_clashesIfClef_1 : decode cX1_clashesIfClef 1 = .ok (.istore_n 3, 1) := by decide +kernel
theorem dX1_clashesIfClef_2 : decode cX1_clashesIfClef 2 = .ok (.iconst 0, 1) := by decide +kernel
theorem dX1_clashesIfClef_3 : decode cX1_clashesIfClef 3 = .ok (.istore 4, 2) := by decide +kernel
theorem dX1_clashesIfClef_5 : decode cX1_clashesIfClef 5 = .ok (.iload 4, 2) := by decide +kernel
theorem dX1_clashesIfClef_7 : decode cX1_clashesIfClef 7 = .ok (.aload_n 0, 1) := by decide +kernel
theorem dX1_clashesIfClef_8 : decode cX1_clashesIfClef 8 = .ok (.getfield 20, 3) := by decide +kernel
theorem dX1_clashesIfClef_11 : decode cX1_clashesIfClef 11 = .ok (.if_icmp .ge 52, 3) := by decide +kernel
theorem dX1_clashesIfClef_14 : decode cX1_clashesIfClef 14 = .ok (.aload_n 0, 1) := by decide +kernel
theorem dX1_clashesIfClef_15 : decode cX1_clashesIfClef 15 = .ok (.getfield 11, 3) := by decide +kernel
theorem dX1_clashesIfClef_18 : decode cX1_clashesIfClef 18 = .ok (.iload 4, 2) := by decide +kernel
theorem dX1_clashesIfClef_20 : decode cX1_clashesIfClef 20 = .ok (.aaload, 1) := by decide +kernel
theorem dX1_clashesIfClef_21 : decode cX1_clashesIfClef 21 = .ok (.astore 5, 2) := by decide +kernel
theorem dX1_clashesIfClef_23 : decode cX1_clashesIfClef 23 = .ok (.aload 5, 2) := by decide +kernel
theorem dX1_clashesIfClef_25 : decode cX1_clashesIfClef 25 = .ok (.aload_n 1, 1) := by decide +kernel
theorem dX1_clashesIfClef_26 : decode cX1_clashesIfClef 26 = .ok (.if_acmp .eq 31, 3) := by decide +kernel
theorem dX1_clashesIfClef_29 : decode cX1_clashesIfClef 29 = .ok (.aload 5, 2) := by decide +kernel
theorem dX1_clashesIfClef_31 : decode cX1_clashesIfClef 31 = .ok (.getfield 86, 3) := by decide +kernel
theorem dX1_clashesIfClef_34 : decode cX1_clashesIfClef 34 = .ok (.iconst (-1), 1) := by decide +kernel
theorem dX1_clashesIfClef_35 : decode cX1_clashesIfClef 35 = .ok (.if_icmp .eq 22, 3) := by decide +kernel
theorem dX1_clashesIfClef_38 : decode cX1_clashesIfClef 38 = .ok (.iload_n 3, 1) := by decide +kernel
theorem dX1_clashesIfClef_39 : decode cX1_clashesIfClef 39 = .ok (.aload_n 1, 1) := by decide +kernel
theorem dX1_clashesIfClef_40 : decode cX1_clashesIfClef 40 = .ok (.aload 5, 2) := by decide +kernel
theorem dX1_clashesIfClef_42 : decode cX1_clashesIfClef 42 = .ok (.iconst 0, 1) := by decide +kernel
theorem dX1_clashesIfClef_43 : decode cX1_clashesIfClef 43 = .ok (.iconst 2, 1) := by decide +kernel
theorem dX1_clashesIfClef_44 : decode cX1_clashesIfClef 44 = .ok (.aload 5, 2) := by decide +kernel
theorem dX1_clashesIfClef_46 : decode cX1_clashesIfClef 46 = .ok (.getfield 86, 3) := by decide +kernel
theorem dX1_clashesIfClef_49 : decode cX1_clashesIfClef 49 = .ok (.iload_n 2, 1) := by decide +kernel
theorem dX1_clashesIfClef_50 : decode cX1_clashesIfClef 50 = .ok (.isub, 1) := by decide +kernel
theorem dX1_clashesIfClef_51 : decode cX1_clashesIfClef 51 = .ok (.imul, 1) := by decide +kernel
theorem dX1_clashesIfClef_52 : decode cX1_clashesIfClef 52 = .ok (.invokestatic 140, 3) := by decide +kernel
theorem dX1_clashesIfClef_55 : decode cX1_clashesIfClef 55 = .ok (.iadd, 1) := by decide +kernel
theorem dX1_clashesIfClef_56 : decode cX1_clashesIfClef 56 = .ok (.istore_n 3, 1) := by decide +kernel
theorem dX1_clashesIfClef_57 : decode cX1_clashesIfClef 57 = .ok (.iinc 4 1, 3) := by decide +kernel
theorem dX1_clashesIfClef_60 : decode cX1_clashesIfClef 60 = .ok (.goto (-55), 3) := by decide +kernel
theorem dX1_clashesIfClef_63 : decode cX1_clashesIfClef 63 = .ok (.iload_n 3, 1) := by decide +kernel
theorem dX1_clashesIfClef_64 : decode cX1_clashesIfClef 64 = .ok (.ireturn, 1) := by decide +kernel
theorem dX1_clefWithFewestClashes_0 : decode cX1_clefWithFewestClashes 0 = .ok (.iconst (-1), 1) := by decide +kernel
theorem dX1_clefWithFewestClashes_1 : decode cX1_clefWithFewestClashes 1 = .ok (.istore_n 2, 1) := by decide +kernel
theorem dX1_clefWithFewestClashes_2 : decode cX1_clefWithFewestClashes 2 = .ok (.ldc 126, 2) := by decide +kernel
theorem dX1_clefWithFewestClashes_4 : decode cX1_clefWithFewestClashes 4 = .ok (.istore_n 3, 1) := by decide +kernel
theorem dX1_clefWithFewestClashes_5 : decode cX1_clefWithFewestClashes 5 = .ok (.iconst 0, 1) := by decide +kernel
theorem dX1_clefWithFewestClashes_6 : decode cX1_clefWithFewestClashes 6 = .ok (.istore 4, 2) := by decide +kernel
theorem dX1_clefWithFewestClashes_8 : decode cX1_clefWithFewestClashes 8 = .ok (.iload 4, 2) := by decide +kernel
theorem dX1_clefWithFewestClashes_10 : decode cX1_clefWithFewestClashes 10 = .ok (.iconst 5, 1) := by decide +kernel
theorem dX1_clefWithFewestClashes_11 : decode cX1_clefWithFewestClashes 11 = .ok (.if_icmp .gt 39, 3) := by decide +kernel
theorem dX1_clefWithFewestClashes_14 : decode cX1_clefWithFewestClashes 14 = .ok (.aload_n 1, 1) := by decide +kernel
theorem dX1_clefWithFewestClashes_15 : decode cX1_clefWithFewestClashes 15 = .ok (.iload 4, 2) := by decide +kernel
theorem dX1_clefWithFewestClashes_17 : decode cX1_clefWithFewestClashes 17 = .ok (.invokevirtual 134, 3) := by decide +kernel
theorem dX1_clefWithFewestClashes_20 : decode cX1_clefWithFewestClashes 20 = .ok (.ifCond .eq 24, 3) := by decide +kernel
theorem dX1_clefWithFewestClashes_23 : decode cX1_clefWithFewestClashes 23 = .ok (.aload_n 0, 1) := by decide +kernel
theorem dX1_clefWithFewestClashes_24 : decode cX1_clefWithFewestClashes 24 = .ok (.aload_n 1, 1) := by decide +kernel
theorem dX1_clefWithFewestClashes_25 : decode cX1_clefWithFewestClashes 25 = .ok (.iload 4, 2) := by decide +kernel
theorem dX1_clefWithFewestClashes_27 : decode cX1_clefWithFewestClashes 27 = .ok (.invokevirtual 148, 3) := by decide +kernel
theorem dX1_clefWithFewestClashes_30 : decode cX1_clefWithFewestClashes 30 = .ok (.istore 5, 2) := by decide +kernel
theorem dX1_clefWithFewestClashes_32 : decode cX1_clefWithFewestClashes 32 = .ok (.iload 5, 2) := by decide +kernel
theorem dX1_clefWithFewestClashes_34 : decode cX1_clefWithFewestClashes 34 = .ok (.iload_n 3, 1) := by decide +kernel
theorem dX1_clefWithFewestClashes_35 : decode cX1_clefWithFewestClashes 35 = .ok (.if_icmp .ge 9, 3) := by decide +kernel
theorem dX1_clefWithFewestClashes_38 : decode cX1_clefWithFewestClashes 38 = .ok (.iload 4, 2) := by decide +kernel
theorem dX1_clefWithFewestClashes_40 : decode cX1_clefWithFewestClashes 40 = .ok (.istore_n 2, 1) := by decide +kernel
theorem dX1_clefWithFewestClashes_41 : decode cX1_clefWithFewestClashes 41 = .ok (.iload 5, 2) := by decide +kernel
theorem dX1_clefWithFewestClashes_43 : decode cX1_clefWithFewestClashes 43 = .ok (.istore_n 3, 1) := by decide +kernel
theorem dX1_clefWithFewestClashes_44 : decode cX1_clefWithFewestClashes 44 = .ok (.iinc 4 1, 3) := by decide +kernel
theorem dX1_clefWithFewestClashes_47 : decode cX1_clefWithFewestClashes 47 = .ok (.goto (-39), 3) := by decide +kernel
theorem dX1_clefWithFewestClashes_50 : decode cX1_clefWithFewestClashes 50 = .ok (.iload_n 2, 1) := by decide +kernel
theorem dX1_clefWithFewestClashes_51 : decode cX1_clefWithFewestClashes 51 = .ok (.ireturn, 1) := by decide +kernel
theorem dX1_delayWithFewestClashes_0 : decode cX1_delayWithFewestClashes 0 = .ok (.iconst (-1), 1) := by decide +kernel
theorem dX1_delayWithFewestClashes_1 : decode cX1_delayWithFewestClashes 1 = .ok (.istore_n 2, 1) := by decide +kernel
theorem dX1_delayWithFewestClashes_2 : decode cX1_delayWithFewestClashes 2 = .ok (.ldc 126, 2) := by decide +kernel
theorem dX1_delayWithFewestClashes_4 : decode cX1_delayWithFewestClashes 4 = .ok (.istore_n 3, 1) := by decide +kernel
theorem dX1_delayWithFewestClashes_5 : decode cX1_delayWithFewestClashes 5 = .ok (.iconst 1, 1) := by decide +kernel
theorem dX1_delayWithFewestClashes_6 : decode cX1_delayWithFewestClashes 6 = .ok (.istore 4, 2) := by decide +kernel
theorem dX1_delayWithFewestClashes_8 : decode cX1_delayWithFewestClashes 8 = .ok (.iload 4, 2) := by decide +kernel
theorem dX1_delayWithFewestClashes_10 : decode cX1_delayWithFewestClashes 10 = .ok (.bipush 48, 2) := by decide +kernel
theorem dX1_delayWithFewestClashes_12 : decode cX1_delayWithFewestClashes 12 = .ok (.if_icmp .gt 31, 3) := by decide +kernel
theorem dX1_delayWithFewestClashes_15 : decode cX1_delayWithFewestClashes 15 = .ok (.aload_n 0, 1) := by decide +kernel
theorem dX1_delayWithFewestClashes_16 : decode cX1_delayWithFewestClashes 16 = .ok (.aload_n 0, 1) := by decide +kernel
theorem dX1_delayWithFewestClashes_17 : decode cX1_delayWithFewestClashes 17 = .ok (.iload 4, 2) := by decide +kernel
theorem dX1_delayWithFewestClashes_19 : decode cX1_delayWithFewestClashes 19 = .ok (.iload_n 1, 1) := by decide +kernel
theorem dX1_delayWithFewestClashes_20 : decode cX1_delayWithFewestClashes 20 = .ok (.invokestatic 140, 3) := by decide +kernel
theorem dX1_delayWithFewestClashes_23 : decode cX1_delayWithFewestClashes 23 = .ok (.istore 5, 2) := by decide +kernel
theorem dX1_delayWithFewestClashes_25 : decode cX1_delayWithFewestClashes 25 = .ok (.iload 5, 2) := by decide +kernel
theorem dX1_delayWithFewestClashes_27 : decode cX1_delayWithFewestClashes 27 = .ok (.iload_n 3, 1) := by decide +kernel
theorem dX1_delayWithFewestClashes_28 : decode cX1_delayWithFewestClashes 28 = .ok (.if_icmp .ge 9, 3) := by decide +kernel
theorem dX1_delayWithFewestClashes_31 : decode cX1_delayWithFewestClashes 31 = .ok (.iload 4, 2) := by decide +kernel
theorem dX1_delayWithFewestClashes_33 : decode cX1_delayWithFewestClashes 33 = .ok (.istore_n 2, 1) := by decide +kernel
theorem dX1_delayWithFewestClashes_34 : decode cX1_delayWithFewestClashes 34 = .ok (.iload 5, 2) := by decide +kernel
theorem dX1_delayWithFewestClashes_36 : decode cX1_delayWithFewestClashes 36 = .ok (.istore_n 3, 1) := by decide +kernel
theorem dX1_delayWithFewestClashes_37 : decode cX1_delayWithFewestClashes 37 = .ok (.iinc 4 1, 3) := by decide +kernel
theorem dX1_delayWithFewestClashes_40 : decode cX1_delayWithFewestClashes 40 = .ok (.goto (-32), 3) := by decide +kernel
theorem dX1_delayWithFewestClashes_43 : decode cX1_delayWithFewestClashes 43 = .ok (.iload_n 2, 1) := by decide +kernel
theorem dX1_delayWithFewestClashes_44 : decode cX1_delayWithFewestClashes 44 = .ok (.ireturn, 1) := by decide +kernel
theorem dX1_mix_0 : decode cX1_mix 0 = .ok (.lload_n 0, 1) := by decide +kernel
theorem dX1_mix_1 : decode cX1_mix 1 = .ok (.ldc2_w 200, 3) := by decide +kernel
theorem dX1_mix_4 : decode cX1_mix 4 = .ok (.lmul, 1) := by decide +kernel
theorem dX1_mix_5 : decode cX1_mix 5 = .ok (.iload_n 2, 1) := by decide +kernel
theorem dX1_mix_6 : decode cX1_mix 6 = .ok (.i2l, 1) := by decide +kernel
theorem dX1_mix_7 : decode cX1_mix 7 = .ok (.ladd, 1) := by decide +kernel
theorem dX1_mix_8 : decode cX1_mix 8 = .ok (.lreturn, 1) := by decide +kernel
theorem dX1_mixVoice_0 : decode cX1_mixVoice 0 = .ok (.lload_n 1, 1) := by decide +kernel
theorem dX1_mixVoice_1 : decode cX1_mixVoice 1 = .ok (.aload_n 3, 1) := by decide +kernel
theorem dX1_mixVoice_2 : decode cX1_mixVoice 2 = .ok (.getfield 64, 3) := by decide +kernel
theorem dX1_mixVoice_5 : decode cX1_mixVoice 5 = .ok (.invokestatic 161, 3) := by decide +kernel
theorem dX1_mixVoice_8 : decode cX1_mixVoice 8 = .ok (.lstore 4, 2) := by decide +kernel
theorem dX1_mixVoice_10 : decode cX1_mixVoice 10 = .ok (.lload 4, 2) := by decide +kernel
theorem dX1_mixVoice_12 : decode cX1_mixVoice 12 = .ok (.aload_n 3, 1) := by decide +kernel
theorem dX1_mixVoice_13 : decode cX1_mixVoice 13 = .ok (.invokevirtual 92, 3) := by decide +kernel
theorem dX1_mixVoice_16 : decode cX1_mixVoice 16 = .ok (.invokestatic 161, 3) := by decide +kernel
theorem dX1_mixVoice_19 : decode cX1_mixVoice 19 = .ok (.lstore 4, 2) := by decide +kernel
theorem dX1_mixVoice_21 : decode cX1_mixVoice 21 = .ok (.lload 4, 2) := by decide +kernel
theorem dX1_mixVoice_23 : decode cX1_mixVoice 23 = .ok (.aload_n 3, 1) := by decide +kernel
theorem dX1_mixVoice_24 : decode cX1_mixVoice 24 = .ok (.invokevirtual 95, 3) := by decide +kernel
theorem dX1_mixVoice_27 : decode cX1_mixVoice 27 = .ok (.invokestatic 161, 3) := by decide +kernel
theorem dX1_mixVoice_30 : decode cX1_mixVoice 30 = .ok (.lstore 4, 2) := by decide +kernel
theorem dX1_mixVoice_32 : decode cX1_mixVoice 32 = .ok (.lload 4, 2) := by decide +kernel
theorem dX1_mixVoice_34 : decode cX1_mixVoice 34 = .ok (.aload_n 3, 1) := by decide +kernel
theorem dX1_mixVoice_35 : decode cX1_mixVoice 35 = .ok (.invokevirtual 89, 3) := by decide +kernel
theorem dX1_mixVoice_38 : decode cX1_mixVoice 38 = .ok (.invokestatic 161, 3) := by decide +kernel
theorem dX1_mixVoice_41 : decode cX1_mixVoice 41 = .ok (.lstore 4, 2) := by decide +kernel
theorem dX1_mixVoice_43 : decode cX1_mixVoice 43 = .ok (.lload 4, 2) := by decide +kernel
theorem dX1_mixVoice_45 : decode cX1_mixVoice 45 = .ok (.aload_n 3, 1) := by decide +kernel
theorem dX1_mixVoice_46 : decode cX1_mixVoice 46 = .ok (.getfield 86, 3) := by decide +kernel
theorem dX1_mixVoice_49 : decode cX1_mixVoice 49 = .ok (.invokestatic 161, 3) := by decide +kernel
theorem dX1_mixVoice_52 : decode cX1_mixVoice 52 = .ok (.lstore 4, 2) := by decide +kernel
theorem dX1_mixVoice_54 : decode cX1_mixVoice 54 = .ok (.lload 4, 2) := by decide +kernel
theorem dX1_mixVoice_56 : decode cX1_mixVoice 56 = .ok (.aload_n 3, 1) := by decide +kernel
theorem dX1_mixVoice_57 : decode cX1_mixVoice 57 = .ok (.invokevirtual 137, 3) := by decide +kernel
theorem dX1_mixVoice_60 : decode cX1_mixVoice 60 = .ok (.invokestatic 161, 3) := by decide +kernel
theorem dX1_mixVoice_63 : decode cX1_mixVoice 63 = .ok (.lstore 4, 2) := by decide +kernel
theorem dX1_mixVoice_65 : decode cX1_mixVoice 65 = .ok (.lload 4, 2) := by decide +kernel
theorem dX1_mixVoice_67 : decode cX1_mixVoice 67 = .ok (.aload_n 0, 1) := by decide +kernel
theorem dX1_mixVoice_68 : decode cX1_mixVoice 68 = .ok (.aload_n 3, 1) := by decide +kernel
theorem dX1_mixVoice_69 : decode cX1_mixVoice 69 = .ok (.invokevirtual 152, 3) := by decide +kernel
theorem dX1_mixVoice_72 : decode cX1_mixVoice 72 = .ok (.invokestatic 161, 3) := by decide +kernel
theorem dX1_mixVoice_75 : decode cX1_mixVoice 75 = .ok (.lstore 4, 2) := by decide +kernel
theorem dX1_mixVoice_77 : decode cX1_mixVoice 77 = .ok (.lload 4, 2) := by decide +kernel
theorem dX1_mixVoice_79 : decode cX1_mixVoice 79 = .ok (.aload_n 3, 1) := by decide +kernel
theorem dX1_mixVoice_80 : decode cX1_mixVoice 80 = .ok (.aload_n 3, 1) := by decide +kernel
theorem dX1_mixVoice_81 : decode cX1_mixVoice 81 = .ok (.iconst 4, 1) := by decide +kernel
theorem dX1_mixVoice_82 : decode cX1_mixVoice 82 = .ok (.iconst 0, 1) := by decide +kernel
theorem dX1_mixVoice_83 : decode cX1_mixVoice 83 = .ok (.invokestatic 140, 3) := by decide +kernel
theorem dX1_mixVoice_86 : decode cX1_mixVoice 86 = .ok (.invokestatic 161, 3) := by decide +kernel
theorem dX1_mixVoice_89 : decode cX1_mixVoice 89 = .ok (.lstore 4, 2) := by decide +kernel
theorem dX1_mixVoice_91 : decode cX1_mixVoice 91 = .ok (.lload 4, 2) := by decide +kernel
theorem dX1_mixVoice_93 : decode cX1_mixVoice 93 = .ok (.aload_n 3, 1) := by decide +kernel
theorem dX1_mixVoice_94 : decode cX1_mixVoice 94 = .ok (.iconst 4, 1) := by decide +kernel
theorem dX1_mixVoice_95 : decode cX1_mixVoice 95 = .ok (.invokestatic 156, 3) := by decide +kernel
theorem dX1_mixVoice_98 : decode cX1_mixVoice 98 = .ok (.invokestatic 161, 3) := by decide +kernel
theorem dX1_mixVoice_101 : decode cX1_mixVoice 101 = .ok (.lstore 4, 2) := by decide +kernel
theorem dX1_mixVoice_103 : decode cX1_mixVoice 103 = .ok (.iconst 0, 1) := by decide +kernel
theorem dX1_mixVoice_104 : decode cX1_mixVoice 104 = .ok (.istore 6, 2) := by decide +kernel
theorem dX1_mixVoice_106 : decode cX1_mixVoice 106 = .ok (.iload 6, 2) := by decide +kernel
theorem dX1_mixVoice_108 : decode cX1_mixVoice 108 = .ok (.aload_n 3, 1) := by decide +kernel
theorem dX1_mixVoice_109 : decode cX1_mixVoice 109 = .ok (.getfield 64, 3) := by decide +kernel
theorem dX1_mixVoice_112 : decode cX1_mixVoice 112 = .ok (.if_icmp .ge 19, 3) := by decide +kernel
theorem dX1_mixVoice_115 : decode cX1_mixVoice 115 = .ok (.lload 4, 2) := by decide +kernel
theorem dX1_mixVoice_117 : decode cX1_mixVoice 117 = .ok (.aload_n 3, 1) := by decide +kernel
theorem dX1_mixVoice_118 : decode cX1_mixVoice 118 = .ok (.iload 6, 2) := by decide +kernel
theorem dX1_mixVoice_120 : decode cX1_mixVoice 120 = .ok (.invokestatic 202, 3) := by decide +kernel
theorem dX1_mixVoice_123 : decode cX1_mixVoice 123 = .ok (.lstore 4, 2) := by decide +kernel
theorem dX1_mixVoice_125 : decode cX1_mixVoice 125 = .ok (.iinc 6 1, 3) := by decide +kernel
theorem dX1_mixVoice_128 : decode cX1_mixVoice 128 = .ok (.goto (-22), 3) := by decide +kernel
theorem dX1_mixVoice_131 : decode cX1_mixVoice 131 = .ok (.lload 4, 2) := by decide +kernel
theorem dX1_mixVoice_133 : decode cX1_mixVoice 133 = .ok (.lreturn, 1) := by decide +kernel
theorem dX1_mixSign_0 : decode cX1_mixSign 0 = .ok (.lload_n 0, 1) := by decide +kernel
theorem dX1_mixSign_1 : decode cX1_mixSign 1 = .ok (.aload_n 2, 1) := by decide +kernel
theorem dX1_mixSign_2 : decode cX1_mixSign 2 = .ok (.getfield 98, 3) := by decide +kernel
theorem dX1_mixSign_5 : decode cX1_mixSign 5 = .ok (.iload_n 3, 1) := by decide +kernel
theorem dX1_mixSign_6 : decode cX1_mixSign 6 = .ok (.iaload, 1) := by decide +kernel
theorem dX1_mixSign_7 : decode cX1_mixSign 7 = .ok (.invokestatic 161, 3) := by decide +kernel
theorem dX1_mixSign_10 : decode cX1_mixSign 10 = .ok (.lstore 4, 2) := by decide +kernel
theorem dX1_mixSign_12 : decode cX1_mixSign 12 = .ok (.lload 4, 2) := by decide +kernel
theorem dX1_mixSign_14 : decode cX1_mixSign 14 = .ok (.aload_n 2, 1) := by decide +kernel
theorem dX1_mixSign_15 : decode cX1_mixSign 15 = .ok (.getfield 102, 3) := by decide +kernel
theorem dX1_mixSign_18 : decode cX1_mixSign 18 = .ok (.iload_n 3, 1) := by decide +kernel
theorem dX1_mixSign_19 : decode cX1_mixSign 19 = .ok (.iaload, 1) := by decide +kernel
theorem dX1_mixSign_20 : decode cX1_mixSign 20 = .ok (.invokestatic 161, 3) := by decide +kernel
theorem dX1_mixSign_23 : decode cX1_mixSign 23 = .ok (.lstore 4, 2) := by decide +kernel
theorem dX1_mixSign_25 : decode cX1_mixSign 25 = .ok (.lload 4, 2) := by decide +kernel
theorem dX1_mixSign_27 : decode cX1_mixSign 27 = .ok (.aload_n 2, 1) := by decide +kernel
theorem dX1_mixSign_28 : decode cX1_mixSign 28 = .ok (.getfield 109, 3) := by decide +kernel
theorem dX1_mixSign_31 : decode cX1_mixSign 31 = .ok (.iload_n 3, 1) := by decide +kernel
theorem dX1_mixSign_32 : decode cX1_mixSign 32 = .ok (.iaload, 1) := by decide +kernel
theorem dX1_mixSign_33 : decode cX1_mixSign 33 = .ok (.invokestatic 161, 3) := by decide +kernel
theorem dX1_mixSign_36 : decode cX1_mixSign 36 = .ok (.lstore 4, 2) := by decide +kernel
theorem dX1_mixSign_38 : decode cX1_mixSign 38 = .ok (.lload 4, 2) := by decide +kernel
theorem dX1_mixSign_40 : decode cX1_mixSign 40 = .ok (.aload_n 2, 1) := by decide +kernel
theorem dX1_mixSign_41 : decode cX1_mixSign 41 = .ok (.iload_n 3, 1) := by decide +kernel
theorem dX1_mixSign_42 : decode cX1_mixSign 42 = .ok (.invokevirtual 112, 3) := by decide +kernel
theorem dX1_mixSign_45 : decode cX1_mixSign 45 = .ok (.invokestatic 161, 3) := by decide +kernel
theorem dX1_mixSign_48 : decode cX1_mixSign 48 = .ok (.lstore 4, 2) := by decide +kernel
theorem dX1_mixSign_50 : decode cX1_mixSign 50 = .ok (.lload 4, 2) := by decide +kernel
theorem dX1_mixSign_52 : decode cX1_mixSign 52 = .ok (.aload_n 2, 1) := by decide +kernel
theorem dX1_mixSign_53 : decode cX1_mixSign 53 = .ok (.getfield 116, 3) := by decide +kernel
theorem dX1_mixSign_56 : decode cX1_mixSign 56 = .ok (.iload_n 3, 1) := by decide +kernel
theorem dX1_mixSign_57 : decode cX1_mixSign 57 = .ok (.iaload, 1) := by decide +kernel
theorem dX1_mixSign_58 : decode cX1_mixSign 58 = .ok (.invokestatic 161, 3) := by decide +kernel
theorem dX1_mixSign_61 : decode cX1_mixSign 61 = .ok (.lreturn, 1) := by decide +kernel
end
section
/-! THE STATE: one value for the class and for the reference; the cells of both, read off it. -/
/-- voices; signs of each; clef; mensuration; kind, place, colour, rank of each sign; when each begins (the class's own row) -/
abbrev St : Type := Nat × (Nat → Nat) × (Nat → Int32) × (Nat → Nat → Nat) × (Nat → Nat → Nat) × (Nat → Nat → Int32) × (Nat → Nat → Bool) × (Nat → Nat → Int32) × (Nat → Nat → Int32)
def mkS (n : Nat) (c : Nat → Nat) (l : Nat → Int32) (m k : Nat → Nat → Nat) (p : Nat → Nat → Int32) (r : Nat → Nat → Bool) (t b : Nat → Nat → Int32) : St := (n, c, l, m, k, p, r, t, b)
def sN (σ : St) : Nat := σ.1
def sC (σ : St) : Nat → Nat := σ.2.1
def sL (σ : St) : Nat → Int32 := σ.2.2.1
def sM (σ : St) : Nat → Nat → Nat := σ.2.2.2.1
def sK (σ : St) : Nat → Nat → Nat := σ.2.2.2.2.1
def sP (σ : St) : Nat → Nat → Int32 := σ.2.2.2.2.2.1
def sR (σ : St) : Nat → Nat → Bool := σ.2.2.2.2.2.2.1
def sT (σ : St) : Nat → Nat → Int32 := σ.2.2.2.2.2.2.2.1
def sB (σ : St) : Nat → Nat → Int32 := σ.2.2.2.2.2.2.2.2
def bI (b : Bool) : Int32 := if b then 1 else 0
def up1 {α : Type} (f : Nat → α) (v : Nat) (x : α) : Nat → α := fun a => if a = v then x else f a
def up2 {α : Type} (f : Nat → Nat → α) (v s : Nat) (x : α) : Nat → Nat → α := fun a b => if a = v ∧ b = s then x else f a b
theorem up1_s {α : Type} (f : Nat → α) (v : Nat) (x : α) : up1 f v x v = x := if_pos rfl
theorem up1_n {α : Type} (f : Nat → α) {v w : Nat} (h : w ≠ v) (x : α) : up1 f v x w = f w := if_neg h
theorem up2_s {α : Type} (f : Nat → Nat → α) (v s : Nat) (x : α) : up2 f v s x v s = x := if_pos ⟨rfl, rfl⟩
theorem up2_n {α : Type} (f : Nat → Nat → α) {v s a b : Nat} (h : ¬ (a = v ∧ b = s)) (x : α) : up2 f v s x a b = f a b := if_neg h
theorem up2_row {α : Type} (f : Nat → Nat → α) {v w : Nat} (h : w ≠ v) (s : Nat) (x : α) : up2 f v s x w = f w := by
  funext b
  exact if_neg (fun q => h q.1)
def uN (σ : St) (n : Nat) : St := mkS n (sC σ) (sL σ) (sM σ) (sK σ) (sP σ) (sR σ) (sT σ) (sB σ)
def uC (σ : St) (v n : Nat) : St := mkS (sN σ) (up1 (sC σ) v n) (sL σ) (sM σ) (sK σ) (sP σ) (sR σ) (sT σ) (sB σ)
def uL (σ : St) (v : Nat) (x : Int32) : St := mkS (sN σ) (sC σ) (up1 (sL σ) v x) (sM σ) (sK σ) (sP σ) (sR σ) (sT σ) (sB σ)
def uM (σ : St) (v i x : Nat) : St := mkS (sN σ) (sC σ) (sL σ) (up2 (sM σ) v i x) (sK σ) (sP σ) (sR σ) (sT σ) (sB σ)
def uK (σ : St) (v s x : Nat) : St := mkS (sN σ) (sC σ) (sL σ) (sM σ) (up2 (sK σ) v s x) (sP σ) (sR σ) (sT σ) (sB σ)
def uP (σ : St) (v s : Nat) (x : Int32) : St := mkS (sN σ) (sC σ) (sL σ) (sM σ) (sK σ) (up2 (sP σ) v s x) (sR σ) (sT σ) (sB σ)
def uR (σ : St) (v s : Nat) (x : Bool) : St := mkS (sN σ) (sC σ) (sL σ) (sM σ) (sK σ) (sP σ) (up2 (sR σ) v s x) (sT σ) (sB σ)
def uT (σ : St) (v s : Nat) (x : Int32) : St := mkS (sN σ) (sC σ) (sL σ) (sM σ) (sK σ) (sP σ) (sR σ) (up2 (sT σ) v s x) (sB σ)
def uB (σ : St) (b : Nat → Nat → Int32) : St := mkS (sN σ) (sC σ) (sL σ) (sM σ) (sK σ) (sP σ) (sR σ) (sT σ) b
/-- the start: no voice, no clef -/
def sZ : St := mkS 0 (fun _ => 0) (fun _ => -1) (fun _ _ => 0) (fun _ _ => 0) (fun _ _ => 0) (fun _ _ => false) (fun _ _ => 0) (fun _ _ => 0)
/-- the addresses: how objects lie; the classes of int[], boolean[], Voice[], long[]; the book, its row, each voice, its five rows; the reference and its nine rows; the law's out -/
abbrev GA : Type := va_G × (ClassId × ClassId × ClassId × ClassId) × Nat × Nat × (Nat → Nat) × (Nat → Nat → Nat) × Nat × (Nat → Nat) × Nat
def gD (g : GA) : va_G := g.1
def gI (g : GA) : ClassId := g.2.1.1
def gZ (g : GA) : ClassId := g.2.1.2.1
def gW (g : GA) : ClassId := g.2.1.2.2.1
def gJ (g : GA) : ClassId := g.2.1.2.2.2
def gX (g : GA) : Nat := g.2.2.1
def gK (g : GA) : Nat := g.2.2.2.1
def gV (g : GA) : Nat → Nat := g.2.2.2.2.1
def gA (g : GA) : Nat → Nat → Nat := g.2.2.2.2.2.1
def gM (g : GA) : Nat := g.2.2.2.2.2.2.1
def gB (g : GA) : Nat → Nat := g.2.2.2.2.2.2.2.1
def gO (g : GA) : Nat := g.2.2.2.2.2.2.2.2
def gT (g : GA) : List (ClassId × FieldType) := [(gI g, .int), (gZ g, .boolean), (gW g, .object "ChoirNotes$Voice"), (gJ g, .long)]
/-- the cells of a voice -/
def vcell (g : GA) (σ : St) (v : Nat) : va_W := [(gV g v, .inr (0, [.int (nI (sM σ v 0)), .int (nI (sM σ v 1)), .int (nI (sM σ v 2)), .int (sL σ v), .int (nI (sC σ v)), .ref (gA g v 0), .ref (gA g v 1), .ref (gA g v 2), .ref (gA g v 3), .ref (gA g v 4)])), (gA g v 0, .inl (gI g, 24, .inl (fun j => nI (sK σ v j)))), (gA g v 1, .inl (gI g, 24, .inl (sP σ v))), (gA g v 2, .inl (gZ g, 24, .inl (fun j => bI (sR σ v j)))), (gA g v 3, .inl (gI g, 24, .inl (sT σ v))), (gA g v 4, .inl (gI g, 25, .inl (sB σ v)))]
/-- the cells of the class -/
def cw (g : GA) (σ : St) : va_W := [(gX g, .inr (1, [.ref (gK g), .int (nI (sN σ))])), (gK g, .inl (gW g, 4, .inr (.inr (.inr (.inr (fun j => if j < 4 then some (gV g j) else none))))))] ++ (vcell g σ 0 ++ (vcell g σ 1 ++ (vcell g σ 2 ++ vcell g σ 3)))
/-- the cells of the reference: what its last call threw, its two rows of minims -/
def mw (g : GA) (σ : St) (th : Int32) (mi ti : Nat → Int32) : va_W := [(gM g, .inr (2, [.int th, .int (nI (sN σ)), .ref (gB g 0), .ref (gB g 1), .ref (gB g 2), .ref (gB g 3), .ref (gB g 4), .ref (gB g 5), .ref (gB g 6), .ref (gB g 7), .ref (gB g 8)])), (gB g 0, .inl (gI g, 4, .inl (fun v => nI (sC σ v)))), (gB g 1, .inl (gI g, 4, .inl (fun v => if v < sN σ then sL σ v else 0))), (gB g 2, .inl (gI g, 12, .inl (fun k => nI (sM σ (k / 3) (k % 3))))), (gB g 3, .inl (gI g, 96, .inl (fun k => nI (sK σ (k / 24) (k % 24))))), (gB g 4, .inl (gI g, 96, .inl (fun k => sP σ (k / 24) (k % 24)))), (gB g 5, .inl (gZ g, 96, .inl (fun k => bI (sR σ (k / 24) (k % 24))))), (gB g 6, .inl (gI g, 96, .inl (fun k => sT σ (k / 24) (k % 24)))), (gB g 7, .inl (gI g, 648, .inl mi)), (gB g 8, .inl (gI g, 648, .inl ti))]
theorem lt4 {v : Nat} (h : v < 4) : v = 0 ∨ v = 1 ∨ v = 2 ∨ v = 3 := by omega
section CWAT
variable (g : GA) (σ : St) (r : va_W)
theorem cx0 : (cw g σ ++ r)[0]? = some (gX g, .inr (1, [.ref (gK g), .int (nI (sN σ))])) := rfl
theorem cx1 : (cw g σ ++ r)[1]? = some (gK g, .inl (gW g, 4, .inr (.inr (.inr (.inr (fun j => if j < 4 then some (gV g j) else none)))))) := rfl
theorem cv0 {v : Nat} (h : v < 4) : (cw g σ ++ r)[2 + 6 * v]? = some (gV g v, .inr (0, [.int (nI (sM σ v 0)), .int (nI (sM σ v 1)), .int (nI (sM σ v 2)), .int (sL σ v), .int (nI (sC σ v)), .ref (gA g v 0), .ref (gA g v 1), .ref (gA g v 2), .ref (gA g v 3), .ref (gA g v 4)])) := by
  rcases lt4 h with rfl | rfl | rfl | rfl <;> rfl
theorem cv1 {v : Nat} (h : v < 4) : (cw g σ ++ r)[3 + 6 * v]? = some (gA g v 0, .inl (gI g, 24, .inl (fun j => nI (sK σ v j)))) := by
  rcases lt4 h with rfl | rfl | rfl | rfl <;> rfl
theorem cv2 {v : Nat} (h : v < 4) : (cw g σ ++ r)[4 + 6 * v]? = some (gA g v 1, .inl (gI g, 24, .inl (sP σ v))) := by
  rcases lt4 h with rfl | rfl | rfl | rfl <;> rfl
theorem cv3 {v : Nat} (h : v < 4) : (cw g σ ++ r)[5 + 6 * v]? = some (gA g v 2, .inl (gZ g, 24, .inl (fun j => bI (sR σ v j)))) := by
  rcases lt4 h with rfl | rfl | rfl | rfl <;> rfl
theorem cv4 {v : Nat} (h : v < 4) : (cw g σ ++ r)[6 + 6 * v]? = some (gA g v 3, .inl (gI g, 24, .inl (sT σ v))) := by
  rcases lt4 h with rfl | rfl | rfl | rfl <;> rfl
theorem cv5 {v : Nat} (h : v < 4) : (cw g σ ++ r)[7 + 6 * v]? = some (gA g v 4, .inl (gI g, 25, .inl (sB σ v))) := by
  rcases lt4 h with rfl | rfl | rfl | rfl <;> rfl
end CWAT
/-- a write to one cell of the voice v -/
theorem cw_set (g : GA) (σ σ' : St) (r : va_W) {v k : Nat} {e : Nat × va_E} (hv : v < 4) (hk : k < 6) (hN : sN σ' = sN σ) (hw : ∀ w, w ≠ v → vcell g σ' w = vcell g σ w) (he : (vcell g σ v).set k e = vcell g σ' v) : (cw g σ ++ r).set (2 + k + 6 * v) e = cw g σ' ++ r := by
  have hk6 : k = 0 ∨ k = 1 ∨ k = 2 ∨ k = 3 ∨ k = 4 ∨ k = 5 := by omega
  rcases lt4 hv with rfl | rfl | rfl | rfl
  · unfold cw
    rw [hN, ← he, hw 1 (by decide), hw 2 (by decide), hw 3 (by decide)]
    rcases hk6 with rfl | rfl | rfl | rfl | rfl | rfl <;> rfl
  · unfold cw
    rw [hN, ← he, hw 0 (by decide), hw 2 (by decide), hw 3 (by decide)]
    rcases hk6 with rfl | rfl | rfl | rfl | rfl | rfl <;> rfl
  · unfold cw
    rw [hN, ← he, hw 0 (by decide), hw 1 (by decide), hw 3 (by decide)]
    rcases hk6 with rfl | rfl | rfl | rfl | rfl | rfl <;> rfl
  · unfold cw
    rw [hN, ← he, hw 0 (by decide), hw 1 (by decide), hw 2 (by decide)]
    rcases hk6 with rfl | rfl | rfl | rfl | rfl | rfl <;> rfl
theorem vcell_eq {g : GA} {σ σ' : St} {w : Nat} (hM : sM σ' w = sM σ w) (hL : sL σ' w = sL σ w) (hC : sC σ' w = sC σ w) (hK : sK σ' w = sK σ w) (hP : sP σ' w = sP σ w) (hR : sR σ' w = sR σ w) (hT : sT σ' w = sT σ w) (hB : sB σ' w = sB σ w) : vcell g σ' w = vcell g σ w := by
  unfold vcell
  rw [hM, hL, hC, hK, hP, hR, hT, hB]
theorem upd_row (f : Nat → Nat → Int32) (v s : Nat) (x : Int32) : upd (f v) s x = up2 f v s x v := by
  funext j
  unfold upd up2
  by_cases h : j = s
  · rw [if_pos h, if_pos ⟨rfl, h⟩]
  · rw [if_neg h, if_neg (fun q => h q.2)]
section CWSET
variable (g : GA) (σ : St) (r : va_W) {v : Nat} (hv : v < 4)
theorem cs_N (n : Nat) : (cw g σ ++ r).set 0 (gX g, .inr (1, [.ref (gK g), .int (nI n)])) = cw g (uN σ n) ++ r := rfl
theorem cs_M0 (x : Nat) (hv : v < 4) : (cw g σ ++ r).set (2 + 6 * v) (gV g v, .inr (0, [.int (nI x), .int (nI (sM σ v 1)), .int (nI (sM σ v 2)), .int (sL σ v), .int (nI (sC σ v)), .ref (gA g v 0), .ref (gA g v 1), .ref (gA g v 2), .ref (gA g v 3), .ref (gA g v 4)])) = cw g (uM σ v 0 x) ++ r :=
  cw_set (k := 0) g σ (uM σ v 0 x) r hv (by decide) rfl (fun w hw => vcell_eq (up2_row _ hw _ _) rfl rfl rfl rfl rfl rfl rfl) (by
    have h0 : sM (uM σ v 0 x) v 0 = x := up2_s _ _ _ _
    have h1 : sM (uM σ v 0 x) v 1 = sM σ v 1 := up2_n _ (by omega) _
    have h2 : sM (uM σ v 0 x) v 2 = sM σ v 2 := up2_n _ (by omega) _
    unfold vcell
    rw [h0, h1, h2]
    rfl)
theorem cs_M1 (x : Nat) (hv : v < 4) : (cw g σ ++ r).set (2 + 6 * v) (gV g v, .inr (0, [.int (nI (sM σ v 0)), .int (nI x), .int (nI (sM σ v 2)), .int (sL σ v), .int (nI (sC σ v)), .ref (gA g v 0), .ref (gA g v 1), .ref (gA g v 2), .ref (gA g v 3), .ref (gA g v 4)])) = cw g (uM σ v 1 x) ++ r :=
  cw_set (k := 0) g σ (uM σ v 1 x) r hv (by decide) rfl (fun w hw => vcell_eq (up2_row _ hw _ _) rfl rfl rfl rfl rfl rfl rfl) (by
    have h0 : sM (uM σ v 1 x) v 0 = sM σ v 0 := up2_n _ (by omega) _
    have h1 : sM (uM σ v 1 x) v 1 = x := up2_s _ _ _ _
    have h2 : sM (uM σ v 1 x) v 2 = sM σ v 2 := up2_n _ (by omega) _
    unfold vcell
    rw [h0, h1, h2]
    rfl)
theorem cs_M2 (x : Nat) (hv : v < 4) : (cw g σ ++ r).set (2 + 6 * v) (gV g v, .inr (0, [.int (nI (sM σ v 0)), .int (nI (sM σ v 1)), .int (nI x), .int (sL σ v), .int (nI (sC σ v)), .ref (gA g v 0), .ref (gA g v 1), .ref (gA g v 2), .ref (gA g v 3), .ref (gA g v 4)])) = cw g (uM σ v 2 x) ++ r :=
  cw_set (k := 0) g σ (uM σ v 2 x) r hv (by decide) rfl (fun w hw => vcell_eq (up2_row _ hw _ _) rfl rfl rfl rfl rfl rfl rfl) (by
    have h0 : sM (uM σ v 2 x) v 0 = sM σ v 0 := up2_n _ (by omega) _
    have h1 : sM (uM σ v 2 x) v 1 = sM σ v 1 := up2_n _ (by omega) _
    have h2 : sM (uM σ v 2 x) v 2 = x := up2_s _ _ _ _
    unfold vcell
    rw [h0, h1, h2]
    rfl)
theorem cs_L (x : Int32) (hv : v < 4) : (cw g σ ++ r).set (2 + 6 * v) (gV g v, .inr (0, [.int (nI (sM σ v 0)), .int (nI (sM σ v 1)), .int (nI (sM σ v 2)), .int x, .int (nI (sC σ v)), .ref (gA g v 0), .ref (gA g v 1), .ref (gA g v 2), .ref (gA g v 3), .ref (gA g v 4)])) = cw g (uL σ v x) ++ r :=
  cw_set (k := 0) g σ (uL σ v x) r hv (by decide) rfl (fun w hw => vcell_eq rfl (up1_n _ hw _) rfl rfl rfl rfl rfl rfl) (by
    have h0 : sL (uL σ v x) v = x := up1_s _ _ _
    unfold vcell
    rw [h0]
    rfl)
theorem cs_C (x : Nat) (hv : v < 4) : (cw g σ ++ r).set (2 + 6 * v) (gV g v, .inr (0, [.int (nI (sM σ v 0)), .int (nI (sM σ v 1)), .int (nI (sM σ v 2)), .int (sL σ v), .int (nI x), .ref (gA g v 0), .ref (gA g v 1), .ref (gA g v 2), .ref (gA g v 3), .ref (gA g v 4)])) = cw g (uC σ v x) ++ r :=
  cw_set (k := 0) g σ (uC σ v x) r hv (by decide) rfl (fun w hw => vcell_eq rfl rfl (up1_n _ hw _) rfl rfl rfl rfl rfl) (by
    have h0 : sC (uC σ v x) v = x := up1_s _ _ _
    unfold vcell
    rw [h0]
    rfl)
theorem cs_K (s x : Nat) (hv : v < 4) : (cw g σ ++ r).set (3 + 6 * v) (gA g v 0, .inl (gI g, 24, .inl (upd (fun j => nI (sK σ v j)) s (nI x)))) = cw g (uK σ v s x) ++ r :=
  cw_set (k := 1) g σ (uK σ v s x) r hv (by decide) rfl (fun w hw => vcell_eq rfl rfl rfl (up2_row _ hw _ _) rfl rfl rfl rfl) (by
    have h0 : upd (fun j => nI (sK σ v j)) s (nI x) = fun j => nI (sK (uK σ v s x) v j) := by
      funext j
      show (if j = s then _ else _) = nI (if _ then _ else _)
      by_cases h : j = s
      · rw [if_pos h, if_pos ⟨rfl, h⟩]
      · rw [if_neg h, if_neg (fun q => h q.2)]
    rw [h0]
    rfl)
theorem cs_P (s : Nat) (x : Int32) (hv : v < 4) : (cw g σ ++ r).set (4 + 6 * v) (gA g v 1, .inl (gI g, 24, .inl (upd (sP σ v) s x))) = cw g (uP σ v s x) ++ r :=
  cw_set (k := 2) g σ (uP σ v s x) r hv (by decide) rfl (fun w hw => vcell_eq rfl rfl rfl rfl (up2_row _ hw _ _) rfl rfl rfl) (by
    rw [upd_row]
    rfl)
theorem cs_R (s : Nat) (x : Bool) (hv : v < 4) : (cw g σ ++ r).set (5 + 6 * v) (gA g v 2, .inl (gZ g, 24, .inl (upd (fun j => bI (sR σ v j)) s (bI x)))) = cw g (uR σ v s x) ++ r :=
  cw_set (k := 3) g σ (uR σ v s x) r hv (by decide) rfl (fun w hw => vcell_eq rfl rfl rfl rfl rfl (up2_row _ hw _ _) rfl rfl) (by
    have h0 : upd (fun j => bI (sR σ v j)) s (bI x) = fun j => bI (sR (uR σ v s x) v j) := by
      funext j
      show (if j = s then _ else _) = bI (if _ then _ else _)
      by_cases h : j = s
      · rw [if_pos h, if_pos ⟨rfl, h⟩]
      · rw [if_neg h, if_neg (fun q => h q.2)]
    rw [h0]
    rfl)
theorem cs_T (s : Nat) (x : Int32) (hv : v < 4) : (cw g σ ++ r).set (6 + 6 * v) (gA g v 3, .inl (gI g, 24, .inl (upd (sT σ v) s x))) = cw g (uT σ v s x) ++ r :=
  cw_set (k := 4) g σ (uT σ v s x) r hv (by decide) rfl (fun w hw => vcell_eq rfl rfl rfl rfl rfl rfl (up2_row _ hw _ _) rfl) (by
    rw [upd_row]
    rfl)
theorem cs_B (s : Nat) (x : Int32) (hv : v < 4) : (cw g σ ++ r).set (7 + 6 * v) (gA g v 4, .inl (gI g, 25, .inl (upd (sB σ v) s x))) = cw g (uB σ (up2 (sB σ) v s x)) ++ r :=
  cw_set (k := 5) g σ (uB σ (up2 (sB σ) v s x)) r hv (by decide) rfl (fun w hw => vcell_eq rfl rfl rfl rfl rfl rfl rfl (up2_row _ hw _ _)) (by
    rw [upd_row]
    rfl)
end CWSET
section MWAT
variable (g : GA) (σ : St) (th : Int32) (mi ti : Nat → Int32) (r : va_W)
theorem ma0 : (mw g σ th mi ti ++ r)[0]? = some (gM g, .inr (2, [.int th, .int (nI (sN σ)), .ref (gB g 0), .ref (gB g 1), .ref (gB g 2), .ref (gB g 3), .ref (gB g 4), .ref (gB g 5), .ref (gB g 6), .ref (gB g 7), .ref (gB g 8)])) := rfl
theorem ma1 : (mw g σ th mi ti ++ r)[1]? = some (gB g 0, .inl (gI g, 4, .inl (fun v => nI (sC σ v)))) := rfl
theorem ma2 : (mw g σ th mi ti ++ r)[2]? = some (gB g 1, .inl (gI g, 4, .inl (fun v => if v < sN σ then sL σ v else 0))) := rfl
theorem ma3 : (mw g σ th mi ti ++ r)[3]? = some (gB g 2, .inl (gI g, 12, .inl (fun k => nI (sM σ (k / 3) (k % 3))))) := rfl
theorem ma4 : (mw g σ th mi ti ++ r)[4]? = some (gB g 3, .inl (gI g, 96, .inl (fun k => nI (sK σ (k / 24) (k % 24))))) := rfl
theorem ma5 : (mw g σ th mi ti ++ r)[5]? = some (gB g 4, .inl (gI g, 96, .inl (fun k => sP σ (k / 24) (k % 24)))) := rfl
theorem ma6 : (mw g σ th mi ti ++ r)[6]? = some (gB g 5, .inl (gZ g, 96, .inl (fun k => bI (sR σ (k / 24) (k % 24))))) := rfl
theorem ma7 : (mw g σ th mi ti ++ r)[7]? = some (gB g 6, .inl (gI g, 96, .inl (fun k => sT σ (k / 24) (k % 24)))) := rfl
theorem ma8 : (mw g σ th mi ti ++ r)[8]? = some (gB g 7, .inl (gI g, 648, .inl mi)) := rfl
theorem ma9 : (mw g σ th mi ti ++ r)[9]? = some (gB g 8, .inl (gI g, 648, .inl ti)) := rfl
theorem ms_th (x : Int32) : (mw g σ th mi ti ++ r).set 0 (gM g, .inr (2, [.int x, .int (nI (sN σ)), .ref (gB g 0), .ref (gB g 1), .ref (gB g 2), .ref (gB g 3), .ref (gB g 4), .ref (gB g 5), .ref (gB g 6), .ref (gB g 7), .ref (gB g 8)])) = mw g σ x mi ti ++ r := rfl
theorem ms_mi (f : Nat → Int32) : (mw g σ th mi ti ++ r).set 8 (gB g 7, .inl (gI g, 648, .inl f)) = mw g σ th f ti ++ r := rfl
theorem ms_ti (f : Nat → Int32) : (mw g σ th mi ti ++ r).set 9 (gB g 8, .inl (gI g, 648, .inl f)) = mw g σ th mi f ++ r := rfl
theorem mw_c (v x : Nat) : upd (fun v => nI (sC σ v)) v (nI x) = fun w => nI (sC (uC σ v x) w) := by
  funext j
  show (if j = v then _ else _) = nI (if _ then _ else _)
  by_cases h : j = v
  · rw [if_pos h, if_pos h]
  · rw [if_neg h, if_neg h]
theorem ms_C (v x : Nat) : (mw g σ th mi ti ++ r).set 1 (gB g 0, .inl (gI g, 4, .inl (upd (fun v => nI (sC σ v)) v (nI x)))) = mw g (uC σ v x) th mi ti ++ r := by
  rw [mw_c]
  rfl
theorem ms_L (v : Nat) (x : Int32) (hv : v < sN σ) : (mw g σ th mi ti ++ r).set 2 (gB g 1, .inl (gI g, 4, .inl (upd (fun v => if v < sN σ then sL σ v else 0) v x))) = mw g (uL σ v x) th mi ti ++ r := by
  have h0 : upd (fun v => if v < sN σ then sL σ v else 0) v x = fun w => if w < sN (uL σ v x) then sL (uL σ v x) w else 0 := by
    funext j
    show (if j = v then _ else _) = if j < sN σ then (if j = v then _ else _) else 0
    by_cases h : j = v
    · rw [if_pos h, if_pos h, if_pos (by omega)]
    · rw [if_neg h, if_neg h]
  rw [h0]
  rfl
theorem at_mod {K w j v s : Nat} (hs : s < K) (h : w * K + j = v * K + s) (hj : j < K) : w = v ∧ j = s := by
  have h1 : (w * K + j) / K = (v * K + s) / K := by rw [h]
  rw [Nat.mul_comm w, Nat.mul_comm v, Nat.mul_add_div (by omega), Nat.mul_add_div (by omega), Nat.div_eq_of_lt hj, Nat.div_eq_of_lt hs] at h1
  have h2 : w = v := by omega
  subst h2
  exact ⟨rfl, by omega⟩
theorem ix24 {v s k : Nat} (hs : s < 24) : k = 24 * v + s ↔ (k / 24 = v ∧ k % 24 = s) := by omega
theorem ix3 {v s k : Nat} (hs : s < 3) : k = 3 * v + s ↔ (k / 3 = v ∧ k % 3 = s) := by omega
theorem upd24 {α : Type} (f : Nat → Nat → α) (h : α → Int32) {v s : Nat} (hs : s < 24) (x : α) : upd (fun k => h (f (k / 24) (k % 24))) (24 * v + s) (h x) = fun k => h (up2 f v s x (k / 24) (k % 24)) := by
  funext k
  show (if k = 24 * v + s then _ else _) = h (if _ then _ else _)
  by_cases q : k = 24 * v + s
  · rw [if_pos q, if_pos ((ix24 hs).mp q)]
  · rw [if_neg q, if_neg (fun z => q ((ix24 hs).mpr z))]
theorem upd3 (f : Nat → Nat → Nat) {v s : Nat} (hs : s < 3) (x : Nat) : upd (fun k => nI (f (k / 3) (k % 3))) (3 * v + s) (nI x) = fun k => nI (up2 f v s x (k / 3) (k % 3)) := by
  funext k
  show (if k = 3 * v + s then _ else _) = nI (if _ then _ else _)
  by_cases q : k = 3 * v + s
  · rw [if_pos q, if_pos ((ix3 hs).mp q)]
  · rw [if_neg q, if_neg (fun z => q ((ix3 hs).mpr z))]
theorem ms_M {v i : Nat} (x : Nat) (hi : i < 3) : (mw g σ th mi ti ++ r).set 3 (gB g 2, .inl (gI g, 12, .inl (upd (fun k => nI (sM σ (k / 3) (k % 3))) (3 * v + i) (nI x)))) = mw g (uM σ v i x) th mi ti ++ r := by
  rw [upd3 (sM σ) hi]
  rfl
theorem ms_K {v s : Nat} (x : Nat) (hs : s < 24) : (mw g σ th mi ti ++ r).set 4 (gB g 3, .inl (gI g, 96, .inl (upd (fun k => nI (sK σ (k / 24) (k % 24))) (24 * v + s) (nI x)))) = mw g (uK σ v s x) th mi ti ++ r := by
  rw [upd24 (sK σ) nI hs]
  rfl
theorem ms_P {v s : Nat} (x : Int32) (hs : s < 24) : (mw g σ th mi ti ++ r).set 5 (gB g 4, .inl (gI g, 96, .inl (upd (fun k => sP σ (k / 24) (k % 24)) (24 * v + s) x))) = mw g (uP σ v s x) th mi ti ++ r := by
  rw [upd24 (sP σ) (fun y => y) hs]
  rfl
theorem ms_R {v s : Nat} (x : Bool) (hs : s < 24) : (mw g σ th mi ti ++ r).set 6 (gB g 5, .inl (gZ g, 96, .inl (upd (fun k => bI (sR σ (k / 24) (k % 24))) (24 * v + s) (bI x)))) = mw g (uR σ v s x) th mi ti ++ r := by
  rw [upd24 (sR σ) bI hs]
  rfl
theorem ms_T {v s : Nat} (x : Int32) (hs : s < 24) : (mw g σ th mi ti ++ r).set 7 (gB g 6, .inl (gI g, 96, .inl (upd (fun k => sT σ (k / 24) (k % 24)) (24 * v + s) x))) = mw g (uT σ v s x) th mi ti ++ r := by
  rw [upd24 (sT σ) (fun y => y) hs]
  rfl
end MWAT
end
section
/-! ROWS OF OUR OWN: what every method here is given; calls that write nothing; calls that throw and write nothing. -/
def kStr : List (Nat × String) := [(181, "a number is out of its range"), (26, "the book has all its voices"), (174, "no such voice"), (186, "the voice has no room for so many signs"), (184, "a ligature's note is on the place of the one ahead"), (67, "there is no sign to erase"), (177, "no such sign"), (81, "a rest has no colour"), (188, "the clef is missing")]
def eI : String := "java/lang/IndexOutOfBoundsException"
def eA : String := "java/lang/IllegalArgumentException"
def eS : String := "java/lang/IllegalStateException"
def kNF : List (Nat × String × String) := [(64, "count", "I"), (86, "clef", "I"), (98, "kinds", "[I"), (102, "places", "[I"), (105, "colours", "[Z"), (109, "ranks", "[I"), (116, "begins", "[I")]
def kNM : List (Nat × MethodName) := [(15, yX0_init), (31, yX0_measure), (45, yX0_append), (69, yX0_dropLast), (77, yX0_isRest), (83, yX0_turnColour), (89, yX0_end), (92, yX0_countNotes), (95, yX0_countLigatures), (112, yX0_minimsOf), (127, yX0_signLastingAt), (134, yX0_wouldFit), (137, yX0_countFittingClefs)]
def kDc : List String := ["java/lang/RuntimeException", "java/lang/Exception", "java/lang/Throwable"]
/-- what doesn't stand in the words: statics of Throwable, the texts, castable, links to the nest mate -/
def XS (A : Nat → Prop) (U : State) : Prop := vx_Zq Bundle.tN "UNASSIGNED_STACK" Bundle.steD A U U.heap ∧ vx_Zq Bundle.tN "SUPPRESSED_SENTINEL" Bundle.listD A U U.heap ∧ (∀ q ∈ kStr, ∃ a, vk_R RX1 q.1 q.2 a U) ∧ (∀ E ∈ [eI, eA, eS], va_Nw (.castable E E) U) ∧ (∀ q ∈ kNF, va_Nw (.fieldLinkNest RX1 q.1 "ChoirNotes$Voice" q.2.1 q.2.2 RX1) U) ∧ (∀ q ∈ kNM, va_Nw (.methodLinkNest RX1 q.1 q.2 RX1) U) ∧ ∀ Y ∈ kDc, va_Nw (.declares (Bundle.initS Y)) U
theorem XS.next {A : Nat → Prop} {s U : State} {H : Heap} {locs : List Loc} (h : XS A s) (hS : va_S A s.heap H locs) (hU : U.heap = H) (hW : s.WarmedH U.vm) : XS A U := by
  subst hU
  obtain ⟨h1, h2, h3, h4, h5, h6, h7⟩ := h
  exact ⟨vx_Zq.moved hW.alike (h1.kept hS.2.1), vx_Zq.moved hW.alike (h2.kept hS.2.1), fun q hq => (h3 q hq).imp fun a ha => vk_R.warm hW ha, fun E hE => va_Nw.warmC hW (h4 E hE), fun q hq => va_Nw.warmF hW (h5 q hq), fun q hq => va_Nw.warmM hW (h6 q hq), fun q hq => va_Nw.warmD hW (h7 q hq)⟩
theorem XS.same {A : Nat → Prop} {s U : State} (h : XS A s) (hU : U.heap = s.heap) (hv : s.vm = U.vm) : XS A U := by
  obtain ⟨h1, h2, h3, h4, h5, h6, h7⟩ := h
  have hal : s.vm.Alike U.vm := by rw [hv]; exact Vm.Alike.refl _
  refine ⟨?_, ?_, fun q hq => (h3 q hq).imp fun a ha => vk_R.same hv.symm ha, fun E hE => va_Nw.same rfl hv (h4 E hE), fun q hq => va_Nw.same rfl hv (h5 q hq), fun q hq => va_Nw.same rfl hv (h6 q hq), fun q hq => va_Nw.same rfl hv (h7 q hq)⟩
  · rw [hU]; exact vx_Zq.moved hal h1
  · rw [hU]; exact vx_Zq.moved hal h2
/-- what a method is given: the cells ws, apart, in A; how the classes lie; XS -/
def Cx (g : GA) (A : Nat → Prop) (ws : va_W) (U : State) : Prop := va_P (gD g) vwCl ws U.heap ∧ va_D A ws ∧ (∀ q : Nat, U.heap.size ≤ q → A q) ∧ va_K (gD g) vwCl (gT g) U ∧ XS A U
theorem Cx.next {g : GA} {A : Nat → Prop} {ws : va_W} {s U : State} {H : Heap} {locs : List Loc} (hP : va_P (gD g) vwCl ws H) (hD : va_D A ws) (hA : ∀ q : Nat, s.heap.size ≤ q → A q) (hK : va_K (gD g) vwCl (gT g) s) (hX : XS A s) (hS : va_S A s.heap H locs) (hU : U.heap = H) (hW : s.WarmedH U.vm) : Cx g A ws U :=
  ⟨by rw [hU]; exact hP, hD, fun q h => hA q (Nat.le_trans hS.1 (by rw [hU] at h; exact h)), va_K.moved hW.alike hK, hX.next hS hU hW⟩
theorem cx_blind {g : GA} {A : Nat → Prop} {ws : va_W} {av : List Value} : FrameBlind (va_Pc av (Cx g A ws)) := fun a U f mk q =>
  ⟨q.1, q.2.1, q.2.2.1, q.2.2.2.1, va_K.moved (u := U) (U := U.calling f mk a) (Vm.Alike.refl U.vm) q.2.2.2.2.1, XS.same (U := U.calling f mk a) q.2.2.2.2.2 rfl rfl⟩
theorem cx_S {g : GA} {A : Nat → Prop} {ws : va_W} {s : State} {H : Heap} {locs : List Loc} {As : List Value} (hP : va_P (gD g) vwCl ws H) (hD : va_D A ws) (hA : ∀ q : Nat, s.heap.size ≤ q → A q) (hK : va_K (gD g) vwCl (gT g) s) (hX : XS A s) (hS : va_S A s.heap H locs) : PreS s H (va_Pc As (Cx g A ws)) As :=
  ⟨cx_blind, fun _ hU hW => ⟨rfl, Cx.next hP hD hA hK hX hS hU hW⟩⟩
theorem cx_V {g : GA} {A : Nat → Prop} {ws : va_W} {s : State} {H : Heap} {locs : List Loc} {As : List Value} {b q0 ci : Nat} {r : vw_C} {fs : List Value} (hc : vwCl[ci]? = some r) (he : ws[q0]? = some (b, .inr (ci, fs))) (hP : va_P (gD g) vwCl ws H) (hD : va_D A ws) (hA : ∀ q : Nat, s.heap.size ≤ q → A q) (hK : va_K (gD g) vwCl (gT g) s) (hX : XS A s) (hS : va_S A s.heap H locs) : PreV s H r.1 b (va_Pc (.ref b :: As) (Cx g A ws)) As :=
  ⟨cx_blind, va_recv hK hP hc he, fun _ hU hW => ⟨rfl, Cx.next hP hD hA hK hX hS hU hW⟩⟩
/-- an answer that is a cell, nothing written -/
def kSr (post : Nat → Prop) : Array Value → State → Outcome → State → Prop := fun _ st oc t => ∃ r : Nat, oc = .returned (some (.ref r)) ∧ post r ∧ t.heap = st.heap
def kSv (post : Prop) : Array Value → State → Outcome → State → Prop := fun _ st oc t => oc = .returned none ∧ post ∧ t.heap = st.heap
/-- it writes: the new cells -/
def kB (g : GA) (A : Nat → Prop) (ws : va_W) (t : State) : Prop := va_P (gD g) vwCl ws t.heap ∧ va_D A ws
/-- what it throws, nothing written -/
def kX (cond : String → Prop) : String → State → State → Prop := fun E st t => cond E ∧ va_F (fun _ => False) st t
theorem k_nil {L : List Loc} (h : ∀ q ∈ L, (fun _ : Addr => False) q.base) : L = [] := by
  cases L with
  | nil => rfl
  | cons x y => exact (h x List.mem_cons_self).elim
section KR
variable {p : Program} {l : Launch} {e : Env} {R : Room} {s : State} {m : MethodId} {args : Array Value} {below : List Frame} {meth : Method} {c : Code} {H : Heap} {locs : List Loc} {cells slots : Nat} {Q : State → Prop}
variable {pc : Nat} {ls : Array Slot} {rest st0 : List Value} {a : Array Value} {mc ms : Nat}
theorem k_ri {post : Int32 → Prop} (hr : va_Run p l e R s m args below meth c H locs cells slots 0 0 (F0 m pc ls st0) rest (vp_Si post a) (fun _ => False)) (kk : ∀ r : Int32, post r → W p l e R s m args below meth c H locs cells slots Q (F0 m (pc + 3) ls (.int r :: rest))) : W p l e R s m args below meth c H locs cells slots Q (F0 m pc ls st0) := by
  intro T hT X
  obtain ⟨v, st₀, t, T', L, h0, X', hL, e1, e2, ⟨r, hv, hp, hh⟩, st⟩ := hr T hT X
  cases hv
  have hl := k_nil hL
  subst hl
  rw [List.append_nil] at X'
  obtain ⟨t2, a1, b1⟩ := kk r hp T' (by rw [e1, hh, h0]) X'
  exact ⟨t2, st t2 a1, b1⟩
theorem k_rl {post : Int64 → Prop} (hr : va_Run p l e R s m args below meth c H locs cells slots 0 0 (F0 m pc ls st0) rest (vp_Sl post a) (fun _ => False)) (kk : ∀ r : Int64, post r → W p l e R s m args below meth c H locs cells slots Q (F0 m (pc + 3) ls (.long r :: rest))) : W p l e R s m args below meth c H locs cells slots Q (F0 m pc ls st0) := by
  intro T hT X
  obtain ⟨v, st₀, t, T', L, h0, X', hL, e1, e2, ⟨r, hv, hp, hh⟩, st⟩ := hr T hT X
  cases hv
  have hl := k_nil hL
  subst hl
  rw [List.append_nil] at X'
  obtain ⟨t2, a1, b1⟩ := kk r hp T' (by rw [e1, hh, h0]) X'
  exact ⟨t2, st t2 a1, b1⟩
theorem k_rv {post : Prop} (hr : va_Run p l e R s m args below meth c H locs cells slots 0 0 (F0 m pc ls st0) rest (kSv post a) (fun _ => False)) (kk : post → W p l e R s m args below meth c H locs cells slots Q (F0 m (pc + 3) ls rest)) : W p l e R s m args below meth c H locs cells slots Q (F0 m pc ls st0) := by
  intro T hT X
  obtain ⟨v, st₀, t, T', L, h0, X', hL, e1, e2, ⟨hv, hp, hh⟩, st⟩ := hr T hT X
  cases hv
  have hl := k_nil hL
  subst hl
  rw [List.append_nil] at X'
  obtain ⟨t2, a1, b1⟩ := kk hp T' (by rw [e1, hh, h0]) X'
  exact ⟨t2, st t2 a1, b1⟩
theorem k_cong {x y : Int32} (h : x = y) (k : W p l e R s m args below meth c H locs cells slots Q (F0 m pc ls (.int y :: rest))) : W p l e R s m args below meth c H locs cells slots Q (F0 m pc ls (.int x :: rest)) := by
  subst h
  exact k
theorem k_kept {st₀ t : State} (h0 : st₀.heap = H) (hF : va_F (fun _ => False) st₀ t) : H.size ≤ t.heap.size ∧ ∀ q : Nat, q < H.size → t.heap[q]? = H[q]? := by
  obtain ⟨h1, h2⟩ := hF
  rw [h0] at h1 h2
  exact ⟨h1, fun q hq => h2 q hq (fun z => z)⟩
/-- a call that may throw; the caller has no table -/
theorem k_xo {Qc : Array Value → State → Outcome → State → Prop} {free : Addr → Prop} {cond : String → Prop} {MC MS : Nat} {E : String} {ce : Cell} {q : Addr} {H1 : Heap} (hno : ∀ x ∈ c.exceptionTable.toList, False) (hlocks : meth.locks = false) (hz : s.heap.size ≤ H1.size) (hk : ∀ q : Nat, q < s.heap.size → H1[q]? = s.heap[q]?) (hcell : H1[q]? = some ce) (hv : ce.vm = .none) (hcl : s.vm.findClass E = some ce.cls) (hE : cond E) (hc : cells ≤ MC) (hs : slots ≤ MS) :
    vx_W p l e R s m args below meth c H1 [] cells slots (vx_MQ below Qc (kX cond) args s MC MS free) (F0 m pc ls rest) q :=
  vx_out (fun x hx => (hno x hx).elim) hlocks hcell hv hcl (fun t ht _ => ⟨hE, by rw [ht]; exact hz, fun q hq _ => by rw [ht]; exact hk q hq⟩) (fun z hz => absurd hz List.not_mem_nil) hc hs
section KX
variable {Qc : Array Value → State → Outcome → State → Prop} {free : Addr → Prop} {cond cond' : String → Prop} {MC MS : Nat}
theorem k_xi {post : Int32 → Prop} (hr : vx_Run p l e R s m args below meth c s.heap [] cells slots mc ms (F0 m pc ls st0) rest (vp_Si post a) (kX cond) (fun _ => False)) (hno : ∀ x ∈ c.exceptionTable.toList, False) (hlocks : meth.locks = false) (himp : ∀ E, cond E → cond' E) (hc : cells + mc ≤ MC) (hs : slots + ms ≤ MS)
    (kk : ∀ r : Int32, post r → W p l e R s m args below meth c s.heap [] (cells + mc) (slots + ms) (vx_MQ below Qc (kX cond') args s MC MS free) (F0 m (pc + 3) ls (.int r :: rest))) : W p l e R s m args below meth c s.heap [] cells slots (vx_MQ below Qc (kX cond') args s MC MS free) (F0 m pc ls st0) := by
  intro T hT X
  rcases hr T hT X with ⟨v, st₀, t, T', L, h0, X', hL, e1, e2, ⟨r, hv, hp, hh⟩, st⟩ | ⟨q, st₀, t, T', L, E, ce, h0, X', hL, e1, e2, ⟨hE, hF⟩, hce, hcv, hcl, st⟩
  · cases hv
    have hl := k_nil hL
    subst hl
    rw [List.append_nil] at X'
    obtain ⟨t2, a1, b1⟩ := kk r hp T' (by rw [e1, hh, h0]) X'
    exact ⟨t2, st t2 a1, b1⟩
  · have hl := k_nil hL
    subst hl
    rw [List.append_nil] at X'
    obtain ⟨f1, f2⟩ := k_kept h0 hF
    obtain ⟨t2, a1, b1⟩ := k_xo (p := p) (l := l) (e := e) (R := R) (args := args) (below := below) (pc := pc) (ls := ls) (rest := rest) (Qc := Qc) (free := free) (cond := cond') (MC := MC) (MS := MS) (H1 := t.heap) hno hlocks f1 f2 hce hcv hcl (himp E hE) hc hs T' e1 X'
    exact ⟨t2, st.trans a1, b1⟩
theorem k_xv {post : Prop} (hr : vx_Run p l e R s m args below meth c s.heap [] cells slots mc ms (F0 m pc ls st0) rest (kSv post a) (kX cond) (fun _ => False)) (hno : ∀ x ∈ c.exceptionTable.toList, False) (hlocks : meth.locks = false) (himp : ∀ E, cond E → cond' E) (hc : cells + mc ≤ MC) (hs : slots + ms ≤ MS)
    (kk : post → W p l e R s m args below meth c s.heap [] (cells + mc) (slots + ms) (vx_MQ below Qc (kX cond') args s MC MS free) (F0 m (pc + 3) ls rest)) : W p l e R s m args below meth c s.heap [] cells slots (vx_MQ below Qc (kX cond') args s MC MS free) (F0 m pc ls st0) := by
  intro T hT X
  rcases hr T hT X with ⟨v, st₀, t, T', L, h0, X', hL, e1, e2, ⟨hv, hp, hh⟩, st⟩ | ⟨q, st₀, t, T', L, E, ce, h0, X', hL, e1, e2, ⟨hE, hF⟩, hce, hcv, hcl, st⟩
  · cases hv
    have hl := k_nil hL
    subst hl
    rw [List.append_nil] at X'
    obtain ⟨t2, a1, b1⟩ := kk hp T' (by rw [e1, hh, h0]) X'
    exact ⟨t2, st t2 a1, b1⟩
  · have hl := k_nil hL
    subst hl
    rw [List.append_nil] at X'
    obtain ⟨f1, f2⟩ := k_kept h0 hF
    obtain ⟨t2, a1, b1⟩ := k_xo (p := p) (l := l) (e := e) (R := R) (args := args) (below := below) (pc := pc) (ls := ls) (rest := rest) (Qc := Qc) (free := free) (cond := cond') (MC := MC) (MS := MS) (H1 := t.heap) hno hlocks f1 f2 hce hcv hcl (himp E hE) hc hs T' e1 X'
    exact ⟨t2, st.trans a1, b1⟩
theorem k_xr {post : Nat → Prop} (hr : vx_Run p l e R s m args below meth c s.heap [] cells slots mc ms (F0 m pc ls st0) rest (kSr post a) (kX cond) (fun _ => False)) (hno : ∀ x ∈ c.exceptionTable.toList, False) (hlocks : meth.locks = false) (himp : ∀ E, cond E → cond' E) (hc : cells + mc ≤ MC) (hs : slots + ms ≤ MS)
    (kk : ∀ r : Nat, post r → W p l e R s m args below meth c s.heap [] (cells + mc) (slots + ms) (vx_MQ below Qc (kX cond') args s MC MS free) (F0 m (pc + 3) ls (.ref r :: rest))) : W p l e R s m args below meth c s.heap [] cells slots (vx_MQ below Qc (kX cond') args s MC MS free) (F0 m pc ls st0) := by
  intro T hT X
  rcases hr T hT X with ⟨v, st₀, t, T', L, h0, X', hL, e1, e2, ⟨r, hv, hp, hh⟩, st⟩ | ⟨q, st₀, t, T', L, E, ce, h0, X', hL, e1, e2, ⟨hE, hF⟩, hce, hcv, hcl, st⟩
  · cases hv
    have hl := k_nil hL
    subst hl
    rw [List.append_nil] at X'
    obtain ⟨t2, a1, b1⟩ := kk r hp T' (by rw [e1, hh, h0]) X'
    exact ⟨t2, st t2 a1, b1⟩
  · have hl := k_nil hL
    subst hl
    rw [List.append_nil] at X'
    obtain ⟨f1, f2⟩ := k_kept h0 hF
    obtain ⟨t2, a1, b1⟩ := k_xo (p := p) (l := l) (e := e) (R := R) (args := args) (below := below) (pc := pc) (ls := ls) (rest := rest) (Qc := Qc) (free := free) (cond := cond') (MC := MC) (MS := MS) (H1 := t.heap) hno hlocks f1 f2 hce hcv hcl (himp E hE) hc hs T' e1 X'
    exact ⟨t2, st.trans a1, b1⟩
end KX
end KR
section KA
variable {p : Program} {l : Launch} {e : Env} {R : Room} {s : State} {m : MethodId} {args : Array Value} {below : List Frame} {meth : Method} {c : Code} {H : Heap} {locs : List Loc} {cells slots : Nat} {Q : State → Prop}
variable {cc : ByteArray} {pc : Nat} {ls : Array Slot} {rest : List Value} {D : va_G} {cl : List vw_C} {A : Nat → Prop} {a : Nat} {tys : List (ClassId × FieldType)} {ws : va_W} {H0 : Heap}
theorem k_iald (hexec : p.tables.exec = Jvm.exec) (hb : c.code = cc) (hK : va_K D cl tys s) (hP : va_P D cl ws H) (q0 t0 : Nat) {cA : ClassId} {n : Nat} {f : Nat → Int32} (ha : ws[q0]? = some (a, .inl (cA, n, .inl f))) (ht : tys[t0]? = some (cA, .int)) {i : Int32} (j : Nat) (hij : i = nI j) (hj : j < n) (hn : n < 2 ^ 31) {x : Int32} (hx : f j = x) (hdg : decode cc pc = .ok (.iaload, 1))
    (kk : W p l e R s m args below meth c H locs cells slots Q (F0 m (pc + 1) ls (.int x :: rest))) : W p l e R s m args below meth c H locs cells slots Q (F0 m pc ls (.int i :: .ref a :: rest)) := by
  subst hij; subst hx
  refine va_iald hexec hb hK hP q0 t0 ha ht (vp_in_nI hj hn) hdg ?_
  rw [nI_clamp (by omega)]
  exact kk
theorem k_zald (hexec : p.tables.exec = Jvm.exec) (hb : c.code = cc) (hK : va_K D cl tys s) (hP : va_P D cl ws H) (q0 t0 : Nat) {cA : ClassId} {n : Nat} {f : Nat → Int32} (ha : ws[q0]? = some (a, .inl (cA, n, .inl f))) (ht : tys[t0]? = some (cA, .boolean)) {i : Int32} (j : Nat) (hij : i = nI j) (hj : j < n) (hn : n < 2 ^ 31) {x : Int32} (hx : f j = x) (hdg : decode cc pc = .ok (.baload, 1))
    (kk : W p l e R s m args below meth c H locs cells slots Q (F0 m (pc + 1) ls (.int x :: rest))) : W p l e R s m args below meth c H locs cells slots Q (F0 m pc ls (.int i :: .ref a :: rest)) := by
  subst hij; subst hx
  refine va_zald hexec hb hK hP q0 t0 ha ht (vp_in_nI hj hn) hdg ?_
  rw [nI_clamp (by omega)]
  exact kk
theorem k_aald (hexec : p.tables.exec = Jvm.exec) (hb : c.code = cc) (hK : va_K D cl tys s) (hP : va_P D cl ws H) (q0 t0 : Nat) {cA : ClassId} {C : String} {n : Nat} {f : Nat → Option Nat} (ha : ws[q0]? = some (a, .inl (cA, n, .inr (.inr (.inr (.inr f)))))) (ht : tys[t0]? = some (cA, .object C)) {i : Int32} (j : Nat) (hij : i = nI j) (hj : j < n) (hn : n < 2 ^ 31) {x : Nat} (hx : f j = some x) (hdg : decode cc pc = .ok (.aaload, 1))
    (kk : W p l e R s m args below meth c H locs cells slots Q (F0 m (pc + 1) ls (.ref x :: rest))) : W p l e R s m args below meth c H locs cells slots Q (F0 m pc ls (.int i :: .ref a :: rest)) := by
  subst hij
  refine va_aldq hexec hb hK hP q0 t0 ha ht (vp_in_nI hj hn) hdg ?_
  rw [nI_clamp (by omega), hx]
  exact kk
theorem k_iast (hexec : p.tables.exec = Jvm.exec) (hb : c.code = cc) (hK : va_K D cl tys s) (hP : va_P D cl ws H) (hD : va_D A ws) (hS : va_S A H0 H locs) (q0 t0 : Nat) {cA : ClassId} {n : Nat} {f : Nat → Int32} (ha : ws[q0]? = some (a, .inl (cA, n, .inl f))) (ht : tys[t0]? = some (cA, .int)) {i x : Int32} (j : Nat) (hij : i = nI j) (hj : j < n) (hn : n < 2 ^ 31) {ws' : va_W} (hw : ws.set q0 (a, .inl (cA, n, .inl (upd f j x))) = ws') (hdg : decode cc pc = .ok (.iastore, 1))
    (kk : ∀ (H1 : Heap) (locs1 : List Loc), va_P D cl ws' H1 → va_D A ws' → va_S A H0 H1 locs1 → W p l e R s m args below meth c H1 locs1 cells slots Q (F0 m (pc + 1) ls rest)) : W p l e R s m args below meth c H locs cells slots Q (F0 m pc ls (.int x :: .int i :: .ref a :: rest)) := by
  subst hij; subst hw
  refine va_iast hexec hb hK hP hD hS q0 t0 ha ht (vp_in_nI hj hn) hdg (fun H1 locs1 h1 h2 h3 => ?_)
  rw [nI_clamp (by omega)] at h1 h2
  exact kk H1 locs1 h1 h2 h3
theorem k_zast (hexec : p.tables.exec = Jvm.exec) (hb : c.code = cc) (hK : va_K D cl tys s) (hP : va_P D cl ws H) (hD : va_D A ws) (hS : va_S A H0 H locs) (q0 t0 : Nat) {cA : ClassId} {n : Nat} {f : Nat → Int32} (ha : ws[q0]? = some (a, .inl (cA, n, .inl f))) (ht : tys[t0]? = some (cA, .boolean)) {i x : Int32} (j : Nat) (hij : i = nI j) (hj : j < n) (hn : n < 2 ^ 31) {ws' : va_W} (hx : vp_nar .boolean x = x) (hw : ws.set q0 (a, .inl (cA, n, .inl (upd f j x))) = ws') (hdg : decode cc pc = .ok (.bastore, 1))
    (kk : ∀ (H1 : Heap) (locs1 : List Loc), va_P D cl ws' H1 → va_D A ws' → va_S A H0 H1 locs1 → W p l e R s m args below meth c H1 locs1 cells slots Q (F0 m (pc + 1) ls rest)) : W p l e R s m args below meth c H locs cells slots Q (F0 m pc ls (.int x :: .int i :: .ref a :: rest)) := by
  subst hij; subst hw
  refine va_zast hexec hb hK hP hD hS q0 t0 ha ht (vp_in_nI hj hn) hdg (fun H1 locs1 h1 h2 h3 => ?_)
  rw [nI_clamp (by omega)] at h1 h2
  first
    | (rw [hx] at h1 h2; exact kk H1 locs1 h1 h2 h3)
    | exact kk H1 locs1 h1 h2 h3
end KA
section KL
variable {p : Program} {l : Launch} {e : Env} {R : Room} {s : State} {m : MethodId} {args : Array Value} {below : List Frame} {meth : Method} {c : Code} {H : Heap} {locs : List Loc} {cells slots : Nat} {Q : State → Prop}
variable {pc : Nat} {st0 : List Value}
theorem k_loop1 {nL : Nat} {T1 : Type} (I : T1 → Prop) (μ : T1 → Nat) (L : T1 → List (Nat × Value)) (step : ∀ (a1 : T1), I a1 → (∀ (b1 : T1), I b1 → μ b1 < μ a1 → ∀ ls : Array Slot, lv_has ls nL (L b1) → W p l e R s m args below meth c H locs cells slots Q (F0 m pc ls st0)) → ∀ ls : Array Slot, lv_has ls nL (L a1) → W p l e R s m args below meth c H locs cells slots Q (F0 m pc ls st0)) (a1 : T1) (h0 : I a1) {ls : Array Slot} (hl : lv_has ls nL (L a1)) : W p l e R s m args below meth c H locs cells slots Q (F0 m pc ls st0) := by
  have key : ∀ (n : Nat) (a1 : T1), μ a1 < n → I a1 → ∀ ls : Array Slot, lv_has ls nL (L a1) → W p l e R s m args below meth c H locs cells slots Q (F0 m pc ls st0) := by
    intro n
    induction n with
    | zero => intro a1 hm; omega
    | succ n ih =>
      intro a1 hm hI ls hl
      exact step a1 hI (fun b1 hb hlt ls hl => ih b1 (by omega) hb ls hl) ls hl
  exact key (μ a1 + 1) a1 (Nat.lt_succ_self _) h0 ls hl
theorem k_loopW1 {nL : Nat} {T1 : Type} {D : va_G} {cl : List vw_C} {A : Nat → Prop} (I : T1 → Prop) (μ : T1 → Nat) (L : T1 → List (Nat × Value)) (WS : T1 → va_W) (step : ∀ (a1 : T1), I a1 → (∀ (b1 : T1), I b1 → μ b1 < μ a1 → ∀ (H : Heap) (locs : List Loc) (ls : Array Slot), va_P D cl (WS b1) H → va_D A (WS b1) → va_S A s.heap H locs → lv_has ls nL (L b1) → W p l e R s m args below meth c H locs cells slots Q (F0 m pc ls st0)) → ∀ (H : Heap) (locs : List Loc) (ls : Array Slot), va_P D cl (WS a1) H → va_D A (WS a1) → va_S A s.heap H locs → lv_has ls nL (L a1) → W p l e R s m args below meth c H locs cells slots Q (F0 m pc ls st0)) (a1 : T1) (h0 : I a1) {ls : Array Slot} (hP : va_P D cl (WS a1) H) (hD : va_D A (WS a1)) (hS : va_S A s.heap H locs) (hl : lv_has ls nL (L a1)) : W p l e R s m args below meth c H locs cells slots Q (F0 m pc ls st0) := by
  have key : ∀ (n : Nat) (a1 : T1), μ a1 < n → I a1 → ∀ (H : Heap) (locs : List Loc) (ls : Array Slot), va_P D cl (WS a1) H → va_D A (WS a1) → va_S A s.heap H locs → lv_has ls nL (L a1) → W p l e R s m args below meth c H locs cells slots Q (F0 m pc ls st0) := by
    intro n
    induction n with
    | zero => intro a1 hm; omega
    | succ n ih =>
      intro a1 hm hI H locs ls hP hD hS hl
      exact step a1 hI (fun b1 hb hlt H locs ls hP hD hS hl => ih b1 (by omega) hb H locs ls hP hD hS hl) H locs ls hP hD hS hl
  exact key (μ a1 + 1) a1 (Nat.lt_succ_self _) h0 H locs ls hP hD hS hl
theorem k_loop2 {nL : Nat} {T1 T2 : Type} (I : T1 → T2 → Prop) (μ : T1 → T2 → Nat) (L : T1 → T2 → List (Nat × Value)) (step : ∀ (a1 : T1) (a2 : T2), I a1 a2 → (∀ (b1 : T1) (b2 : T2), I b1 b2 → μ b1 b2 < μ a1 a2 → ∀ ls : Array Slot, lv_has ls nL (L b1 b2) → W p l e R s m args below meth c H locs cells slots Q (F0 m pc ls st0)) → ∀ ls : Array Slot, lv_has ls nL (L a1 a2) → W p l e R s m args below meth c H locs cells slots Q (F0 m pc ls st0)) (a1 : T1) (a2 : T2) (h0 : I a1 a2) {ls : Array Slot} (hl : lv_has ls nL (L a1 a2)) : W p l e R s m args below meth c H locs cells slots Q (F0 m pc ls st0) := by
  have key : ∀ (n : Nat) (a1 : T1) (a2 : T2), μ a1 a2 < n → I a1 a2 → ∀ ls : Array Slot, lv_has ls nL (L a1 a2) → W p l e R s m args below meth c H locs cells slots Q (F0 m pc ls st0) := by
    intro n
    induction n with
    | zero => intro a1 a2 hm; omega
    | succ n ih =>
      intro a1 a2 hm hI ls hl
      exact step a1 a2 hI (fun b1 b2 hb hlt ls hl => ih b1 b2 (by omega) hb ls hl) ls hl
  exact key (μ a1 a2 + 1) a1 a2 (Nat.lt_succ_self _) h0 ls hl
theorem k_loopW2 {nL : Nat} {T1 T2 : Type} {D : va_G} {cl : List vw_C} {A : Nat → Prop} (I : T1 → T2 → Prop) (μ : T1 → T2 → Nat) (L : T1 → T2 → List (Nat × Value)) (WS : T1 → T2 → va_W) (step : ∀ (a1 : T1) (a2 : T2), I a1 a2 → (∀ (b1 : T1) (b2 : T2), I b1 b2 → μ b1 b2 < μ a1 a2 → ∀ (H : Heap) (locs : List Loc) (ls : Array Slot), va_P D cl (WS b1 b2) H → va_D A (WS b1 b2) → va_S A s.heap H locs → lv_has ls nL (L b1 b2) → W p l e R s m args below meth c H locs cells slots Q (F0 m pc ls st0)) → ∀ (H : Heap) (locs : List Loc) (ls : Array Slot), va_P D cl (WS a1 a2) H → va_D A (WS a1 a2) → va_S A s.heap H locs → lv_has ls nL (L a1 a2) → W p l e R s m args below meth c H locs cells slots Q (F0 m pc ls st0)) (a1 : T1) (a2 : T2) (h0 : I a1 a2) {ls : Array Slot} (hP : va_P D cl (WS a1 a2) H) (hD : va_D A (WS a1 a2)) (hS : va_S A s.heap H locs) (hl : lv_has ls nL (L a1 a2)) : W p l e R s m args below meth c H locs cells slots Q (F0 m pc ls st0) := by
  have key : ∀ (n : Nat) (a1 : T1) (a2 : T2), μ a1 a2 < n → I a1 a2 → ∀ (H : Heap) (locs : List Loc) (ls : Array Slot), va_P D cl (WS a1 a2) H → va_D A (WS a1 a2) → va_S A s.heap H locs → lv_has ls nL (L a1 a2) → W p l e R s m args below meth c H locs cells slots Q (F0 m pc ls st0) := by
    intro n
    induction n with
    | zero => intro a1 a2 hm; omega
    | succ n ih =>
      intro a1 a2 hm hI H locs ls hP hD hS hl
      exact step a1 a2 hI (fun b1 b2 hb hlt H locs ls hP hD hS hl => ih b1 b2 (by omega) hb H locs ls hP hD hS hl) H locs ls hP hD hS hl
  exact key (μ a1 a2 + 1) a1 a2 (Nat.lt_succ_self _) h0 H locs ls hP hD hS hl
theorem k_loop3 {nL : Nat} {T1 T2 T3 : Type} (I : T1 → T2 → T3 → Prop) (μ : T1 → T2 → T3 → Nat) (L : T1 → T2 → T3 → List (Nat × Value)) (step : ∀ (a1 : T1) (a2 : T2) (a3 : T3), I a1 a2 a3 → (∀ (b1 : T1) (b2 : T2) (b3 : T3), I b1 b2 b3 → μ b1 b2 b3 < μ a1 a2 a3 → ∀ ls : Array Slot, lv_has ls nL (L b1 b2 b3) → W p l e R s m args below meth c H locs cells slots Q (F0 m pc ls st0)) → ∀ ls : Array Slot, lv_has ls nL (L a1 a2 a3) → W p l e R s m args below meth c H locs cells slots Q (F0 m pc ls st0)) (a1 : T1) (a2 : T2) (a3 : T3) (h0 : I a1 a2 a3) {ls : Array Slot} (hl : lv_has ls nL (L a1 a2 a3)) : W p l e R s m args below meth c H locs cells slots Q (F0 m pc ls st0) := by
  have key : ∀ (n : Nat) (a1 : T1) (a2 : T2) (a3 : T3), μ a1 a2 a3 < n → I a1 a2 a3 → ∀ ls : Array Slot, lv_has ls nL (L a1 a2 a3) → W p l e R s m args below meth c H locs cells slots Q (F0 m pc ls st0) := by
    intro n
    induction n with
    | zero => intro a1 a2 a3 hm; omega
    | succ n ih =>
      intro a1 a2 a3 hm hI ls hl
      exact step a1 a2 a3 hI (fun b1 b2 b3 hb hlt ls hl => ih b1 b2 b3 (by omega) hb ls hl) ls hl
  exact key (μ a1 a2 a3 + 1) a1 a2 a3 (Nat.lt_succ_self _) h0 ls hl
theorem k_loopW3 {nL : Nat} {T1 T2 T3 : Type} {D : va_G} {cl : List vw_C} {A : Nat → Prop} (I : T1 → T2 → T3 → Prop) (μ : T1 → T2 → T3 → Nat) (L : T1 → T2 → T3 → List (Nat × Value)) (WS : T1 → T2 → T3 → va_W) (step : ∀ (a1 : T1) (a2 : T2) (a3 : T3), I a1 a2 a3 → (∀ (b1 : T1) (b2 : T2) (b3 : T3), I b1 b2 b3 → μ b1 b2 b3 < μ a1 a2 a3 → ∀ (H : Heap) (locs : List Loc) (ls : Array Slot), va_P D cl (WS b1 b2 b3) H → va_D A (WS b1 b2 b3) → va_S A s.heap H locs → lv_has ls nL (L b1 b2 b3) → W p l e R s m args below meth c H locs cells slots Q (F0 m pc ls st0)) → ∀ (H : Heap) (locs : List Loc) (ls : Array Slot), va_P D cl (WS a1 a2 a3) H → va_D A (WS a1 a2 a3) → va_S A s.heap H locs → lv_has ls nL (L a1 a2 a3) → W p l e R s m args below meth c H locs cells slots Q (F0 m pc ls st0)) (a1 : T1) (a2 : T2) (a3 : T3) (h0 : I a1 a2 a3) {ls : Array Slot} (hP : va_P D cl (WS a1 a2 a3) H) (hD : va_D A (WS a1 a2 a3)) (hS : va_S A s.heap H locs) (hl : lv_has ls nL (L a1 a2 a3)) : W p l e R s m args below meth c H locs cells slots Q (F0 m pc ls st0) := by
  have key : ∀ (n : Nat) (a1 : T1) (a2 : T2) (a3 : T3), μ a1 a2 a3 < n → I a1 a2 a3 → ∀ (H : Heap) (locs : List Loc) (ls : Array Slot), va_P D cl (WS a1 a2 a3) H → va_D A (WS a1 a2 a3) → va_S A s.heap H locs → lv_has ls nL (L a1 a2 a3) → W p l e R s m args below meth c H locs cells slots Q (F0 m pc ls st0) := by
    intro n
    induction n with
    | zero => intro a1 a2 a3 hm; omega
    | succ n ih =>
      intro a1 a2 a3 hm hI H locs ls hP hD hS hl
      exact step a1 a2 a3 hI (fun b1 b2 b3 hb hlt H locs ls hP hD hS hl => ih b1 b2 b3 (by omega) hb H locs ls hP hD hS hl) H locs ls hP hD hS hl
  exact key (μ a1 a2 a3 + 1) a1 a2 a3 (Nat.lt_succ_self _) h0 H locs ls hP hD hS hl
theorem k_loop4 {nL : Nat} {T1 T2 T3 T4 : Type} (I : T1 → T2 → T3 → T4 → Prop) (μ : T1 → T2 → T3 → T4 → Nat) (L : T1 → T2 → T3 → T4 → List (Nat × Value)) (step : ∀ (a1 : T1) (a2 : T2) (a3 : T3) (a4 : T4), I a1 a2 a3 a4 → (∀ (b1 : T1) (b2 : T2) (b3 : T3) (b4 : T4), I b1 b2 b3 b4 → μ b1 b2 b3 b4 < μ a1 a2 a3 a4 → ∀ ls : Array Slot, lv_has ls nL (L b1 b2 b3 b4) → W p l e R s m args below meth c H locs cells slots Q (F0 m pc ls st0)) → ∀ ls : Array Slot, lv_has ls nL (L a1 a2 a3 a4) → W p l e R s m args below meth c H locs cells slots Q (F0 m pc ls st0)) (a1 : T1) (a2 : T2) (a3 : T3) (a4 : T4) (h0 : I a1 a2 a3 a4) {ls : Array Slot} (hl : lv_has ls nL (L a1 a2 a3 a4)) : W p l e R s m args below meth c H locs cells slots Q (F0 m pc ls st0) := by
  have key : ∀ (n : Nat) (a1 : T1) (a2 : T2) (a3 : T3) (a4 : T4), μ a1 a2 a3 a4 < n → I a1 a2 a3 a4 → ∀ ls : Array Slot, lv_has ls nL (L a1 a2 a3 a4) → W p l e R s m args below meth c H locs cells slots Q (F0 m pc ls st0) := by
    intro n
    induction n with
    | zero => intro a1 a2 a3 a4 hm; omega
    | succ n ih =>
      intro a1 a2 a3 a4 hm hI ls hl
      exact step a1 a2 a3 a4 hI (fun b1 b2 b3 b4 hb hlt ls hl => ih b1 b2 b3 b4 (by omega) hb ls hl) ls hl
  exact key (μ a1 a2 a3 a4 + 1) a1 a2 a3 a4 (Nat.lt_succ_self _) h0 ls hl
theorem k_loopW4 {nL : Nat} {T1 T2 T3 T4 : Type} {D : va_G} {cl : List vw_C} {A : Nat → Prop} (I : T1 → T2 → T3 → T4 → Prop) (μ : T1 → T2 → T3 → T4 → Nat) (L : T1 → T2 → T3 → T4 → List (Nat × Value)) (WS : T1 → T2 → T3 → T4 → va_W) (step : ∀ (a1 : T1) (a2 : T2) (a3 : T3) (a4 : T4), I a1 a2 a3 a4 → (∀ (b1 : T1) (b2 : T2) (b3 : T3) (b4 : T4), I b1 b2 b3 b4 → μ b1 b2 b3 b4 < μ a1 a2 a3 a4 → ∀ (H : Heap) (locs : List Loc) (ls : Array Slot), va_P D cl (WS b1 b2 b3 b4) H → va_D A (WS b1 b2 b3 b4) → va_S A s.heap H locs → lv_has ls nL (L b1 b2 b3 b4) → W p l e R s m args below meth c H locs cells slots Q (F0 m pc ls st0)) → ∀ (H : Heap) (locs : List Loc) (ls : Array Slot), va_P D cl (WS a1 a2 a3 a4) H → va_D A (WS a1 a2 a3 a4) → va_S A s.heap H locs → lv_has ls nL (L a1 a2 a3 a4) → W p l e R s m args below meth c H locs cells slots Q (F0 m pc ls st0)) (a1 : T1) (a2 : T2) (a3 : T3) (a4 : T4) (h0 : I a1 a2 a3 a4) {ls : Array Slot} (hP : va_P D cl (WS a1 a2 a3 a4) H) (hD : va_D A (WS a1 a2 a3 a4)) (hS : va_S A s.heap H locs) (hl : lv_has ls nL (L a1 a2 a3 a4)) : W p l e R s m args below meth c H locs cells slots Q (F0 m pc ls st0) := by
  have key : ∀ (n : Nat) (a1 : T1) (a2 : T2) (a3 : T3) (a4 : T4), μ a1 a2 a3 a4 < n → I a1 a2 a3 a4 → ∀ (H : Heap) (locs : List Loc) (ls : Array Slot), va_P D cl (WS a1 a2 a3 a4) H → va_D A (WS a1 a2 a3 a4) → va_S A s.heap H locs → lv_has ls nL (L a1 a2 a3 a4) → W p l e R s m args below meth c H locs cells slots Q (F0 m pc ls st0) := by
    intro n
    induction n with
    | zero => intro a1 a2 a3 a4 hm; omega
    | succ n ih =>
      intro a1 a2 a3 a4 hm hI H locs ls hP hD hS hl
      exact step a1 a2 a3 a4 hI (fun b1 b2 b3 b4 hb hlt H locs ls hP hD hS hl => ih b1 b2 b3 b4 (by omega) hb H locs ls hP hD hS hl) H locs ls hP hD hS hl
  exact key (μ a1 a2 a3 a4 + 1) a1 a2 a3 a4 (Nat.lt_succ_self _) h0 H locs ls hP hD hS hl
theorem k_loop5 {nL : Nat} {T1 T2 T3 T4 T5 : Type} (I : T1 → T2 → T3 → T4 → T5 → Prop) (μ : T1 → T2 → T3 → T4 → T5 → Nat) (L : T1 → T2 → T3 → T4 → T5 → List (Nat × Value)) (step : ∀ (a1 : T1) (a2 : T2) (a3 : T3) (a4 : T4) (a5 : T5), I a1 a2 a3 a4 a5 → (∀ (b1 : T1) (b2 : T2) (b3 : T3) (b4 : T4) (b5 : T5), I b1 b2 b3 b4 b5 → μ b1 b2 b3 b4 b5 < μ a1 a2 a3 a4 a5 → ∀ ls : Array Slot, lv_has ls nL (L b1 b2 b3 b4 b5) → W p l e R s m args below meth c H locs cells slots Q (F0 m pc ls st0)) → ∀ ls : Array Slot, lv_has ls nL (L a1 a2 a3 a4 a5) → W p l e R s m args below meth c H locs cells slots Q (F0 m pc ls st0)) (a1 : T1) (a2 : T2) (a3 : T3) (a4 : T4) (a5 : T5) (h0 : I a1 a2 a3 a4 a5) {ls : Array Slot} (hl : lv_has ls nL (L a1 a2 a3 a4 a5)) : W p l e R s m args below meth c H locs cells slots Q (F0 m pc ls st0) := by
  have key : ∀ (n : Nat) (a1 : T1) (a2 : T2) (a3 : T3) (a4 : T4) (a5 : T5), μ a1 a2 a3 a4 a5 < n → I a1 a2 a3 a4 a5 → ∀ ls : Array Slot, lv_has ls nL (L a1 a2 a3 a4 a5) → W p l e R s m args below meth c H locs cells slots Q (F0 m pc ls st0) := by
    intro n
    induction n with
    | zero => intro a1 a2 a3 a4 a5 hm; omega
    | succ n ih =>
      intro a1 a2 a3 a4 a5 hm hI ls hl
      exact step a1 a2 a3 a4 a5 hI (fun b1 b2 b3 b4 b5 hb hlt ls hl => ih b1 b2 b3 b4 b5 (by omega) hb ls hl) ls hl
  exact key (μ a1 a2 a3 a4 a5 + 1) a1 a2 a3 a4 a5 (Nat.lt_succ_self _) h0 ls hl
theorem k_loopW5 {nL : Nat} {T1 T2 T3 T4 T5 : Type} {D : va_G} {cl : List vw_C} {A : Nat → Prop} (I : T1 → T2 → T3 → T4 → T5 → Prop) (μ : T1 → T2 → T3 → T4 → T5 → Nat) (L : T1 → T2 → T3 → T4 → T5 → List (Nat × Value)) (WS : T1 → T2 → T3 → T4 → T5 → va_W) (step : ∀ (a1 : T1) (a2 : T2) (a3 : T3) (a4 : T4) (a5 : T5), I a1 a2 a3 a4 a5 → (∀ (b1 : T1) (b2 : T2) (b3 : T3) (b4 : T4) (b5 : T5), I b1 b2 b3 b4 b5 → μ b1 b2 b3 b4 b5 < μ a1 a2 a3 a4 a5 → ∀ (H : Heap) (locs : List Loc) (ls : Array Slot), va_P D cl (WS b1 b2 b3 b4 b5) H → va_D A (WS b1 b2 b3 b4 b5) → va_S A s.heap H locs → lv_has ls nL (L b1 b2 b3 b4 b5) → W p l e R s m args below meth c H locs cells slots Q (F0 m pc ls st0)) → ∀ (H : Heap) (locs : List Loc) (ls : Array Slot), va_P D cl (WS a1 a2 a3 a4 a5) H → va_D A (WS a1 a2 a3 a4 a5) → va_S A s.heap H locs → lv_has ls nL (L a1 a2 a3 a4 a5) → W p l e R s m args below meth c H locs cells slots Q (F0 m pc ls st0)) (a1 : T1) (a2 : T2) (a3 : T3) (a4 : T4) (a5 : T5) (h0 : I a1 a2 a3 a4 a5) {ls : Array Slot} (hP : va_P D cl (WS a1 a2 a3 a4 a5) H) (hD : va_D A (WS a1 a2 a3 a4 a5)) (hS : va_S A s.heap H locs) (hl : lv_has ls nL (L a1 a2 a3 a4 a5)) : W p l e R s m args below meth c H locs cells slots Q (F0 m pc ls st0) := by
  have key : ∀ (n : Nat) (a1 : T1) (a2 : T2) (a3 : T3) (a4 : T4) (a5 : T5), μ a1 a2 a3 a4 a5 < n → I a1 a2 a3 a4 a5 → ∀ (H : Heap) (locs : List Loc) (ls : Array Slot), va_P D cl (WS a1 a2 a3 a4 a5) H → va_D A (WS a1 a2 a3 a4 a5) → va_S A s.heap H locs → lv_has ls nL (L a1 a2 a3 a4 a5) → W p l e R s m args below meth c H locs cells slots Q (F0 m pc ls st0) := by
    intro n
    induction n with
    | zero => intro a1 a2 a3 a4 a5 hm; omega
    | succ n ih =>
      intro a1 a2 a3 a4 a5 hm hI H locs ls hP hD hS hl
      exact step a1 a2 a3 a4 a5 hI (fun b1 b2 b3 b4 b5 hb hlt H locs ls hP hD hS hl => ih b1 b2 b3 b4 b5 (by omega) hb H locs ls hP hD hS hl) H locs ls hP hD hS hl
  exact key (μ a1 a2 a3 a4 a5 + 1) a1 a2 a3 a4 a5 (Nat.lt_succ_self _) h0 H locs ls hP hD hS hl
end KL
theorem kN_inc (a n : Nat) {k : Int32} (h : nI n = k) : nI a + k = nI (a + n) := by
  rw [← h]
  exact nI_add a n
theorem kN_b (b : Bool) : vp_nar .boolean (bI b) = bI b := by cases b <;> rfl
theorem bI_0 {b : Bool} : bI b = 0 ↔ b = false := by cases b <;> simp [bI]
theorem bI_n0 {b : Bool} : ¬ bI b = 0 ↔ b = true := by cases b <;> simp [bI]
theorem bI_nar (b : Bool) : narrow .boolean (.int (bI b)) = .int (bI b) := by cases b <;> rfl
theorem nf_64 {A : Nat → Prop} {s : State} (h : XS A s) : va_Nw (.fieldLinkNest RX1 64 "ChoirNotes$Voice" "count" "I" RX1) s := h.2.2.2.2.1 (64, "count", "I") (by simp [kNF])
theorem nf_86 {A : Nat → Prop} {s : State} (h : XS A s) : va_Nw (.fieldLinkNest RX1 86 "ChoirNotes$Voice" "clef" "I" RX1) s := h.2.2.2.2.1 (86, "clef", "I") (by simp [kNF])
theorem nf_98 {A : Nat → Prop} {s : State} (h : XS A s) : va_Nw (.fieldLinkNest RX1 98 "ChoirNotes$Voice" "kinds" "[I" RX1) s := h.2.2.2.2.1 (98, "kinds", "[I") (by simp [kNF])
theorem nf_102 {A : Nat → Prop} {s : State} (h : XS A s) : va_Nw (.fieldLinkNest RX1 102 "ChoirNotes$Voice" "places" "[I" RX1) s := h.2.2.2.2.1 (102, "places", "[I") (by simp [kNF])
theorem nf_105 {A : Nat → Prop} {s : State} (h : XS A s) : va_Nw (.fieldLinkNest RX1 105 "ChoirNotes$Voice" "colours" "[Z" RX1) s := h.2.2.2.2.1 (105, "colours", "[Z") (by simp [kNF])
theorem nf_109 {A : Nat → Prop} {s : State} (h : XS A s) : va_Nw (.fieldLinkNest RX1 109 "ChoirNotes$Voice" "ranks" "[I" RX1) s := h.2.2.2.2.1 (109, "ranks", "[I") (by simp [kNF])
theorem nf_116 {A : Nat → Prop} {s : State} (h : XS A s) : va_Nw (.fieldLinkNest RX1 116 "ChoirNotes$Voice" "begins" "[I" RX1) s := h.2.2.2.2.1 (116, "begins", "[I") (by simp [kNF])
theorem nm_15 {A : Nat → Prop} {s : State} (h : XS A s) : va_Nw (.methodLinkNest RX1 15 yX0_init RX1) s := h.2.2.2.2.2.1 (15, yX0_init) (by simp [kNM])
theorem nm_31 {A : Nat → Prop} {s : State} (h : XS A s) : va_Nw (.methodLinkNest RX1 31 yX0_measure RX1) s := h.2.2.2.2.2.1 (31, yX0_measure) (by simp [kNM])
theorem nm_45 {A : Nat → Prop} {s : State} (h : XS A s) : va_Nw (.methodLinkNest RX1 45 yX0_append RX1) s := h.2.2.2.2.2.1 (45, yX0_append) (by simp [kNM])
theorem nm_69 {A : Nat → Prop} {s : State} (h : XS A s) : va_Nw (.methodLinkNest RX1 69 yX0_dropLast RX1) s := h.2.2.2.2.2.1 (69, yX0_dropLast) (by simp [kNM])
theorem nm_77 {A : Nat → Prop} {s : State} (h : XS A s) : va_Nw (.methodLinkNest RX1 77 yX0_isRest RX1) s := h.2.2.2.2.2.1 (77, yX0_isRest) (by simp [kNM])
theorem nm_83 {A : Nat → Prop} {s : State} (h : XS A s) : va_Nw (.methodLinkNest RX1 83 yX0_turnColour RX1) s := h.2.2.2.2.2.1 (83, yX0_turnColour) (by simp [kNM])
theorem nm_89 {A : Nat → Prop} {s : State} (h : XS A s) : va_Nw (.methodLinkNest RX1 89 yX0_end RX1) s := h.2.2.2.2.2.1 (89, yX0_end) (by simp [kNM])
theorem nm_92 {A : Nat → Prop} {s : State} (h : XS A s) : va_Nw (.methodLinkNest RX1 92 yX0_countNotes RX1) s := h.2.2.2.2.2.1 (92, yX0_countNotes) (by simp [kNM])
theorem nm_95 {A : Nat → Prop} {s : State} (h : XS A s) : va_Nw (.methodLinkNest RX1 95 yX0_countLigatures RX1) s := h.2.2.2.2.2.1 (95, yX0_countLigatures) (by simp [kNM])
theorem nm_112 {A : Nat → Prop} {s : State} (h : XS A s) : va_Nw (.methodLinkNest RX1 112 yX0_minimsOf RX1) s := h.2.2.2.2.2.1 (112, yX0_minimsOf) (by simp [kNM])
theorem nm_127 {A : Nat → Prop} {s : State} (h : XS A s) : va_Nw (.methodLinkNest RX1 127 yX0_signLastingAt RX1) s := h.2.2.2.2.2.1 (127, yX0_signLastingAt) (by simp [kNM])
theorem nm_134 {A : Nat → Prop} {s : State} (h : XS A s) : va_Nw (.methodLinkNest RX1 134 yX0_wouldFit RX1) s := h.2.2.2.2.2.1 (134, yX0_wouldFit) (by simp [kNM])
theorem nm_137 {A : Nat → Prop} {s : State} (h : XS A s) : va_Nw (.methodLinkNest RX1 137 yX0_countFittingClefs RX1) s := h.2.2.2.2.2.1 (137, yX0_countFittingClefs) (by simp [kNM])
theorem pk_mul2 (a b c : Nat) : nI a * nI b * nI c = nI (a * b * c) := by rw [pk_mul, pk_mul]
theorem pk_mul1 (a b : Nat) : nI a * nI b = nI (a * b) := pk_mul a b
end
section
/-! THE ANSWERS, as the document has them, of the state -/
/-- how long a sign of this kind is -/
def lenK (m0 m1 m2 k : Nat) (r : Bool) : Nat := if k = 0 then (if r then 2 else m0) * m1 * m2 else if k = 1 then (if r then 2 else m1) * m2 else if k = 2 then (if r then 2 else m2) else 1
def lg (σ : St) (v s : Nat) : Nat := lenK (sM σ v 0) (sM σ v 1) (sM σ v 2) (sK σ v s) (sR σ v s)
/-- when a sign begins -/
def bg (σ : St) (v : Nat) : Nat → Nat
  | 0 => 0
  | s + 1 => bg σ v s + lg σ v s
/-- how long a voice is -/
def len (σ : St) (v : Nat) : Nat := bg σ v (sC σ v)
/-- how many of the first n -/
def cnt (p : Nat → Bool) : Nat → Nat
  | 0 => 0
  | n + 1 => cnt p n + (if p n then 1 else 0)
theorem cnt_le (p : Nat → Bool) (n : Nat) : cnt p n ≤ n := by
  induction n with
  | zero => exact Nat.le_refl _
  | succ n ih => show cnt p n + _ ≤ _; split <;> omega
def isNt (σ : St) (v s : Nat) : Bool := !decide (sP σ v s = -1)
def isLg (σ : St) (v s : Nat) : Bool := decide (sT σ v s = 0)
/-- a clef's pitch of a place is told -/
def inP (q : Int32) : Bool := !decide (q < 3) && decide (q ≤ 16)
def ftS (σ : St) (v : Nat) (c : Int32) (s : Nat) : Bool := !isNt σ v s || inP (sP σ v s + 2 * c)
def ftN (σ : St) (v : Nat) (c : Int32) : Nat → Bool
  | 0 => true
  | n + 1 => ftN σ v c n && ftS σ v c n
def ft (σ : St) (v : Nat) (c : Int32) : Bool := ftN σ v c (sC σ v)
def fct (σ : St) (v : Nat) : Nat := cnt (fun c => ft σ v (nI c)) 6
/-- the sign that lasts at a time -/
def sgAt (σ : St) (v : Nat) (t : Int32) : Nat → Int32
  | 0 => -1
  | n + 1 => if sgAt σ v t n = -1 then (if t < nI (bg σ v (n + 1)) then nI n else -1) else sgAt σ v t n
/-- all that holds of the state between calls -/
def Inv (σ : St) : Prop := sN σ ≤ 4 ∧ (∀ v, sC σ v ≤ 24) ∧ (∀ v, sN σ ≤ v → sL σ v = -1 ∧ sC σ v = 0) ∧ (∀ v, v < sN σ → ∀ i, i < 3 → sM σ v i = 2 ∨ sM σ v i = 3) ∧ (∀ v s, sK σ v s ≤ 3) ∧ (∀ v s, sT σ v s = -1 ∨ ∃ j : Nat, j ≤ s ∧ j ≤ 2 ∧ sT σ v s = nI j) ∧ (∀ v s, s ≤ sC σ v → sB σ v s = nI (bg σ v s))
theorem Inv.N {σ : St} (h : Inv σ) : sN σ ≤ 4 := h.1
theorem Inv.C {σ : St} (h : Inv σ) (v : Nat) : sC σ v ≤ 24 := h.2.1 v
theorem Inv.B {σ : St} (h : Inv σ) {v s : Nat} (hs : s ≤ sC σ v) : sB σ v s = nI (bg σ v s) := h.2.2.2.2.2.2 v s hs
theorem Inv.K {σ : St} (h : Inv σ) (v s : Nat) : sK σ v s ≤ 3 := h.2.2.2.2.1 v s
theorem Inv.M {σ : St} (h : Inv σ) {v : Nat} (hv : v < sN σ) {i : Nat} (hi : i < 3) : sM σ v i = 2 ∨ sM σ v i = 3 := h.2.2.2.1 v hv i hi
theorem Inv.v4 {σ : St} (h : Inv σ) {v : Nat} (hv : v < sN σ) : v < 4 := Nat.lt_of_lt_of_le hv h.1
theorem lenK_le {m0 m1 m2 k : Nat} {r : Bool} (h0 : m0 = 2 ∨ m0 = 3) (h1 : m1 = 2 ∨ m1 = 3) (h2 : m2 = 2 ∨ m2 = 3) : 1 ≤ lenK m0 m1 m2 k r ∧ lenK m0 m1 m2 k r ≤ 27 := by
  unfold lenK
  rcases h0 with rfl | rfl <;> rcases h1 with rfl | rfl <;> rcases h2 with rfl | rfl <;> cases r <;> (split <;> (try split) <;> (try split) <;> decide)
theorem Inv.lgL {σ : St} (h : Inv σ) {v : Nat} (hv : v < sN σ) (s : Nat) : 1 ≤ lg σ v s ∧ lg σ v s ≤ 27 := lenK_le (h.M hv (by decide)) (h.M hv (by decide)) (h.M hv (by decide))
theorem Inv.bgL {σ : St} (h : Inv σ) {v : Nat} (hv : v < sN σ) (s : Nat) : bg σ v s ≤ 27 * s := by
  induction s with
  | zero => exact Nat.le_refl _
  | succ s ih =>
    have := (h.lgL hv s).2
    show bg σ v s + lg σ v s ≤ _
    omega
/-- of any voice, a sign it has -/
theorem Inv.bgC {σ : St} (h : Inv σ) (v : Nat) {s : Nat} (hs : s ≤ sC σ v) : bg σ v s ≤ 648 := by
  rcases Nat.lt_or_ge v (sN σ) with hv | hv
  · have h1 := h.bgL hv s
    have h2 := h.C v
    omega
  · have h1 := (h.2.2.1 v hv).2
    have h2 : s = 0 := by omega
    subst h2
    exact Nat.zero_le _
theorem bg_mono (σ : St) (v : Nat) {a b : Nat} (h : a ≤ b) : bg σ v a ≤ bg σ v b := by
  induction b with
  | zero => rw [show a = 0 by omega]; exact Nat.le_refl _
  | succ b ih =>
    rcases Nat.lt_or_ge a (b + 1) with q | q
    · have := ih (by omega)
      show _ ≤ bg σ v b + lg σ v b
      omega
    · rw [show a = b + 1 by omega]; exact Nat.le_refl _
theorem cntI_t {p : Nat → Bool} {n : Nat} {x : Int32} (hx : x = nI (cnt p n)) (h : p n = true) : x + 1 = nI (cnt p (n + 1)) := by
  rw [hx, nI_1]
  show nI (cnt p n + 1) = nI (cnt p n + (if p n then 1 else 0))
  rw [h]; rfl
theorem cntI_f {p : Nat → Bool} {n : Nat} {x : Int32} (hx : x = nI (cnt p n)) (h : p n = false) : x = nI (cnt p (n + 1)) := by
  rw [hx]
  show nI (cnt p n) = nI (cnt p n + (if p n then 1 else 0))
  rw [h]; rfl
theorem ftN_t {σ : St} {v : Nat} {c : Int32} {n : Nat} (h : ftN σ v c n = true) (h2 : ftS σ v c n = true) : ftN σ v c (n + 1) = true := by
  show (ftN σ v c n && ftS σ v c n) = true
  rw [h, h2]; rfl
theorem ftN_f {σ : St} {v : Nat} {c : Int32} {i n : Nat} (hi : i < n) (h : ftS σ v c i = false) : ftN σ v c n = false := by
  induction n with
  | zero => omega
  | succ n ih =>
    show (ftN σ v c n && ftS σ v c n) = false
    rcases Nat.lt_or_ge i n with q | q
    · rw [ih q]; rfl
    · rw [show n = i by omega, h, Bool.and_false]
theorem nI_m1 {n : Nat} (h : n < 2 ^ 31) : ¬ nI n = -1 := fun e => by
  have h1 := nI_toInt h
  rw [e] at h1
  have h2 : (-1 : Int32).toInt = -1 := by decide
  omega
theorem sgAt_f {σ : St} {v : Nat} {t : Int32} {n : Nat} (h : sgAt σ v t n = -1) (h2 : ¬ t < nI (bg σ v (n + 1))) : sgAt σ v t (n + 1) = -1 := by
  show (if sgAt σ v t n = -1 then (if t < nI (bg σ v (n + 1)) then nI n else -1) else sgAt σ v t n) = -1
  rw [if_pos h, if_neg h2]
theorem sgAt_t {σ : St} {v : Nat} {t : Int32} {i : Nat} (h : sgAt σ v t i = -1) (h2 : t < nI (bg σ v (i + 1))) (hi : i < 2 ^ 31) : ∀ {n : Nat}, i < n → sgAt σ v t n = nI i := by
  intro n
  induction n with
  | zero => intro q; omega
  | succ n ih =>
    intro q
    show (if sgAt σ v t n = -1 then (if t < nI (bg σ v (n + 1)) then nI n else -1) else sgAt σ v t n) = nI i
    rcases Nat.lt_or_ge i n with q2 | q2
    · rw [ih q2, if_neg (nI_m1 hi)]
    · have e : n = i := by omega
      subst e
      rw [if_pos h, if_pos h2]
theorem tf_step {b : Nat → Nat → Int32} {v i : Nat} {f : Nat → Int32} (h : ∀ s, s ≤ i → b v s = f s) {x : Int32} (hx : x = f (i + 1)) : ∀ s, s ≤ i + 1 → up2 b v (i + 1) x v s = f s := by
  intro s hs
  by_cases q : s = i + 1
  · subst q
    rw [up2_s, hx]
  · rw [up2_n _ (fun z => q z.2)]
    exact h s (by omega)
theorem bg_cong {σ σ' : St} {v : Nat} : ∀ {n : Nat}, (∀ q, q < n → lg σ' v q = lg σ v q) → bg σ' v n = bg σ v n
  | 0, _ => rfl
  | n + 1, h => by
    show bg σ' v n + lg σ' v n = bg σ v n + lg σ v n
    rw [bg_cong (fun q hq => h q (by omega)), h n (by omega)]
theorem bg_uB (σ : St) (b : Nat → Nat → Int32) (v n : Nat) : bg (uB σ b) v n = bg σ v n := bg_cong (fun _ _ => rfl)
/-- how many signs go with the last one -/
def drN (x : Int32) : Nat := if x = -1 then 1 else x.toNatClampNeg + 1
theorem drN_n {j : Nat} (h : j < 2 ^ 31) : drN (nI j) = j + 1 := by
  unfold drN
  rw [if_neg (nI_m1 h), nI_clamp h]
/-- a sign behind the others -/
def apS (σ : St) (v k : Nat) (p : Int32) (r : Bool) (t : Int32) : St := uC (uT (uR (uP (uK σ v (sC σ v) k) v (sC σ v) p) v (sC σ v) r) v (sC σ v) t) v (sC σ v + 1)
def meS (σ : St) (v a b c : Nat) : St := uM (uM (uM σ v 0 a) v 1 b) v 2 c
theorem apS_lg (σ : St) (v k : Nat) (p : Int32) (r : Bool) (t : Int32) {q : Nat} (h : q < sC σ v) : lg (apS σ v k p r t) v q = lg σ v q := by
  have h1 : sK (apS σ v k p r t) v q = sK σ v q := up2_n _ (by omega) _
  have h2 : sR (apS σ v k p r t) v q = sR σ v q := up2_n _ (by omega) _
  show lenK (sM σ v 0) (sM σ v 1) (sM σ v 2) (sK (apS σ v k p r t) v q) (sR (apS σ v k p r t) v q) = _
  rw [h1, h2]
  rfl
theorem uR_lg (σ : St) (v s : Nat) (r : Bool) {q : Nat} (h : q < s) : lg (uR σ v s r) v q = lg σ v q := by
  have h2 : sR (uR σ v s r) v q = sR σ v q := up2_n _ (by omega) _
  show lenK (sM σ v 0) (sM σ v 1) (sM σ v 2) (sK σ v q) (sR (uR σ v s r) v q) = _
  rw [h2]
  rfl
/-- what timeFrom leaves: the row of the voice v is right, the others' are as they were -/
def tfP (σ : St) (v : Nat) (u : Nat → Nat → Int32) : Prop := (∀ w, w ≠ v → u w = sB σ w) ∧ ∀ s, s ≤ sC σ v → u v s = nI (bg σ v s)
/-- what append needs of the voice v -/
def IvA (σ : St) (v : Nat) : Prop := (∀ s, sK σ v s ≤ 3) ∧ ∀ s, s ≤ sC σ v → sB σ v s = nI (bg σ v s)
theorem Inv.A {σ : St} (h : Inv σ) (v : Nat) : IvA σ v := ⟨h.K v, fun _ hs => h.B hs⟩
end
section
/-! THE VOICE: what it answers and doesn't write -/
set_option maxHeartbeats 4000000 in
set_option maxRecDepth 100000 in
/-- whether a sign is a rest -/
theorem cX0_isRest_m (l : Launch) (g : GA) (A : Nat → Prop) (σ : St) (rest : va_W) (v s0 : Nat) (hv : v < 4) (hs : s0 < 24) : Met l yX0_isRest wsX0_isRest ({ frames := 0, cells := 0, slots := 0, locals := 0 }) (va_Pc [.ref (gV g v), .int (nI s0)] (Cx g A (cw g σ ++ rest))) (vp_Si (fun r : Int32 => r = bI (!isNt σ v s0))) 0 0 (fun _ => False) := by
  refine Met.ofW (cc := cX0_isRest) (maxL := 2) (ret := (some .boolean)) (by decide) rfl ?_
  intro p e s m args below meth c s₁ B hml hv0
  obtain ⟨rfl, hP, hD, hA, hK, hX⟩ := hv0
  have hx := B.exec
  have hb := B.bytes
  have hr := B.returns
  have hts := atoms_spec (ws := wsX0_isRest) B.pre
  have hown : s.vm.findClass RX0 = some m.cls := findClass_of_methodNamed B.named
  have hlocks := B.notSynchronized
  have hS : va_S A s.heap s.heap [] := va_S.rf
  have hinX0 : ∀ w ∈ u_ws RX0 TX0 10, w ∈ wsX0_isRest := by decide +kernel
  have hl := lv_entry ([.ref (gV g v), .int (nI s0)]) (n := 2) (Nat.le_of_ble_eq_true rfl)
  rw [lg_entry_eq]
  generalize (lg_sl ([.ref (gV g v), .int (nI s0)]) ++ List.replicate (2 - (lg_sl ([.ref (gV g v), .int (nI s0)])).length) Slot.unset).toArray = ls at hl ⊢
  have hl : lv_has ls 2 [(0, .ref (gV g v)), (1, .int (nI s0))] := hl
  refine lv_aload_n (pc := 0) hx hb dX0_isRest_0 rfl (lv_at hl 0 rfl) ?_
  refine va_get (pc := 1) (D := gD g) (ci := 0) (C := RX0) (T := TX0) (N := 10) hx hb hts hinX0 hown hK hP (2 + 6 * v) (cv0 g σ rest hv) rfl 6 (by decide) (hts (.fieldLink RX0 19 "ChoirNotes$Voice" "places" "[I") (by decide +kernel)) (fun _ h9 => h9) rfl dX0_isRest_1 ?_
  refine lv_iload_n (pc := 4) hx hb dX0_isRest_4 rfl (lv_at hl 1 rfl) ?_
  refine k_iald (pc := 5) (x := sP σ v s0) hx hb hK hP (4 + 6 * v) 0 (cv2 g σ rest hv) rfl s0 rfl (by omega) (by decide) rfl dX0_isRest_5 ?_
  refine lv_iconst (v := (-1)) (pc := 6) hx hb dX0_isRest_6 (by decide) ?_
  refine lv_icmp_ne (tgt := 14) (pc := 7) hx hb dX0_isRest_7 (by decide) (fun c1 => ?_) (fun c1 => ?_)
  · refine lv_iconst (v := 0) (pc := 14) hx hb dX0_isRest_14 (by decide) ?_
    exact W.zret (v := 0) hx hb hr rfl (fun t ht hW => ⟨_, rfl, (by simp [isNt, bI, c1]), ht⟩) (fun q hq => absurd hq List.not_mem_nil) dX0_isRest_15
  · refine lv_iconst (v := 1) (pc := 10) hx hb dX0_isRest_10 (by decide) ?_
    refine lv_goto (tgt := 15) (pc := 11) hx hb dX0_isRest_11 (by decide) ?_
    exact W.zret (v := 1) hx hb hr rfl (fun t ht hW => ⟨_, rfl, (by simp [isNt, bI, c1]), ht⟩) (fun q hq => absurd hq List.not_mem_nil) dX0_isRest_15
set_option maxHeartbeats 4000000 in
set_option maxRecDepth 100000 in
/-- how long a voice is -/
theorem cX0_end_m (l : Launch) (g : GA) (A : Nat → Prop) (σ : St) (rest : va_W) (v : Nat) (hv : v < 4) (hI : Inv σ) : Met l yX0_end wsX0_end ({ frames := 0, cells := 0, slots := 0, locals := 0 }) (va_Pc [.ref (gV g v)] (Cx g A (cw g σ ++ rest))) (vp_Si (fun r : Int32 => r = nI (len σ v))) 0 0 (fun _ => False) := by
  refine Met.ofW (cc := cX0_end) (maxL := 1) (ret := (some .int)) (by decide) rfl ?_
  intro p e s m args below meth c s₁ B hml hv0
  obtain ⟨rfl, hP, hD, hA, hK, hX⟩ := hv0
  have hx := B.exec
  have hb := B.bytes
  have hr := B.returns
  have hts := atoms_spec (ws := wsX0_end) B.pre
  have hown : s.vm.findClass RX0 = some m.cls := findClass_of_methodNamed B.named
  have hlocks := B.notSynchronized
  have hS : va_S A s.heap s.heap [] := va_S.rf
  have hinX0 : ∀ w ∈ u_ws RX0 TX0 10, w ∈ wsX0_end := by decide +kernel
  have hl := lv_entry ([.ref (gV g v)]) (n := 1) (Nat.le_of_ble_eq_true rfl)
  rw [lg_entry_eq]
  generalize (lg_sl ([.ref (gV g v)]) ++ List.replicate (1 - (lg_sl ([.ref (gV g v)])).length) Slot.unset).toArray = ls at hl ⊢
  have hl : lv_has ls 1 [(0, .ref (gV g v))] := hl
  refine lv_aload_n (pc := 0) hx hb dX0_end_0 rfl (lv_at hl 0 rfl) ?_
  refine va_get (pc := 1) (D := gD g) (ci := 0) (C := RX0) (T := TX0) (N := 10) hx hb hts hinX0 hown hK hP (2 + 6 * v) (cv0 g σ rest hv) rfl 9 (by decide) (hts (.fieldLink RX0 29 "ChoirNotes$Voice" "begins" "[I") (by decide +kernel)) (fun _ h9 => h9) rfl dX0_end_1 ?_
  refine lv_aload_n (pc := 4) hx hb dX0_end_4 rfl (lv_at hl 0 rfl) ?_
  refine va_get (pc := 5) (D := gD g) (ci := 0) (C := RX0) (T := TX0) (N := 10) hx hb hts hinX0 hown hK hP (2 + 6 * v) (cv0 g σ rest hv) rfl 4 (by decide) (hts (.fieldLink RX0 45 "ChoirNotes$Voice" "count" "I") (by decide +kernel)) (fun _ h9 => h9) rfl dX0_end_5 ?_
  refine k_iald (pc := 8) (x := sB σ v (sC σ v)) hx hb hK hP (7 + 6 * v) 0 (cv5 g σ rest hv) rfl (sC σ v) rfl (by have := hI.C v; omega) (by decide) rfl dX0_end_8 ?_
  exact W.iret hx hb hr (fun t ht hW => ⟨_, rfl, (hI.B (Nat.le_refl _)), ht⟩) (fun q hq => absurd hq List.not_mem_nil) dX0_end_9
set_option maxHeartbeats 4000000 in
set_option maxRecDepth 100000 in
/-- how long a sign is -/
theorem cX0_minimsOf_m (l : Launch) (g : GA) (A : Nat → Prop) (σ : St) (rest : va_W) (v s0 : Nat) (hv : v < 4) (hI : Inv σ) (hs : s0 < sC σ v) : Met l yX0_minimsOf wsX0_minimsOf ({ frames := 0, cells := 0, slots := 0, locals := 0 }) (va_Pc [.ref (gV g v), .int (nI s0)] (Cx g A (cw g σ ++ rest))) (vp_Si (fun r : Int32 => r = nI (lg σ v s0))) 0 0 (fun _ => False) := by
  refine Met.ofW (cc := cX0_minimsOf) (maxL := 2) (ret := (some .int)) (by decide) rfl ?_
  intro p e s m args below meth c s₁ B hml hv0
  obtain ⟨rfl, hP, hD, hA, hK, hX⟩ := hv0
  have hx := B.exec
  have hb := B.bytes
  have hr := B.returns
  have hts := atoms_spec (ws := wsX0_minimsOf) B.pre
  have hown : s.vm.findClass RX0 = some m.cls := findClass_of_methodNamed B.named
  have hlocks := B.notSynchronized
  have hS : va_S A s.heap s.heap [] := va_S.rf
  have hinX0 : ∀ w ∈ u_ws RX0 TX0 10, w ∈ wsX0_minimsOf := by decide +kernel
  have hl := lv_entry ([.ref (gV g v), .int (nI s0)]) (n := 2) (Nat.le_of_ble_eq_true rfl)
  rw [lg_entry_eq]
  generalize (lg_sl ([.ref (gV g v), .int (nI s0)]) ++ List.replicate (2 - (lg_sl ([.ref (gV g v), .int (nI s0)])).length) Slot.unset).toArray = ls at hl ⊢
  have hl : lv_has ls 2 [(0, .ref (gV g v)), (1, .int (nI s0))] := hl
  have hC := hI.C v
  refine lv_aload_n (pc := 0) hx hb dX0_minimsOf_0 rfl (lv_at hl 0 rfl) ?_
  refine va_get (pc := 1) (D := gD g) (ci := 0) (C := RX0) (T := TX0) (N := 10) hx hb hts hinX0 hown hK hP (2 + 6 * v) (cv0 g σ rest hv) rfl 9 (by decide) (hts (.fieldLink RX0 29 "ChoirNotes$Voice" "begins" "[I") (by decide +kernel)) (fun _ h9 => h9) rfl dX0_minimsOf_1 ?_
  refine lv_iload_n (pc := 4) hx hb dX0_minimsOf_4 rfl (lv_at hl 1 rfl) ?_
  refine lv_iconst (v := 1) (pc := 5) hx hb dX0_minimsOf_5 (by decide) ?_
  refine lv_iadd (pc := 6) hx hb dX0_minimsOf_6 ?_
  refine k_cong (y := nI (s0 + 1)) (nI_1 s0) ?_
  refine k_iald (pc := 7) (x := sB σ v (s0 + 1)) hx hb hK hP (7 + 6 * v) 0 (cv5 g σ rest hv) rfl (s0 + 1) rfl (by omega) (by decide) rfl dX0_minimsOf_7 ?_
  refine lv_aload_n (pc := 8) hx hb dX0_minimsOf_8 rfl (lv_at hl 0 rfl) ?_
  refine va_get (pc := 9) (D := gD g) (ci := 0) (C := RX0) (T := TX0) (N := 10) hx hb hts hinX0 hown hK hP (2 + 6 * v) (cv0 g σ rest hv) rfl 9 (by decide) (hts (.fieldLink RX0 29 "ChoirNotes$Voice" "begins" "[I") (by decide +kernel)) (fun _ h9 => h9) rfl dX0_minimsOf_9 ?_
  refine lv_iload_n (pc := 12) hx hb dX0_minimsOf_12 rfl (lv_at hl 1 rfl) ?_
  refine k_iald (pc := 13) (x := sB σ v s0) hx hb hK hP (7 + 6 * v) 0 (cv5 g σ rest hv) rfl s0 rfl (by omega) (by decide) rfl dX0_minimsOf_13 ?_
  refine lv_isub (pc := 14) hx hb dX0_minimsOf_14 ?_
  exact W.iret hx hb hr (fun t ht hW => ⟨_, rfl, (by rw [hI.B (show s0 + 1 ≤ sC σ v by omega), hI.B (show s0 ≤ sC σ v by omega), pk_sub (bg_mono σ v (Nat.le_succ s0))]; exact congrArg nI (Nat.add_sub_cancel_left _ _)), ht⟩) (fun q hq => absurd hq List.not_mem_nil) dX0_minimsOf_15
set_option maxHeartbeats 4000000 in
set_option maxRecDepth 100000 in
/-- how long a sign of this kind is -/
theorem cX0_minimsByKind_m (l : Launch) (g : GA) (A : Nat → Prop) (σ : St) (rest : va_W) (v k : Nat) (r : Bool) (hv : v < 4) (hk3 : k ≤ 3) : Met l yX0_minimsByKind wsX0_minimsByKind ({ frames := 0, cells := 0, slots := 0, locals := 0 }) (va_Pc [.ref (gV g v), .int (nI k), .int (bI r)] (Cx g A (cw g σ ++ rest))) (vp_Si (fun x : Int32 => x = nI (lenK (sM σ v 0) (sM σ v 1) (sM σ v 2) k r))) 0 0 (fun _ => False) := by
  refine Met.ofW (cc := cX0_minimsByKind) (maxL := 3) (ret := (some .int)) (by decide) rfl ?_
  intro p e s m args below meth c s₁ B hml hv0
  obtain ⟨rfl, hP, hD, hA, hK, hX⟩ := hv0
  have hx := B.exec
  have hb := B.bytes
  have hr := B.returns
  have hts := atoms_spec (ws := wsX0_minimsByKind) B.pre
  have hown : s.vm.findClass RX0 = some m.cls := findClass_of_methodNamed B.named
  have hlocks := B.notSynchronized
  have hS : va_S A s.heap s.heap [] := va_S.rf
  have hinX0 : ∀ w ∈ u_ws RX0 TX0 10, w ∈ wsX0_minimsByKind := by decide +kernel
  have hl := lv_entry ([.ref (gV g v), .int (nI k), .int (bI r)]) (n := 3) (Nat.le_of_ble_eq_true rfl)
  rw [lg_entry_eq]
  generalize (lg_sl ([.ref (gV g v), .int (nI k), .int (bI r)]) ++ List.replicate (3 - (lg_sl ([.ref (gV g v), .int (nI k), .int (bI r)])).length) Slot.unset).toArray = ls at hl ⊢
  have hl : lv_has ls 3 [(0, .ref (gV g v)), (1, .int (nI k)), (2, .int (bI r))] := hl
  refine lv_iload_n (pc := 0) hx hb dX0_minimsByKind_0 rfl (lv_at hl 1 rfl) ?_
  rcases (show k = 0 ∨ k = 1 ∨ k = 2 ∨ k = 3 by omega) with rfl | rfl | rfl | rfl
  · refine lv_tableIn (pc := 1) (off := 27) (tgt := 28) hx hb dX0_minimsByKind_1 (by decide) (by decide) rfl (by decide) ?_
    refine lv_iload_n (pc := 28) hx hb dX0_minimsByKind_28 rfl (lv_at hl 2 rfl) ?_
    refine lv_if_eq (tgt := 36) (pc := 29) hx hb dX0_minimsByKind_29 (by decide) (fun c1 => ?_) (fun c1 => ?_)
    · have c1 := bI_0.mp c1
      refine lv_aload_n (pc := 36) hx hb dX0_minimsByKind_36 rfl (lv_at hl 0 rfl) ?_
      refine va_get (pc := 37) (D := gD g) (ci := 0) (C := RX0) (T := TX0) (N := 10) hx hb hts hinX0 hown hK hP (2 + 6 * v) (cv0 g σ rest hv) rfl 0 (by decide) (hts (.fieldLink RX0 32 "ChoirNotes$Voice" "brevesInLonga" "I") (by decide +kernel)) (fun _ h9 => h9) rfl dX0_minimsByKind_37 ?_
      refine k_cong (y := nI (if r then 2 else sM σ v 0)) (by rw [c1]; rfl) ?_
      refine lv_aload_n (pc := 40) hx hb dX0_minimsByKind_40 rfl (lv_at hl 0 rfl) ?_
      refine va_get (pc := 41) (D := gD g) (ci := 0) (C := RX0) (T := TX0) (N := 10) hx hb hts hinX0 hown hK hP (2 + 6 * v) (cv0 g σ rest hv) rfl 1 (by decide) (hts (.fieldLink RX0 35 "ChoirNotes$Voice" "semibrevesInBreve" "I") (by decide +kernel)) (fun _ h9 => h9) rfl dX0_minimsByKind_41 ?_
      refine lv_imul (pc := 44) hx hb dX0_minimsByKind_44 ?_
      refine lv_aload_n (pc := 45) hx hb dX0_minimsByKind_45 rfl (lv_at hl 0 rfl) ?_
      refine va_get (pc := 46) (D := gD g) (ci := 0) (C := RX0) (T := TX0) (N := 10) hx hb hts hinX0 hown hK hP (2 + 6 * v) (cv0 g σ rest hv) rfl 2 (by decide) (hts (.fieldLink RX0 38 "ChoirNotes$Voice" "minimsInSemibreve" "I") (by decide +kernel)) (fun _ h9 => h9) rfl dX0_minimsByKind_46 ?_
      refine lv_imul (pc := 49) hx hb dX0_minimsByKind_49 ?_
      exact W.iret hx hb hr (fun t ht hW => ⟨_, rfl, (pk_mul2 _ _ _), ht⟩) (fun q hq => absurd hq List.not_mem_nil) dX0_minimsByKind_50
    · have c1 := bI_n0.mp c1
      refine lv_iconst (v := 2) (pc := 32) hx hb dX0_minimsByKind_32 (by decide) ?_
      refine lv_goto (tgt := 40) (pc := 33) hx hb dX0_minimsByKind_33 (by decide) ?_
      refine k_cong (y := nI (if r then 2 else sM σ v 0)) (by rw [c1]; rfl) ?_
      refine lv_aload_n (pc := 40) hx hb dX0_minimsByKind_40 rfl (lv_at hl 0 rfl) ?_
      refine va_get (pc := 41) (D := gD g) (ci := 0) (C := RX0) (T := TX0) (N := 10) hx hb hts hinX0 hown hK hP (2 + 6 * v) (cv0 g σ rest hv) rfl 1 (by decide) (hts (.fieldLink RX0 35 "ChoirNotes$Voice" "semibrevesInBreve" "I") (by decide +kernel)) (fun _ h9 => h9) rfl dX0_minimsByKind_41 ?_
      refine lv_imul (pc := 44) hx hb dX0_minimsByKind_44 ?_
      refine lv_aload_n (pc := 45) hx hb dX0_minimsByKind_45 rfl (lv_at hl 0 rfl) ?_
      refine va_get (pc := 46) (D := gD g) (ci := 0) (C := RX0) (T := TX0) (N := 10) hx hb hts hinX0 hown hK hP (2 + 6 * v) (cv0 g σ rest hv) rfl 2 (by decide) (hts (.fieldLink RX0 38 "ChoirNotes$Voice" "minimsInSemibreve" "I") (by decide +kernel)) (fun _ h9 => h9) rfl dX0_minimsByKind_46 ?_
      refine lv_imul (pc := 49) hx hb dX0_minimsByKind_49 ?_
      exact W.iret hx hb hr (fun t ht hW => ⟨_, rfl, (pk_mul2 _ _ _), ht⟩) (fun q hq => absurd hq List.not_mem_nil) dX0_minimsByKind_50
  · refine lv_tableIn (pc := 1) (off := 50) (tgt := 51) hx hb dX0_minimsByKind_1 (by decide) (by decide) rfl (by decide) ?_
    refine lv_iload_n (pc := 51) hx hb dX0_minimsByKind_51 rfl (lv_at hl 2 rfl) ?_
    refine lv_if_eq (tgt := 59) (pc := 52) hx hb dX0_minimsByKind_52 (by decide) (fun c1 => ?_) (fun c1 => ?_)
    · have c1 := bI_0.mp c1
      refine lv_aload_n (pc := 59) hx hb dX0_minimsByKind_59 rfl (lv_at hl 0 rfl) ?_
      refine va_get (pc := 60) (D := gD g) (ci := 0) (C := RX0) (T := TX0) (N := 10) hx hb hts hinX0 hown hK hP (2 + 6 * v) (cv0 g σ rest hv) rfl 1 (by decide) (hts (.fieldLink RX0 35 "ChoirNotes$Voice" "semibrevesInBreve" "I") (by decide +kernel)) (fun _ h9 => h9) rfl dX0_minimsByKind_60 ?_
      refine k_cong (y := nI (if r then 2 else sM σ v 1)) (by rw [c1]; rfl) ?_
      refine lv_aload_n (pc := 63) hx hb dX0_minimsByKind_63 rfl (lv_at hl 0 rfl) ?_
      refine va_get (pc := 64) (D := gD g) (ci := 0) (C := RX0) (T := TX0) (N := 10) hx hb hts hinX0 hown hK hP (2 + 6 * v) (cv0 g σ rest hv) rfl 2 (by decide) (hts (.fieldLink RX0 38 "ChoirNotes$Voice" "minimsInSemibreve" "I") (by decide +kernel)) (fun _ h9 => h9) rfl dX0_minimsByKind_64 ?_
      refine lv_imul (pc := 67) hx hb dX0_minimsByKind_67 ?_
      exact W.iret hx hb hr (fun t ht hW => ⟨_, rfl, (pk_mul1 _ _), ht⟩) (fun q hq => absurd hq List.not_mem_nil) dX0_minimsByKind_68
    · have c1 := bI_n0.mp c1
      refine lv_iconst (v := 2) (pc := 55) hx hb dX0_minimsByKind_55 (by decide) ?_
      refine lv_goto (tgt := 63) (pc := 56) hx hb dX0_minimsByKind_56 (by decide) ?_
      refine k_cong (y := nI (if r then 2 else sM σ v 1)) (by rw [c1]; rfl) ?_
      refine lv_aload_n (pc := 63) hx hb dX0_minimsByKind_63 rfl (lv_at hl 0 rfl) ?_
      refine va_get (pc := 64) (D := gD g) (ci := 0) (C := RX0) (T := TX0) (N := 10) hx hb hts hinX0 hown hK hP (2 + 6 * v) (cv0 g σ rest hv) rfl 2 (by decide) (hts (.fieldLink RX0 38 "ChoirNotes$Voice" "minimsInSemibreve" "I") (by decide +kernel)) (fun _ h9 => h9) rfl dX0_minimsByKind_64 ?_
      refine lv_imul (pc := 67) hx hb dX0_minimsByKind_67 ?_
      exact W.iret hx hb hr (fun t ht hW => ⟨_, rfl, (pk_mul1 _ _), ht⟩) (fun q hq => absurd hq List.not_mem_nil) dX0_minimsByKind_68
  · refine lv_tableIn (pc := 1) (off := 68) (tgt := 69) hx hb dX0_minimsByKind_1 (by decide) (by decide) rfl (by decide) ?_
    refine lv_iload_n (pc := 69) hx hb dX0_minimsByKind_69 rfl (lv_at hl 2 rfl) ?_
    refine lv_if_eq (tgt := 77) (pc := 70) hx hb dX0_minimsByKind_70 (by decide) (fun c1 => ?_) (fun c1 => ?_)
    · have c1 := bI_0.mp c1
      refine lv_aload_n (pc := 77) hx hb dX0_minimsByKind_77 rfl (lv_at hl 0 rfl) ?_
      refine va_get (pc := 78) (D := gD g) (ci := 0) (C := RX0) (T := TX0) (N := 10) hx hb hts hinX0 hown hK hP (2 + 6 * v) (cv0 g σ rest hv) rfl 2 (by decide) (hts (.fieldLink RX0 38 "ChoirNotes$Voice" "minimsInSemibreve" "I") (by decide +kernel)) (fun _ h9 => h9) rfl dX0_minimsByKind_78 ?_
      refine k_cong (y := nI (if r then 2 else sM σ v 2)) (by rw [c1]; rfl) ?_
      exact W.iret hx hb hr (fun t ht hW => ⟨_, rfl, rfl, ht⟩) (fun q hq => absurd hq List.not_mem_nil) dX0_minimsByKind_81
    · have c1 := bI_n0.mp c1
      refine lv_iconst (v := 2) (pc := 73) hx hb dX0_minimsByKind_73 (by decide) ?_
      refine lv_goto (tgt := 81) (pc := 74) hx hb dX0_minimsByKind_74 (by decide) ?_
      refine k_cong (y := nI (if r then 2 else sM σ v 2)) (by rw [c1]; rfl) ?_
      exact W.iret hx hb hr (fun t ht hW => ⟨_, rfl, rfl, ht⟩) (fun q hq => absurd hq List.not_mem_nil) dX0_minimsByKind_81
  · refine lv_tableOut (pc := 1) (tgt := 82) hx hb dX0_minimsByKind_1 (by decide) (by decide) ?_
    refine lv_iconst (v := 1) (pc := 82) hx hb dX0_minimsByKind_82 (by decide) ?_
    exact W.iret hx hb hr (fun t ht hW => ⟨_, rfl, rfl, ht⟩) (fun q hq => absurd hq List.not_mem_nil) dX0_minimsByKind_83
set_option maxHeartbeats 4000000 in
set_option maxRecDepth 100000 in
/-- how many notes -/
theorem cX0_countNotes_m (l : Launch) (g : GA) (A : Nat → Prop) (σ : St) (rest : va_W) (v : Nat) (hv : v < 4) (hI : Inv σ) : Met l yX0_countNotes wsX0_countNotes ({ frames := 1, cells := 0, slots := 0, locals := 21 }) (va_Pc [.ref (gV g v)] (Cx g A (cw g σ ++ rest))) (vp_Si (fun r : Int32 => r = nI (cnt (isNt σ v) (sC σ v)))) 0 0 (fun _ => False) := by
  refine Met.ofW (cc := cX0_countNotes) (maxL := 3) (ret := (some .int)) (by decide) rfl ?_
  intro p e s m args below meth c s₁ B hml hv0
  obtain ⟨rfl, hP, hD, hA, hK, hX⟩ := hv0
  have hx := B.exec
  have hb := B.bytes
  have hr := B.returns
  have hts := atoms_spec (ws := wsX0_countNotes) B.pre
  have hown : s.vm.findClass RX0 = some m.cls := findClass_of_methodNamed B.named
  have hlocks := B.notSynchronized
  have hS : va_S A s.heap s.heap [] := va_S.rf
  have hinX0 : ∀ w ∈ u_ws RX0 TX0 10, w ∈ wsX0_countNotes := by decide +kernel
  have hl := lv_entry ([.ref (gV g v)]) (n := 3) (Nat.le_of_ble_eq_true rfl)
  rw [lg_entry_eq]
  generalize (lg_sl ([.ref (gV g v)]) ++ List.replicate (3 - (lg_sl ([.ref (gV g v)])).length) Slot.unset).toArray = ls at hl ⊢
  have hl : lv_has ls 3 [(0, .ref (gV g v))] := hl
  have hC := hI.C v
  refine lv_iconst (v := 0) (pc := 0) hx hb dX0_countNotes_0 (by decide) ?_
  refine lv_istore_n (lv' := [(1, .int 0), (0, .ref (gV g v))]) (pc := 1) hx hb dX0_countNotes_1 rfl hl (by decide) rfl (fun ls hl => ?_)
  refine lv_iconst (v := 0) (pc := 2) hx hb dX0_countNotes_2 (by decide) ?_
  refine lv_istore_n (lv' := [(2, .int 0), (1, .int 0), (0, .ref (gV g v))]) (pc := 3) hx hb dX0_countNotes_3 rfl hl (by decide) rfl (fun ls hl => ?_)
  refine k_loop2 (pc := 4) (nL := 3) (fun (i : Nat) (x : Int32) => i ≤ sC σ v ∧ x = nI (cnt (isNt σ v) i)) (fun (i : Nat) (x : Int32) => sC σ v - i) (fun (i : Nat) (x : Int32) => [(2, .int (nI i)), (1, .int x), (0, .ref (gV g v))]) (fun i x hI ih_4 ls hl => ?_) 0 0 ⟨Nat.zero_le _, rfl⟩ (lv_sub hl [0, 1, 2] rfl)
  obtain ⟨hi, hf⟩ := hI
  have hl : lv_has ls 3 [(2, .int (nI i)), (1, .int x), (0, .ref (gV g v))] := hl
  refine lv_iload_n (pc := 4) hx hb dX0_countNotes_4 rfl (lv_at hl 0 rfl) ?_
  refine lv_aload_n (pc := 5) hx hb dX0_countNotes_5 rfl (lv_at hl 2 rfl) ?_
  refine va_get (pc := 6) (D := gD g) (ci := 0) (C := RX0) (T := TX0) (N := 10) hx hb hts hinX0 hown hK hP (2 + 6 * v) (cv0 g σ rest hv) rfl 4 (by decide) (hts (.fieldLink RX0 45 "ChoirNotes$Voice" "count" "I") (by decide +kernel)) (fun _ h9 => h9) rfl dX0_countNotes_6 ?_
  refine lv_icmp_ge (tgt := 29) (pc := 9) hx hb dX0_countNotes_9 (by decide) (fun c1 => ?_) (fun c1 => ?_)
  · have c1 : sC σ v ≤ i := (nI_leI (a := sC σ v) (b := i) (by omega) (by omega)).mp c1
    refine lv_iload_n (pc := 29) hx hb dX0_countNotes_29 rfl (lv_at hl 1 rfl) ?_
    exact W.iret hx hb hr (fun t ht hW => ⟨_, rfl, (by rw [hf, show i = sC σ v by omega]), ht⟩) (fun q hq => absurd hq List.not_mem_nil) dX0_countNotes_30
  · have c1 : ¬ (sC σ v ≤ i) := fun z => c1 ((nI_leI (a := sC σ v) (b := i) (by omega) (by omega)).mpr z)
    refine lv_aload_n (pc := 12) hx hb dX0_countNotes_12 rfl (lv_at hl 2 rfl) ?_
    refine lv_iload_n (pc := 13) hx hb dX0_countNotes_13 rfl (lv_at hl 0 rfl) ?_
    refine k_ri (pc := 14) (va_runV (As := [.int (nI i)]) (rest := []) ⟨hx, hb, hml, hown, hts⟩ (cX0_isRest_m l g A σ rest v i hv (by omega)) (cwV 1 hts gX0_countNotes_X0_isRest rfl rfl rfl (by decide +kernel) ⟨Nat.le_of_ble_eq_true rfl, Nat.le_of_ble_eq_true rfl⟩) (cx_V (q0 := (2 + 6 * v)) (ci := 0) (r := (RX0, TX0, 10)) rfl (cv0 g σ rest hv) hP hD hA hK hX hS) rfl rfl hl.1 rfl (lv_room (Nat.le_of_ble_eq_true rfl)) dX0_countNotes_14 ⟨Nat.le_of_ble_eq_true rfl, Nat.le_of_ble_eq_true rfl⟩) (fun r_2 hr_2 => ?_)
    subst hr_2
    refine lv_if_ne (tgt := 23) (pc := 17) hx hb dX0_countNotes_17 (by decide) (fun c2 => ?_) (fun c2 => ?_)
    · have c2 : isNt σ v i = false := by simpa using bI_n0.mp c2
      refine lv_iinc (v := nI (i + 1)) (lv' := [(2, .int (nI (i + 1))), (1, .int x), (0, .ref (gV g v))]) (pc := 23) hx hb dX0_countNotes_23 hl (k := 0) rfl (nI_1 _) (by decide) rfl (fun ls hl => ?_)
      refine lv_goto (tgt := 4) (pc := 26) hx hb dX0_countNotes_26 (by decide) ?_
      exact ih_4 (i + 1) x ⟨by omega, by first | exact cntI_t hf c2 | exact cntI_f hf c2⟩ (by omega) _ (lv_sub hl [0, 1, 2] rfl)
    · have c2 : isNt σ v i = true := by simpa using bI_0.mp c2
      refine lv_iinc (v := x + 1) (lv' := [(1, .int (x + 1)), (2, .int (nI i)), (0, .ref (gV g v))]) (pc := 20) hx hb dX0_countNotes_20 hl (k := 1) rfl rfl (by decide) rfl (fun ls hl => ?_)
      refine lv_iinc (v := nI (i + 1)) (lv' := [(2, .int (nI (i + 1))), (1, .int (x + 1)), (0, .ref (gV g v))]) (pc := 23) hx hb dX0_countNotes_23 hl (k := 1) rfl (nI_1 _) (by decide) rfl (fun ls hl => ?_)
      refine lv_goto (tgt := 4) (pc := 26) hx hb dX0_countNotes_26 (by decide) ?_
      exact ih_4 (i + 1) (x + 1) ⟨by omega, by first | exact cntI_t hf c2 | exact cntI_f hf c2⟩ (by omega) _ (lv_sub hl [0, 1, 2] rfl)
set_option maxHeartbeats 4000000 in
set_option maxRecDepth 100000 in
/-- how many ligatures -/
theorem cX0_countLigatures_m (l : Launch) (g : GA) (A : Nat → Prop) (σ : St) (rest : va_W) (v : Nat) (hv : v < 4) (hI : Inv σ) : Met l yX0_countLigatures wsX0_countLigatures ({ frames := 0, cells := 0, slots := 0, locals := 0 }) (va_Pc [.ref (gV g v)] (Cx g A (cw g σ ++ rest))) (vp_Si (fun r : Int32 => r = nI (cnt (isLg σ v) (sC σ v)))) 0 0 (fun _ => False) := by
  refine Met.ofW (cc := cX0_countLigatures) (maxL := 3) (ret := (some .int)) (by decide) rfl ?_
  intro p e s m args below meth c s₁ B hml hv0
  obtain ⟨rfl, hP, hD, hA, hK, hX⟩ := hv0
  have hx := B.exec
  have hb := B.bytes
  have hr := B.returns
  have hts := atoms_spec (ws := wsX0_countLigatures) B.pre
  have hown : s.vm.findClass RX0 = some m.cls := findClass_of_methodNamed B.named
  have hlocks := B.notSynchronized
  have hS : va_S A s.heap s.heap [] := va_S.rf
  have hinX0 : ∀ w ∈ u_ws RX0 TX0 10, w ∈ wsX0_countLigatures := by decide +kernel
  have hl := lv_entry ([.ref (gV g v)]) (n := 3) (Nat.le_of_ble_eq_true rfl)
  rw [lg_entry_eq]
  generalize (lg_sl ([.ref (gV g v)]) ++ List.replicate (3 - (lg_sl ([.ref (gV g v)])).length) Slot.unset).toArray = ls at hl ⊢
  have hl : lv_has ls 3 [(0, .ref (gV g v))] := hl
  have hC := hI.C v
  refine lv_iconst (v := 0) (pc := 0) hx hb dX0_countLigatures_0 (by decide) ?_
  refine lv_istore_n (lv' := [(1, .int 0), (0, .ref (gV g v))]) (pc := 1) hx hb dX0_countLigatures_1 rfl hl (by decide) rfl (fun ls hl => ?_)
  refine lv_iconst (v := 0) (pc := 2) hx hb dX0_countLigatures_2 (by decide) ?_
  refine lv_istore_n (lv' := [(2, .int 0), (1, .int 0), (0, .ref (gV g v))]) (pc := 3) hx hb dX0_countLigatures_3 rfl hl (by decide) rfl (fun ls hl => ?_)
  refine k_loop2 (pc := 4) (nL := 3) (fun (i : Nat) (x : Int32) => i ≤ sC σ v ∧ x = nI (cnt (isLg σ v) i)) (fun (i : Nat) (x : Int32) => sC σ v - i) (fun (i : Nat) (x : Int32) => [(2, .int (nI i)), (1, .int x), (0, .ref (gV g v))]) (fun i x hI ih_4 ls hl => ?_) 0 0 ⟨Nat.zero_le _, rfl⟩ (lv_sub hl [0, 1, 2] rfl)
  obtain ⟨hi, hf⟩ := hI
  have hl : lv_has ls 3 [(2, .int (nI i)), (1, .int x), (0, .ref (gV g v))] := hl
  refine lv_iload_n (pc := 4) hx hb dX0_countLigatures_4 rfl (lv_at hl 0 rfl) ?_
  refine lv_aload_n (pc := 5) hx hb dX0_countLigatures_5 rfl (lv_at hl 2 rfl) ?_
  refine va_get (pc := 6) (D := gD g) (ci := 0) (C := RX0) (T := TX0) (N := 10) hx hb hts hinX0 hown hK hP (2 + 6 * v) (cv0 g σ rest hv) rfl 4 (by decide) (hts (.fieldLink RX0 45 "ChoirNotes$Voice" "count" "I") (by decide +kernel)) (fun _ h9 => h9) rfl dX0_countLigatures_6 ?_
  refine lv_icmp_ge (tgt := 30) (pc := 9) hx hb dX0_countLigatures_9 (by decide) (fun c1 => ?_) (fun c1 => ?_)
  · have c1 : sC σ v ≤ i := (nI_leI (a := sC σ v) (b := i) (by omega) (by omega)).mp c1
    refine lv_iload_n (pc := 30) hx hb dX0_countLigatures_30 rfl (lv_at hl 1 rfl) ?_
    exact W.iret hx hb hr (fun t ht hW => ⟨_, rfl, (by rw [hf, show i = sC σ v by omega]), ht⟩) (fun q hq => absurd hq List.not_mem_nil) dX0_countLigatures_31
  · have c1 : ¬ (sC σ v ≤ i) := fun z => c1 ((nI_leI (a := sC σ v) (b := i) (by omega) (by omega)).mpr z)
    refine lv_aload_n (pc := 12) hx hb dX0_countLigatures_12 rfl (lv_at hl 2 rfl) ?_
    refine va_get (pc := 13) (D := gD g) (ci := 0) (C := RX0) (T := TX0) (N := 10) hx hb hts hinX0 hown hK hP (2 + 6 * v) (cv0 g σ rest hv) rfl 8 (by decide) (hts (.fieldLink RX0 26 "ChoirNotes$Voice" "ranks" "[I") (by decide +kernel)) (fun _ h9 => h9) rfl dX0_countLigatures_13 ?_
    refine lv_iload_n (pc := 16) hx hb dX0_countLigatures_16 rfl (lv_at hl 0 rfl) ?_
    refine k_iald (pc := 17) (x := sT σ v i) hx hb hK hP (6 + 6 * v) 0 (cv4 g σ rest hv) rfl i rfl (by omega) (by decide) rfl dX0_countLigatures_17 ?_
    refine lv_if_ne (tgt := 24) (pc := 18) hx hb dX0_countLigatures_18 (by decide) (fun c2 => ?_) (fun c2 => ?_)
    · have c2 : isLg σ v i = false := decide_eq_false c2
      refine lv_iinc (v := nI (i + 1)) (lv' := [(2, .int (nI (i + 1))), (1, .int x), (0, .ref (gV g v))]) (pc := 24) hx hb dX0_countLigatures_24 hl (k := 0) rfl (nI_1 _) (by decide) rfl (fun ls hl => ?_)
      refine lv_goto (tgt := 4) (pc := 27) hx hb dX0_countLigatures_27 (by decide) ?_
      exact ih_4 (i + 1) x ⟨by omega, by first | exact cntI_t hf c2 | exact cntI_f hf c2⟩ (by omega) _ (lv_sub hl [0, 1, 2] rfl)
    · have c2 : isLg σ v i = true := decide_eq_true c2
      refine lv_iinc (v := x + 1) (lv' := [(1, .int (x + 1)), (2, .int (nI i)), (0, .ref (gV g v))]) (pc := 21) hx hb dX0_countLigatures_21 hl (k := 1) rfl rfl (by decide) rfl (fun ls hl => ?_)
      refine lv_iinc (v := nI (i + 1)) (lv' := [(2, .int (nI (i + 1))), (1, .int (x + 1)), (0, .ref (gV g v))]) (pc := 24) hx hb dX0_countLigatures_24 hl (k := 1) rfl (nI_1 _) (by decide) rfl (fun ls hl => ?_)
      refine lv_goto (tgt := 4) (pc := 27) hx hb dX0_countLigatures_27 (by decide) ?_
      exact ih_4 (i + 1) (x + 1) ⟨by omega, by first | exact cntI_t hf c2 | exact cntI_f hf c2⟩ (by omega) _ (lv_sub hl [0, 1, 2] rfl)
set_option maxHeartbeats 4000000 in
set_option maxRecDepth 100000 in
/-- whether a clef would fit -/
theorem cX0_wouldFit_m (l : Launch) (g : GA) (A : Nat → Prop) (σ : St) (rest : va_W) (v : Nat) (c0 : Int32) (hv : v < 4) (hI : Inv σ) : Met l yX0_wouldFit wsX0_wouldFit ({ frames := 1, cells := 0, slots := 0, locals := 21 }) (va_Pc [.ref (gV g v), .int c0] (Cx g A (cw g σ ++ rest))) (vp_Si (fun r : Int32 => r = bI (ft σ v c0))) 0 0 (fun _ => False) := by
  refine Met.ofW (cc := cX0_wouldFit) (maxL := 4) (ret := (some .boolean)) (by decide) rfl ?_
  intro p e s m args below meth c s₁ B hml hv0
  obtain ⟨rfl, hP, hD, hA, hK, hX⟩ := hv0
  have hx := B.exec
  have hb := B.bytes
  have hr := B.returns
  have hts := atoms_spec (ws := wsX0_wouldFit) B.pre
  have hown : s.vm.findClass RX0 = some m.cls := findClass_of_methodNamed B.named
  have hlocks := B.notSynchronized
  have hS : va_S A s.heap s.heap [] := va_S.rf
  have hinX0 : ∀ w ∈ u_ws RX0 TX0 10, w ∈ wsX0_wouldFit := by decide +kernel
  have hl := lv_entry ([.ref (gV g v), .int c0]) (n := 4) (Nat.le_of_ble_eq_true rfl)
  rw [lg_entry_eq]
  generalize (lg_sl ([.ref (gV g v), .int c0]) ++ List.replicate (4 - (lg_sl ([.ref (gV g v), .int c0])).length) Slot.unset).toArray = ls at hl ⊢
  have hl : lv_has ls 4 [(0, .ref (gV g v)), (1, .int c0)] := hl
  have hC := hI.C v
  refine lv_iconst (v := 0) (pc := 0) hx hb dX0_wouldFit_0 (by decide) ?_
  refine lv_istore_n (lv' := [(2, .int 0), (0, .ref (gV g v)), (1, .int c0)]) (pc := 1) hx hb dX0_wouldFit_1 rfl hl (by decide) rfl (fun ls hl => ?_)
  refine k_loop1 (pc := 2) (nL := 4) (fun (i : Nat) => i ≤ sC σ v ∧ ftN σ v c0 i = true) (fun (i : Nat) => sC σ v - i) (fun (i : Nat) => [(2, .int (nI i)), (1, .int c0), (0, .ref (gV g v))]) (fun i hI ih_2 ls hl => ?_) 0 ⟨Nat.zero_le _, rfl⟩ (lv_sub hl [0, 2, 1] rfl)
  obtain ⟨hi, hf⟩ := hI
  have hl : lv_has ls 4 [(2, .int (nI i)), (1, .int c0), (0, .ref (gV g v))] := hl
  refine lv_iload_n (pc := 2) hx hb dX0_wouldFit_2 rfl (lv_at hl 0 rfl) ?_
  refine lv_aload_n (pc := 3) hx hb dX0_wouldFit_3 rfl (lv_at hl 2 rfl) ?_
  refine va_get (pc := 4) (D := gD g) (ci := 0) (C := RX0) (T := TX0) (N := 10) hx hb hts hinX0 hown hK hP (2 + 6 * v) (cv0 g σ rest hv) rfl 4 (by decide) (hts (.fieldLink RX0 45 "ChoirNotes$Voice" "count" "I") (by decide +kernel)) (fun _ h9 => h9) rfl dX0_wouldFit_4 ?_
  refine lv_icmp_ge (tgt := 48) (pc := 7) hx hb dX0_wouldFit_7 (by decide) (fun c1 => ?_) (fun c1 => ?_)
  · have c1 : sC σ v ≤ i := (nI_leI (a := sC σ v) (b := i) (by omega) (by omega)).mp c1
    refine lv_iconst (v := 1) (pc := 48) hx hb dX0_wouldFit_48 (by decide) ?_
    exact W.zret (v := 1) hx hb hr rfl (fun t ht hW => ⟨_, rfl, (by rw [show ft σ v c0 = true from (by unfold ft; rw [← (show i = sC σ v by omega)]; exact hf)]; rfl), ht⟩) (fun q hq => absurd hq List.not_mem_nil) dX0_wouldFit_49
  · have c1 : ¬ (sC σ v ≤ i) := fun z => c1 ((nI_leI (a := sC σ v) (b := i) (by omega) (by omega)).mpr z)
    refine lv_aload_n (pc := 10) hx hb dX0_wouldFit_10 rfl (lv_at hl 2 rfl) ?_
    refine va_get (pc := 11) (D := gD g) (ci := 0) (C := RX0) (T := TX0) (N := 10) hx hb hts hinX0 hown hK hP (2 + 6 * v) (cv0 g σ rest hv) rfl 6 (by decide) (hts (.fieldLink RX0 19 "ChoirNotes$Voice" "places" "[I") (by decide +kernel)) (fun _ h9 => h9) rfl dX0_wouldFit_11 ?_
    refine lv_iload_n (pc := 14) hx hb dX0_wouldFit_14 rfl (lv_at hl 0 rfl) ?_
    refine k_iald (pc := 15) (x := sP σ v i) hx hb hK hP (4 + 6 * v) 0 (cv2 g σ rest hv) rfl i rfl (by omega) (by decide) rfl dX0_wouldFit_15 ?_
    refine lv_iconst (v := 2) (pc := 16) hx hb dX0_wouldFit_16 (by decide) ?_
    refine lv_iload_n (pc := 17) hx hb dX0_wouldFit_17 rfl (lv_at hl 1 rfl) ?_
    refine lv_imul (pc := 18) hx hb dX0_wouldFit_18 ?_
    refine lv_iadd (pc := 19) hx hb dX0_wouldFit_19 ?_
    refine lv_istore_n (lv' := [(3, .int ((sP σ v i) + (2 * c0))), (2, .int (nI i)), (1, .int c0), (0, .ref (gV g v))]) (pc := 20) hx hb dX0_wouldFit_20 rfl hl (by decide) rfl (fun ls hl => ?_)
    refine lv_aload_n (pc := 21) hx hb dX0_wouldFit_21 rfl (lv_at hl 3 rfl) ?_
    refine lv_iload_n (pc := 22) hx hb dX0_wouldFit_22 rfl (lv_at hl 1 rfl) ?_
    refine k_ri (pc := 23) (va_runV (As := [.int (nI i)]) (rest := []) ⟨hx, hb, hml, hown, hts⟩ (cX0_isRest_m l g A σ rest v i hv (by omega)) (cwV 1 hts gX0_wouldFit_X0_isRest rfl rfl rfl (by decide +kernel) ⟨Nat.le_of_ble_eq_true rfl, Nat.le_of_ble_eq_true rfl⟩) (cx_V (q0 := (2 + 6 * v)) (ci := 0) (r := (RX0, TX0, 10)) rfl (cv0 g σ rest hv) hP hD hA hK hX hS) rfl rfl hl.1 rfl (lv_room (Nat.le_of_ble_eq_true rfl)) dX0_wouldFit_23 ⟨Nat.le_of_ble_eq_true rfl, Nat.le_of_ble_eq_true rfl⟩) (fun r_2 hr_2 => ?_)
    subst hr_2
    refine lv_if_ne (tgt := 42) (pc := 26) hx hb dX0_wouldFit_26 (by decide) (fun c2 => ?_) (fun c2 => ?_)
    · have c2 : isNt σ v i = false := by simpa using bI_n0.mp c2
      refine lv_iinc (v := nI (i + 1)) (lv' := [(2, .int (nI (i + 1))), (3, .int ((sP σ v i) + (2 * c0))), (1, .int c0), (0, .ref (gV g v))]) (pc := 42) hx hb dX0_wouldFit_42 hl (k := 1) rfl (nI_1 _) (by decide) rfl (fun ls hl => ?_)
      refine lv_goto (tgt := 2) (pc := 45) hx hb dX0_wouldFit_45 (by decide) ?_
      exact ih_2 (i + 1) ⟨by omega, ftN_t hf (by first | (unfold ftS; rw [c2]; rfl) | (unfold ftS inP; rw [decide_eq_false c3, decide_eq_true c4]; exact Bool.or_true _))⟩ (by omega) _ (lv_sub hl [0, 2, 3] rfl)
    · have c2 : isNt σ v i = true := by simpa using bI_0.mp c2
      refine lv_iload_n (pc := 29) hx hb dX0_wouldFit_29 rfl (lv_at hl 0 rfl) ?_
      refine lv_iconst (v := 3) (pc := 30) hx hb dX0_wouldFit_30 (by decide) ?_
      refine lv_icmp_lt (tgt := 40) (pc := 31) hx hb dX0_wouldFit_31 (by decide) (fun c3 => ?_) (fun c3 => ?_)
      · refine lv_iconst (v := 0) (pc := 40) hx hb dX0_wouldFit_40 (by decide) ?_
        exact W.zret (v := 0) hx hb hr rfl (fun t ht hW => ⟨_, rfl, (by rw [show ft σ v c0 = false from ftN_f (i := i) (by omega) (by unfold ftS inP; rw [c2]; first | (rw [decide_eq_true c3]; rfl) | (rw [decide_eq_false c3, decide_eq_false c4]; rfl))]; rfl), ht⟩) (fun q hq => absurd hq List.not_mem_nil) dX0_wouldFit_41
      · refine lv_iload_n (pc := 34) hx hb dX0_wouldFit_34 rfl (lv_at hl 0 rfl) ?_
        refine lv_bipush (v := 16) (pc := 35) hx hb dX0_wouldFit_35 (by decide) ?_
        refine lv_icmp_le (tgt := 42) (pc := 37) hx hb dX0_wouldFit_37 (by decide) (fun c4 => ?_) (fun c4 => ?_)
        · refine lv_iinc (v := nI (i + 1)) (lv' := [(2, .int (nI (i + 1))), (3, .int ((sP σ v i) + (2 * c0))), (1, .int c0), (0, .ref (gV g v))]) (pc := 42) hx hb dX0_wouldFit_42 hl (k := 1) rfl (nI_1 _) (by decide) rfl (fun ls hl => ?_)
          refine lv_goto (tgt := 2) (pc := 45) hx hb dX0_wouldFit_45 (by decide) ?_
          exact ih_2 (i + 1) ⟨by omega, ftN_t hf (by first | (unfold ftS; rw [c2]; rfl) | (unfold ftS inP; rw [decide_eq_false c3, decide_eq_true c4]; exact Bool.or_true _))⟩ (by omega) _ (lv_sub hl [0, 2, 3] rfl)
        · refine lv_iconst (v := 0) (pc := 40) hx hb dX0_wouldFit_40 (by decide) ?_
          exact W.zret (v := 0) hx hb hr rfl (fun t ht hW => ⟨_, rfl, (by rw [show ft σ v c0 = false from ftN_f (i := i) (by omega) (by unfold ftS inP; rw [c2]; first | (rw [decide_eq_true c3]; rfl) | (rw [decide_eq_false c3, decide_eq_false c4]; rfl))]; rfl), ht⟩) (fun q hq => absurd hq List.not_mem_nil) dX0_wouldFit_41
set_option maxHeartbeats 4000000 in
set_option maxRecDepth 100000 in
/-- how many clefs would fit -/
theorem cX0_countFittingClefs_m (l : Launch) (g : GA) (A : Nat → Prop) (σ : St) (rest : va_W) (v : Nat) (hv : v < 4) (hI : Inv σ) : Met l yX0_countFittingClefs wsX0_countFittingClefs ({ frames := 2, cells := 0, slots := 0, locals := 44 }) (va_Pc [.ref (gV g v)] (Cx g A (cw g σ ++ rest))) (vp_Si (fun r : Int32 => r = nI (fct σ v))) 0 0 (fun _ => False) := by
  refine Met.ofW (cc := cX0_countFittingClefs) (maxL := 3) (ret := (some .int)) (by decide) rfl ?_
  intro p e s m args below meth c s₁ B hml hv0
  obtain ⟨rfl, hP, hD, hA, hK, hX⟩ := hv0
  have hx := B.exec
  have hb := B.bytes
  have hr := B.returns
  have hts := atoms_spec (ws := wsX0_countFittingClefs) B.pre
  have hown : s.vm.findClass RX0 = some m.cls := findClass_of_methodNamed B.named
  have hlocks := B.notSynchronized
  have hS : va_S A s.heap s.heap [] := va_S.rf
  have hl := lv_entry ([.ref (gV g v)]) (n := 3) (Nat.le_of_ble_eq_true rfl)
  rw [lg_entry_eq]
  generalize (lg_sl ([.ref (gV g v)]) ++ List.replicate (3 - (lg_sl ([.ref (gV g v)])).length) Slot.unset).toArray = ls at hl ⊢
  have hl : lv_has ls 3 [(0, .ref (gV g v))] := hl
  refine lv_iconst (v := 0) (pc := 0) hx hb dX0_countFittingClefs_0 (by decide) ?_
  refine lv_istore_n (lv' := [(1, .int 0), (0, .ref (gV g v))]) (pc := 1) hx hb dX0_countFittingClefs_1 rfl hl (by decide) rfl (fun ls hl => ?_)
  refine lv_iconst (v := 0) (pc := 2) hx hb dX0_countFittingClefs_2 (by decide) ?_
  refine lv_istore_n (lv' := [(2, .int 0), (1, .int 0), (0, .ref (gV g v))]) (pc := 3) hx hb dX0_countFittingClefs_3 rfl hl (by decide) rfl (fun ls hl => ?_)
  refine k_loop2 (pc := 4) (nL := 3) (fun (i : Nat) (x : Int32) => i ≤ 6 ∧ x = nI (cnt (fun c => ft σ v (nI c)) i)) (fun (i : Nat) (x : Int32) => 6 - i) (fun (i : Nat) (x : Int32) => [(2, .int (nI i)), (1, .int x), (0, .ref (gV g v))]) (fun i x hI ih_4 ls hl => ?_) 0 0 ⟨Nat.zero_le _, rfl⟩ (lv_sub hl [0, 1, 2] rfl)
  obtain ⟨hi, hf⟩ := hI
  have hl : lv_has ls 3 [(2, .int (nI i)), (1, .int x), (0, .ref (gV g v))] := hl
  refine lv_iload_n (pc := 4) hx hb dX0_countFittingClefs_4 rfl (lv_at hl 0 rfl) ?_
  refine lv_iconst (v := 5) (pc := 5) hx hb dX0_countFittingClefs_5 (by decide) ?_
  refine lv_icmp_gt (tgt := 26) (pc := 6) hx hb dX0_countFittingClefs_6 (by decide) (fun c1 => ?_) (fun c1 => ?_)
  · have c1 : 5 < i := (nI_ltI (a := 5) (b := i) (by omega) (by omega)).mp c1
    refine lv_iload_n (pc := 26) hx hb dX0_countFittingClefs_26 rfl (lv_at hl 1 rfl) ?_
    exact W.iret hx hb hr (fun t ht hW => ⟨_, rfl, (by rw [hf, show i = 6 by omega]; rfl), ht⟩) (fun q hq => absurd hq List.not_mem_nil) dX0_countFittingClefs_27
  · have c1 : ¬ (5 < i) := fun z => c1 ((nI_ltI (a := 5) (b := i) (by omega) (by omega)).mpr z)
    refine lv_aload_n (pc := 9) hx hb dX0_countFittingClefs_9 rfl (lv_at hl 2 rfl) ?_
    refine lv_iload_n (pc := 10) hx hb dX0_countFittingClefs_10 rfl (lv_at hl 0 rfl) ?_
    refine k_ri (pc := 11) (va_runV (As := [.int (nI i)]) (rest := []) ⟨hx, hb, hml, hown, hts⟩ (cX0_wouldFit_m l g A σ rest v (nI i) hv hI) (cwV 1 hts gX0_countFittingClefs_X0_wouldFit rfl rfl rfl (by decide +kernel) ⟨Nat.le_of_ble_eq_true rfl, Nat.le_of_ble_eq_true rfl⟩) (cx_V (q0 := (2 + 6 * v)) (ci := 0) (r := (RX0, TX0, 10)) rfl (cv0 g σ rest hv) hP hD hA hK hX hS) rfl rfl hl.1 rfl (lv_room (Nat.le_of_ble_eq_true rfl)) dX0_countFittingClefs_11 ⟨Nat.le_of_ble_eq_true rfl, Nat.le_of_ble_eq_true rfl⟩) (fun r_2 hr_2 => ?_)
    subst hr_2
    refine lv_if_eq (tgt := 20) (pc := 14) hx hb dX0_countFittingClefs_14 (by decide) (fun c2 => ?_) (fun c2 => ?_)
    · have c2 : (fun c => ft σ v (nI c)) i = false := bI_0.mp c2
      refine lv_iinc (v := nI (i + 1)) (lv' := [(2, .int (nI (i + 1))), (1, .int x), (0, .ref (gV g v))]) (pc := 20) hx hb dX0_countFittingClefs_20 hl (k := 0) rfl (nI_1 _) (by decide) rfl (fun ls hl => ?_)
      refine lv_goto (tgt := 4) (pc := 23) hx hb dX0_countFittingClefs_23 (by decide) ?_
      exact ih_4 (i + 1) x ⟨by omega, by first | exact cntI_t hf c2 | exact cntI_f hf c2⟩ (by omega) _ (lv_sub hl [0, 1, 2] rfl)
    · have c2 : (fun c => ft σ v (nI c)) i = true := bI_n0.mp c2
      refine lv_iinc (v := x + 1) (lv' := [(1, .int (x + 1)), (2, .int (nI i)), (0, .ref (gV g v))]) (pc := 17) hx hb dX0_countFittingClefs_17 hl (k := 1) rfl rfl (by decide) rfl (fun ls hl => ?_)
      refine lv_iinc (v := nI (i + 1)) (lv' := [(2, .int (nI (i + 1))), (1, .int (x + 1)), (0, .ref (gV g v))]) (pc := 20) hx hb dX0_countFittingClefs_20 hl (k := 1) rfl (nI_1 _) (by decide) rfl (fun ls hl => ?_)
      refine lv_goto (tgt := 4) (pc := 23) hx hb dX0_countFittingClefs_23 (by decide) ?_
      exact ih_4 (i + 1) (x + 1) ⟨by omega, by first | exact cntI_t hf c2 | exact cntI_f hf c2⟩ (by omega) _ (lv_sub hl [0, 1, 2] rfl)
set_option maxHeartbeats 4000000 in
set_option maxRecDepth 100000 in
/-- the sign that lasts at a time -/
theorem cX0_signLastingAt_m (l : Launch) (g : GA) (A : Nat → Prop) (σ : St) (rest : va_W) (v : Nat) (t0 : Int32) (hv : v < 4) (hI : Inv σ) : Met l yX0_signLastingAt wsX0_signLastingAt ({ frames := 0, cells := 0, slots := 0, locals := 0 }) (va_Pc [.ref (gV g v), .int t0] (Cx g A (cw g σ ++ rest))) (vp_Si (fun r : Int32 => r = sgAt σ v t0 (sC σ v))) 0 0 (fun _ => False) := by
  refine Met.ofW (cc := cX0_signLastingAt) (maxL := 3) (ret := (some .int)) (by decide) rfl ?_
  intro p e s m args below meth c s₁ B hml hv0
  obtain ⟨rfl, hP, hD, hA, hK, hX⟩ := hv0
  have hx := B.exec
  have hb := B.bytes
  have hr := B.returns
  have hts := atoms_spec (ws := wsX0_signLastingAt) B.pre
  have hown : s.vm.findClass RX0 = some m.cls := findClass_of_methodNamed B.named
  have hlocks := B.notSynchronized
  have hS : va_S A s.heap s.heap [] := va_S.rf
  have hinX0 : ∀ w ∈ u_ws RX0 TX0 10, w ∈ wsX0_signLastingAt := by decide +kernel
  have hl := lv_entry ([.ref (gV g v), .int t0]) (n := 3) (Nat.le_of_ble_eq_true rfl)
  rw [lg_entry_eq]
  generalize (lg_sl ([.ref (gV g v), .int t0]) ++ List.replicate (3 - (lg_sl ([.ref (gV g v), .int t0])).length) Slot.unset).toArray = ls at hl ⊢
  have hl : lv_has ls 3 [(0, .ref (gV g v)), (1, .int t0)] := hl
  have hC := hI.C v
  refine lv_iconst (v := 0) (pc := 0) hx hb dX0_signLastingAt_0 (by decide) ?_
  refine lv_istore_n (lv' := [(2, .int 0), (0, .ref (gV g v)), (1, .int t0)]) (pc := 1) hx hb dX0_signLastingAt_1 rfl hl (by decide) rfl (fun ls hl => ?_)
  refine k_loop1 (pc := 2) (nL := 3) (fun (i : Nat) => i ≤ sC σ v ∧ sgAt σ v t0 i = -1) (fun (i : Nat) => sC σ v - i) (fun (i : Nat) => [(2, .int (nI i)), (1, .int t0), (0, .ref (gV g v))]) (fun i hI ih_2 ls hl => ?_) 0 ⟨Nat.zero_le _, rfl⟩ (lv_sub hl [0, 2, 1] rfl)
  obtain ⟨hi, hf⟩ := hI
  have hl : lv_has ls 3 [(2, .int (nI i)), (1, .int t0), (0, .ref (gV g v))] := hl
  refine lv_iload_n (pc := 2) hx hb dX0_signLastingAt_2 rfl (lv_at hl 0 rfl) ?_
  refine lv_aload_n (pc := 3) hx hb dX0_signLastingAt_3 rfl (lv_at hl 2 rfl) ?_
  refine va_get (pc := 4) (D := gD g) (ci := 0) (C := RX0) (T := TX0) (N := 10) hx hb hts hinX0 hown hK hP (2 + 6 * v) (cv0 g σ rest hv) rfl 4 (by decide) (hts (.fieldLink RX0 45 "ChoirNotes$Voice" "count" "I") (by decide +kernel)) (fun _ h9 => h9) rfl dX0_signLastingAt_4 ?_
  refine lv_icmp_ge (tgt := 30) (pc := 7) hx hb dX0_signLastingAt_7 (by decide) (fun c1 => ?_) (fun c1 => ?_)
  · have c1 : sC σ v ≤ i := (nI_leI (a := sC σ v) (b := i) (by omega) (by omega)).mp c1
    refine lv_iconst (v := (-1)) (pc := 30) hx hb dX0_signLastingAt_30 (by decide) ?_
    exact W.iret hx hb hr (fun t ht hW => ⟨_, rfl, (by rw [← (show i = sC σ v by omega)]; exact hf.symm), ht⟩) (fun q hq => absurd hq List.not_mem_nil) dX0_signLastingAt_31
  · have c1 : ¬ (sC σ v ≤ i) := fun z => c1 ((nI_leI (a := sC σ v) (b := i) (by omega) (by omega)).mpr z)
    refine lv_iload_n (pc := 10) hx hb dX0_signLastingAt_10 rfl (lv_at hl 1 rfl) ?_
    refine lv_aload_n (pc := 11) hx hb dX0_signLastingAt_11 rfl (lv_at hl 2 rfl) ?_
    refine va_get (pc := 12) (D := gD g) (ci := 0) (C := RX0) (T := TX0) (N := 10) hx hb hts hinX0 hown hK hP (2 + 6 * v) (cv0 g σ rest hv) rfl 9 (by decide) (hts (.fieldLink RX0 29 "ChoirNotes$Voice" "begins" "[I") (by decide +kernel)) (fun _ h9 => h9) rfl dX0_signLastingAt_12 ?_
    refine lv_iload_n (pc := 15) hx hb dX0_signLastingAt_15 rfl (lv_at hl 0 rfl) ?_
    refine lv_iconst (v := 1) (pc := 16) hx hb dX0_signLastingAt_16 (by decide) ?_
    refine lv_iadd (pc := 17) hx hb dX0_signLastingAt_17 ?_
    refine k_cong (y := nI (i + 1)) (nI_1 i) ?_
    refine k_iald (pc := 18) (x := sB σ v (i + 1)) hx hb hK hP (7 + 6 * v) 0 (cv5 g σ rest hv) rfl (i + 1) rfl (by omega) (by decide) rfl dX0_signLastingAt_18 ?_
    refine k_cong (y := nI (bg σ v (i + 1))) (hI.B (by omega)) ?_
    refine lv_icmp_ge (tgt := 24) (pc := 19) hx hb dX0_signLastingAt_19 (by decide) (fun c2 => ?_) (fun c2 => ?_)
    · refine lv_iinc (v := nI (i + 1)) (lv' := [(2, .int (nI (i + 1))), (1, .int t0), (0, .ref (gV g v))]) (pc := 24) hx hb dX0_signLastingAt_24 hl (k := 0) rfl (nI_1 _) (by decide) rfl (fun ls hl => ?_)
      refine lv_goto (tgt := 2) (pc := 27) hx hb dX0_signLastingAt_27 (by decide) ?_
      exact ih_2 (i + 1) ⟨by omega, sgAt_f hf (Int32.not_lt.mpr c2)⟩ (by omega) _ (lv_sub hl [0, 1, 2] rfl)
    · refine lv_iload_n (pc := 22) hx hb dX0_signLastingAt_22 rfl (lv_at hl 0 rfl) ?_
      exact W.iret hx hb hr (fun t ht hW => ⟨_, rfl, (sgAt_t hf (Int32.not_le.mp c2) (by omega) (by omega)).symm, ht⟩) (fun q hq => absurd hq List.not_mem_nil) dX0_signLastingAt_23
end
section
/-! THE VOICE: what it writes -/
set_option maxHeartbeats 4000000 in
set_option maxRecDepth 100000 in
/-- the beginnings, anew from a sign on -/
theorem cX0_timeFrom_m (l : Launch) (g : GA) (A : Nat → Prop) (σ : St) (rest : va_W) (v f : Nat) (hv : v < 4) (hC : sC σ v ≤ 24) (hKd : ∀ s, sK σ v s ≤ 3) (hf : f ≤ sC σ v) (hB : ∀ s, s ≤ f → sB σ v s = nI (bg σ v s)) : Met l yX0_timeFrom wsX0_timeFrom ({ frames := 1, cells := 0, slots := 0, locals := 22 }) (va_Pc [.ref (gV g v), .int (nI f)] (Cx g A (cw g σ ++ rest))) (va_Qv (fun (u : Nat → Nat → Int32) => tfP σ v u) (fun u t => kB g A (cw g (uB σ u) ++ rest) t) A) 0 0 A := by
  refine Met.ofW (cc := cX0_timeFrom) (maxL := 3) (ret := none) (by decide) rfl ?_
  intro p e s m args below meth c s₁ B hml hv0
  obtain ⟨rfl, hP, hD, hA, hK, hX⟩ := hv0
  have hx := B.exec
  have hb := B.bytes
  have hr := B.returns
  have hts := atoms_spec (ws := wsX0_timeFrom) B.pre
  have hown : s.vm.findClass RX0 = some m.cls := findClass_of_methodNamed B.named
  have hlocks := B.notSynchronized
  have hS : va_S A s.heap s.heap [] := va_S.rf
  have hinX0 : ∀ w ∈ u_ws RX0 TX0 10, w ∈ wsX0_timeFrom := by decide +kernel
  have hl := lv_entry ([.ref (gV g v), .int (nI f)]) (n := 3) (Nat.le_of_ble_eq_true rfl)
  rw [lg_entry_eq]
  generalize (lg_sl ([.ref (gV g v), .int (nI f)]) ++ List.replicate (3 - (lg_sl ([.ref (gV g v), .int (nI f)])).length) Slot.unset).toArray = ls at hl ⊢
  have hl : lv_has ls 3 [(0, .ref (gV g v)), (1, .int (nI f))] := hl
  refine lv_iload_n (pc := 0) hx hb dX0_timeFrom_0 rfl (lv_at hl 1 rfl) ?_
  refine lv_istore_n (lv' := [(2, .int (nI f)), (0, .ref (gV g v)), (1, .int (nI f))]) (pc := 1) hx hb dX0_timeFrom_1 rfl hl (by decide) rfl (fun ls hl => ?_)
  refine k_loopW2 (pc := 2) (nL := 3) (fun (i : Nat) (b : Nat → Nat → Int32) => (f ≤ i ∧ i ≤ sC σ v) ∧ (∀ w, w ≠ v → b w = sB σ w) ∧ ∀ s, s ≤ i → b v s = nI (bg σ v s)) (fun (i : Nat) (b : Nat → Nat → Int32) => sC σ v - i) (fun (i : Nat) (b : Nat → Nat → Int32) => [(2, .int (nI i)), (1, .int (nI f)), (0, .ref (gV g v))]) (fun (i : Nat) (b : Nat → Nat → Int32) => cw g (uB σ b) ++ rest) (fun i b hI ih_2 H_2 locs_2 ls hP hD hS hl => ?_) f (sB σ) ⟨⟨Nat.le_refl _, hf⟩, fun _ _ => rfl, hB⟩ hP hD hS (lv_sub hl [0, 2, 1] rfl)
  obtain ⟨⟨hi0, hi⟩, h1, h2⟩ := hI
  have hP : va_P (gD g) vwCl (cw g (uB σ b) ++ rest) H_2 := hP
  have hD : va_D A (cw g (uB σ b) ++ rest) := hD
  have hl : lv_has ls 3 [(2, .int (nI i)), (1, .int (nI f)), (0, .ref (gV g v))] := hl
  refine lv_iload_n (pc := 2) hx hb dX0_timeFrom_2 rfl (lv_at hl 0 rfl) ?_
  refine lv_aload_n (pc := 3) hx hb dX0_timeFrom_3 rfl (lv_at hl 2 rfl) ?_
  refine va_get (v := .int (nI (sC σ v))) (pc := 4) (D := gD g) (ci := 0) (C := RX0) (T := TX0) (N := 10) hx hb hts hinX0 hown hK hP (2 + 6 * v) (cv0 g (uB σ b) rest hv) rfl 4 (by decide) (hts (.fieldLink RX0 45 "ChoirNotes$Voice" "count" "I") (by decide +kernel)) (fun _ h9 => h9) rfl dX0_timeFrom_4 ?_
  refine lv_icmp_ge (tgt := 47) (pc := 7) hx hb dX0_timeFrom_7 (by decide) (fun c1 => ?_) (fun c1 => ?_)
  · have c1 : sC σ v ≤ i := (nI_leI (a := sC σ v) (b := i) (by omega) (by omega)).mp c1
    have c1 : sC σ v ≤ i := c1
    exact W.vret hx hb hr (fun t ht hW => ⟨⟨b, rfl, ⟨h1, fun s hs => h2 s (by omega)⟩, by rw [ht]; exact hP, hD⟩, hS.F ht⟩) hS.2.2 dX0_timeFrom_47
  · have c1 : ¬ (sC σ v ≤ i) := fun z => c1 ((nI_leI (a := sC σ v) (b := i) (by omega) (by omega)).mpr z)
    have c1 : ¬ sC σ v ≤ i := c1
    refine lv_aload_n (pc := 10) hx hb dX0_timeFrom_10 rfl (lv_at hl 2 rfl) ?_
    refine va_get (v := .ref (gA g v 4)) (pc := 11) (D := gD g) (ci := 0) (C := RX0) (T := TX0) (N := 10) hx hb hts hinX0 hown hK hP (2 + 6 * v) (cv0 g (uB σ b) rest hv) rfl 9 (by decide) (hts (.fieldLink RX0 29 "ChoirNotes$Voice" "begins" "[I") (by decide +kernel)) (fun _ h9 => h9) rfl dX0_timeFrom_11 ?_
    refine lv_iload_n (pc := 14) hx hb dX0_timeFrom_14 rfl (lv_at hl 0 rfl) ?_
    refine lv_iconst (v := 1) (pc := 15) hx hb dX0_timeFrom_15 (by decide) ?_
    refine lv_iadd (pc := 16) hx hb dX0_timeFrom_16 ?_
    refine k_cong (y := nI (i + 1)) (nI_1 i) ?_
    refine lv_aload_n (pc := 17) hx hb dX0_timeFrom_17 rfl (lv_at hl 2 rfl) ?_
    refine va_get (v := .ref (gA g v 4)) (pc := 18) (D := gD g) (ci := 0) (C := RX0) (T := TX0) (N := 10) hx hb hts hinX0 hown hK hP (2 + 6 * v) (cv0 g (uB σ b) rest hv) rfl 9 (by decide) (hts (.fieldLink RX0 29 "ChoirNotes$Voice" "begins" "[I") (by decide +kernel)) (fun _ h9 => h9) rfl dX0_timeFrom_18 ?_
    refine lv_iload_n (pc := 21) hx hb dX0_timeFrom_21 rfl (lv_at hl 0 rfl) ?_
    refine k_iald (pc := 22) (x := sB (uB σ b) v i) hx hb hK hP (7 + 6 * v) 0 (cv5 g (uB σ b) rest hv) rfl i rfl (by omega) (by decide) rfl dX0_timeFrom_22 ?_
    refine k_cong (y := nI (bg σ v i)) (h2 i (Nat.le_refl _)) ?_
    refine lv_aload_n (pc := 23) hx hb dX0_timeFrom_23 rfl (lv_at hl 2 rfl) ?_
    refine lv_aload_n (pc := 24) hx hb dX0_timeFrom_24 rfl (lv_at hl 2 rfl) ?_
    refine va_get (v := .ref (gA g v 0)) (pc := 25) (D := gD g) (ci := 0) (C := RX0) (T := TX0) (N := 10) hx hb hts hinX0 hown hK hP (2 + 6 * v) (cv0 g (uB σ b) rest hv) rfl 5 (by decide) (hts (.fieldLink RX0 15 "ChoirNotes$Voice" "kinds" "[I") (by decide +kernel)) (fun _ h9 => h9) rfl dX0_timeFrom_25 ?_
    refine lv_iload_n (pc := 28) hx hb dX0_timeFrom_28 rfl (lv_at hl 0 rfl) ?_
    refine k_iald (pc := 29) (x := nI (sK σ v i)) hx hb hK hP (3 + 6 * v) 0 (cv1 g (uB σ b) rest hv) rfl i rfl (by omega) (by decide) rfl dX0_timeFrom_29 ?_
    refine lv_aload_n (pc := 30) hx hb dX0_timeFrom_30 rfl (lv_at hl 2 rfl) ?_
    refine va_get (v := .ref (gA g v 2)) (pc := 31) (D := gD g) (ci := 0) (C := RX0) (T := TX0) (N := 10) hx hb hts hinX0 hown hK hP (2 + 6 * v) (cv0 g (uB σ b) rest hv) rfl 7 (by decide) (hts (.fieldLink RX0 22 "ChoirNotes$Voice" "colours" "[Z") (by decide +kernel)) (fun _ h9 => h9) rfl dX0_timeFrom_31 ?_
    refine lv_iload_n (pc := 34) hx hb dX0_timeFrom_34 rfl (lv_at hl 0 rfl) ?_
    refine k_zald (pc := 35) (x := bI (sR σ v i)) hx hb hK hP (5 + 6 * v) 1 (cv3 g (uB σ b) rest hv) rfl i rfl (by omega) (by decide) rfl dX0_timeFrom_35 ?_
    refine k_ri (pc := 36) (va_runV (As := [.int (nI (sK σ v i)), .int (bI (sR σ v i))]) (rest := [.int (nI (bg σ v i)), .int (nI (i + 1)), .ref (gA g v 4)]) ⟨hx, hb, hml, hown, hts⟩ (cX0_minimsByKind_m l g A (uB σ b) rest v (sK σ v i) (sR (uB σ b) v i) hv (hKd i)) (cwV 2 hts gX0_timeFrom_X0_minimsByKind rfl rfl rfl (by decide +kernel) ⟨Nat.le_of_ble_eq_true rfl, Nat.le_of_ble_eq_true rfl⟩) (cx_V (q0 := (2 + 6 * v)) (ci := 0) (r := (RX0, TX0, 10)) rfl (cv0 g (uB σ b) rest hv) hP hD hA hK hX hS) rfl rfl hl.1 rfl (lv_room (Nat.le_of_ble_eq_true rfl)) dX0_timeFrom_36 ⟨Nat.le_of_ble_eq_true rfl, Nat.le_of_ble_eq_true rfl⟩) (fun r_2 hr_2 => ?_)
    subst hr_2
    refine lv_iadd (pc := 39) hx hb dX0_timeFrom_39 ?_
    refine k_cong (y := nI (bg σ v (i + 1))) (nI_add _ _) ?_
    refine k_iast (pc := 40) (ws' := cw g (uB (uB σ b) (up2 (sB (uB σ b)) v (i + 1) (nI (bg σ v (i + 1))))) ++ rest) hx hb hK hP hD hS (7 + 6 * v) 0 (cv5 g (uB σ b) rest hv) rfl (i + 1) rfl (by omega) (by decide) (cs_B g (uB σ b) rest (i + 1) (nI (bg σ v (i + 1))) hv) dX0_timeFrom_40 (fun H3 locs3 hP hD hS => ?_)
    refine lv_iinc (v := nI (i + 1)) (lv' := [(2, .int (nI (i + 1))), (1, .int (nI f)), (0, .ref (gV g v))]) (pc := 41) hx hb dX0_timeFrom_41 hl (k := 0) rfl (nI_1 _) (by decide) rfl (fun ls hl => ?_)
    refine lv_goto (tgt := 2) (pc := 44) hx hb dX0_timeFrom_44 (by decide) ?_
    exact ih_2 (i + 1) ((up2 b v (i + 1) (nI (bg σ v (i + 1))))) ⟨⟨by omega, by omega⟩, fun w hw => (up2_row _ hw _ _).trans (h1 w hw), tf_step h2 rfl⟩ (by omega) _ _ _ hP hD hS (lv_sub hl [0, 1, 2] rfl)
set_option maxHeartbeats 4000000 in
set_option maxRecDepth 100000 in
/-- a mensuration -/
theorem cX0_measure_m (l : Launch) (g : GA) (A : Nat → Prop) (σ : St) (rest : va_W) (v a b c1 : Nat) (hv : v < 4) (hI : Inv σ) : Met l yX0_measure wsX0_measure ({ frames := 2, cells := 0, slots := 0, locals := 44 }) (va_Pc [.ref (gV g v), .int (nI a), .int (nI b), .int (nI c1)] (Cx g A (cw g σ ++ rest))) (va_Qv (fun (u : Nat → Nat → Int32) => tfP (meS σ v a b c1) v u) (fun u t => kB g A (cw g (uB (meS σ v a b c1) u) ++ rest) t) A) 0 0 A := by
  refine Met.ofW (cc := cX0_measure) (maxL := 4) (ret := none) (by decide) rfl ?_
  intro p e s m args below meth c s₁ B hml hv0
  obtain ⟨rfl, hP, hD, hA, hK, hX⟩ := hv0
  have hx := B.exec
  have hb := B.bytes
  have hr := B.returns
  have hts := atoms_spec (ws := wsX0_measure) B.pre
  have hown : s.vm.findClass RX0 = some m.cls := findClass_of_methodNamed B.named
  have hlocks := B.notSynchronized
  have hS : va_S A s.heap s.heap [] := va_S.rf
  have hinX0 : ∀ w ∈ u_ws RX0 TX0 10, w ∈ wsX0_measure := by decide +kernel
  have hl := lv_entry ([.ref (gV g v), .int (nI a), .int (nI b), .int (nI c1)]) (n := 4) (Nat.le_of_ble_eq_true rfl)
  rw [lg_entry_eq]
  generalize (lg_sl ([.ref (gV g v), .int (nI a), .int (nI b), .int (nI c1)]) ++ List.replicate (4 - (lg_sl ([.ref (gV g v), .int (nI a), .int (nI b), .int (nI c1)])).length) Slot.unset).toArray = ls at hl ⊢
  have hl : lv_has ls 4 [(0, .ref (gV g v)), (1, .int (nI a)), (2, .int (nI b)), (3, .int (nI c1))] := hl
  refine lv_aload_n (pc := 0) hx hb dX0_measure_0 rfl (lv_at hl 0 rfl) ?_
  refine lv_iload_n (pc := 1) hx hb dX0_measure_1 rfl (lv_at hl 1 rfl) ?_
  refine va_put (pc := 2) (D := gD g) (ci := 0) (v := .int (nI a)) (ty := .int) (C := RX0) (T := TX0) (N := 10) hx hb hts hinX0 tyX0 tyX0_ok nmX0 hown hK hP hD hS (2 + 6 * v) (cv0 g σ rest hv) rfl 0 (by decide) (hts (.fieldLink RX0 32 "ChoirNotes$Voice" "brevesInLonga" "I") (by decide +kernel)) (fun _ h9 => h9) rfl (by decide +kernel) rfl rfl (Nat.le_of_ble_eq_true rfl) dX0_measure_2 (fun H1 locs1 hP hD hS => ?_)
  have hP : va_P (gD g) vwCl (cw g (uM σ v 0 a) ++ rest) H1 := (cs_M0 g σ rest a hv) ▸ hP
  have hD : va_D A (cw g (uM σ v 0 a) ++ rest) := (cs_M0 g σ rest a hv) ▸ hD
  refine lv_aload_n (pc := 5) hx hb dX0_measure_5 rfl (lv_at hl 0 rfl) ?_
  refine lv_iload_n (pc := 6) hx hb dX0_measure_6 rfl (lv_at hl 2 rfl) ?_
  refine va_put (pc := 7) (D := gD g) (ci := 0) (v := .int (nI b)) (ty := .int) (C := RX0) (T := TX0) (N := 10) hx hb hts hinX0 tyX0 tyX0_ok nmX0 hown hK hP hD hS (2 + 6 * v) (cv0 g (uM σ v 0 a) rest hv) rfl 1 (by decide) (hts (.fieldLink RX0 35 "ChoirNotes$Voice" "semibrevesInBreve" "I") (by decide +kernel)) (fun _ h9 => h9) rfl (by decide +kernel) rfl rfl (Nat.le_of_ble_eq_true rfl) dX0_measure_7 (fun H2 locs2 hP hD hS => ?_)
  have hP : va_P (gD g) vwCl (cw g (uM (uM σ v 0 a) v 1 b) ++ rest) H2 := (cs_M1 g (uM σ v 0 a) rest b hv) ▸ hP
  have hD : va_D A (cw g (uM (uM σ v 0 a) v 1 b) ++ rest) := (cs_M1 g (uM σ v 0 a) rest b hv) ▸ hD
  refine lv_aload_n (pc := 10) hx hb dX0_measure_10 rfl (lv_at hl 0 rfl) ?_
  refine lv_iload_n (pc := 11) hx hb dX0_measure_11 rfl (lv_at hl 3 rfl) ?_
  refine va_put (pc := 12) (D := gD g) (ci := 0) (v := .int (nI c1)) (ty := .int) (C := RX0) (T := TX0) (N := 10) hx hb hts hinX0 tyX0 tyX0_ok nmX0 hown hK hP hD hS (2 + 6 * v) (cv0 g (uM (uM σ v 0 a) v 1 b) rest hv) rfl 2 (by decide) (hts (.fieldLink RX0 38 "ChoirNotes$Voice" "minimsInSemibreve" "I") (by decide +kernel)) (fun _ h9 => h9) rfl (by decide +kernel) rfl rfl (Nat.le_of_ble_eq_true rfl) dX0_measure_12 (fun H3 locs3 hP hD hS => ?_)
  have hP : va_P (gD g) vwCl (cw g (uM (uM (uM σ v 0 a) v 1 b) v 2 c1) ++ rest) H3 := (cs_M2 g (uM (uM σ v 0 a) v 1 b) rest c1 hv) ▸ hP
  have hD : va_D A (cw g (uM (uM (uM σ v 0 a) v 1 b) v 2 c1) ++ rest) := (cs_M2 g (uM (uM σ v 0 a) v 1 b) rest c1 hv) ▸ hD
  refine lv_aload_n (pc := 15) hx hb dX0_measure_15 rfl (lv_at hl 0 rfl) ?_
  refine lv_iconst (v := 0) (pc := 16) hx hb dX0_measure_16 (by decide) ?_
  refine va_callv (pc := 17) (va_runV (As := [.int 0]) (rest := []) ⟨hx, hb, hml, hown, hts⟩ (cX0_timeFrom_m l g A (uM (uM (uM σ v 0 a) v 1 b) v 2 c1) rest v 0 hv (hI.C v) (fun s => hI.K v s) (Nat.zero_le _) (fun s hs => by rw [Nat.le_zero.mp hs]; exact hI.B (v := v) (Nat.zero_le _))) (cwV 1 hts gX0_measure_X0_timeFrom rfl rfl rfl (by decide +kernel) ⟨Nat.le_of_ble_eq_true rfl, Nat.le_of_ble_eq_true rfl⟩) (cx_V (q0 := (2 + 6 * v)) (ci := 0) (r := (RX0, TX0, 10)) rfl (cv0 g (uM (uM (uM σ v 0 a) v 1 b) v 2 c1) rest hv) hP hD hA hK hX hS) rfl rfl hl.1 rfl (lv_room (Nat.le_of_ble_eq_true rfl)) dX0_measure_17 ⟨Nat.le_of_ble_eq_true rfl, Nat.le_of_ble_eq_true rfl⟩) hS (fun _ _ h => h) (fun _ h => h) (fun u5 t5 H5 locs5 ht5 hvm5 hw5 hB5 hz5 hk5 hS => ?_)
  obtain ⟨hP, hD⟩ := hB5
  rw [ht5] at hP
  exact W.vret hx hb hr (fun t ht hW => ⟨⟨u5, rfl, hw5, by rw [ht]; exact hP, hD⟩, hS.F ht⟩) hS.2.2 dX0_measure_20
set_option maxHeartbeats 4000000 in
set_option maxRecDepth 100000 in
/-- a sign behind the others -/
theorem cX0_append_m (l : Launch) (g : GA) (A : Nat → Prop) (σ : St) (rest : va_W) (v k0 : Nat) (p0 : Int32) (r0 : Bool) (t0 : Int32) (hv : v < 4) (hk3 : k0 ≤ 3) (hI : IvA σ v) (hc : sC σ v < 24) : Met l yX0_append wsX0_append ({ frames := 2, cells := 0, slots := 0, locals := 44 }) (va_Pc [.ref (gV g v), .int (nI k0), .int p0, .int (bI r0), .int t0] (Cx g A (cw g σ ++ rest))) (va_Qi (fun (r : Int32) (u : Nat → Nat → Int32) => r = nI (sC σ v) ∧ tfP (apS σ v k0 p0 r0 t0) v u) (fun u t => kB g A (cw g (uB (apS σ v k0 p0 r0 t0) u) ++ rest) t) A) 0 0 A := by
  refine Met.ofW (cc := cX0_append) (maxL := 6) (ret := (some .int)) (by decide) rfl ?_
  intro p e s m args below meth c s₁ B hml hv0
  obtain ⟨rfl, hP, hD, hA, hK, hX⟩ := hv0
  have hx := B.exec
  have hb := B.bytes
  have hr := B.returns
  have hts := atoms_spec (ws := wsX0_append) B.pre
  have hown : s.vm.findClass RX0 = some m.cls := findClass_of_methodNamed B.named
  have hlocks := B.notSynchronized
  have hS : va_S A s.heap s.heap [] := va_S.rf
  have hinX0 : ∀ w ∈ u_ws RX0 TX0 10, w ∈ wsX0_append := by decide +kernel
  have hl := lv_entry ([.ref (gV g v), .int (nI k0), .int p0, .int (bI r0), .int t0]) (n := 6) (Nat.le_of_ble_eq_true rfl)
  rw [lg_entry_eq]
  generalize (lg_sl ([.ref (gV g v), .int (nI k0), .int p0, .int (bI r0), .int t0]) ++ List.replicate (6 - (lg_sl ([.ref (gV g v), .int (nI k0), .int p0, .int (bI r0), .int t0])).length) Slot.unset).toArray = ls at hl ⊢
  have hl : lv_has ls 6 [(0, .ref (gV g v)), (1, .int (nI k0)), (2, .int p0), (3, .int (bI r0)), (4, .int t0)] := hl
  refine lv_aload_n (pc := 0) hx hb dX0_append_0 rfl (lv_at hl 0 rfl) ?_
  refine va_get (v := .int (nI (sC σ v))) (pc := 1) (D := gD g) (ci := 0) (C := RX0) (T := TX0) (N := 10) hx hb hts hinX0 hown hK hP (2 + 6 * v) (cv0 g σ rest hv) rfl 4 (by decide) (hts (.fieldLink RX0 45 "ChoirNotes$Voice" "count" "I") (by decide +kernel)) (fun _ h9 => h9) rfl dX0_append_1 ?_
  refine lv_istore (lv' := [(5, .int (nI (sC σ v))), (0, .ref (gV g v)), (1, .int (nI k0)), (2, .int p0), (3, .int (bI r0)), (4, .int t0)]) (pc := 4) hx hb dX0_append_4 hl (by decide) rfl (fun ls hl => ?_)
  refine lv_aload_n (pc := 6) hx hb dX0_append_6 rfl (lv_at hl 1 rfl) ?_
  refine va_get (v := .ref (gA g v 0)) (pc := 7) (D := gD g) (ci := 0) (C := RX0) (T := TX0) (N := 10) hx hb hts hinX0 hown hK hP (2 + 6 * v) (cv0 g σ rest hv) rfl 5 (by decide) (hts (.fieldLink RX0 15 "ChoirNotes$Voice" "kinds" "[I") (by decide +kernel)) (fun _ h9 => h9) rfl dX0_append_7 ?_
  refine lv_iload (pc := 10) hx hb dX0_append_10 (lv_at hl 0 rfl) ?_
  refine lv_iload_n (pc := 12) hx hb dX0_append_12 rfl (lv_at hl 2 rfl) ?_
  refine k_iast (pc := 13) (ws' := cw g (uK σ v (sC σ v) k0) ++ rest) hx hb hK hP hD hS (3 + 6 * v) 0 (cv1 g σ rest hv) rfl (sC σ v) rfl (by omega) (by decide) (cs_K g σ rest (sC σ v) k0 hv) dX0_append_13 (fun H1 locs1 hP hD hS => ?_)
  refine lv_aload_n (pc := 14) hx hb dX0_append_14 rfl (lv_at hl 1 rfl) ?_
  refine va_get (v := .ref (gA g v 1)) (pc := 15) (D := gD g) (ci := 0) (C := RX0) (T := TX0) (N := 10) hx hb hts hinX0 hown hK hP (2 + 6 * v) (cv0 g (uK σ v (sC σ v) k0) rest hv) rfl 6 (by decide) (hts (.fieldLink RX0 19 "ChoirNotes$Voice" "places" "[I") (by decide +kernel)) (fun _ h9 => h9) rfl dX0_append_15 ?_
  refine lv_iload (pc := 18) hx hb dX0_append_18 (lv_at hl 0 rfl) ?_
  refine lv_iload_n (pc := 20) hx hb dX0_append_20 rfl (lv_at hl 3 rfl) ?_
  refine k_iast (pc := 21) (ws' := cw g (uP (uK σ v (sC σ v) k0) v (sC σ v) p0) ++ rest) hx hb hK hP hD hS (4 + 6 * v) 0 (cv2 g (uK σ v (sC σ v) k0) rest hv) rfl (sC σ v) rfl (by omega) (by decide) (cs_P g (uK σ v (sC σ v) k0) rest (sC σ v) p0 hv) dX0_append_21 (fun H2 locs2 hP hD hS => ?_)
  refine lv_aload_n (pc := 22) hx hb dX0_append_22 rfl (lv_at hl 1 rfl) ?_
  refine va_get (v := .ref (gA g v 2)) (pc := 23) (D := gD g) (ci := 0) (C := RX0) (T := TX0) (N := 10) hx hb hts hinX0 hown hK hP (2 + 6 * v) (cv0 g (uP (uK σ v (sC σ v) k0) v (sC σ v) p0) rest hv) rfl 7 (by decide) (hts (.fieldLink RX0 22 "ChoirNotes$Voice" "colours" "[Z") (by decide +kernel)) (fun _ h9 => h9) rfl dX0_append_23 ?_
  refine lv_iload (pc := 26) hx hb dX0_append_26 (lv_at hl 0 rfl) ?_
  refine lv_iload_n (pc := 28) hx hb dX0_append_28 rfl (lv_at hl 4 rfl) ?_
  refine k_zast (pc := 29) (ws' := cw g (uR (uP (uK σ v (sC σ v) k0) v (sC σ v) p0) v (sC σ v) r0) ++ rest) hx hb hK hP hD hS (5 + 6 * v) 1 (cv3 g (uP (uK σ v (sC σ v) k0) v (sC σ v) p0) rest hv) rfl (sC σ v) rfl (by omega) (by decide) (kN_b _) (cs_R g (uP (uK σ v (sC σ v) k0) v (sC σ v) p0) rest (sC σ v) r0 hv) dX0_append_29 (fun H3 locs3 hP hD hS => ?_)
  refine lv_aload_n (pc := 30) hx hb dX0_append_30 rfl (lv_at hl 1 rfl) ?_
  refine va_get (v := .ref (gA g v 3)) (pc := 31) (D := gD g) (ci := 0) (C := RX0) (T := TX0) (N := 10) hx hb hts hinX0 hown hK hP (2 + 6 * v) (cv0 g (uR (uP (uK σ v (sC σ v) k0) v (sC σ v) p0) v (sC σ v) r0) rest hv) rfl 8 (by decide) (hts (.fieldLink RX0 26 "ChoirNotes$Voice" "ranks" "[I") (by decide +kernel)) (fun _ h9 => h9) rfl dX0_append_31 ?_
  refine lv_iload (pc := 34) hx hb dX0_append_34 (lv_at hl 0 rfl) ?_
  refine lv_iload (pc := 36) hx hb dX0_append_36 (lv_at hl 5 rfl) ?_
  refine k_iast (pc := 38) (ws' := cw g (uT (uR (uP (uK σ v (sC σ v) k0) v (sC σ v) p0) v (sC σ v) r0) v (sC σ v) t0) ++ rest) hx hb hK hP hD hS (6 + 6 * v) 0 (cv4 g (uR (uP (uK σ v (sC σ v) k0) v (sC σ v) p0) v (sC σ v) r0) rest hv) rfl (sC σ v) rfl (by omega) (by decide) (cs_T g (uR (uP (uK σ v (sC σ v) k0) v (sC σ v) p0) v (sC σ v) r0) rest (sC σ v) t0 hv) dX0_append_38 (fun H4 locs4 hP hD hS => ?_)
  refine lv_aload_n (pc := 39) hx hb dX0_append_39 rfl (lv_at hl 1 rfl) ?_
  refine lv_dup (pc := 40) hx hb dX0_append_40 rfl ?_
  refine va_get (v := .int (nI (sC (uT (uR (uP (uK σ v (sC σ v) k0) v (sC σ v) p0) v (sC σ v) r0) v (sC σ v) t0) v))) (pc := 41) (D := gD g) (ci := 0) (C := RX0) (T := TX0) (N := 10) hx hb hts hinX0 hown hK hP (2 + 6 * v) (cv0 g (uT (uR (uP (uK σ v (sC σ v) k0) v (sC σ v) p0) v (sC σ v) r0) v (sC σ v) t0) rest hv) rfl 4 (by decide) (hts (.fieldLink RX0 45 "ChoirNotes$Voice" "count" "I") (by decide +kernel)) (fun _ h9 => h9) rfl dX0_append_41 ?_
  refine lv_iconst (v := 1) (pc := 44) hx hb dX0_append_44 (by decide) ?_
  refine lv_iadd (pc := 45) hx hb dX0_append_45 ?_
  refine k_cong (y := nI (sC σ v + 1)) (nI_1 _) ?_
  refine va_put (pc := 46) (D := gD g) (ci := 0) (v := .int (nI (sC σ v + 1))) (ty := .int) (C := RX0) (T := TX0) (N := 10) hx hb hts hinX0 tyX0 tyX0_ok nmX0 hown hK hP hD hS (2 + 6 * v) (cv0 g (uT (uR (uP (uK σ v (sC σ v) k0) v (sC σ v) p0) v (sC σ v) r0) v (sC σ v) t0) rest hv) rfl 4 (by decide) (hts (.fieldLink RX0 45 "ChoirNotes$Voice" "count" "I") (by decide +kernel)) (fun _ h9 => h9) rfl (by decide +kernel) rfl rfl (Nat.le_of_ble_eq_true rfl) dX0_append_46 (fun H5 locs5 hP hD hS => ?_)
  have hP : va_P (gD g) vwCl (cw g (uC (uT (uR (uP (uK σ v (sC σ v) k0) v (sC σ v) p0) v (sC σ v) r0) v (sC σ v) t0) v (sC σ v + 1)) ++ rest) H5 := (cs_C g (uT (uR (uP (uK σ v (sC σ v) k0) v (sC σ v) p0) v (sC σ v) r0) v (sC σ v) t0) rest (sC σ v + 1) hv) ▸ hP
  have hD : va_D A (cw g (uC (uT (uR (uP (uK σ v (sC σ v) k0) v (sC σ v) p0) v (sC σ v) r0) v (sC σ v) t0) v (sC σ v + 1)) ++ rest) := (cs_C g (uT (uR (uP (uK σ v (sC σ v) k0) v (sC σ v) p0) v (sC σ v) r0) v (sC σ v) t0) rest (sC σ v + 1) hv) ▸ hD
  have hC : sC (apS σ v k0 p0 r0 t0) v = sC σ v + 1 := up1_s _ _ _
  have hP : va_P (gD g) vwCl (cw g (apS σ v k0 p0 r0 t0) ++ rest) H5 := hP
  have hD : va_D A (cw g (apS σ v k0 p0 r0 t0) ++ rest) := hD
  refine lv_aload_n (pc := 49) hx hb dX0_append_49 rfl (lv_at hl 1 rfl) ?_
  refine lv_iload (pc := 50) hx hb dX0_append_50 (lv_at hl 0 rfl) ?_
  refine va_callv (pc := 52) (va_runV (As := [.int (nI (sC σ v))]) (rest := []) ⟨hx, hb, hml, hown, hts⟩ (cX0_timeFrom_m l g A (apS σ v k0 p0 r0 t0) rest v (sC σ v) hv (by rw [hC]; omega) (fun s => by show up2 _ _ _ _ _ _ ≤ 3; unfold up2; split; exact hk3; exact hI.1 s) (by rw [hC]; omega) (fun s hs => (hI.2 s hs).trans (congrArg nI (bg_cong (σ := apS σ v k0 p0 r0 t0) (σ' := σ) (fun q hq => (apS_lg σ v k0 p0 r0 t0 (by omega)).symm))))) (cwV 1 hts gX0_append_X0_timeFrom rfl rfl rfl (by decide +kernel) ⟨Nat.le_of_ble_eq_true rfl, Nat.le_of_ble_eq_true rfl⟩) (cx_V (q0 := (2 + 6 * v)) (ci := 0) (r := (RX0, TX0, 10)) rfl (cv0 g (apS σ v k0 p0 r0 t0) rest hv) hP hD hA hK hX hS) rfl rfl hl.1 rfl (lv_room (Nat.le_of_ble_eq_true rfl)) dX0_append_52 ⟨Nat.le_of_ble_eq_true rfl, Nat.le_of_ble_eq_true rfl⟩) hS (fun _ _ h => h) (fun _ h => h) (fun u7 t7 H7 locs7 ht7 hvm7 hw7 hB7 hz7 hk7 hS => ?_)
  obtain ⟨hP, hD⟩ := hB7
  rw [ht7] at hP
  refine lv_iload (pc := 55) hx hb dX0_append_55 (lv_at hl 0 rfl) ?_
  exact W.iret hx hb hr (fun t ht hW => ⟨⟨_, u7, rfl, ⟨rfl, hw7⟩, by rw [ht]; exact hP, hD⟩, hS.F ht⟩) hS.2.2 dX0_append_57
set_option maxHeartbeats 4000000 in
set_option maxRecDepth 100000 in
/-- the last sign goes, of a ligature all -/
theorem cX0_dropLast_m (l : Launch) (g : GA) (A : Nat → Prop) (σ : St) (rest : va_W) (v : Nat) (hv : v < 4) (hI : Inv σ) (hc : 0 < sC σ v) : Met l yX0_dropLast wsX0_dropLast ({ frames := 0, cells := 0, slots := 0, locals := 0 }) (va_Pc [.ref (gV g v)] (Cx g A (cw g σ ++ rest))) (va_Qi (fun (r : Int32) (u : Unit) => r = nI (drN (sT σ v (sC σ v - 1)))) (fun u t => kB g A (cw g (uC σ v (sC σ v - drN (sT σ v (sC σ v - 1)))) ++ rest) t) A) 0 0 A := by
  refine Met.ofW (cc := cX0_dropLast) (maxL := 3) (ret := (some .int)) (by decide) rfl ?_
  intro p e s m args below meth c s₁ B hml hv0
  obtain ⟨rfl, hP, hD, hA, hK, hX⟩ := hv0
  have hx := B.exec
  have hb := B.bytes
  have hr := B.returns
  have hts := atoms_spec (ws := wsX0_dropLast) B.pre
  have hown : s.vm.findClass RX0 = some m.cls := findClass_of_methodNamed B.named
  have hlocks := B.notSynchronized
  have hS : va_S A s.heap s.heap [] := va_S.rf
  have hinX0 : ∀ w ∈ u_ws RX0 TX0 10, w ∈ wsX0_dropLast := by decide +kernel
  have hl := lv_entry ([.ref (gV g v)]) (n := 3) (Nat.le_of_ble_eq_true rfl)
  rw [lg_entry_eq]
  generalize (lg_sl ([.ref (gV g v)]) ++ List.replicate (3 - (lg_sl ([.ref (gV g v)])).length) Slot.unset).toArray = ls at hl ⊢
  have hl : lv_has ls 3 [(0, .ref (gV g v))] := hl
  have hC := hI.C v
  obtain ⟨d, hd1, hd2, hd3⟩ : ∃ d : Nat, drN (sT σ v (sC σ v - 1)) = d ∧ 1 ≤ d ∧ d ≤ sC σ v := by
    rcases hI.2.2.2.2.2.1 v (sC σ v - 1) with h | ⟨j, h1, h2, h3⟩
    · exact ⟨1, by rw [h]; rfl, by omega, by omega⟩
    · exact ⟨j + 1, by rw [h3, drN_n (by omega)], by omega, by omega⟩
  rw [hd1]
  refine lv_aload_n (pc := 0) hx hb dX0_dropLast_0 rfl (lv_at hl 0 rfl) ?_
  refine va_get (v := .ref (gA g v 3)) (pc := 1) (D := gD g) (ci := 0) (C := RX0) (T := TX0) (N := 10) hx hb hts hinX0 hown hK hP (2 + 6 * v) (cv0 g σ rest hv) rfl 8 (by decide) (hts (.fieldLink RX0 26 "ChoirNotes$Voice" "ranks" "[I") (by decide +kernel)) (fun _ h9 => h9) rfl dX0_dropLast_1 ?_
  refine lv_aload_n (pc := 4) hx hb dX0_dropLast_4 rfl (lv_at hl 0 rfl) ?_
  refine va_get (v := .int (nI (sC σ v))) (pc := 5) (D := gD g) (ci := 0) (C := RX0) (T := TX0) (N := 10) hx hb hts hinX0 hown hK hP (2 + 6 * v) (cv0 g σ rest hv) rfl 4 (by decide) (hts (.fieldLink RX0 45 "ChoirNotes$Voice" "count" "I") (by decide +kernel)) (fun _ h9 => h9) rfl dX0_dropLast_5 ?_
  refine lv_iconst (v := 1) (pc := 8) hx hb dX0_dropLast_8 (by decide) ?_
  refine lv_isub (pc := 9) hx hb dX0_dropLast_9 ?_
  refine k_cong (y := nI (sC σ v - 1)) (pk_sub (a := sC σ v) (b := 1) (by omega)) ?_
  refine k_iald (pc := 10) (x := sT σ v (sC σ v - 1)) hx hb hK hP (6 + 6 * v) 0 (cv4 g σ rest hv) rfl (sC σ v - 1) rfl (by omega) (by decide) rfl dX0_dropLast_10 ?_
  refine lv_istore_n (lv' := [(1, .int (sT σ v (sC σ v - 1))), (0, .ref (gV g v))]) (pc := 11) hx hb dX0_dropLast_11 rfl hl (by decide) rfl (fun ls hl => ?_)
  refine lv_iload_n (pc := 12) hx hb dX0_dropLast_12 rfl (lv_at hl 0 rfl) ?_
  refine lv_iconst (v := (-1)) (pc := 13) hx hb dX0_dropLast_13 (by decide) ?_
  refine lv_icmp_ne (tgt := 21) (pc := 14) hx hb dX0_dropLast_14 (by decide) (fun c1 => ?_) (fun c1 => ?_)
  · have hd4 : sT σ v (sC σ v - 1) + 1 = nI d := by
      rcases hI.2.2.2.2.2.1 v (sC σ v - 1) with h | ⟨j, h1, h2, h3⟩
      · exact absurd h c1
      · rw [← hd1, h3, drN_n (by omega), nI_1]
    refine lv_iload_n (pc := 21) hx hb dX0_dropLast_21 rfl (lv_at hl 0 rfl) ?_
    refine lv_iconst (v := 1) (pc := 22) hx hb dX0_dropLast_22 (by decide) ?_
    refine lv_iadd (pc := 23) hx hb dX0_dropLast_23 ?_
    refine k_cong (y := nI d) hd4 ?_
    refine lv_istore_n (lv' := [(2, .int (nI d)), (1, .int (sT σ v (sC σ v - 1))), (0, .ref (gV g v))]) (pc := 24) hx hb dX0_dropLast_24 rfl hl (by decide) rfl (fun ls hl => ?_)
    refine lv_aload_n (pc := 25) hx hb dX0_dropLast_25 rfl (lv_at hl 2 rfl) ?_
    refine lv_dup (pc := 26) hx hb dX0_dropLast_26 rfl ?_
    refine va_get (v := .int (nI (sC σ v))) (pc := 27) (D := gD g) (ci := 0) (C := RX0) (T := TX0) (N := 10) hx hb hts hinX0 hown hK hP (2 + 6 * v) (cv0 g σ rest hv) rfl 4 (by decide) (hts (.fieldLink RX0 45 "ChoirNotes$Voice" "count" "I") (by decide +kernel)) (fun _ h9 => h9) rfl dX0_dropLast_27 ?_
    refine lv_iload_n (pc := 30) hx hb dX0_dropLast_30 rfl (lv_at hl 0 rfl) ?_
    refine lv_isub (pc := 31) hx hb dX0_dropLast_31 ?_
    refine k_cong (y := nI (sC σ v - d)) (pk_sub (by omega)) ?_
    refine va_put (pc := 32) (D := gD g) (ci := 0) (v := .int (nI (sC σ v - d))) (ty := .int) (C := RX0) (T := TX0) (N := 10) hx hb hts hinX0 tyX0 tyX0_ok nmX0 hown hK hP hD hS (2 + 6 * v) (cv0 g σ rest hv) rfl 4 (by decide) (hts (.fieldLink RX0 45 "ChoirNotes$Voice" "count" "I") (by decide +kernel)) (fun _ h9 => h9) rfl (by decide +kernel) rfl rfl (Nat.le_of_ble_eq_true rfl) dX0_dropLast_32 (fun H2 locs2 hP hD hS => ?_)
    have hP : va_P (gD g) vwCl (cw g (uC σ v (sC σ v - d)) ++ rest) H2 := (cs_C g σ rest (sC σ v - d) hv) ▸ hP
    have hD : va_D A (cw g (uC σ v (sC σ v - d)) ++ rest) := (cs_C g σ rest (sC σ v - d) hv) ▸ hD
    refine lv_iload_n (pc := 35) hx hb dX0_dropLast_35 rfl (lv_at hl 0 rfl) ?_
    exact W.iret hx hb hr (fun t ht hW => ⟨⟨_, (), rfl, rfl, by rw [ht]; exact hP, hD⟩, hS.F ht⟩) hS.2.2 dX0_dropLast_36
  · have hd4 : (1 : Int32) = nI d := by rw [← hd1]; unfold drN; rw [if_pos c1]; rfl
    refine lv_iconst (v := 1) (pc := 17) hx hb dX0_dropLast_17 (by decide) ?_
    refine lv_goto (tgt := 24) (pc := 18) hx hb dX0_dropLast_18 (by decide) ?_
    refine k_cong (y := nI d) hd4 ?_
    refine lv_istore_n (lv' := [(2, .int (nI d)), (1, .int (sT σ v (sC σ v - 1))), (0, .ref (gV g v))]) (pc := 24) hx hb dX0_dropLast_24 rfl hl (by decide) rfl (fun ls hl => ?_)
    refine lv_aload_n (pc := 25) hx hb dX0_dropLast_25 rfl (lv_at hl 2 rfl) ?_
    refine lv_dup (pc := 26) hx hb dX0_dropLast_26 rfl ?_
    refine va_get (v := .int (nI (sC σ v))) (pc := 27) (D := gD g) (ci := 0) (C := RX0) (T := TX0) (N := 10) hx hb hts hinX0 hown hK hP (2 + 6 * v) (cv0 g σ rest hv) rfl 4 (by decide) (hts (.fieldLink RX0 45 "ChoirNotes$Voice" "count" "I") (by decide +kernel)) (fun _ h9 => h9) rfl dX0_dropLast_27 ?_
    refine lv_iload_n (pc := 30) hx hb dX0_dropLast_30 rfl (lv_at hl 0 rfl) ?_
    refine lv_isub (pc := 31) hx hb dX0_dropLast_31 ?_
    refine k_cong (y := nI (sC σ v - d)) (pk_sub (by omega)) ?_
    refine va_put (pc := 32) (D := gD g) (ci := 0) (v := .int (nI (sC σ v - d))) (ty := .int) (C := RX0) (T := TX0) (N := 10) hx hb hts hinX0 tyX0 tyX0_ok nmX0 hown hK hP hD hS (2 + 6 * v) (cv0 g σ rest hv) rfl 4 (by decide) (hts (.fieldLink RX0 45 "ChoirNotes$Voice" "count" "I") (by decide +kernel)) (fun _ h9 => h9) rfl (by decide +kernel) rfl rfl (Nat.le_of_ble_eq_true rfl) dX0_dropLast_32 (fun H3 locs3 hP hD hS => ?_)
    have hP : va_P (gD g) vwCl (cw g (uC σ v (sC σ v - d)) ++ rest) H3 := (cs_C g σ rest (sC σ v - d) hv) ▸ hP
    have hD : va_D A (cw g (uC σ v (sC σ v - d)) ++ rest) := (cs_C g σ rest (sC σ v - d) hv) ▸ hD
    refine lv_iload_n (pc := 35) hx hb dX0_dropLast_35 rfl (lv_at hl 0 rfl) ?_
    exact W.iret hx hb hr (fun t ht hW => ⟨⟨_, (), rfl, rfl, by rw [ht]; exact hP, hD⟩, hS.F ht⟩) hS.2.2 dX0_dropLast_36
set_option maxHeartbeats 4000000 in
set_option maxRecDepth 100000 in
/-- a colour turned -/
theorem cX0_turnColour_m (l : Launch) (g : GA) (A : Nat → Prop) (σ : St) (rest : va_W) (v s0 : Nat) (hv : v < 4) (hI : Inv σ) (hs : s0 < sC σ v) : Met l yX0_turnColour wsX0_turnColour ({ frames := 2, cells := 0, slots := 0, locals := 44 }) (va_Pc [.ref (gV g v), .int (nI s0)] (Cx g A (cw g σ ++ rest))) (va_Qi (fun (r : Int32) (u : Nat → Nat → Int32) => r = bI (!sR σ v s0) ∧ tfP (uR σ v s0 (!sR σ v s0)) v u) (fun u t => kB g A (cw g (uB (uR σ v s0 (!sR σ v s0)) u) ++ rest) t) A) 0 0 A := by
  refine Met.ofW (cc := cX0_turnColour) (maxL := 2) (ret := (some .boolean)) (by decide) rfl ?_
  intro p e s m args below meth c s₁ B hml hv0
  obtain ⟨rfl, hP, hD, hA, hK, hX⟩ := hv0
  have hx := B.exec
  have hb := B.bytes
  have hr := B.returns
  have hts := atoms_spec (ws := wsX0_turnColour) B.pre
  have hown : s.vm.findClass RX0 = some m.cls := findClass_of_methodNamed B.named
  have hlocks := B.notSynchronized
  have hS : va_S A s.heap s.heap [] := va_S.rf
  have hinX0 : ∀ w ∈ u_ws RX0 TX0 10, w ∈ wsX0_turnColour := by decide +kernel
  have hl := lv_entry ([.ref (gV g v), .int (nI s0)]) (n := 2) (Nat.le_of_ble_eq_true rfl)
  rw [lg_entry_eq]
  generalize (lg_sl ([.ref (gV g v), .int (nI s0)]) ++ List.replicate (2 - (lg_sl ([.ref (gV g v), .int (nI s0)])).length) Slot.unset).toArray = ls at hl ⊢
  have hl : lv_has ls 2 [(0, .ref (gV g v)), (1, .int (nI s0))] := hl
  have hC := hI.C v
  refine lv_aload_n (pc := 0) hx hb dX0_turnColour_0 rfl (lv_at hl 0 rfl) ?_
  refine va_get (v := .ref (gA g v 2)) (pc := 1) (D := gD g) (ci := 0) (C := RX0) (T := TX0) (N := 10) hx hb hts hinX0 hown hK hP (2 + 6 * v) (cv0 g σ rest hv) rfl 7 (by decide) (hts (.fieldLink RX0 22 "ChoirNotes$Voice" "colours" "[Z") (by decide +kernel)) (fun _ h9 => h9) rfl dX0_turnColour_1 ?_
  refine lv_iload_n (pc := 4) hx hb dX0_turnColour_4 rfl (lv_at hl 1 rfl) ?_
  refine lv_aload_n (pc := 5) hx hb dX0_turnColour_5 rfl (lv_at hl 0 rfl) ?_
  refine va_get (v := .ref (gA g v 2)) (pc := 6) (D := gD g) (ci := 0) (C := RX0) (T := TX0) (N := 10) hx hb hts hinX0 hown hK hP (2 + 6 * v) (cv0 g σ rest hv) rfl 7 (by decide) (hts (.fieldLink RX0 22 "ChoirNotes$Voice" "colours" "[Z") (by decide +kernel)) (fun _ h9 => h9) rfl dX0_turnColour_6 ?_
  refine lv_iload_n (pc := 9) hx hb dX0_turnColour_9 rfl (lv_at hl 1 rfl) ?_
  refine k_zald (pc := 10) (x := bI (sR σ v s0)) hx hb hK hP (5 + 6 * v) 1 (cv3 g σ rest hv) rfl s0 rfl (by omega) (by decide) rfl dX0_turnColour_10 ?_
  refine lv_if_ne (tgt := 18) (pc := 11) hx hb dX0_turnColour_11 (by decide) (fun c1 => ?_) (fun c1 => ?_)
  · have c1 := bI_n0.mp c1
    refine lv_iconst (v := 0) (pc := 18) hx hb dX0_turnColour_18 (by decide) ?_
    refine k_cong (y := bI (!sR σ v s0)) (by rw [c1]; rfl) ?_
    refine k_zast (pc := 19) (ws' := cw g (uR σ v s0 (!sR σ v s0)) ++ rest) hx hb hK hP hD hS (5 + 6 * v) 1 (cv3 g σ rest hv) rfl s0 rfl (by omega) (by decide) (kN_b _) (cs_R g σ rest s0 (!sR σ v s0) hv) dX0_turnColour_19 (fun H2 locs2 hP hD hS => ?_)
    refine lv_aload_n (pc := 20) hx hb dX0_turnColour_20 rfl (lv_at hl 0 rfl) ?_
    refine lv_iload_n (pc := 21) hx hb dX0_turnColour_21 rfl (lv_at hl 1 rfl) ?_
    refine va_callv (pc := 22) (va_runV (As := [.int (nI s0)]) (rest := []) ⟨hx, hb, hml, hown, hts⟩ (cX0_timeFrom_m l g A (uR σ v s0 (!sR σ v s0)) rest v s0 hv hC (fun s => hI.K v s) (by show s0 ≤ sC σ v; omega) (fun s hs => (hI.B (v := v) (by omega)).trans (congrArg nI (bg_cong (σ := uR σ v s0 (!sR σ v s0)) (σ' := σ) (fun q hq => (uR_lg σ v s0 _ (by omega)).symm))))) (cwV 1 hts gX0_turnColour_X0_timeFrom rfl rfl rfl (by decide +kernel) ⟨Nat.le_of_ble_eq_true rfl, Nat.le_of_ble_eq_true rfl⟩) (cx_V (q0 := (2 + 6 * v)) (ci := 0) (r := (RX0, TX0, 10)) rfl (cv0 g (uR σ v s0 (!sR σ v s0)) rest hv) hP hD hA hK hX hS) rfl rfl hl.1 rfl (lv_room (Nat.le_of_ble_eq_true rfl)) dX0_turnColour_22 ⟨Nat.le_of_ble_eq_true rfl, Nat.le_of_ble_eq_true rfl⟩) hS (fun _ _ h => h) (fun _ h => h) (fun u4 t4 H4 locs4 ht4 hvm4 hw4 hB4 hz4 hk4 hS => ?_)
    obtain ⟨hP, hD⟩ := hB4
    rw [ht4] at hP
    refine lv_aload_n (pc := 25) hx hb dX0_turnColour_25 rfl (lv_at hl 0 rfl) ?_
    refine va_get (v := .ref (gA g v 2)) (pc := 26) (D := gD g) (ci := 0) (C := RX0) (T := TX0) (N := 10) hx hb hts hinX0 hown hK hP (2 + 6 * v) (cv0 g (uB (uR σ v s0 (!sR σ v s0)) u4) rest hv) rfl 7 (by decide) (hts (.fieldLink RX0 22 "ChoirNotes$Voice" "colours" "[Z") (by decide +kernel)) (fun _ h9 => h9) rfl dX0_turnColour_26 ?_
    refine lv_iload_n (pc := 29) hx hb dX0_turnColour_29 rfl (lv_at hl 1 rfl) ?_
    refine k_zald (pc := 30) (x := bI (sR (uR σ v s0 (!sR σ v s0)) v s0)) hx hb hK hP (5 + 6 * v) 1 (cv3 g (uB (uR σ v s0 (!sR σ v s0)) u4) rest hv) rfl s0 rfl (by omega) (by decide) rfl dX0_turnColour_30 ?_
    refine k_cong (y := bI (!sR σ v s0)) (congrArg bI (up2_s _ _ _ _)) ?_
    exact W.zret (v := bI (!sR σ v s0)) hx hb hr (bI_nar _) (fun t ht hW => ⟨⟨_, u4, rfl, ⟨rfl, hw4⟩, by rw [ht]; exact hP, hD⟩, hS.F ht⟩) hS.2.2 dX0_turnColour_31
  · have c1 := bI_0.mp c1
    refine lv_iconst (v := 1) (pc := 14) hx hb dX0_turnColour_14 (by decide) ?_
    refine lv_goto (tgt := 19) (pc := 15) hx hb dX0_turnColour_15 (by decide) ?_
    refine k_cong (y := bI (!sR σ v s0)) (by rw [c1]; rfl) ?_
    refine k_zast (pc := 19) (ws' := cw g (uR σ v s0 (!sR σ v s0)) ++ rest) hx hb hK hP hD hS (5 + 6 * v) 1 (cv3 g σ rest hv) rfl s0 rfl (by omega) (by decide) (kN_b _) (cs_R g σ rest s0 (!sR σ v s0) hv) dX0_turnColour_19 (fun H5 locs5 hP hD hS => ?_)
    refine lv_aload_n (pc := 20) hx hb dX0_turnColour_20 rfl (lv_at hl 0 rfl) ?_
    refine lv_iload_n (pc := 21) hx hb dX0_turnColour_21 rfl (lv_at hl 1 rfl) ?_
    refine va_callv (pc := 22) (va_runV (As := [.int (nI s0)]) (rest := []) ⟨hx, hb, hml, hown, hts⟩ (cX0_timeFrom_m l g A (uR σ v s0 (!sR σ v s0)) rest v s0 hv hC (fun s => hI.K v s) (by show s0 ≤ sC σ v; omega) (fun s hs => (hI.B (v := v) (by omega)).trans (congrArg nI (bg_cong (σ := uR σ v s0 (!sR σ v s0)) (σ' := σ) (fun q hq => (uR_lg σ v s0 _ (by omega)).symm))))) (cwV 1 hts gX0_turnColour_X0_timeFrom rfl rfl rfl (by decide +kernel) ⟨Nat.le_of_ble_eq_true rfl, Nat.le_of_ble_eq_true rfl⟩) (cx_V (q0 := (2 + 6 * v)) (ci := 0) (r := (RX0, TX0, 10)) rfl (cv0 g (uR σ v s0 (!sR σ v s0)) rest hv) hP hD hA hK hX hS) rfl rfl hl.1 rfl (lv_room (Nat.le_of_ble_eq_true rfl)) dX0_turnColour_22 ⟨Nat.le_of_ble_eq_true rfl, Nat.le_of_ble_eq_true rfl⟩) hS (fun _ _ h => h) (fun _ h => h) (fun u7 t7 H7 locs7 ht7 hvm7 hw7 hB7 hz7 hk7 hS => ?_)
    obtain ⟨hP, hD⟩ := hB7
    rw [ht7] at hP
    refine lv_aload_n (pc := 25) hx hb dX0_turnColour_25 rfl (lv_at hl 0 rfl) ?_
    refine va_get (v := .ref (gA g v 2)) (pc := 26) (D := gD g) (ci := 0) (C := RX0) (T := TX0) (N := 10) hx hb hts hinX0 hown hK hP (2 + 6 * v) (cv0 g (uB (uR σ v s0 (!sR σ v s0)) u7) rest hv) rfl 7 (by decide) (hts (.fieldLink RX0 22 "ChoirNotes$Voice" "colours" "[Z") (by decide +kernel)) (fun _ h9 => h9) rfl dX0_turnColour_26 ?_
    refine lv_iload_n (pc := 29) hx hb dX0_turnColour_29 rfl (lv_at hl 1 rfl) ?_
    refine k_zald (pc := 30) (x := bI (sR (uR σ v s0 (!sR σ v s0)) v s0)) hx hb hK hP (5 + 6 * v) 1 (cv3 g (uB (uR σ v s0 (!sR σ v s0)) u7) rest hv) rfl s0 rfl (by omega) (by decide) rfl dX0_turnColour_30 ?_
    refine k_cong (y := bI (!sR σ v s0)) (congrArg bI (up2_s _ _ _ _)) ?_
    exact W.zret (v := bI (!sR σ v s0)) hx hb hr (bI_nar _) (fun t ht hW => ⟨⟨_, u7, rfl, ⟨rfl, hw7⟩, by rw [ht]; exact hP, hD⟩, hS.F ht⟩) hS.2.2 dX0_turnColour_31
end
section
/-! A throw of the class: nothing written -/
abbrev kNm : List String := ["java/lang/RuntimeException", "java/lang/Exception"]
theorem XS.cast {A : Nat → Prop} {s : State} (h : XS A s) {E : String} (hE : E ∈ [eI, eA, eS]) : va_Nw (.castable E E) s := h.2.2.2.1 E hE
section KT
variable {p : Program} {l : Launch} {e : Env} {R : Room} {s : State} {m : MethodId} {args : Array Value} {below : List Frame} {meth : Method} {c : Code} {cells slots : Nat}
variable {pc : Nat} {ls : Array Slot} {rest : List Value}
theorem k_throw {cc : ByteArray} {A : Nat → Prop} {Qc : Array Value → State → Outcome → State → Prop} {free : Addr → Prop} {cond : String → Prop} {MC MS : Nat} {cls text : String} {ik is ic : Nat} {Ts : List Cond} (hexec : p.tables.exec = Jvm.exec) (hb : c.code = cc) (hl : l.stackTraces = false) (hown : s.vm.findClass RX1 = some m.cls) (hts : ∀ w ∈ Ts, w.before args s = true) (hX : XS A s)
    (hE : cls ∈ [eI, eA, eS]) (hcls : Bundle.fit cls = true) (hstr : (is, text) ∈ kStr) (hk : Cond.classLink RX1 ik cls ∈ Ts) (hini : Cond.initialized cls ∈ Ts) (hw : ∀ w ∈ (vx_atS RX1 ic cls kNm).filter goodWord, w ∈ Ts) (hbad : ∀ w ∈ (vx_atS RX1 ic cls kNm).filter (fun w => !goodWord w), w ∈ [Cond.castable cls cls, Cond.declares (Bundle.initS "java/lang/RuntimeException"), Cond.declares (Bundle.initS "java/lang/Exception"), Cond.declares (Bundle.initS "java/lang/Throwable")]) (hgood : ∀ w ∈ Cond.classLink RX1 ik cls :: Cond.initialized cls :: vx_atS RX1 ic cls kNm, vx_ot w = true)
    (hsize : ls.size = c.maxLocals) (d0 : decode cc pc = .ok (.new ik, 3)) (d3 : decode cc (pc + 3) = .ok (.dup, 1)) (d4 : decode cc (pc + 4) = .ok (.ldc is, 2)) (d6 : decode cc (pc + 6) = .ok (.invokespecial ic, 3)) (d9 : decode cc (pc + 9) = .ok (.athrow, 1)) (hno : ∀ x ∈ c.exceptionTable.toList, False) (hlocks : meth.locks = false)
    (hRf : 5 < R.frames) (hRl : (rest.map fun v => v.category).sum + 82 ≤ R.locals) (hRc : cells + 1 ≤ R.cells) (hRs : slots + 6 ≤ R.slots) (hc : cells + 1 ≤ MC) (hs : slots + 6 ≤ MS) (hcond : cond cls) :
    W p l e R s m args below meth c s.heap [] cells slots (vx_MQ below Qc (kX cond) args s MC MS free) (F0 m pc ls rest) := by
  obtain ⟨sa, hsa⟩ := hX.2.2.1 (is, text) hstr
  refine vx_throwS (A := A) (names := kNm) (sa := sa) (text := text) hexec hb hl hown hcls (by decide +kernel) (hts _ hk) (hts _ hini) hsa (vx_hat (fun w h => hts w (hw w h)) hbad ?_) hgood hX.1 hX.2.1 va_S.rf hsize d0 d3 d4 d6 d9 (fun x hx => (hno x hx).elim) hRf hRl hRc hRs hlocks (fun t _ h1 h2 => ⟨hcond, h1, fun q hq _ => h2 q hq⟩) (fun z hz => absurd hz List.not_mem_nil) hc hs
  exact vx_c (va_Nw.use rfl (hX.cast hE)) (vx_c (va_Nw.use rfl (hX.2.2.2.2.2.2 _ (by decide))) (vx_c (va_Nw.use rfl (hX.2.2.2.2.2.2 _ (by decide))) (vx_c (va_Nw.use rfl (hX.2.2.2.2.2.2 _ (by decide))) vx_n)))
end KT
end
section
/-! THE ANSWERS of the calls: which refusal (0: none), what answer, what state -/
def ix (p : Int32) : Nat := p.toNatClampNeg
theorem ix_n {n : Nat} (h : n < 2 ^ 31) : ix (nI n) = n := nI_clamp h
def inr (lo hi n : Int32) : Bool := !decide (n < lo) && decide (n ≤ hi)
theorem inr_t {lo hi n : Int32} (h1 : ¬ n < lo) (h2 : n ≤ hi) : inr lo hi n = true := by unfold inr; rw [decide_eq_false h1, decide_eq_true h2]; rfl
theorem inr_f1 {lo hi n : Int32} (h1 : n < lo) : inr lo hi n = false := by unfold inr; rw [decide_eq_true h1]; rfl
theorem inr_f2 {lo hi n : Int32} (h2 : ¬ n ≤ hi) : inr lo hi n = false := by unfold inr; rw [decide_eq_false h2, Bool.and_false]
/-- a number in a range of Nat ends is a Nat -/
theorem inr_nat {lo hi n : Int32} {a b : Nat} (ha : lo = nI a) (hb : hi = nI b) (h2 : b < 2 ^ 31) (hab : a ≤ b) (h : inr lo hi n = true) : ∃ j : Nat, a ≤ j ∧ j ≤ b ∧ n = nI j := by
  subst ha; subst hb
  unfold inr at h
  simp only [Bool.and_eq_true, Bool.not_eq_true', decide_eq_false_iff_not, decide_eq_true_eq] at h
  obtain ⟨h1, h3⟩ := h
  have h0 : ¬ n < 0 := by
    intro q
    refine h1 ?_
    rw [Int32.lt_iff_toInt_lt] at q ⊢
    rw [nI_toInt (by omega)]
    have : (0 : Int32).toInt = 0 := by decide
    omega
  obtain ⟨j, hj, rfl⟩ := nI_of h0
  refine ⟨j, ?_, (nI_leI hj h2).mp h3, rfl⟩
  rcases Nat.lt_or_ge j a with q | q
  · exact absurd ((nI_ltI hj (by omega)).mpr q) h1
  · exact q
def okV (σ : St) (p : Int32) : Bool := !decide (p < 0) && decide (p < nI (sN σ))
def okS (σ : St) (v : Nat) (p : Int32) : Bool := !decide (p < 0) && decide (p < nI (sC σ v))
theorem lt_nat {p : Int32} {n : Nat} (hn : n < 2 ^ 31) (h1 : ¬ p < 0) (h2 : p < nI n) : ∃ v, v < n ∧ p = nI v := by
  obtain ⟨j, hj, rfl⟩ := nI_of h1
  exact ⟨j, (nI_ltI hj hn).mp h2, rfl⟩
theorem okV_t {σ : St} {v : Nat} (hv : v < sN σ) (hN : sN σ ≤ 4) : okV σ (nI v) = true := by
  unfold okV
  rw [decide_eq_false (nI_pos (by omega)), decide_eq_true ((nI_ltI (by omega) (by omega)).mpr hv)]; rfl
theorem okS_t {σ : St} {v s : Nat} (hs : s < sC σ v) (hC : sC σ v ≤ 24) : okS σ v (nI s) = true := by
  unfold okS
  rw [decide_eq_false (nI_pos (by omega)), decide_eq_true ((nI_ltI (by omega) (by omega)).mpr hs)]; rfl
theorem okV_1 {σ : St} {p : Int32} (h : p < 0) : okV σ p = false := by unfold okV; rw [decide_eq_true h]; rfl
theorem okV_2 {σ : St} {p : Int32} (h : ¬ p < nI (sN σ)) : okV σ p = false := by unfold okV; rw [decide_eq_false h, Bool.and_false]
theorem okS_1 {σ : St} {v : Nat} {p : Int32} (h : p < 0) : okS σ v p = false := by unfold okS; rw [decide_eq_true h]; rfl
theorem okS_2 {σ : St} {v : Nat} {p : Int32} (h : ¬ p < nI (sC σ v)) : okS σ v p = false := by unfold okS; rw [decide_eq_false h, Bool.and_false]
def lk (a b : Int32) : Nat := if b < a then 0 else 1
theorem lk_3 (a b : Int32) : lk a b ≤ 3 := by unfold lk; split <;> omega
def lg1 (f s : Int32) (st : Bool) : Nat := if st then 2 else lk f s
def lg2 (f s : Int32) (th st : Bool) : Nat := if st then 2 else if th then 1 else lk f s
theorem lg1_3 (f s : Int32) (st : Bool) : lg1 f s st ≤ 3 := by unfold lg1; split; omega; exact lk_3 _ _
theorem lg2_3 (f s : Int32) (th st : Bool) : lg2 f s th st ≤ 3 := by unfold lg2; split; omega; split; omega; exact lk_3 _ _
/-- pitches so far apart clash -/
def rs7 (d : Int32) : Int32 := (if 0 ≤ d then d else 0 - d) - (if 0 ≤ d then d else 0 - d) / 7 * 7
def isCl (d : Int32) : Bool := decide (rs7 d = 1) || (decide (rs7 d = 3) || decide (rs7 d = 6))
def cls (x y up : Int32) : Bool := !decide (x = -1) && (!decide (y = -1) && isCl (x - y - up))
/-- the place of the note that lasts at t; -1: none -/
def plN (σ : St) (v t : Nat) : Nat → Int32
  | 0 => -1
  | n + 1 => if bg σ v n ≤ t ∧ t < bg σ v (n + 1) then sP σ v n else plN σ v t n
def plc (σ : St) (v t : Nat) : Int32 := plN σ v t (sC σ v)
def clT (σ : St) (a b d : Nat) (up : Int32) (t : Nat) : Bool := decide (d ≤ t) && cls (plc σ a t) (plc σ b (t - d)) up
def clN (σ : St) (a b d : Nat) (up : Int32) : Nat := cnt (clT σ a b d up) (len σ a)
/-- the first of the first n -/
def fst (p : Nat → Bool) : Nat → Int32
  | 0 => -1
  | n + 1 => if fst p n = -1 then (if p n then nI n else -1) else fst p n
def sum (f : Nat → Nat) : Nat → Nat
  | 0 => 0
  | n + 1 => sum f n + f n
/-- clashes with each other voice that has a clef, if v had the clef c -/
def cwF (σ : St) (v : Nat) (c : Int32) (i : Nat) : Nat := if i = v then 0 else if sL σ i = -1 then 0 else clN σ v i 0 (2 * (sL σ i - c))
def cwN (σ : St) (v : Nat) (c : Int32) : Nat := sum (cwF σ v c) (sN σ)
/-- the best of the first n that pass: (which one, or none; how many) -/
def bst (ok : Nat → Bool) (f : Nat → Nat) : Nat → Option (Nat × Nat)
  | 0 => none
  | n + 1 => match bst ok f n with
    | none => if ok n then some (n, f n) else none
    | some (b, m) => if ok n && decide (f n < m) then some (n, f n) else some (b, m)
def bsI : Option (Nat × Nat) → Int32
  | none => -1
  | some (b, _) => nI b
def bcl (σ : St) (v : Nat) : Int32 := bsI (bst (fun c => ft σ v (nI c)) (fun c => cwN σ v (nI c)) 6)
def bdl (σ : St) (v : Nat) (up : Int32) : Int32 := bsI (bst (fun d => decide (1 ≤ d)) (fun d => clN σ v v d up) 49)
def lngF (σ : St) : Nat → Nat
  | 0 => 0
  | n + 1 => if lngF σ n < len σ n then len σ n else lngF σ n
def lngst (σ : St) : Nat := lngF σ (sN σ)
def suml (σ : St) : Nat := sum (len σ) (sN σ)
def mx (d : Int64) (x : Int32) : Int64 := d * 31 + x.toInt64
def mxl (d : Int64) : List Int32 → Int64
  | [] => d
  | x :: r => mxl (mx d x) r
def dgS (σ : St) (v s : Nat) : List Int32 := [nI (sK σ v s), sP σ v s, sT σ v s, nI (lg σ v s), nI (bg σ v s)]
def dgV (σ : St) (v : Nat) : List Int32 := [nI (sC σ v), nI (cnt (isNt σ v) (sC σ v)), nI (cnt (isLg σ v) (sC σ v)), nI (len σ v), sL σ v, nI (fct σ v), bcl σ v, nI (clN σ v v 4 0), bdl σ v 4]
def dgSs (σ : St) (v : Nat) (d : Int64) : Nat → Int64
  | 0 => d
  | n + 1 => mxl (dgSs σ v d n) (dgS σ v n)
def dgVs (σ : St) (d : Int64) : Nat → Int64
  | 0 => d
  | n + 1 => dgSs σ n (mxl (dgVs σ d n) (dgV σ n)) (sC σ n)
def dig (σ : St) : Int64 := dgVs σ (mxl 2311 [nI (sN σ), nI (lngst σ)]) (sN σ)
-- refusals
def cdV (σ : St) (p : Int32) : Nat := if okV σ p then 0 else 1
def cdS (σ : St) (p q : Int32) : Nat := if okV σ p && okS σ (ix p) q then 0 else 1
def cdVR (σ : St) (p : Int32) (b : Bool) : Nat := if okV σ p then (if b then 0 else 2) else 1
def inM (a b c : Int32) : Bool := inr 2 3 a && (inr 2 3 b && inr 2 3 c)
def cd_addVoice (σ : St) (a b c : Int32) : Nat := if inM a b c then (if sN σ < 4 then 0 else 2) else 1
def cd_addNote (σ : St) (p k q : Int32) : Nat := if okV σ p then (if inr 0 3 k && inr 0 9 q then (if sC σ (ix p) < 24 then 0 else 3) else 2) else 1
def cd_addRest (σ : St) (p k : Int32) : Nat := if okV σ p then (if inr 0 3 k then (if sC σ (ix p) < 24 then 0 else 3) else 2) else 1
def inL (f s t : Int32) : Bool := inr 0 9 f && (inr 0 9 s && (inr (-1) 9 t && (!decide (s = f) && !decide (t = s))))
def lgM (t : Int32) : Nat := if t = -1 then 2 else 3
def cd_addLigature (σ : St) (p f s t : Int32) : Nat := if okV σ p then (if inL f s t then (if sC σ (ix p) + lgM t ≤ 24 then 0 else 3) else 2) else 1
def cd_erase (σ : St) (p : Int32) : Nat := cdVR σ p (decide (0 < sC σ (ix p)))
def cd_recolour (σ : St) (p q : Int32) : Nat := if okV σ p && okS σ (ix p) q then (if isNt σ (ix p) (ix q) then 0 else 2) else 1
def cd_pitchOf (σ : St) (p q : Int32) : Nat := if okV σ p && okS σ (ix p) q then (if sL σ (ix p) = -1 then 2 else 0) else 1
def cd_clashes (σ : St) (p q : Int32) : Nat := if okV σ p && okV σ q then (if sL σ (ix p) = -1 then 2 else if sL σ (ix q) = -1 then 2 else 0) else 1
def cd_canon (σ : St) (p d u : Int32) : Nat := cdVR σ p (inr 1 48 d && inr (-7) 7 u)
-- what is written
def ef_addVoice (σ : St) (a b c : Int32) : St := uN (meS σ (sN σ) (ix a) (ix b) (ix c)) (sN σ + 1)
def ef_addLigature (σ : St) (v : Nat) (f s t : Int32) (st : Bool) : St :=
  if t = -1 then apS (apS σ v (lg1 f s st) f false 0) v (lg2 f s false st) s false 1 else apS (apS (apS σ v (lg1 f s st) f false 0) v (lg2 f s true st) s false 1) v (lk s t) t false 2
def an_pitchOf (σ : St) (v s : Nat) : Int32 := if isNt σ v s then sP σ v s + 2 * sL σ v else -1
end
section
/-! THE CLASS: checks, kinds, two signs -/
theorem isNt_f {σ : St} {v i : Nat} (h : isNt σ v i = false) : sP σ v i = -1 := by
  unfold isNt at h
  simpa using h
theorem isNt_t {σ : St} {v i : Nat} (h : isNt σ v i = true) : ¬ sP σ v i = -1 := by
  unfold isNt at h
  simpa using h
theorem cls_1 {σ : St} {v w i j : Nat} {u : Int32} (h : isNt σ v i = false) : cls (sP σ v i) (sP σ w j) u = false := by
  unfold cls
  rw [decide_eq_true (isNt_f h)]; rfl
theorem cls_2 {σ : St} {v w i j : Nat} {u : Int32} (h : isNt σ w j = false) : cls (sP σ v i) (sP σ w j) u = false := by
  unfold cls
  rw [decide_eq_true (isNt_f h), Bool.not_true, Bool.false_and, Bool.and_false]
theorem cls_3 {σ : St} {v w i j : Nat} {u : Int32} (h : isNt σ v i = true) (h2 : isNt σ w j = true) : cls (sP σ v i) (sP σ w j) u = isCl (sP σ v i - sP σ w j - u) := by
  unfold cls
  rw [decide_eq_false (isNt_t h), decide_eq_false (isNt_t h2)]; rfl
set_option maxHeartbeats 4000000 in
set_option maxRecDepth 100000 in
/-- the voice of a number, or none -/
theorem cX1_knownVoice_m (l : Launch) (hfl : l.stackTraces = false) (g : GA) (A : Nat → Prop) (σ : St) (rest : va_W) (p0 : Int32) (hI : Inv σ) : vx_Met l yX1_knownVoice wsX1_knownVoice ({ frames := 6, cells := 1, slots := 6, locals := 90 }) (va_Pc [.ref (gX g), .int p0] (Cx g A (cw g σ ++ rest))) (kSr (fun r : Nat => ∃ v, v < sN σ ∧ p0 = nI v ∧ r = gV g v)) (kX (fun E => E = eI ∧ okV σ p0 = false)) 1 6 (fun _ => False) := by
  refine vx_ofW (cc := cX1_knownVoice) (maxL := 2) (ret := (some (.object "ChoirNotes$Voice"))) (by decide) rfl ?_
  intro p e s m args below meth c s₁ B hml hno hv0
  obtain ⟨rfl, hP, hD, hA, hK, hX⟩ := hv0
  have hx := B.exec
  have hb := B.bytes
  have hr := B.returns
  have hts := atoms_spec (ws := wsX1_knownVoice) B.pre
  have hown : s.vm.findClass RX1 = some m.cls := findClass_of_methodNamed B.named
  have hlocks := B.notSynchronized
  have hS : va_S A s.heap s.heap [] := va_S.rf
  have hinX1 : ∀ w ∈ u_ws RX1 TX1 2, w ∈ wsX1_knownVoice := by decide +kernel
  have hl := lv_entry ([.ref (gX g), .int p0]) (n := 2) (Nat.le_of_ble_eq_true rfl)
  rw [lg_entry_eq]
  generalize (lg_sl ([.ref (gX g), .int p0]) ++ List.replicate (2 - (lg_sl ([.ref (gX g), .int p0])).length) Slot.unset).toArray = ls at hl ⊢
  have hl : lv_has ls 2 [(0, .ref (gX g)), (1, .int p0)] := hl
  have hN := hI.N
  refine lv_iload_n (pc := 0) hx hb dX1_knownVoice_0 rfl (lv_at hl 1 rfl) ?_
  refine lv_if_lt (tgt := 12) (pc := 1) hx hb dX1_knownVoice_1 (by decide) (fun c1 => ?_) (fun c1 => ?_)
  · refine k_throw (pc := 12) (cls := "java/lang/IndexOutOfBoundsException") (text := "no such voice") (ik := 172) (is := 174) (ic := 176) hx hb hfl hown hts hX (by decide) (by decide +kernel) (by decide) (by decide +kernel) (by decide +kernel) (by decide +kernel) (by decide +kernel) (by decide +kernel) (hl.1.trans hml.symm) dX1_knownVoice_12 dX1_knownVoice_15 dX1_knownVoice_16 dX1_knownVoice_18 dX1_knownVoice_21 hno hlocks (Nat.le_of_ble_eq_true rfl) (Nat.le_of_ble_eq_true rfl) (Nat.le_of_ble_eq_true rfl) (Nat.le_of_ble_eq_true rfl) (Nat.le_of_ble_eq_true rfl) (Nat.le_of_ble_eq_true rfl) ?_
    exact ⟨rfl, by first | exact okV_1 c1 | exact okV_2 c2⟩
  · refine lv_iload_n (pc := 4) hx hb dX1_knownVoice_4 rfl (lv_at hl 1 rfl) ?_
    refine lv_aload_n (pc := 5) hx hb dX1_knownVoice_5 rfl (lv_at hl 0 rfl) ?_
    refine va_get (v := .int (nI (sN σ))) (pc := 6) (D := gD g) (ci := 1) (C := RX1) (T := TX1) (N := 2) hx hb hts hinX1 hown hK hP 0 (cx0 g σ rest) rfl 1 (by decide) (hts (.fieldLink RX1 20 "ChoirNotes" "voiceCount" "I") (by decide +kernel)) (fun _ h9 => h9) rfl dX1_knownVoice_6 ?_
    refine lv_icmp_lt (tgt := 22) (pc := 9) hx hb dX1_knownVoice_9 (by decide) (fun c2 => ?_) (fun c2 => ?_)
    · obtain ⟨v, hv, rfl⟩ := lt_nat (by omega) c1 c2
      refine lv_aload_n (pc := 22) hx hb dX1_knownVoice_22 rfl (lv_at hl 0 rfl) ?_
      refine va_get (v := .ref (gK g)) (pc := 23) (D := gD g) (ci := 1) (C := RX1) (T := TX1) (N := 2) hx hb hts hinX1 hown hK hP 0 (cx0 g σ rest) rfl 0 (by decide) (hts (.fieldLink RX1 11 "ChoirNotes" "book" "[LChoirNotes$Voice;") (by decide +kernel)) (fun _ h9 => h9) rfl dX1_knownVoice_23 ?_
      refine lv_iload_n (pc := 26) hx hb dX1_knownVoice_26 rfl (lv_at hl 1 rfl) ?_
      refine k_aald (pc := 27) (x := gV g v) hx hb hK hP 1 2 (cx1 g σ rest) rfl v rfl (show v < 4 by omega) (by decide) (if_pos (show v < 4 by omega)) dX1_knownVoice_27 ?_
      refine vx_ret ?_
      refine W.widen (k := 1) (n := 6) (Nat.le_of_ble_eq_true rfl) (Nat.le_of_ble_eq_true rfl) ?_
      exact W.aret hx hb hr (Or.inl ⟨_, rfl⟩) (Or.inr ⟨_, rfl⟩) (fun t ht hW => ⟨_, rfl, ⟨v, hv, rfl, rfl⟩, ht⟩) (fun q hq => absurd hq List.not_mem_nil) dX1_knownVoice_28
    · refine k_throw (pc := 12) (cls := "java/lang/IndexOutOfBoundsException") (text := "no such voice") (ik := 172) (is := 174) (ic := 176) hx hb hfl hown hts hX (by decide) (by decide +kernel) (by decide) (by decide +kernel) (by decide +kernel) (by decide +kernel) (by decide +kernel) (by decide +kernel) (hl.1.trans hml.symm) dX1_knownVoice_12 dX1_knownVoice_15 dX1_knownVoice_16 dX1_knownVoice_18 dX1_knownVoice_21 hno hlocks (Nat.le_of_ble_eq_true rfl) (Nat.le_of_ble_eq_true rfl) (Nat.le_of_ble_eq_true rfl) (Nat.le_of_ble_eq_true rfl) (Nat.le_of_ble_eq_true rfl) (Nat.le_of_ble_eq_true rfl) ?_
      exact ⟨rfl, by first | exact okV_1 c1 | exact okV_2 c2⟩
set_option maxHeartbeats 4000000 in
set_option maxRecDepth 100000 in
/-- the voice of a number, if it has this sign -/
theorem cX1_voiceWithSign_m (l : Launch) (hfl : l.stackTraces = false) (g : GA) (A : Nat → Prop) (σ : St) (rest : va_W) (p0 q0 : Int32) (hI : Inv σ) : vx_Met l yX1_voiceWithSign wsX1_voiceWithSign ({ frames := 7, cells := 2, slots := 12, locals := 111 }) (va_Pc [.ref (gX g), .int p0, .int q0] (Cx g A (cw g σ ++ rest))) (kSr (fun r : Nat => ∃ v s0, v < sN σ ∧ s0 < sC σ v ∧ p0 = nI v ∧ q0 = nI s0 ∧ r = gV g v)) (kX (fun E => E = eI ∧ cdS σ p0 q0 = 1)) 2 12 (fun _ => False) := by
  refine vx_ofW (cc := cX1_voiceWithSign) (maxL := 4) (ret := (some (.object "ChoirNotes$Voice"))) (by decide) rfl ?_
  intro p e s m args below meth c s₁ B hml hno hv0
  obtain ⟨rfl, hP, hD, hA, hK, hX⟩ := hv0
  have hx := B.exec
  have hb := B.bytes
  have hr := B.returns
  have hts := atoms_spec (ws := wsX1_voiceWithSign) B.pre
  have hown : s.vm.findClass RX1 = some m.cls := findClass_of_methodNamed B.named
  have hlocks := B.notSynchronized
  have hS : va_S A s.heap s.heap [] := va_S.rf
  have hinX0 : ∀ w ∈ u_ws RX0 TX0 10, w ∈ wsX1_voiceWithSign := by decide +kernel
  have hl := lv_entry ([.ref (gX g), .int p0, .int q0]) (n := 4) (Nat.le_of_ble_eq_true rfl)
  rw [lg_entry_eq]
  generalize (lg_sl ([.ref (gX g), .int p0, .int q0]) ++ List.replicate (4 - (lg_sl ([.ref (gX g), .int p0, .int q0])).length) Slot.unset).toArray = ls at hl ⊢
  have hl : lv_has ls 4 [(0, .ref (gX g)), (1, .int p0), (2, .int q0)] := hl
  refine lv_aload_n (pc := 0) hx hb dX1_voiceWithSign_0 rfl (lv_at hl 0 rfl) ?_
  refine lv_iload_n (pc := 1) hx hb dX1_voiceWithSign_1 rfl (lv_at hl 1 rfl) ?_
  refine k_xr (pc := 2) (vx_runV (As := [.int p0]) (rest := []) ⟨hx, hb, hml, hown, hts⟩ (cX1_knownVoice_m l hfl g A σ rest p0 hI) (cwV 1 hts gX1_voiceWithSign_X1_knownVoice rfl rfl rfl (by decide +kernel) ⟨Nat.le_of_ble_eq_true rfl, Nat.le_of_ble_eq_true rfl⟩) (cx_V (q0 := 0) (ci := 1) (r := (RX1, TX1, 2)) rfl (cx0 g σ rest) hP hD hA hK hX hS) rfl rfl hl.1 rfl (lv_room (Nat.le_of_ble_eq_true rfl)) dX1_voiceWithSign_2 ⟨Nat.le_of_ble_eq_true rfl, Nat.le_of_ble_eq_true rfl⟩) hno hlocks (fun E h => ⟨h.1, by unfold cdS; rw [h.2]; rfl⟩) (Nat.le_of_ble_eq_true rfl) (Nat.le_of_ble_eq_true rfl) (fun r_1 hr_1 => ?_)
  obtain ⟨v, hvn, rfl, rfl⟩ := hr_1
  have hv4 : v < 4 := hI.v4 hvn
  have hixv : ix (nI v) = v := ix_n (by omega)
  have hokv : okV σ (nI v) = true := okV_t hvn hI.N
  refine lv_astore_n (lv' := [(3, .ref (gV g v)), (0, .ref (gX g)), (1, .int (nI v)), (2, .int q0)]) (pc := 5) hx hb dX1_voiceWithSign_5 rfl hl (by decide) rfl (fun ls hl => ?_)
  refine lv_iload_n (pc := 6) hx hb dX1_voiceWithSign_6 rfl (lv_at hl 3 rfl) ?_
  refine lv_if_lt (tgt := 18) (pc := 7) hx hb dX1_voiceWithSign_7 (by decide) (fun c1 => ?_) (fun c1 => ?_)
  · refine k_throw (pc := 18) (cls := "java/lang/IndexOutOfBoundsException") (text := "no such sign") (ik := 172) (is := 177) (ic := 176) hx hb hfl hown hts hX (by decide) (by decide +kernel) (by decide) (by decide +kernel) (by decide +kernel) (by decide +kernel) (by decide +kernel) (by decide +kernel) (hl.1.trans hml.symm) dX1_voiceWithSign_18 dX1_voiceWithSign_21 dX1_voiceWithSign_22 dX1_voiceWithSign_24 dX1_voiceWithSign_27 hno hlocks (Nat.le_of_ble_eq_true rfl) (Nat.le_of_ble_eq_true rfl) (Nat.le_of_ble_eq_true rfl) (Nat.le_of_ble_eq_true rfl) (Nat.le_of_ble_eq_true rfl) (Nat.le_of_ble_eq_true rfl) ?_
    exact ⟨rfl, by unfold cdS; rw [hokv, hixv]; first | (rw [okS_1 c1]; rfl) | (rw [okS_2 c2]; rfl)⟩
  · refine lv_iload_n (pc := 10) hx hb dX1_voiceWithSign_10 rfl (lv_at hl 3 rfl) ?_
    refine lv_aload_n (pc := 11) hx hb dX1_voiceWithSign_11 rfl (lv_at hl 0 rfl) ?_
    refine va_getN (v := .int (nI (sC σ v))) (pc := 12) (D := gD g) (ci := 0) (C := RX0) (T := TX0) (N := 10) hx hb hts hinX0 hown hK hP (2 + 6 * v) (cv0 g σ rest hv4) rfl 4 (by decide) (va_Nw.use rfl (nf_64 hX)) (fun _ h9 => h9) rfl dX1_voiceWithSign_12 ?_
    refine lv_icmp_lt (tgt := 28) (pc := 15) hx hb dX1_voiceWithSign_15 (by decide) (fun c2 => ?_) (fun c2 => ?_)
    · obtain ⟨s0, hs, rfl⟩ := lt_nat (by have := hI.C v; omega) c1 c2
      refine lv_aload_n (pc := 28) hx hb dX1_voiceWithSign_28 rfl (lv_at hl 0 rfl) ?_
      refine vx_ret ?_
      refine W.widen (k := 2) (n := 12) (Nat.le_of_ble_eq_true rfl) (Nat.le_of_ble_eq_true rfl) ?_
      exact W.aret hx hb hr (Or.inl ⟨_, rfl⟩) (Or.inr ⟨_, rfl⟩) (fun t ht hW => ⟨_, rfl, ⟨v, s0, hvn, hs, rfl, rfl, rfl⟩, ht⟩) (fun q hq => absurd hq List.not_mem_nil) dX1_voiceWithSign_29
    · refine k_throw (pc := 18) (cls := "java/lang/IndexOutOfBoundsException") (text := "no such sign") (ik := 172) (is := 177) (ic := 176) hx hb hfl hown hts hX (by decide) (by decide +kernel) (by decide) (by decide +kernel) (by decide +kernel) (by decide +kernel) (by decide +kernel) (by decide +kernel) (hl.1.trans hml.symm) dX1_voiceWithSign_18 dX1_voiceWithSign_21 dX1_voiceWithSign_22 dX1_voiceWithSign_24 dX1_voiceWithSign_27 hno hlocks (Nat.le_of_ble_eq_true rfl) (Nat.le_of_ble_eq_true rfl) (Nat.le_of_ble_eq_true rfl) (Nat.le_of_ble_eq_true rfl) (Nat.le_of_ble_eq_true rfl) (Nat.le_of_ble_eq_true rfl) ?_
      exact ⟨rfl, by unfold cdS; rw [hokv, hixv]; first | (rw [okS_1 c1]; rfl) | (rw [okS_2 c2]; rfl)⟩
set_option maxHeartbeats 4000000 in
set_option maxRecDepth 100000 in
/-- a number in its range, or a refusal -/
theorem cX1_checkRange_m (l : Launch) (hfl : l.stackTraces = false) (g : GA) (A : Nat → Prop) (σ : St) (rest : va_W) (n0 lo hi : Int32) : vx_Met l yX1_checkRange wsX1_checkRange ({ frames := 6, cells := 1, slots := 6, locals := 90 }) (va_Pc [.int n0, .int lo, .int hi] (Cx g A (cw g σ ++ rest))) (kSv (inr lo hi n0 = true)) (kX (fun E => E = eA ∧ inr lo hi n0 = false)) 1 6 (fun _ => False) := by
  refine vx_ofW (cc := cX1_checkRange) (maxL := 3) (ret := none) (by decide) rfl ?_
  intro p e s m args below meth c s₁ B hml hno hv0
  obtain ⟨rfl, hP, hD, hA, hK, hX⟩ := hv0
  have hx := B.exec
  have hb := B.bytes
  have hr := B.returns
  have hts := atoms_spec (ws := wsX1_checkRange) B.pre
  have hown : s.vm.findClass RX1 = some m.cls := findClass_of_methodNamed B.named
  have hlocks := B.notSynchronized
  have hS : va_S A s.heap s.heap [] := va_S.rf
  have hl := lv_entry ([.int n0, .int lo, .int hi]) (n := 3) (Nat.le_of_ble_eq_true rfl)
  rw [lg_entry_eq]
  generalize (lg_sl ([.int n0, .int lo, .int hi]) ++ List.replicate (3 - (lg_sl ([.int n0, .int lo, .int hi])).length) Slot.unset).toArray = ls at hl ⊢
  have hl : lv_has ls 3 [(0, .int n0), (1, .int lo), (2, .int hi)] := hl
  refine lv_iload_n (pc := 0) hx hb dX1_checkRange_0 rfl (lv_at hl 0 rfl) ?_
  refine lv_iload_n (pc := 1) hx hb dX1_checkRange_1 rfl (lv_at hl 1 rfl) ?_
  refine lv_icmp_lt (tgt := 10) (pc := 2) hx hb dX1_checkRange_2 (by decide) (fun c1 => ?_) (fun c1 => ?_)
  · refine k_throw (pc := 10) (cls := "java/lang/IllegalArgumentException") (text := "a number is out of its range") (ik := 179) (is := 181) (ic := 183) hx hb hfl hown hts hX (by decide) (by decide +kernel) (by decide) (by decide +kernel) (by decide +kernel) (by decide +kernel) (by decide +kernel) (by decide +kernel) (hl.1.trans hml.symm) dX1_checkRange_10 dX1_checkRange_13 dX1_checkRange_14 dX1_checkRange_16 dX1_checkRange_19 hno hlocks (Nat.le_of_ble_eq_true rfl) (Nat.le_of_ble_eq_true rfl) (Nat.le_of_ble_eq_true rfl) (Nat.le_of_ble_eq_true rfl) (Nat.le_of_ble_eq_true rfl) (Nat.le_of_ble_eq_true rfl) ?_
    exact ⟨rfl, by first | exact inr_f1 c1 | exact inr_f2 c2⟩
  · refine lv_iload_n (pc := 5) hx hb dX1_checkRange_5 rfl (lv_at hl 0 rfl) ?_
    refine lv_iload_n (pc := 6) hx hb dX1_checkRange_6 rfl (lv_at hl 2 rfl) ?_
    refine lv_icmp_le (tgt := 20) (pc := 7) hx hb dX1_checkRange_7 (by decide) (fun c2 => ?_) (fun c2 => ?_)
    · refine vx_ret ?_
      refine W.widen (k := 1) (n := 6) (Nat.le_of_ble_eq_true rfl) (Nat.le_of_ble_eq_true rfl) ?_
      exact W.vret hx hb hr (fun t ht hW => ⟨rfl, (inr_t c1 c2), ht⟩) (fun q hq => absurd hq List.not_mem_nil) dX1_checkRange_20
    · refine k_throw (pc := 10) (cls := "java/lang/IllegalArgumentException") (text := "a number is out of its range") (ik := 179) (is := 181) (ic := 183) hx hb hfl hown hts hX (by decide) (by decide +kernel) (by decide) (by decide +kernel) (by decide +kernel) (by decide +kernel) (by decide +kernel) (by decide +kernel) (hl.1.trans hml.symm) dX1_checkRange_10 dX1_checkRange_13 dX1_checkRange_14 dX1_checkRange_16 dX1_checkRange_19 hno hlocks (Nat.le_of_ble_eq_true rfl) (Nat.le_of_ble_eq_true rfl) (Nat.le_of_ble_eq_true rfl) (Nat.le_of_ble_eq_true rfl) (Nat.le_of_ble_eq_true rfl) (Nat.le_of_ble_eq_true rfl) ?_
      exact ⟨rfl, by first | exact inr_f1 c1 | exact inr_f2 c2⟩
set_option maxHeartbeats 4000000 in
set_option maxRecDepth 100000 in
/-- a mensuration, or a refusal -/
theorem cX1_checkMensuration_m (l : Launch) (hfl : l.stackTraces = false) (g : GA) (A : Nat → Prop) (σ : St) (rest : va_W) (a b c0 : Int32) : vx_Met l yX1_checkMensuration wsX1_checkMensuration ({ frames := 7, cells := 3, slots := 18, locals := 112 }) (va_Pc [.int a, .int b, .int c0] (Cx g A (cw g σ ++ rest))) (kSv (inM a b c0 = true)) (kX (fun E => E = eA ∧ inM a b c0 = false)) 3 18 (fun _ => False) := by
  refine vx_ofW (cc := cX1_checkMensuration) (maxL := 3) (ret := none) (by decide) rfl ?_
  intro p e s m args below meth c s₁ B hml hno hv0
  obtain ⟨rfl, hP, hD, hA, hK, hX⟩ := hv0
  have hx := B.exec
  have hb := B.bytes
  have hr := B.returns
  have hts := atoms_spec (ws := wsX1_checkMensuration) B.pre
  have hown : s.vm.findClass RX1 = some m.cls := findClass_of_methodNamed B.named
  have hlocks := B.notSynchronized
  have hS : va_S A s.heap s.heap [] := va_S.rf
  have hl := lv_entry ([.int a, .int b, .int c0]) (n := 3) (Nat.le_of_ble_eq_true rfl)
  rw [lg_entry_eq]
  generalize (lg_sl ([.int a, .int b, .int c0]) ++ List.replicate (3 - (lg_sl ([.int a, .int b, .int c0])).length) Slot.unset).toArray = ls at hl ⊢
  have hl : lv_has ls 3 [(0, .int a), (1, .int b), (2, .int c0)] := hl
  refine lv_iload_n (pc := 0) hx hb dX1_checkMensuration_0 rfl (lv_at hl 0 rfl) ?_
  refine lv_iconst (v := 2) (pc := 1) hx hb dX1_checkMensuration_1 (by decide) ?_
  refine lv_iconst (v := 3) (pc := 2) hx hb dX1_checkMensuration_2 (by decide) ?_
  refine k_xv (pc := 3) (vx_runS (As := [.int a, .int 2, .int 3]) (rest := []) ⟨hx, hb, hml, hown, hts⟩ (cX1_checkRange_m l hfl g A σ rest a 2 3) (va_cwS 3 hts gX1_checkMensuration_X1_checkRange rfl rfl rfl (by decide +kernel) ⟨Nat.le_of_ble_eq_true rfl, Nat.le_of_ble_eq_true rfl⟩) (cx_S hP hD hA hK hX hS) rfl rfl hl.1 rfl (lv_room (Nat.le_of_ble_eq_true rfl)) dX1_checkMensuration_3 ⟨Nat.le_of_ble_eq_true rfl, Nat.le_of_ble_eq_true rfl⟩) hno hlocks (fun E h => ⟨h.1, by unfold inM; rw [h.2]; rfl⟩) (Nat.le_of_ble_eq_true rfl) (Nat.le_of_ble_eq_true rfl) (fun hk1 => ?_)
  refine lv_iload_n (pc := 6) hx hb dX1_checkMensuration_6 rfl (lv_at hl 1 rfl) ?_
  refine lv_iconst (v := 2) (pc := 7) hx hb dX1_checkMensuration_7 (by decide) ?_
  refine lv_iconst (v := 3) (pc := 8) hx hb dX1_checkMensuration_8 (by decide) ?_
  refine k_xv (pc := 9) (vx_runS (As := [.int b, .int 2, .int 3]) (rest := []) ⟨hx, hb, hml, hown, hts⟩ (cX1_checkRange_m l hfl g A σ rest b 2 3) (va_cwS 3 hts gX1_checkMensuration_X1_checkRange rfl rfl rfl (by decide +kernel) ⟨Nat.le_of_ble_eq_true rfl, Nat.le_of_ble_eq_true rfl⟩) (cx_S hP hD hA hK hX hS) rfl rfl hl.1 rfl (lv_room (Nat.le_of_ble_eq_true rfl)) dX1_checkMensuration_9 ⟨Nat.le_of_ble_eq_true rfl, Nat.le_of_ble_eq_true rfl⟩) hno hlocks (fun E h => ⟨h.1, by unfold inM; rw [hk1, h.2]; rfl⟩) (Nat.le_of_ble_eq_true rfl) (Nat.le_of_ble_eq_true rfl) (fun hk2 => ?_)
  refine lv_iload_n (pc := 12) hx hb dX1_checkMensuration_12 rfl (lv_at hl 2 rfl) ?_
  refine lv_iconst (v := 2) (pc := 13) hx hb dX1_checkMensuration_13 (by decide) ?_
  refine lv_iconst (v := 3) (pc := 14) hx hb dX1_checkMensuration_14 (by decide) ?_
  refine k_xv (pc := 15) (vx_runS (As := [.int c0, .int 2, .int 3]) (rest := []) ⟨hx, hb, hml, hown, hts⟩ (cX1_checkRange_m l hfl g A σ rest c0 2 3) (va_cwS 3 hts gX1_checkMensuration_X1_checkRange rfl rfl rfl (by decide +kernel) ⟨Nat.le_of_ble_eq_true rfl, Nat.le_of_ble_eq_true rfl⟩) (cx_S hP hD hA hK hX hS) rfl rfl hl.1 rfl (lv_room (Nat.le_of_ble_eq_true rfl)) dX1_checkMensuration_15 ⟨Nat.le_of_ble_eq_true rfl, Nat.le_of_ble_eq_true rfl⟩) hno hlocks (fun E h => ⟨h.1, by unfold inM; rw [hk1, hk2, h.2]; rfl⟩) (Nat.le_of_ble_eq_true rfl) (Nat.le_of_ble_eq_true rfl) (fun hk3 => ?_)
  refine vx_ret ?_
  refine W.widen (k := 3) (n := 18) (Nat.le_of_ble_eq_true rfl) (Nat.le_of_ble_eq_true rfl) ?_
  exact W.vret hx hb hr (fun t ht hW => ⟨rfl, (by unfold inM; rw [hk1, hk2, hk3]; rfl), ht⟩) (fun q hq => absurd hq List.not_mem_nil) dX1_checkMensuration_18
set_option maxHeartbeats 4000000 in
set_option maxRecDepth 100000 in
/-- the places of a ligature, or a refusal -/
theorem cX1_checkLigature_m (l : Launch) (hfl : l.stackTraces = false) (g : GA) (A : Nat → Prop) (σ : St) (rest : va_W) (a b c0 : Int32) : vx_Met l yX1_checkLigature wsX1_checkLigature ({ frames := 7, cells := 4, slots := 24, locals := 112 }) (va_Pc [.int a, .int b, .int c0] (Cx g A (cw g σ ++ rest))) (kSv (inL a b c0 = true)) (kX (fun E => E = eA ∧ inL a b c0 = false)) 4 24 (fun _ => False) := by
  refine vx_ofW (cc := cX1_checkLigature) (maxL := 3) (ret := none) (by decide) rfl ?_
  intro p e s m args below meth c s₁ B hml hno hv0
  obtain ⟨rfl, hP, hD, hA, hK, hX⟩ := hv0
  have hx := B.exec
  have hb := B.bytes
  have hr := B.returns
  have hts := atoms_spec (ws := wsX1_checkLigature) B.pre
  have hown : s.vm.findClass RX1 = some m.cls := findClass_of_methodNamed B.named
  have hlocks := B.notSynchronized
  have hS : va_S A s.heap s.heap [] := va_S.rf
  have hl := lv_entry ([.int a, .int b, .int c0]) (n := 3) (Nat.le_of_ble_eq_true rfl)
  rw [lg_entry_eq]
  generalize (lg_sl ([.int a, .int b, .int c0]) ++ List.replicate (3 - (lg_sl ([.int a, .int b, .int c0])).length) Slot.unset).toArray = ls at hl ⊢
  have hl : lv_has ls 3 [(0, .int a), (1, .int b), (2, .int c0)] := hl
  refine lv_iload_n (pc := 0) hx hb dX1_checkLigature_0 rfl (lv_at hl 0 rfl) ?_
  refine lv_iconst (v := 0) (pc := 1) hx hb dX1_checkLigature_1 (by decide) ?_
  refine lv_bipush (v := 9) (pc := 2) hx hb dX1_checkLigature_2 (by decide) ?_
  refine k_xv (pc := 4) (vx_runS (As := [.int a, .int 0, .int 9]) (rest := []) ⟨hx, hb, hml, hown, hts⟩ (cX1_checkRange_m l hfl g A σ rest a 0 9) (va_cwS 3 hts gX1_checkLigature_X1_checkRange rfl rfl rfl (by decide +kernel) ⟨Nat.le_of_ble_eq_true rfl, Nat.le_of_ble_eq_true rfl⟩) (cx_S hP hD hA hK hX hS) rfl rfl hl.1 rfl (lv_room (Nat.le_of_ble_eq_true rfl)) dX1_checkLigature_4 ⟨Nat.le_of_ble_eq_true rfl, Nat.le_of_ble_eq_true rfl⟩) hno hlocks (fun E h => ⟨h.1, by unfold inL; rw [h.2]; rfl⟩) (Nat.le_of_ble_eq_true rfl) (Nat.le_of_ble_eq_true rfl) (fun hk1 => ?_)
  refine lv_iload_n (pc := 7) hx hb dX1_checkLigature_7 rfl (lv_at hl 1 rfl) ?_
  refine lv_iconst (v := 0) (pc := 8) hx hb dX1_checkLigature_8 (by decide) ?_
  refine lv_bipush (v := 9) (pc := 9) hx hb dX1_checkLigature_9 (by decide) ?_
  refine k_xv (pc := 11) (vx_runS (As := [.int b, .int 0, .int 9]) (rest := []) ⟨hx, hb, hml, hown, hts⟩ (cX1_checkRange_m l hfl g A σ rest b 0 9) (va_cwS 3 hts gX1_checkLigature_X1_checkRange rfl rfl rfl (by decide +kernel) ⟨Nat.le_of_ble_eq_true rfl, Nat.le_of_ble_eq_true rfl⟩) (cx_S hP hD hA hK hX hS) rfl rfl hl.1 rfl (lv_room (Nat.le_of_ble_eq_true rfl)) dX1_checkLigature_11 ⟨Nat.le_of_ble_eq_true rfl, Nat.le_of_ble_eq_true rfl⟩) hno hlocks (fun E h => ⟨h.1, by unfold inL; rw [hk1, h.2]; rfl⟩) (Nat.le_of_ble_eq_true rfl) (Nat.le_of_ble_eq_true rfl) (fun hk2 => ?_)
  refine lv_iload_n (pc := 14) hx hb dX1_checkLigature_14 rfl (lv_at hl 2 rfl) ?_
  refine lv_iconst (v := (-1)) (pc := 15) hx hb dX1_checkLigature_15 (by decide) ?_
  refine lv_bipush (v := 9) (pc := 16) hx hb dX1_checkLigature_16 (by decide) ?_
  refine k_xv (pc := 18) (vx_runS (As := [.int c0, .int ((-1)), .int 9]) (rest := []) ⟨hx, hb, hml, hown, hts⟩ (cX1_checkRange_m l hfl g A σ rest c0 ((-1)) 9) (va_cwS 3 hts gX1_checkLigature_X1_checkRange rfl rfl rfl (by decide +kernel) ⟨Nat.le_of_ble_eq_true rfl, Nat.le_of_ble_eq_true rfl⟩) (cx_S hP hD hA hK hX hS) rfl rfl hl.1 rfl (lv_room (Nat.le_of_ble_eq_true rfl)) dX1_checkLigature_18 ⟨Nat.le_of_ble_eq_true rfl, Nat.le_of_ble_eq_true rfl⟩) hno hlocks (fun E h => ⟨h.1, by unfold inL; rw [hk1, hk2, h.2]; rfl⟩) (Nat.le_of_ble_eq_true rfl) (Nat.le_of_ble_eq_true rfl) (fun hk3 => ?_)
  refine lv_iload_n (pc := 21) hx hb dX1_checkLigature_21 rfl (lv_at hl 1 rfl) ?_
  refine lv_iload_n (pc := 22) hx hb dX1_checkLigature_22 rfl (lv_at hl 0 rfl) ?_
  refine lv_icmp_eq (tgt := 31) (pc := 23) hx hb dX1_checkLigature_23 (by decide) (fun c1 => ?_) (fun c1 => ?_)
  · refine k_throw (pc := 31) (cls := "java/lang/IllegalArgumentException") (text := "a ligature's note is on the place of the one ahead") (ik := 179) (is := 184) (ic := 183) hx hb hfl hown hts hX (by decide) (by decide +kernel) (by decide) (by decide +kernel) (by decide +kernel) (by decide +kernel) (by decide +kernel) (by decide +kernel) (hl.1.trans hml.symm) dX1_checkLigature_31 dX1_checkLigature_34 dX1_checkLigature_35 dX1_checkLigature_37 dX1_checkLigature_40 hno hlocks (Nat.le_of_ble_eq_true rfl) (Nat.le_of_ble_eq_true rfl) (Nat.le_of_ble_eq_true rfl) (Nat.le_of_ble_eq_true rfl) (Nat.le_of_ble_eq_true rfl) (Nat.le_of_ble_eq_true rfl) ?_
    exact ⟨rfl, by unfold inL; rw [hk1, hk2, hk3]; first | (rw [decide_eq_true c1]; rfl) | (rw [decide_eq_false c1, decide_eq_true c2]; rfl)⟩
  · refine lv_iload_n (pc := 26) hx hb dX1_checkLigature_26 rfl (lv_at hl 2 rfl) ?_
    refine lv_iload_n (pc := 27) hx hb dX1_checkLigature_27 rfl (lv_at hl 1 rfl) ?_
    refine lv_icmp_ne (tgt := 41) (pc := 28) hx hb dX1_checkLigature_28 (by decide) (fun c2 => ?_) (fun c2 => ?_)
    · refine vx_ret ?_
      refine W.widen (k := 4) (n := 24) (Nat.le_of_ble_eq_true rfl) (Nat.le_of_ble_eq_true rfl) ?_
      exact W.vret hx hb hr (fun t ht hW => ⟨rfl, (by unfold inL; rw [hk1, hk2, hk3, decide_eq_false c1, decide_eq_false c2]; rfl), ht⟩) (fun q hq => absurd hq List.not_mem_nil) dX1_checkLigature_41
    · refine k_throw (pc := 31) (cls := "java/lang/IllegalArgumentException") (text := "a ligature's note is on the place of the one ahead") (ik := 179) (is := 184) (ic := 183) hx hb hfl hown hts hX (by decide) (by decide +kernel) (by decide) (by decide +kernel) (by decide +kernel) (by decide +kernel) (by decide +kernel) (by decide +kernel) (hl.1.trans hml.symm) dX1_checkLigature_31 dX1_checkLigature_34 dX1_checkLigature_35 dX1_checkLigature_37 dX1_checkLigature_40 hno hlocks (Nat.le_of_ble_eq_true rfl) (Nat.le_of_ble_eq_true rfl) (Nat.le_of_ble_eq_true rfl) (Nat.le_of_ble_eq_true rfl) (Nat.le_of_ble_eq_true rfl) (Nat.le_of_ble_eq_true rfl) ?_
      exact ⟨rfl, by unfold inL; rw [hk1, hk2, hk3]; first | (rw [decide_eq_true c1]; rfl) | (rw [decide_eq_false c1, decide_eq_true c2]; rfl)⟩
set_option maxHeartbeats 4000000 in
set_option maxRecDepth 100000 in
/-- room for so many signs, or a refusal -/
theorem cX1_checkRoom_m (l : Launch) (hfl : l.stackTraces = false) (g : GA) (A : Nat → Prop) (σ : St) (rest : va_W) (v n0 : Nat) (hv : v < 4) (hC : sC σ v ≤ 24) (hn : n0 ≤ 3) : vx_Met l yX1_checkRoom wsX1_checkRoom ({ frames := 6, cells := 1, slots := 6, locals := 90 }) (va_Pc [.ref (gV g v), .int (nI n0)] (Cx g A (cw g σ ++ rest))) (kSv (sC σ v + n0 ≤ 24)) (kX (fun E => E = eS ∧ ¬ sC σ v + n0 ≤ 24)) 1 6 (fun _ => False) := by
  refine vx_ofW (cc := cX1_checkRoom) (maxL := 2) (ret := none) (by decide) rfl ?_
  intro p e s m args below meth c s₁ B hml hno hv0
  obtain ⟨rfl, hP, hD, hA, hK, hX⟩ := hv0
  have hx := B.exec
  have hb := B.bytes
  have hr := B.returns
  have hts := atoms_spec (ws := wsX1_checkRoom) B.pre
  have hown : s.vm.findClass RX1 = some m.cls := findClass_of_methodNamed B.named
  have hlocks := B.notSynchronized
  have hS : va_S A s.heap s.heap [] := va_S.rf
  have hinX0 : ∀ w ∈ u_ws RX0 TX0 10, w ∈ wsX1_checkRoom := by decide +kernel
  have hl := lv_entry ([.ref (gV g v), .int (nI n0)]) (n := 2) (Nat.le_of_ble_eq_true rfl)
  rw [lg_entry_eq]
  generalize (lg_sl ([.ref (gV g v), .int (nI n0)]) ++ List.replicate (2 - (lg_sl ([.ref (gV g v), .int (nI n0)])).length) Slot.unset).toArray = ls at hl ⊢
  have hl : lv_has ls 2 [(0, .ref (gV g v)), (1, .int (nI n0))] := hl
  refine lv_aload_n (pc := 0) hx hb dX1_checkRoom_0 rfl (lv_at hl 0 rfl) ?_
  refine va_getN (v := .int (nI (sC σ v))) (pc := 1) (D := gD g) (ci := 0) (C := RX0) (T := TX0) (N := 10) hx hb hts hinX0 hown hK hP (2 + 6 * v) (cv0 g σ rest hv) rfl 4 (by decide) (va_Nw.use rfl (nf_64 hX)) (fun _ h9 => h9) rfl dX1_checkRoom_1 ?_
  refine lv_iload_n (pc := 4) hx hb dX1_checkRoom_4 rfl (lv_at hl 1 rfl) ?_
  refine lv_iadd (pc := 5) hx hb dX1_checkRoom_5 ?_
  refine k_cong (y := nI (sC σ v + n0)) (nI_add _ _) ?_
  refine lv_bipush (v := 24) (pc := 6) hx hb dX1_checkRoom_6 (by decide) ?_
  refine lv_icmp_le (tgt := 21) (pc := 8) hx hb dX1_checkRoom_8 (by decide) (fun c1 => ?_) (fun c1 => ?_)
  · have c1 : sC σ v + n0 ≤ 24 := (nI_leI (a := sC σ v + n0) (b := 24) (by omega) (by omega)).mp c1
    refine vx_ret ?_
    refine W.widen (k := 1) (n := 6) (Nat.le_of_ble_eq_true rfl) (Nat.le_of_ble_eq_true rfl) ?_
    exact W.vret hx hb hr (fun t ht hW => ⟨rfl, c1, ht⟩) (fun q hq => absurd hq List.not_mem_nil) dX1_checkRoom_21
  · have c1 : ¬ (sC σ v + n0 ≤ 24) := fun z => c1 ((nI_leI (a := sC σ v + n0) (b := 24) (by omega) (by omega)).mpr z)
    refine k_throw (pc := 11) (cls := "java/lang/IllegalStateException") (text := "the voice has no room for so many signs") (ik := 24) (is := 186) (ic := 28) hx hb hfl hown hts hX (by decide) (by decide +kernel) (by decide) (by decide +kernel) (by decide +kernel) (by decide +kernel) (by decide +kernel) (by decide +kernel) (hl.1.trans hml.symm) dX1_checkRoom_11 dX1_checkRoom_14 dX1_checkRoom_15 dX1_checkRoom_17 dX1_checkRoom_20 hno hlocks (Nat.le_of_ble_eq_true rfl) (Nat.le_of_ble_eq_true rfl) (Nat.le_of_ble_eq_true rfl) (Nat.le_of_ble_eq_true rfl) (Nat.le_of_ble_eq_true rfl) (Nat.le_of_ble_eq_true rfl) ?_
    exact ⟨rfl, c1⟩
set_option maxHeartbeats 4000000 in
set_option maxRecDepth 100000 in
/-- a clef, or a refusal -/
theorem cX1_checkHasClef_m (l : Launch) (hfl : l.stackTraces = false) (g : GA) (A : Nat → Prop) (σ : St) (rest : va_W) (v : Nat) (hv : v < 4) : vx_Met l yX1_checkHasClef wsX1_checkHasClef ({ frames := 6, cells := 1, slots := 6, locals := 90 }) (va_Pc [.ref (gV g v)] (Cx g A (cw g σ ++ rest))) (kSv (¬ sL σ v = -1)) (kX (fun E => E = eS ∧ sL σ v = -1)) 1 6 (fun _ => False) := by
  refine vx_ofW (cc := cX1_checkHasClef) (maxL := 1) (ret := none) (by decide) rfl ?_
  intro p e s m args below meth c s₁ B hml hno hv0
  obtain ⟨rfl, hP, hD, hA, hK, hX⟩ := hv0
  have hx := B.exec
  have hb := B.bytes
  have hr := B.returns
  have hts := atoms_spec (ws := wsX1_checkHasClef) B.pre
  have hown : s.vm.findClass RX1 = some m.cls := findClass_of_methodNamed B.named
  have hlocks := B.notSynchronized
  have hS : va_S A s.heap s.heap [] := va_S.rf
  have hinX0 : ∀ w ∈ u_ws RX0 TX0 10, w ∈ wsX1_checkHasClef := by decide +kernel
  have hl := lv_entry ([.ref (gV g v)]) (n := 1) (Nat.le_of_ble_eq_true rfl)
  rw [lg_entry_eq]
  generalize (lg_sl ([.ref (gV g v)]) ++ List.replicate (1 - (lg_sl ([.ref (gV g v)])).length) Slot.unset).toArray = ls at hl ⊢
  have hl : lv_has ls 1 [(0, .ref (gV g v))] := hl
  refine lv_aload_n (pc := 0) hx hb dX1_checkHasClef_0 rfl (lv_at hl 0 rfl) ?_
  refine va_getN (v := .int (sL σ v)) (pc := 1) (D := gD g) (ci := 0) (C := RX0) (T := TX0) (N := 10) hx hb hts hinX0 hown hK hP (2 + 6 * v) (cv0 g σ rest hv) rfl 3 (by decide) (va_Nw.use rfl (nf_86 hX)) (fun _ h9 => h9) rfl dX1_checkHasClef_1 ?_
  refine lv_iconst (v := (-1)) (pc := 4) hx hb dX1_checkHasClef_4 (by decide) ?_
  refine lv_icmp_ne (tgt := 18) (pc := 5) hx hb dX1_checkHasClef_5 (by decide) (fun c1 => ?_) (fun c1 => ?_)
  · refine vx_ret ?_
    refine W.widen (k := 1) (n := 6) (Nat.le_of_ble_eq_true rfl) (Nat.le_of_ble_eq_true rfl) ?_
    exact W.vret hx hb hr (fun t ht hW => ⟨rfl, c1, ht⟩) (fun q hq => absurd hq List.not_mem_nil) dX1_checkHasClef_18
  · refine k_throw (pc := 8) (cls := "java/lang/IllegalStateException") (text := "the clef is missing") (ik := 24) (is := 188) (ic := 28) hx hb hfl hown hts hX (by decide) (by decide +kernel) (by decide) (by decide +kernel) (by decide +kernel) (by decide +kernel) (by decide +kernel) (by decide +kernel) (hl.1.trans hml.symm) dX1_checkHasClef_8 dX1_checkHasClef_11 dX1_checkHasClef_12 dX1_checkHasClef_14 dX1_checkHasClef_17 hno hlocks (Nat.le_of_ble_eq_true rfl) (Nat.le_of_ble_eq_true rfl) (Nat.le_of_ble_eq_true rfl) (Nat.le_of_ble_eq_true rfl) (Nat.le_of_ble_eq_true rfl) (Nat.le_of_ble_eq_true rfl) ?_
    exact ⟨rfl, c1⟩
set_option maxHeartbeats 4000000 in
set_option maxRecDepth 100000 in
/-- the kind of the last note -/
theorem cX1_lastKind_m (l : Launch) (g : GA) (A : Nat → Prop) (σ : St) (rest : va_W) (a b : Int32) : Met l yX1_lastKind wsX1_lastKind ({ frames := 0, cells := 0, slots := 0, locals := 0 }) (va_Pc [.int a, .int b] (Cx g A (cw g σ ++ rest))) (vp_Si (fun r : Int32 => r = nI (lk a b))) 0 0 (fun _ => False) := by
  refine Met.ofW (cc := cX1_lastKind) (maxL := 2) (ret := (some .int)) (by decide) rfl ?_
  intro p e s m args below meth c s₁ B hml hv0
  obtain ⟨rfl, hP, hD, hA, hK, hX⟩ := hv0
  have hx := B.exec
  have hb := B.bytes
  have hr := B.returns
  have hts := atoms_spec (ws := wsX1_lastKind) B.pre
  have hown : s.vm.findClass RX1 = some m.cls := findClass_of_methodNamed B.named
  have hlocks := B.notSynchronized
  have hS : va_S A s.heap s.heap [] := va_S.rf
  have hl := lv_entry ([.int a, .int b]) (n := 2) (Nat.le_of_ble_eq_true rfl)
  rw [lg_entry_eq]
  generalize (lg_sl ([.int a, .int b]) ++ List.replicate (2 - (lg_sl ([.int a, .int b])).length) Slot.unset).toArray = ls at hl ⊢
  have hl : lv_has ls 2 [(0, .int a), (1, .int b)] := hl
  refine lv_iload_n (pc := 0) hx hb dX1_lastKind_0 rfl (lv_at hl 1 rfl) ?_
  refine lv_iload_n (pc := 1) hx hb dX1_lastKind_1 rfl (lv_at hl 0 rfl) ?_
  refine lv_icmp_ge (tgt := 9) (pc := 2) hx hb dX1_lastKind_2 (by decide) (fun c1 => ?_) (fun c1 => ?_)
  · refine lv_iconst (v := 1) (pc := 9) hx hb dX1_lastKind_9 (by decide) ?_
    exact W.iret hx hb hr (fun t ht hW => ⟨_, rfl, (by unfold lk; first | (rw [if_pos (Int32.not_le.mp c1)]; rfl) | (rw [if_neg (Int32.not_lt.mpr c1)]; rfl)), ht⟩) (fun q hq => absurd hq List.not_mem_nil) dX1_lastKind_10
  · refine lv_iconst (v := 0) (pc := 5) hx hb dX1_lastKind_5 (by decide) ?_
    refine lv_goto (tgt := 10) (pc := 6) hx hb dX1_lastKind_6 (by decide) ?_
    exact W.iret hx hb hr (fun t ht hW => ⟨_, rfl, (by unfold lk; first | (rw [if_pos (Int32.not_le.mp c1)]; rfl) | (rw [if_neg (Int32.not_lt.mpr c1)]; rfl)), ht⟩) (fun q hq => absurd hq List.not_mem_nil) dX1_lastKind_10
set_option maxHeartbeats 4000000 in
set_option maxRecDepth 100000 in
/-- the kind of the first note -/
theorem cX1_firstKind_m (l : Launch) (g : GA) (A : Nat → Prop) (σ : St) (rest : va_W) (a b : Int32) (z : Bool) : Met l yX1_firstKind wsX1_firstKind ({ frames := 1, cells := 0, slots := 0, locals := 21 }) (va_Pc [.int a, .int b, .int (bI z)] (Cx g A (cw g σ ++ rest))) (vp_Si (fun r : Int32 => r = nI (lg1 a b z))) 0 0 (fun _ => False) := by
  refine Met.ofW (cc := cX1_firstKind) (maxL := 3) (ret := (some .int)) (by decide) rfl ?_
  intro p e s m args below meth c s₁ B hml hv0
  obtain ⟨rfl, hP, hD, hA, hK, hX⟩ := hv0
  have hx := B.exec
  have hb := B.bytes
  have hr := B.returns
  have hts := atoms_spec (ws := wsX1_firstKind) B.pre
  have hown : s.vm.findClass RX1 = some m.cls := findClass_of_methodNamed B.named
  have hlocks := B.notSynchronized
  have hS : va_S A s.heap s.heap [] := va_S.rf
  have hl := lv_entry ([.int a, .int b, .int (bI z)]) (n := 3) (Nat.le_of_ble_eq_true rfl)
  rw [lg_entry_eq]
  generalize (lg_sl ([.int a, .int b, .int (bI z)]) ++ List.replicate (3 - (lg_sl ([.int a, .int b, .int (bI z)])).length) Slot.unset).toArray = ls at hl ⊢
  have hl : lv_has ls 3 [(0, .int a), (1, .int b), (2, .int (bI z))] := hl
  refine lv_iload_n (pc := 0) hx hb dX1_firstKind_0 rfl (lv_at hl 2 rfl) ?_
  refine lv_if_eq (tgt := 8) (pc := 1) hx hb dX1_firstKind_1 (by decide) (fun c1 => ?_) (fun c1 => ?_)
  · have c1 := bI_0.mp c1
    refine lv_iload_n (pc := 8) hx hb dX1_firstKind_8 rfl (lv_at hl 0 rfl) ?_
    refine lv_iload_n (pc := 9) hx hb dX1_firstKind_9 rfl (lv_at hl 1 rfl) ?_
    refine k_ri (pc := 10) (va_runS (As := [.int a, .int b]) (rest := []) ⟨hx, hb, hml, hown, hts⟩ (cX1_lastKind_m l g A σ rest a b) (va_cwS 2 hts gX1_firstKind_X1_lastKind rfl rfl rfl (by decide +kernel) ⟨Nat.le_of_ble_eq_true rfl, Nat.le_of_ble_eq_true rfl⟩) (cx_S hP hD hA hK hX hS) rfl rfl hl.1 rfl (lv_room (Nat.le_of_ble_eq_true rfl)) dX1_firstKind_10 ⟨Nat.le_of_ble_eq_true rfl, Nat.le_of_ble_eq_true rfl⟩) (fun r_2 hr_2 => ?_)
    subst hr_2
    exact W.iret hx hb hr (fun t ht hW => ⟨_, rfl, (by unfold lg1; rw [c1]; rfl), ht⟩) (fun q hq => absurd hq List.not_mem_nil) dX1_firstKind_13
  · have c1 := bI_n0.mp c1
    refine lv_iconst (v := 2) (pc := 4) hx hb dX1_firstKind_4 (by decide) ?_
    refine lv_goto (tgt := 13) (pc := 5) hx hb dX1_firstKind_5 (by decide) ?_
    exact W.iret hx hb hr (fun t ht hW => ⟨_, rfl, (by unfold lg1; rw [c1]; rfl), ht⟩) (fun q hq => absurd hq List.not_mem_nil) dX1_firstKind_13
set_option maxHeartbeats 4000000 in
set_option maxRecDepth 100000 in
/-- the kind of the second note -/
theorem cX1_secondKind_m (l : Launch) (g : GA) (A : Nat → Prop) (σ : St) (rest : va_W) (a b : Int32) (y z : Bool) : Met l yX1_secondKind wsX1_secondKind ({ frames := 1, cells := 0, slots := 0, locals := 21 }) (va_Pc [.int a, .int b, .int (bI y), .int (bI z)] (Cx g A (cw g σ ++ rest))) (vp_Si (fun r : Int32 => r = nI (lg2 a b y z))) 0 0 (fun _ => False) := by
  refine Met.ofW (cc := cX1_secondKind) (maxL := 4) (ret := (some .int)) (by decide) rfl ?_
  intro p e s m args below meth c s₁ B hml hv0
  obtain ⟨rfl, hP, hD, hA, hK, hX⟩ := hv0
  have hx := B.exec
  have hb := B.bytes
  have hr := B.returns
  have hts := atoms_spec (ws := wsX1_secondKind) B.pre
  have hown : s.vm.findClass RX1 = some m.cls := findClass_of_methodNamed B.named
  have hlocks := B.notSynchronized
  have hS : va_S A s.heap s.heap [] := va_S.rf
  have hl := lv_entry ([.int a, .int b, .int (bI y), .int (bI z)]) (n := 4) (Nat.le_of_ble_eq_true rfl)
  rw [lg_entry_eq]
  generalize (lg_sl ([.int a, .int b, .int (bI y), .int (bI z)]) ++ List.replicate (4 - (lg_sl ([.int a, .int b, .int (bI y), .int (bI z)])).length) Slot.unset).toArray = ls at hl ⊢
  have hl : lv_has ls 4 [(0, .int a), (1, .int b), (2, .int (bI y)), (3, .int (bI z))] := hl
  refine lv_iload_n (pc := 0) hx hb dX1_secondKind_0 rfl (lv_at hl 3 rfl) ?_
  refine lv_if_eq (tgt := 6) (pc := 1) hx hb dX1_secondKind_1 (by decide) (fun c1 => ?_) (fun c1 => ?_)
  · have c1 := bI_0.mp c1
    refine lv_iload_n (pc := 6) hx hb dX1_secondKind_6 rfl (lv_at hl 2 rfl) ?_
    refine lv_if_eq (tgt := 14) (pc := 7) hx hb dX1_secondKind_7 (by decide) (fun c2 => ?_) (fun c2 => ?_)
    · have c2 := bI_0.mp c2
      refine lv_iload_n (pc := 14) hx hb dX1_secondKind_14 rfl (lv_at hl 0 rfl) ?_
      refine lv_iload_n (pc := 15) hx hb dX1_secondKind_15 rfl (lv_at hl 1 rfl) ?_
      refine k_ri (pc := 16) (va_runS (As := [.int a, .int b]) (rest := []) ⟨hx, hb, hml, hown, hts⟩ (cX1_lastKind_m l g A σ rest a b) (va_cwS 2 hts gX1_secondKind_X1_lastKind rfl rfl rfl (by decide +kernel) ⟨Nat.le_of_ble_eq_true rfl, Nat.le_of_ble_eq_true rfl⟩) (cx_S hP hD hA hK hX hS) rfl rfl hl.1 rfl (lv_room (Nat.le_of_ble_eq_true rfl)) dX1_secondKind_16 ⟨Nat.le_of_ble_eq_true rfl, Nat.le_of_ble_eq_true rfl⟩) (fun r_3 hr_3 => ?_)
      subst hr_3
      exact W.iret hx hb hr (fun t ht hW => ⟨_, rfl, (by unfold lg2; first | (rw [c1, c2]; rfl) | (rw [c1]; rfl)), ht⟩) (fun q hq => absurd hq List.not_mem_nil) dX1_secondKind_19
    · have c2 := bI_n0.mp c2
      refine lv_iconst (v := 1) (pc := 10) hx hb dX1_secondKind_10 (by decide) ?_
      refine lv_goto (tgt := 19) (pc := 11) hx hb dX1_secondKind_11 (by decide) ?_
      exact W.iret hx hb hr (fun t ht hW => ⟨_, rfl, (by unfold lg2; first | (rw [c1, c2]; rfl) | (rw [c1]; rfl)), ht⟩) (fun q hq => absurd hq List.not_mem_nil) dX1_secondKind_19
  · have c1 := bI_n0.mp c1
    refine lv_iconst (v := 2) (pc := 4) hx hb dX1_secondKind_4 (by decide) ?_
    exact W.iret hx hb hr (fun t ht hW => ⟨_, rfl, (by unfold lg2; first | (rw [c1, c2]; rfl) | (rw [c1]; rfl)), ht⟩) (fun q hq => absurd hq List.not_mem_nil) dX1_secondKind_5
set_option maxHeartbeats 4000000 in
set_option maxRecDepth 100000 in
/-- whether two signs clash -/
theorem cX1_signsClash_m (l : Launch) (g : GA) (A : Nat → Prop) (σ : St) (rest : va_W) (v w i0 j0 : Nat) (u0 : Int32) (hv : v < 4) (hw : w < 4) (hi : i0 < 24) (hj : j0 < 24) : Met l yX1_signsClash wsX1_signsClash ({ frames := 1, cells := 0, slots := 0, locals := 21 }) (va_Pc [.ref (gV g v), .int (nI i0), .ref (gV g w), .int (nI j0), .int u0] (Cx g A (cw g σ ++ rest))) (vp_Si (fun r : Int32 => r = bI (cls (sP σ v i0) (sP σ w j0) u0))) 0 0 (fun _ => False) := by
  refine Met.ofW (cc := cX1_signsClash) (maxL := 6) (ret := (some .boolean)) (by decide) rfl ?_
  intro p e s m args below meth c s₁ B hml hv0
  obtain ⟨rfl, hP, hD, hA, hK, hX⟩ := hv0
  have hx := B.exec
  have hb := B.bytes
  have hr := B.returns
  have hts := atoms_spec (ws := wsX1_signsClash) B.pre
  have hown : s.vm.findClass RX1 = some m.cls := findClass_of_methodNamed B.named
  have hlocks := B.notSynchronized
  have hS : va_S A s.heap s.heap [] := va_S.rf
  have hinX0 : ∀ w ∈ u_ws RX0 TX0 10, w ∈ wsX1_signsClash := by decide +kernel
  have hl := lv_entry ([.ref (gV g v), .int (nI i0), .ref (gV g w), .int (nI j0), .int u0]) (n := 6) (Nat.le_of_ble_eq_true rfl)
  rw [lg_entry_eq]
  generalize (lg_sl ([.ref (gV g v), .int (nI i0), .ref (gV g w), .int (nI j0), .int u0]) ++ List.replicate (6 - (lg_sl ([.ref (gV g v), .int (nI i0), .ref (gV g w), .int (nI j0), .int u0])).length) Slot.unset).toArray = ls at hl ⊢
  have hl : lv_has ls 6 [(0, .ref (gV g v)), (1, .int (nI i0)), (2, .ref (gV g w)), (3, .int (nI j0)), (4, .int u0)] := hl
  refine lv_aload_n (pc := 0) hx hb dX1_signsClash_0 rfl (lv_at hl 0 rfl) ?_
  refine lv_iload_n (pc := 1) hx hb dX1_signsClash_1 rfl (lv_at hl 1 rfl) ?_
  refine k_ri (pc := 2) (va_runVN (As := [.int (nI i0)]) (rest := []) ⟨hx, hb, hml, hown, hts⟩ (cX0_isRest_m l g A σ rest v i0 hv (by omega)) ⟨va_cnB 1 hts gX1_signsClash_X0_isRest_n77 rfl rfl rfl (nm_77 hX) (hts (.initialized RX0) (by decide +kernel)) (by decide +kernel) ⟨Nat.le_of_ble_eq_true rfl, Nat.le_of_ble_eq_true rfl⟩, hts (.instanceMethod yX0_isRest) (by decide +kernel), hts (.selects RX0 yX0_isRest yX0_isRest) (by decide +kernel)⟩ (cx_V (q0 := (2 + 6 * v)) (ci := 0) (r := (RX0, TX0, 10)) rfl (cv0 g σ rest hv) hP hD hA hK hX hS) rfl rfl hl.1 rfl (lv_room (Nat.le_of_ble_eq_true rfl)) dX1_signsClash_2 ⟨Nat.le_of_ble_eq_true rfl, Nat.le_of_ble_eq_true rfl⟩) (fun r_1 hr_1 => ?_)
  subst hr_1
  refine lv_if_ne (tgt := 16) (pc := 5) hx hb dX1_signsClash_5 (by decide) (fun c1 => ?_) (fun c1 => ?_)
  · have c1 : isNt σ v i0 = false := by simpa using bI_n0.mp c1
    refine lv_iconst (v := 0) (pc := 16) hx hb dX1_signsClash_16 (by decide) ?_
    exact W.zret (v := 0) hx hb hr rfl (fun t ht hW => ⟨_, rfl, (by first | (rw [cls_1 c1]; rfl) | (rw [cls_2 c2]; rfl)), ht⟩) (fun q hq => absurd hq List.not_mem_nil) dX1_signsClash_17
  · have c1 : isNt σ v i0 = true := by simpa using bI_0.mp c1
    refine lv_aload_n (pc := 8) hx hb dX1_signsClash_8 rfl (lv_at hl 2 rfl) ?_
    refine lv_iload_n (pc := 9) hx hb dX1_signsClash_9 rfl (lv_at hl 3 rfl) ?_
    refine k_ri (pc := 10) (va_runVN (As := [.int (nI j0)]) (rest := []) ⟨hx, hb, hml, hown, hts⟩ (cX0_isRest_m l g A σ rest w j0 hw (by omega)) ⟨va_cnB 1 hts gX1_signsClash_X0_isRest_n77 rfl rfl rfl (nm_77 hX) (hts (.initialized RX0) (by decide +kernel)) (by decide +kernel) ⟨Nat.le_of_ble_eq_true rfl, Nat.le_of_ble_eq_true rfl⟩, hts (.instanceMethod yX0_isRest) (by decide +kernel), hts (.selects RX0 yX0_isRest yX0_isRest) (by decide +kernel)⟩ (cx_V (q0 := (2 + 6 * w)) (ci := 0) (r := (RX0, TX0, 10)) rfl (cv0 g σ rest hw) hP hD hA hK hX hS) rfl rfl hl.1 rfl (lv_room (Nat.le_of_ble_eq_true rfl)) dX1_signsClash_10 ⟨Nat.le_of_ble_eq_true rfl, Nat.le_of_ble_eq_true rfl⟩) (fun r_3 hr_3 => ?_)
    subst hr_3
    refine lv_if_eq (tgt := 18) (pc := 13) hx hb dX1_signsClash_13 (by decide) (fun c2 => ?_) (fun c2 => ?_)
    · have c2 : isNt σ w j0 = true := by simpa using bI_0.mp c2
      refine lv_aload_n (pc := 18) hx hb dX1_signsClash_18 rfl (lv_at hl 0 rfl) ?_
      refine va_getN (v := .ref (gA g v 1)) (pc := 19) (D := gD g) (ci := 0) (C := RX0) (T := TX0) (N := 10) hx hb hts hinX0 hown hK hP (2 + 6 * v) (cv0 g σ rest hv) rfl 6 (by decide) (va_Nw.use rfl (nf_102 hX)) (fun _ h9 => h9) rfl dX1_signsClash_19 ?_
      refine lv_iload_n (pc := 22) hx hb dX1_signsClash_22 rfl (lv_at hl 1 rfl) ?_
      refine k_iald (pc := 23) (x := sP σ v i0) hx hb hK hP (4 + 6 * v) 0 (cv2 g σ rest hv) rfl i0 rfl (by omega) (by decide) rfl dX1_signsClash_23 ?_
      refine lv_aload_n (pc := 24) hx hb dX1_signsClash_24 rfl (lv_at hl 2 rfl) ?_
      refine va_getN (v := .ref (gA g w 1)) (pc := 25) (D := gD g) (ci := 0) (C := RX0) (T := TX0) (N := 10) hx hb hts hinX0 hown hK hP (2 + 6 * w) (cv0 g σ rest hw) rfl 6 (by decide) (va_Nw.use rfl (nf_102 hX)) (fun _ h9 => h9) rfl dX1_signsClash_25 ?_
      refine lv_iload_n (pc := 28) hx hb dX1_signsClash_28 rfl (lv_at hl 3 rfl) ?_
      refine k_iald (pc := 29) (x := sP σ w j0) hx hb hK hP (4 + 6 * w) 0 (cv2 g σ rest hw) rfl j0 rfl (by omega) (by decide) rfl dX1_signsClash_29 ?_
      refine lv_isub (pc := 30) hx hb dX1_signsClash_30 ?_
      refine lv_iload (pc := 31) hx hb dX1_signsClash_31 (lv_at hl 4 rfl) ?_
      refine lv_isub (pc := 33) hx hb dX1_signsClash_33 ?_
      refine va_mabs (pc := 34) hx hb (hml.trans hl.1.symm) hown (hts (.methodLink RX1 197 Lib.Math.abs.name) (by decide +kernel)) (hts (.static Lib.Math.abs.name) (by decide +kernel)) (hts (.initialized "java/lang/Math") (by decide +kernel)) (hts (.code Lib.Math.abs.name Lib.Math.abs.code 1 (some .int)) (by decide +kernel)) (Nat.le_of_ble_eq_true rfl) (Nat.le_of_ble_eq_true rfl) (Nat.le_of_ble_eq_true rfl) (Nat.le_of_ble_eq_true rfl) dX1_signsClash_34 ?_
      refine lv_bipush (v := 7) (pc := 37) hx hb dX1_signsClash_37 (by decide) ?_
      refine lv_irem (pc := 39) hx hb dX1_signsClash_39 (by decide) ?_
      refine k_cong (y := rs7 (sP σ v i0 - sP σ w j0 - u0)) rfl ?_
      refine lv_istore (lv' := [(5, .int (rs7 (sP σ v i0 - sP σ w j0 - u0))), (0, .ref (gV g v)), (1, .int (nI i0)), (2, .ref (gV g w)), (3, .int (nI j0)), (4, .int u0)]) (pc := 40) hx hb dX1_signsClash_40 hl (by decide) rfl (fun ls hl => ?_)
      refine lv_iload (pc := 42) hx hb dX1_signsClash_42 (lv_at hl 0 rfl) ?_
      refine lv_iconst (v := 1) (pc := 44) hx hb dX1_signsClash_44 (by decide) ?_
      refine lv_icmp_eq (tgt := 61) (pc := 45) hx hb dX1_signsClash_45 (by decide) (fun c3 => ?_) (fun c3 => ?_)
      · refine lv_iconst (v := 1) (pc := 61) hx hb dX1_signsClash_61 (by decide) ?_
        refine lv_goto (tgt := 66) (pc := 62) hx hb dX1_signsClash_62 (by decide) ?_
        exact W.zret (v := 1) hx hb hr rfl (fun t ht hW => ⟨_, rfl, (by rw [cls_3 c1 c2]; unfold isCl; first | (rw [decide_eq_true c3]; rfl) | (rw [decide_eq_false c3, decide_eq_true c4]; rfl) | (rw [decide_eq_false c3, decide_eq_false c4, decide_eq_true c5]; rfl) | (rw [decide_eq_false c3, decide_eq_false c4, decide_eq_false c5]; rfl)), ht⟩) (fun q hq => absurd hq List.not_mem_nil) dX1_signsClash_66
      · refine lv_iload (pc := 48) hx hb dX1_signsClash_48 (lv_at hl 0 rfl) ?_
        refine lv_iconst (v := 3) (pc := 50) hx hb dX1_signsClash_50 (by decide) ?_
        refine lv_icmp_eq (tgt := 61) (pc := 51) hx hb dX1_signsClash_51 (by decide) (fun c4 => ?_) (fun c4 => ?_)
        · refine lv_iconst (v := 1) (pc := 61) hx hb dX1_signsClash_61 (by decide) ?_
          refine lv_goto (tgt := 66) (pc := 62) hx hb dX1_signsClash_62 (by decide) ?_
          exact W.zret (v := 1) hx hb hr rfl (fun t ht hW => ⟨_, rfl, (by rw [cls_3 c1 c2]; unfold isCl; first | (rw [decide_eq_true c3]; rfl) | (rw [decide_eq_false c3, decide_eq_true c4]; rfl) | (rw [decide_eq_false c3, decide_eq_false c4, decide_eq_true c5]; rfl) | (rw [decide_eq_false c3, decide_eq_false c4, decide_eq_false c5]; rfl)), ht⟩) (fun q hq => absurd hq List.not_mem_nil) dX1_signsClash_66
        · refine lv_iload (pc := 54) hx hb dX1_signsClash_54 (lv_at hl 0 rfl) ?_
          refine lv_bipush (v := 6) (pc := 56) hx hb dX1_signsClash_56 (by decide) ?_
          refine lv_icmp_ne (tgt := 65) (pc := 58) hx hb dX1_signsClash_58 (by decide) (fun c5 => ?_) (fun c5 => ?_)
          · refine lv_iconst (v := 0) (pc := 65) hx hb dX1_signsClash_65 (by decide) ?_
            exact W.zret (v := 0) hx hb hr rfl (fun t ht hW => ⟨_, rfl, (by rw [cls_3 c1 c2]; unfold isCl; first | (rw [decide_eq_true c3]; rfl) | (rw [decide_eq_false c3, decide_eq_true c4]; rfl) | (rw [decide_eq_false c3, decide_eq_false c4, decide_eq_true c5]; rfl) | (rw [decide_eq_false c3, decide_eq_false c4, decide_eq_false c5]; rfl)), ht⟩) (fun q hq => absurd hq List.not_mem_nil) dX1_signsClash_66
          · refine lv_iconst (v := 1) (pc := 61) hx hb dX1_signsClash_61 (by decide) ?_
            refine lv_goto (tgt := 66) (pc := 62) hx hb dX1_signsClash_62 (by decide) ?_
            exact W.zret (v := 1) hx hb hr rfl (fun t ht hW => ⟨_, rfl, (by rw [cls_3 c1 c2]; unfold isCl; first | (rw [decide_eq_true c3]; rfl) | (rw [decide_eq_false c3, decide_eq_true c4]; rfl) | (rw [decide_eq_false c3, decide_eq_false c4, decide_eq_true c5]; rfl) | (rw [decide_eq_false c3, decide_eq_false c4, decide_eq_false c5]; rfl)), ht⟩) (fun q hq => absurd hq List.not_mem_nil) dX1_signsClash_66
    · have c2 : isNt σ w j0 = false := by simpa using bI_n0.mp c2
      refine lv_iconst (v := 0) (pc := 16) hx hb dX1_signsClash_16 (by decide) ?_
      exact W.zret (v := 0) hx hb hr rfl (fun t ht hW => ⟨_, rfl, (by first | (rw [cls_1 c1]; rfl) | (rw [cls_2 c2]; rfl)), ht⟩) (fun q hq => absurd hq List.not_mem_nil) dX1_signsClash_17
end
section
/-! TWO VOICES SIDE BY SIDE: from sign to sign as from minim to minim -/
theorem plN_in {σ : St} {v t s n : Nat} (hn : s < n) (h1 : bg σ v s ≤ t) (h2 : t < bg σ v (s + 1)) : plN σ v t n = sP σ v s := by
  induction n with
  | zero => omega
  | succ n ih =>
    show (if bg σ v n ≤ t ∧ t < bg σ v (n + 1) then sP σ v n else plN σ v t n) = sP σ v s
    rcases Nat.lt_or_ge s n with q | q
    · have := bg_mono σ v (show s + 1 ≤ n by omega)
      rw [if_neg (by omega), ih q]
    · have e : n = s := by omega
      subst e
      rw [if_pos ⟨h1, h2⟩]
theorem plN_out {σ : St} {v t n : Nat} (h : bg σ v n ≤ t) : plN σ v t n = -1 := by
  induction n with
  | zero => rfl
  | succ n ih =>
    show (if bg σ v n ≤ t ∧ t < bg σ v (n + 1) then sP σ v n else plN σ v t n) = -1
    have := bg_mono σ v (show n ≤ n + 1 by omega)
    rw [if_neg (by omega), ih (by omega)]
theorem plc_in {σ : St} {v t s : Nat} (hn : s < sC σ v) (h1 : bg σ v s ≤ t) (h2 : t < bg σ v (s + 1)) : plc σ v t = sP σ v s := plN_in hn h1 h2
theorem plc_out {σ : St} {v t : Nat} (h : len σ v ≤ t) : plc σ v t = -1 := plN_out h
theorem cls_l {y u : Int32} : cls (-1) y u = false := rfl
theorem cls_r {x u : Int32} : cls x (-1) u = false := by unfold cls; rw [decide_eq_true rfl]; simp
theorem cnt_seg {F : Nat → Bool} {q : Bool} {a : Nat} : ∀ {n : Nat}, (∀ t, a ≤ t → t < a + n → F t = q) → cnt F (a + n) = cnt F a + (if q then n else 0)
  | 0, _ => by simp
  | n + 1, h => by
    have ih := cnt_seg (n := n) (fun t h1 h2 => h t h1 (by omega))
    show cnt F (a + n) + (if F (a + n) then 1 else 0) = _
    rw [ih, h (a + n) (by omega) (by omega)]
    cases q <;> simp <;> omega
theorem cnt_const {F : Nat → Bool} {a : Nat} (h : ∀ t, a ≤ t → F t = false) {n : Nat} (hn : a ≤ n) : cnt F n = cnt F a := by
  have := cnt_seg (F := F) (q := false) (a := a) (n := n - a) (fun t h1 _ => h t h1)
  rw [show a + (n - a) = n by omega] at this
  rw [this]; rfl
section MG
variable {σ : St} {v w d : Nat} {up : Int32}
theorem clT_outA {t : Nat} (h : len σ v ≤ t) : clT σ v w d up t = false := by
  unfold clT
  rw [plc_out h, cls_l, Bool.and_false]
theorem clT_outB {t : Nat} (h : len σ w + d ≤ t) : clT σ v w d up t = false := by
  unfold clT
  rw [plc_out (show len σ w ≤ t - d by omega), cls_r, Bool.and_false]
theorem clT_pre {t : Nat} (h : t < d) : clT σ v w d up t = false := by
  unfold clT
  rw [decide_eq_false (by omega)]; rfl
theorem clT_in {t i j : Nat} (hi : i < sC σ v) (hj : j < sC σ w) (h1 : bg σ v i ≤ t) (h2 : t < bg σ v (i + 1)) (h3 : bg σ w j + d ≤ t) (h4 : t < bg σ w (j + 1) + d) : clT σ v w d up t = cls (sP σ v i) (sP σ w j) up := by
  unfold clT
  rw [decide_eq_true (by omega), plc_in hi h1 h2, plc_in hj (show bg σ w j ≤ t - d by omega) (show t - d < bg σ w (j + 1) by omega)]; rfl
/-- counted so far: up to where both signs have begun -/
def mgN (σ : St) (v w d : Nat) (up : Int32) (i j : Nat) : Nat := cnt (clT σ v w d up) (max (bg σ v i) (bg σ w j + d))
theorem mg_0 : mgN σ v w d up 0 0 = 0 := by
  unfold mgN
  rw [show max (bg σ v 0) (bg σ w 0 + d) = 0 + d by show max 0 (0 + d) = 0 + d; omega]
  rw [cnt_seg (F := clT σ v w d up) (q := false) (a := 0) (n := d) (fun t _ h => clT_pre (by omega))]
  rfl
/-- the one ends first -/
theorem mg_i {i j : Nat} (hi : i < sC σ v) (hj : j < sC σ w) (hle : bg σ v (i + 1) ≤ bg σ w (j + 1) + d) : mgN σ v w d up (i + 1) j = mgN σ v w d up i j + (if max (bg σ v i) (bg σ w j + d) < bg σ v (i + 1) ∧ cls (sP σ v i) (sP σ w j) up = true then bg σ v (i + 1) - max (bg σ v i) (bg σ w j + d) else 0) := by
  unfold mgN
  have m1 := bg_mono σ v (show i ≤ i + 1 by omega)
  rcases Nat.lt_or_ge (max (bg σ v i) (bg σ w j + d)) (bg σ v (i + 1)) with q | q
  · have hs := cnt_seg (F := clT σ v w d up) (q := cls (sP σ v i) (sP σ w j) up) (a := max (bg σ v i) (bg σ w j + d)) (n := bg σ v (i + 1) - max (bg σ v i) (bg σ w j + d)) (fun t h1 h2 => clT_in hi hj (by omega) (by omega) (by omega) (by omega))
    rw [show max (bg σ v i) (bg σ w j + d) + (bg σ v (i + 1) - max (bg σ v i) (bg σ w j + d)) = max (bg σ v (i + 1)) (bg σ w j + d) by omega] at hs
    rw [hs]
    cases cls (sP σ v i) (sP σ w j) up
    · rw [if_neg (by simp), if_neg (by simp)]
    · rw [if_pos rfl, if_pos ⟨q, rfl⟩]
  · rw [if_neg (by omega), show max (bg σ v (i + 1)) (bg σ w j + d) = max (bg σ v i) (bg σ w j + d) by omega]
    rfl
theorem mg_j {i j : Nat} (hi : i < sC σ v) (hj : j < sC σ w) (hle : bg σ w (j + 1) + d < bg σ v (i + 1)) : mgN σ v w d up i (j + 1) = mgN σ v w d up i j + (if max (bg σ v i) (bg σ w j + d) < bg σ w (j + 1) + d ∧ cls (sP σ v i) (sP σ w j) up = true then bg σ w (j + 1) + d - max (bg σ v i) (bg σ w j + d) else 0) := by
  unfold mgN
  have m1 := bg_mono σ w (show j ≤ j + 1 by omega)
  rcases Nat.lt_or_ge (max (bg σ v i) (bg σ w j + d)) (bg σ w (j + 1) + d) with q | q
  · have hs := cnt_seg (F := clT σ v w d up) (q := cls (sP σ v i) (sP σ w j) up) (a := max (bg σ v i) (bg σ w j + d)) (n := bg σ w (j + 1) + d - max (bg σ v i) (bg σ w j + d)) (fun t h1 h2 => clT_in hi hj (by omega) (by omega) (by omega) (by omega))
    rw [show max (bg σ v i) (bg σ w j + d) + (bg σ w (j + 1) + d - max (bg σ v i) (bg σ w j + d)) = max (bg σ v i) (bg σ w (j + 1) + d) by omega] at hs
    rw [hs]
    cases cls (sP σ v i) (sP σ w j) up
    · rw [if_neg (by simp), if_neg (by simp)]
    · rw [if_pos rfl, if_pos ⟨q, rfl⟩]
  · rw [if_neg (by omega), show max (bg σ v i) (bg σ w (j + 1) + d) = max (bg σ v i) (bg σ w j + d) by omega]
    rfl
/-- one of them is over -/
theorem mg_e {i j : Nat} (h : i = sC σ v ∨ j = sC σ w) : mgN σ v w d up i j = clN σ v w d up := by
  unfold mgN clN
  rcases h with rfl | rfl
  · exact cnt_const (a := bg σ v (sC σ v)) (fun t ht => clT_outA ht) (by omega)
  · rcases Nat.lt_or_ge (len σ v) (len σ w + d) with q | q
    · rw [cnt_const (F := clT σ v w d up) (a := len σ v) (fun t ht => clT_outA ht) (n := max (bg σ v i) (bg σ w (sC σ w) + d)) (by show len σ v ≤ max (bg σ v i) (len σ w + d); omega)]
    · rw [cnt_const (F := clT σ v w d up) (a := len σ w + d) (fun t ht => clT_outB ht) (n := max (bg σ v i) (bg σ w (sC σ w) + d)) (by show len σ w + d ≤ max (bg σ v i) (len σ w + d); omega), cnt_const (F := clT σ v w d up) (a := len σ w + d) (fun t ht => clT_outB ht) q]
end MG
theorem mxI {a b : Nat} (ha : a < 2 ^ 31) (hb : b < 2 ^ 31) : (if nI a < nI b then nI b else nI a) = nI (max a b) := by
  by_cases h : a < b
  · rw [if_pos ((nI_ltI ha hb).mpr h), show max a b = b by omega]
  · rw [if_neg (fun q => h ((nI_ltI ha hb).mp q)), show max a b = a by omega]
theorem mnI {a b : Nat} (ha : a < 2 ^ 31) (hb : b < 2 ^ 31) : (if nI b < nI a then nI b else nI a) = nI (min a b) := by
  by_cases h : b < a
  · rw [if_pos ((nI_ltI hb ha).mpr h), show min a b = b by omega]
  · rw [if_neg (fun q => h ((nI_ltI hb ha).mp q)), show min a b = a by omega]
theorem fst_f {p : Nat → Bool} {n : Nat} (h : ∀ t, t < n → p t = false) : fst p n = -1 := by
  induction n with
  | zero => rfl
  | succ n ih =>
    show (if fst p n = -1 then (if p n then nI n else -1) else fst p n) = -1
    rw [if_pos (ih fun t ht => h t (by omega)), h n (by omega)]; rfl
theorem fst_t {p : Nat → Bool} {a : Nat} (ha : a < 2 ^ 31) (h : ∀ t, t < a → p t = false) (h2 : p a = true) {n : Nat} (hn : a < n) : fst p n = nI a := by
  induction n with
  | zero => omega
  | succ n ih =>
    show (if fst p n = -1 then (if p n then nI n else -1) else fst p n) = nI a
    rcases Nat.lt_or_ge a n with q | q
    · rw [ih q, if_neg (nI_m1 ha)]
    · have e : n = a := by omega
      subst e
      rw [if_pos (fst_f h), h2]; rfl
end
section
theorem cnt_0 {F : Nat → Bool} : ∀ {n : Nat}, cnt F n = 0 → ∀ t, t < n → F t = false
  | 0, _, t, ht => by omega
  | n + 1, h, t, ht => by
    have h1 : cnt F n + (if F n then 1 else 0) = 0 := h
    rcases Nat.lt_or_ge t n with q | q
    · exact cnt_0 (n := n) (by omega) t q
    · have e : t = n := by omega
      subst e
      cases hF : F t
      · rfl
      · rw [hF] at h1; simp at h1
section MX
variable {σ : St} {v w d : Nat} {up : Int32} {i j : Nat} {x : Int32}
theorem mx_iA (hx : x = nI (mgN σ v w d up i j)) (hi : i < sC σ v) (hj : j < sC σ w) (hle : bg σ v (i + 1) ≤ bg σ w (j + 1) + d) (h : ¬ max (bg σ v i) (bg σ w j + d) < bg σ v (i + 1)) : x = nI (mgN σ v w d up (i + 1) j) := by
  rw [mg_i hi hj hle, if_neg (fun q => h q.1)]; exact hx
theorem mx_iB (hx : x = nI (mgN σ v w d up i j)) (hi : i < sC σ v) (hj : j < sC σ w) (hle : bg σ v (i + 1) ≤ bg σ w (j + 1) + d) (h : cls (sP σ v i) (sP σ w j) up = false) : x = nI (mgN σ v w d up (i + 1) j) := by
  rw [mg_i hi hj hle, if_neg (fun q => by rw [h] at q; exact absurd q.2 (by decide))]; exact hx
theorem mx_iC (hx : x = nI (mgN σ v w d up i j)) (hi : i < sC σ v) (hj : j < sC σ w) (hle : bg σ v (i + 1) ≤ bg σ w (j + 1) + d) (h : cls (sP σ v i) (sP σ w j) up = true) (h2 : max (bg σ v i) (bg σ w j + d) < bg σ v (i + 1)) : x + (nI (min (bg σ v (i + 1)) (bg σ w (j + 1) + d)) - nI (max (bg σ v i) (bg σ w j + d))) = nI (mgN σ v w d up (i + 1) j) := by
  rw [mg_i hi hj hle, if_pos ⟨h2, h⟩, hx, show min (bg σ v (i + 1)) (bg σ w (j + 1) + d) = bg σ v (i + 1) by omega, pk_sub (by omega), nI_add]
theorem mx_jA (hx : x = nI (mgN σ v w d up i j)) (hi : i < sC σ v) (hj : j < sC σ w) (hle : bg σ w (j + 1) + d < bg σ v (i + 1)) (h : ¬ max (bg σ v i) (bg σ w j + d) < bg σ w (j + 1) + d) : x = nI (mgN σ v w d up i (j + 1)) := by
  rw [mg_j hi hj hle, if_neg (fun q => h q.1)]; exact hx
theorem mx_jB (hx : x = nI (mgN σ v w d up i j)) (hi : i < sC σ v) (hj : j < sC σ w) (hle : bg σ w (j + 1) + d < bg σ v (i + 1)) (h : cls (sP σ v i) (sP σ w j) up = false) : x = nI (mgN σ v w d up i (j + 1)) := by
  rw [mg_j hi hj hle, if_neg (fun q => by rw [h] at q; exact absurd q.2 (by decide))]; exact hx
theorem mx_jC (hx : x = nI (mgN σ v w d up i j)) (hi : i < sC σ v) (hj : j < sC σ w) (hle : bg σ w (j + 1) + d < bg σ v (i + 1)) (h : cls (sP σ v i) (sP σ w j) up = true) (h2 : max (bg σ v i) (bg σ w j + d) < bg σ w (j + 1) + d) : x + (nI (min (bg σ v (i + 1)) (bg σ w (j + 1) + d)) - nI (max (bg σ v i) (bg σ w j + d))) = nI (mgN σ v w d up i (j + 1)) := by
  rw [mg_j hi hj hle, if_pos ⟨h2, h⟩, hx, show min (bg σ v (i + 1)) (bg σ w (j + 1) + d) = bg σ w (j + 1) + d by omega, pk_sub (by omega), nI_add]
/-- the first clash: none so far, and here is one -/
theorem fs_hit (h0 : mgN σ v w 0 up i j = 0) (hi : i < sC σ v) (hj : j < sC σ w) (h : cls (sP σ v i) (sP σ w j) up = true) (h2 : max (bg σ v i) (bg σ w j) < min (bg σ v (i + 1)) (bg σ w (j + 1))) (hb : bg σ v (i + 1) < 2 ^ 31) : fst (clT σ v w 0 up) (len σ v) = nI (max (bg σ v i) (bg σ w j)) := by
  have hm := bg_mono σ v (show i + 1 ≤ sC σ v by omega)
  refine fst_t (by omega) (fun t ht => cnt_0 h0 t (by show t < max (bg σ v i) (bg σ w j + 0); omega)) ?_ (by show _ < bg σ v (sC σ v); omega)
  rw [clT_in hi hj (by omega) (by omega) (by omega) (by omega)]
  exact h
theorem fs_no (h0 : mgN σ v w 0 up i j = 0) (h : i = sC σ v ∨ j = sC σ w) : fst (clT σ v w 0 up) (len σ v) = -1 := by
  have h1 := mg_e (σ := σ) (v := v) (w := w) (d := 0) (up := up) (i := i) (j := j) h
  exact fst_f (fun t ht => cnt_0 (h1.symm.trans h0) t ht)
theorem f0_i (h0 : mgN σ v w 0 up i j = 0) (hi : i < sC σ v) (hj : j < sC σ w) (hle : bg σ v (i + 1) ≤ bg σ w (j + 1)) (h : ¬ max (bg σ v i) (bg σ w j) < min (bg σ v (i + 1)) (bg σ w (j + 1)) ∨ cls (sP σ v i) (sP σ w j) up = false) : mgN σ v w 0 up (i + 1) j = 0 := by
  rw [mg_i hi hj (by omega), h0, if_neg]
  rintro ⟨q1, q2⟩
  rcases h with h | h
  · omega
  · rw [h] at q2; exact absurd q2 (by decide)
theorem f0_j (h0 : mgN σ v w 0 up i j = 0) (hi : i < sC σ v) (hj : j < sC σ w) (hle : bg σ w (j + 1) < bg σ v (i + 1)) (h : ¬ max (bg σ v i) (bg σ w j) < min (bg σ v (i + 1)) (bg σ w (j + 1)) ∨ cls (sP σ v i) (sP σ w j) up = false) : mgN σ v w 0 up i (j + 1) = 0 := by
  rw [mg_j hi hj (by omega), h0, if_neg]
  rintro ⟨q1, q2⟩
  rcases h with h | h
  · omega
  · rw [h] at q2; exact absurd q2 (by decide)
end MX
end
section
/-! THE CLASS: two voices -/
set_option maxHeartbeats 4000000 in
set_option maxRecDepth 100000 in
/-- in how many minims two voices clash -/
theorem cX1_clashingMinims_m (l : Launch) (g : GA) (A : Nat → Prop) (σ : St) (rest : va_W) (v w d0 : Nat) (u0 : Int32) (hv : v < 4) (hw : w < 4) (hI : Inv σ) (hd : d0 ≤ 48) : Met l yX1_clashingMinims wsX1_clashingMinims ({ frames := 2, cells := 0, slots := 0, locals := 46 }) (va_Pc [.ref (gV g v), .ref (gV g w), .int (nI d0), .int u0] (Cx g A (cw g σ ++ rest))) (vp_Si (fun r : Int32 => r = nI (clN σ v w d0 u0))) 0 0 (fun _ => False) := by
  refine Met.ofW (cc := cX1_clashingMinims) (maxL := 11) (ret := (some .int)) (by decide) rfl ?_
  intro p e s m args below meth c s₁ B hml hv0
  obtain ⟨rfl, hP, hD, hA, hK, hX⟩ := hv0
  have hx := B.exec
  have hb := B.bytes
  have hr := B.returns
  have hts := atoms_spec (ws := wsX1_clashingMinims) B.pre
  have hown : s.vm.findClass RX1 = some m.cls := findClass_of_methodNamed B.named
  have hlocks := B.notSynchronized
  have hS : va_S A s.heap s.heap [] := va_S.rf
  have hinX0 : ∀ w ∈ u_ws RX0 TX0 10, w ∈ wsX1_clashingMinims := by decide +kernel
  have hl := lv_entry ([.ref (gV g v), .ref (gV g w), .int (nI d0), .int u0]) (n := 11) (Nat.le_of_ble_eq_true rfl)
  rw [lg_entry_eq]
  generalize (lg_sl ([.ref (gV g v), .ref (gV g w), .int (nI d0), .int u0]) ++ List.replicate (11 - (lg_sl ([.ref (gV g v), .ref (gV g w), .int (nI d0), .int u0])).length) Slot.unset).toArray = ls at hl ⊢
  have hl : lv_has ls 11 [(0, .ref (gV g v)), (1, .ref (gV g w)), (2, .int (nI d0)), (3, .int u0)] := hl
  have hCv := hI.C v
  have hCw := hI.C w
  refine lv_iconst (v := 0) (pc := 0) hx hb dX1_clashingMinims_0 (by decide) ?_
  refine lv_istore (lv' := [(4, .int 0), (0, .ref (gV g v)), (1, .ref (gV g w)), (2, .int (nI d0)), (3, .int u0)]) (pc := 1) hx hb dX1_clashingMinims_1 hl (by decide) rfl (fun ls hl => ?_)
  refine lv_iconst (v := 0) (pc := 3) hx hb dX1_clashingMinims_3 (by decide) ?_
  refine lv_istore (lv' := [(5, .int 0), (4, .int 0), (0, .ref (gV g v)), (1, .ref (gV g w)), (2, .int (nI d0)), (3, .int u0)]) (pc := 4) hx hb dX1_clashingMinims_4 hl (by decide) rfl (fun ls hl => ?_)
  refine lv_iconst (v := 0) (pc := 6) hx hb dX1_clashingMinims_6 (by decide) ?_
  refine lv_istore (lv' := [(6, .int 0), (5, .int 0), (4, .int 0), (0, .ref (gV g v)), (1, .ref (gV g w)), (2, .int (nI d0)), (3, .int u0)]) (pc := 7) hx hb dX1_clashingMinims_7 hl (by decide) rfl (fun ls hl => ?_)
  refine k_loop3 (pc := 9) (nL := 11) (fun (i : Nat) (j : Nat) (x : Int32) => (i ≤ sC σ v ∧ j ≤ sC σ w) ∧ x = nI (mgN σ v w d0 u0 i j)) (fun (i : Nat) (j : Nat) (x : Int32) => sC σ v + sC σ w - i - j) (fun (i : Nat) (j : Nat) (x : Int32) => [(6, .int (nI j)), (5, .int (nI i)), (4, .int x), (0, .ref (gV g v)), (1, .ref (gV g w)), (2, .int (nI d0)), (3, .int u0)]) (fun i j x hI ih_9 ls hl => ?_) 0 0 0 ⟨⟨Nat.zero_le _, Nat.zero_le _⟩, by rw [mg_0]; rfl⟩ (lv_sub hl [0, 1, 2, 3, 4, 5, 6] rfl)
  obtain ⟨⟨hi0, hj0⟩, hx0⟩ := hI
  have hl : lv_has ls 11 [(6, .int (nI j)), (5, .int (nI i)), (4, .int x), (0, .ref (gV g v)), (1, .ref (gV g w)), (2, .int (nI d0)), (3, .int u0)] := hl
  refine lv_iload (pc := 9) hx hb dX1_clashingMinims_9 (lv_at hl 1 rfl) ?_
  refine lv_aload_n (pc := 11) hx hb dX1_clashingMinims_11 rfl (lv_at hl 3 rfl) ?_
  refine va_getN (v := .int (nI (sC σ v))) (pc := 12) (D := gD g) (ci := 0) (C := RX0) (T := TX0) (N := 10) hx hb hts hinX0 hown hK hP (2 + 6 * v) (cv0 g σ rest hv) rfl 4 (by decide) (va_Nw.use rfl (nf_64 hX)) (fun _ h9 => h9) rfl dX1_clashingMinims_12 ?_
  refine lv_icmp_ge (tgt := 130) (pc := 15) hx hb dX1_clashingMinims_15 (by decide) (fun c1 => ?_) (fun c1 => ?_)
  · have c1 : sC σ v ≤ i := (nI_leI (a := sC σ v) (b := i) (by omega) (by omega)).mp c1
    refine lv_iload (pc := 130) hx hb dX1_clashingMinims_130 (lv_at hl 2 rfl) ?_
    exact W.iret hx hb hr (fun t ht hW => ⟨_, rfl, (by rw [hx0, mg_e (by omega)]), ht⟩) (fun q hq => absurd hq List.not_mem_nil) dX1_clashingMinims_132
  · have c1 : ¬ (sC σ v ≤ i) := fun z => c1 ((nI_leI (a := sC σ v) (b := i) (by omega) (by omega)).mpr z)
    refine lv_iload (pc := 18) hx hb dX1_clashingMinims_18 (lv_at hl 0 rfl) ?_
    refine lv_aload_n (pc := 20) hx hb dX1_clashingMinims_20 rfl (lv_at hl 4 rfl) ?_
    refine va_getN (v := .int (nI (sC σ w))) (pc := 21) (D := gD g) (ci := 0) (C := RX0) (T := TX0) (N := 10) hx hb hts hinX0 hown hK hP (2 + 6 * w) (cv0 g σ rest hw) rfl 4 (by decide) (va_Nw.use rfl (nf_64 hX)) (fun _ h9 => h9) rfl dX1_clashingMinims_21 ?_
    refine lv_icmp_ge (tgt := 130) (pc := 24) hx hb dX1_clashingMinims_24 (by decide) (fun c2 => ?_) (fun c2 => ?_)
    · have c2 : sC σ w ≤ j := (nI_leI (a := sC σ w) (b := j) (by omega) (by omega)).mp c2
      refine lv_iload (pc := 130) hx hb dX1_clashingMinims_130 (lv_at hl 2 rfl) ?_
      exact W.iret hx hb hr (fun t ht hW => ⟨_, rfl, (by rw [hx0, mg_e (by omega)]), ht⟩) (fun q hq => absurd hq List.not_mem_nil) dX1_clashingMinims_132
    · have c2 : ¬ (sC σ w ≤ j) := fun z => c2 ((nI_leI (a := sC σ w) (b := j) (by omega) (by omega)).mpr z)
      have hi : i < sC σ v := by omega
      have hj : j < sC σ w := by omega
      have b1 := hI.bgC v (show i + 1 ≤ sC σ v by omega)
      have b2 := hI.bgC w (show j + 1 ≤ sC σ w by omega)
      have b3 := bg_mono σ v (show i ≤ i + 1 by omega)
      have b4 := bg_mono σ w (show j ≤ j + 1 by omega)
      refine lv_aload_n (pc := 27) hx hb dX1_clashingMinims_27 rfl (lv_at hl 3 rfl) ?_
      refine va_getN (v := .ref (gA g v 4)) (pc := 28) (D := gD g) (ci := 0) (C := RX0) (T := TX0) (N := 10) hx hb hts hinX0 hown hK hP (2 + 6 * v) (cv0 g σ rest hv) rfl 9 (by decide) (va_Nw.use rfl (nf_116 hX)) (fun _ h9 => h9) rfl dX1_clashingMinims_28 ?_
      refine lv_iload (pc := 31) hx hb dX1_clashingMinims_31 (lv_at hl 1 rfl) ?_
      refine lv_iconst (v := 1) (pc := 33) hx hb dX1_clashingMinims_33 (by decide) ?_
      refine lv_iadd (pc := 34) hx hb dX1_clashingMinims_34 ?_
      refine k_cong (y := nI (i + 1)) (nI_1 i) ?_
      refine k_iald (pc := 35) (x := sB σ v (i + 1)) hx hb hK hP (7 + 6 * v) 0 (cv5 g σ rest hv) rfl (i + 1) rfl (by omega) (by decide) rfl dX1_clashingMinims_35 ?_
      refine k_cong (y := nI (bg σ v (i + 1))) (hI.B (by omega)) ?_
      refine lv_istore (lv' := [(7, .int (nI (bg σ v (i + 1)))), (6, .int (nI j)), (5, .int (nI i)), (4, .int x), (0, .ref (gV g v)), (1, .ref (gV g w)), (2, .int (nI d0)), (3, .int u0)]) (pc := 36) hx hb dX1_clashingMinims_36 hl (by decide) rfl (fun ls hl => ?_)
      refine lv_aload_n (pc := 38) hx hb dX1_clashingMinims_38 rfl (lv_at hl 5 rfl) ?_
      refine va_getN (v := .ref (gA g w 4)) (pc := 39) (D := gD g) (ci := 0) (C := RX0) (T := TX0) (N := 10) hx hb hts hinX0 hown hK hP (2 + 6 * w) (cv0 g σ rest hw) rfl 9 (by decide) (va_Nw.use rfl (nf_116 hX)) (fun _ h9 => h9) rfl dX1_clashingMinims_39 ?_
      refine lv_iload (pc := 42) hx hb dX1_clashingMinims_42 (lv_at hl 1 rfl) ?_
      refine lv_iconst (v := 1) (pc := 44) hx hb dX1_clashingMinims_44 (by decide) ?_
      refine lv_iadd (pc := 45) hx hb dX1_clashingMinims_45 ?_
      refine k_cong (y := nI (j + 1)) (nI_1 j) ?_
      refine k_iald (pc := 46) (x := sB σ w (j + 1)) hx hb hK hP (7 + 6 * w) 0 (cv5 g σ rest hw) rfl (j + 1) rfl (by omega) (by decide) rfl dX1_clashingMinims_46 ?_
      refine k_cong (y := nI (bg σ w (j + 1))) (hI.B (by omega)) ?_
      refine lv_iload_n (pc := 47) hx hb dX1_clashingMinims_47 rfl (lv_at hl 6 rfl) ?_
      refine lv_iadd (pc := 48) hx hb dX1_clashingMinims_48 ?_
      refine k_cong (y := nI (bg σ w (j + 1) + d0)) (nI_add _ _) ?_
      refine lv_istore (lv' := [(8, .int (nI (bg σ w (j + 1) + d0))), (7, .int (nI (bg σ v (i + 1)))), (6, .int (nI j)), (5, .int (nI i)), (4, .int x), (0, .ref (gV g v)), (1, .ref (gV g w)), (2, .int (nI d0)), (3, .int u0)]) (pc := 49) hx hb dX1_clashingMinims_49 hl (by decide) rfl (fun ls hl => ?_)
      refine lv_aload_n (pc := 51) hx hb dX1_clashingMinims_51 rfl (lv_at hl 5 rfl) ?_
      refine va_getN (v := .ref (gA g v 4)) (pc := 52) (D := gD g) (ci := 0) (C := RX0) (T := TX0) (N := 10) hx hb hts hinX0 hown hK hP (2 + 6 * v) (cv0 g σ rest hv) rfl 9 (by decide) (va_Nw.use rfl (nf_116 hX)) (fun _ h9 => h9) rfl dX1_clashingMinims_52 ?_
      refine lv_iload (pc := 55) hx hb dX1_clashingMinims_55 (lv_at hl 3 rfl) ?_
      refine k_iald (pc := 57) (x := sB σ v i) hx hb hK hP (7 + 6 * v) 0 (cv5 g σ rest hv) rfl i rfl (by omega) (by decide) rfl dX1_clashingMinims_57 ?_
      refine k_cong (y := nI (bg σ v i)) (hI.B (by omega)) ?_
      refine lv_aload_n (pc := 58) hx hb dX1_clashingMinims_58 rfl (lv_at hl 6 rfl) ?_
      refine va_getN (v := .ref (gA g w 4)) (pc := 59) (D := gD g) (ci := 0) (C := RX0) (T := TX0) (N := 10) hx hb hts hinX0 hown hK hP (2 + 6 * w) (cv0 g σ rest hw) rfl 9 (by decide) (va_Nw.use rfl (nf_116 hX)) (fun _ h9 => h9) rfl dX1_clashingMinims_59 ?_
      refine lv_iload (pc := 62) hx hb dX1_clashingMinims_62 (lv_at hl 2 rfl) ?_
      refine k_iald (pc := 64) (x := sB σ w j) hx hb hK hP (7 + 6 * w) 0 (cv5 g σ rest hw) rfl j rfl (by omega) (by decide) rfl dX1_clashingMinims_64 ?_
      refine k_cong (y := nI (bg σ w j)) (hI.B (by omega)) ?_
      refine lv_iload_n (pc := 65) hx hb dX1_clashingMinims_65 rfl (lv_at hl 7 rfl) ?_
      refine lv_iadd (pc := 66) hx hb dX1_clashingMinims_66 ?_
      refine k_cong (y := nI (bg σ w j + d0)) (nI_add _ _) ?_
      refine va_mmax (pc := 67) hx hb (hml.trans hl.1.symm) hown (hts (.methodLink RX1 119 Lib.Math.max.name) (by decide +kernel)) (hts (.static Lib.Math.max.name) (by decide +kernel)) (hts (.initialized "java/lang/Math") (by decide +kernel)) (hts (.code Lib.Math.max.name Lib.Math.max.code 2 (some .int)) (by decide +kernel)) (Nat.le_of_ble_eq_true rfl) (Nat.le_of_ble_eq_true rfl) (Nat.le_of_ble_eq_true rfl) (Nat.le_of_ble_eq_true rfl) dX1_clashingMinims_67 ?_
      refine k_cong (y := nI (max (bg σ v i) (bg σ w j + d0))) (mxI (by omega) (by omega)) ?_
      refine lv_istore (lv' := [(9, .int (nI (max (bg σ v i) (bg σ w j + d0)))), (8, .int (nI (bg σ w (j + 1) + d0))), (7, .int (nI (bg σ v (i + 1)))), (6, .int (nI j)), (5, .int (nI i)), (4, .int x), (0, .ref (gV g v)), (1, .ref (gV g w)), (2, .int (nI d0)), (3, .int u0)]) (pc := 70) hx hb dX1_clashingMinims_70 hl (by decide) rfl (fun ls hl => ?_)
      refine lv_iload (pc := 72) hx hb dX1_clashingMinims_72 (lv_at hl 2 rfl) ?_
      refine lv_iload (pc := 74) hx hb dX1_clashingMinims_74 (lv_at hl 1 rfl) ?_
      refine va_mmin (pc := 76) hx hb (hml.trans hl.1.symm) hown (hts (.methodLink RX1 190 Lib.Math.min.name) (by decide +kernel)) (hts (.static Lib.Math.min.name) (by decide +kernel)) (hts (.initialized "java/lang/Math") (by decide +kernel)) (hts (.code Lib.Math.min.name Lib.Math.min.code 2 (some .int)) (by decide +kernel)) (Nat.le_of_ble_eq_true rfl) (Nat.le_of_ble_eq_true rfl) (Nat.le_of_ble_eq_true rfl) (Nat.le_of_ble_eq_true rfl) dX1_clashingMinims_76 ?_
      refine k_cong (y := nI (min (bg σ v (i + 1)) (bg σ w (j + 1) + d0))) (mnI (by omega) (by omega)) ?_
      refine lv_istore (lv' := [(10, .int (nI (min (bg σ v (i + 1)) (bg σ w (j + 1) + d0)))), (9, .int (nI (max (bg σ v i) (bg σ w j + d0)))), (8, .int (nI (bg σ w (j + 1) + d0))), (7, .int (nI (bg σ v (i + 1)))), (6, .int (nI j)), (5, .int (nI i)), (4, .int x), (0, .ref (gV g v)), (1, .ref (gV g w)), (2, .int (nI d0)), (3, .int u0)]) (pc := 79) hx hb dX1_clashingMinims_79 hl (by decide) rfl (fun ls hl => ?_)
      refine lv_iload (pc := 81) hx hb dX1_clashingMinims_81 (lv_at hl 1 rfl) ?_
      refine lv_iload (pc := 83) hx hb dX1_clashingMinims_83 (lv_at hl 0 rfl) ?_
      refine lv_icmp_ge (tgt := 111) (pc := 85) hx hb dX1_clashingMinims_85 (by decide) (fun c3 => ?_) (fun c3 => ?_)
      · have c3 : min (bg σ v (i + 1)) (bg σ w (j + 1) + d0) ≤ max (bg σ v i) (bg σ w j + d0) := (nI_leI (a := min (bg σ v (i + 1)) (bg σ w (j + 1) + d0)) (b := max (bg σ v i) (bg σ w j + d0)) (by omega) (by omega)).mp c3
        refine lv_iload (pc := 111) hx hb dX1_clashingMinims_111 (lv_at hl 3 rfl) ?_
        refine lv_iload (pc := 113) hx hb dX1_clashingMinims_113 (lv_at hl 2 rfl) ?_
        refine lv_icmp_gt (tgt := 124) (pc := 115) hx hb dX1_clashingMinims_115 (by decide) (fun c5 => ?_) (fun c5 => ?_)
        · have c5 : bg σ w (j + 1) + d0 < bg σ v (i + 1) := (nI_ltI (a := bg σ w (j + 1) + d0) (b := bg σ v (i + 1)) (by omega) (by omega)).mp c5
          refine lv_iinc (v := nI (j + 1)) (lv' := [(6, .int (nI (j + 1))), (10, .int (nI (min (bg σ v (i + 1)) (bg σ w (j + 1) + d0)))), (9, .int (nI (max (bg σ v i) (bg σ w j + d0)))), (8, .int (nI (bg σ w (j + 1) + d0))), (7, .int (nI (bg σ v (i + 1)))), (5, .int (nI i)), (4, .int x), (0, .ref (gV g v)), (1, .ref (gV g w)), (2, .int (nI d0)), (3, .int u0)]) (pc := 124) hx hb dX1_clashingMinims_124 hl (k := 4) rfl (nI_1 _) (by decide) rfl (fun ls hl => ?_)
          refine lv_goto (tgt := 9) (pc := 127) hx hb dX1_clashingMinims_127 (by decide) ?_
          exact ih_9 i (j + 1) x ⟨⟨by omega, by omega⟩, by first | exact mx_iA hx0 hi hj (by omega) (by omega) | exact mx_iB hx0 hi hj (by omega) c4 | exact mx_iC hx0 hi hj (by omega) c4 (by omega) | exact mx_jA hx0 hi hj (by omega) (by omega) | exact mx_jB hx0 hi hj (by omega) c4 | exact mx_jC hx0 hi hj (by omega) c4 (by omega)⟩ (by omega) _ (lv_sub hl [0, 5, 6, 7, 8, 9, 10] rfl)
        · have c5 : ¬ (bg σ w (j + 1) + d0 < bg σ v (i + 1)) := fun z => c5 ((nI_ltI (a := bg σ w (j + 1) + d0) (b := bg σ v (i + 1)) (by omega) (by omega)).mpr z)
          refine lv_iinc (v := nI (i + 1)) (lv' := [(5, .int (nI (i + 1))), (10, .int (nI (min (bg σ v (i + 1)) (bg σ w (j + 1) + d0)))), (9, .int (nI (max (bg σ v i) (bg σ w j + d0)))), (8, .int (nI (bg σ w (j + 1) + d0))), (7, .int (nI (bg σ v (i + 1)))), (6, .int (nI j)), (4, .int x), (0, .ref (gV g v)), (1, .ref (gV g w)), (2, .int (nI d0)), (3, .int u0)]) (pc := 118) hx hb dX1_clashingMinims_118 hl (k := 5) rfl (nI_1 _) (by decide) rfl (fun ls hl => ?_)
          refine lv_goto (tgt := 127) (pc := 121) hx hb dX1_clashingMinims_121 (by decide) ?_
          refine lv_goto (tgt := 9) (pc := 127) hx hb dX1_clashingMinims_127 (by decide) ?_
          exact ih_9 (i + 1) j x ⟨⟨by omega, by omega⟩, by first | exact mx_iA hx0 hi hj (by omega) (by omega) | exact mx_iB hx0 hi hj (by omega) c4 | exact mx_iC hx0 hi hj (by omega) c4 (by omega) | exact mx_jA hx0 hi hj (by omega) (by omega) | exact mx_jB hx0 hi hj (by omega) c4 | exact mx_jC hx0 hi hj (by omega) c4 (by omega)⟩ (by omega) _ (lv_sub hl [5, 0, 6, 7, 8, 9, 10] rfl)
      · have c3 : ¬ (min (bg σ v (i + 1)) (bg σ w (j + 1) + d0) ≤ max (bg σ v i) (bg σ w j + d0)) := fun z => c3 ((nI_leI (a := min (bg σ v (i + 1)) (bg σ w (j + 1) + d0)) (b := max (bg σ v i) (bg σ w j + d0)) (by omega) (by omega)).mpr z)
        refine lv_aload_n (pc := 88) hx hb dX1_clashingMinims_88 rfl (lv_at hl 7 rfl) ?_
        refine lv_iload (pc := 89) hx hb dX1_clashingMinims_89 (lv_at hl 5 rfl) ?_
        refine lv_aload_n (pc := 91) hx hb dX1_clashingMinims_91 rfl (lv_at hl 8 rfl) ?_
        refine lv_iload (pc := 92) hx hb dX1_clashingMinims_92 (lv_at hl 4 rfl) ?_
        refine lv_iload_n (pc := 94) hx hb dX1_clashingMinims_94 rfl (lv_at hl 10 rfl) ?_
        refine k_ri (pc := 95) (va_runS (As := [.ref (gV g v), .int (nI i), .ref (gV g w), .int (nI j), .int u0]) (rest := []) ⟨hx, hb, hml, hown, hts⟩ (cX1_signsClash_m l g A σ rest v w i j u0 hv hw (by omega) (by omega)) (va_cwS 5 hts gX1_clashingMinims_X1_signsClash rfl rfl rfl (by decide +kernel) ⟨Nat.le_of_ble_eq_true rfl, Nat.le_of_ble_eq_true rfl⟩) (cx_S hP hD hA hK hX hS) rfl rfl hl.1 rfl (lv_room (Nat.le_of_ble_eq_true rfl)) dX1_clashingMinims_95 ⟨Nat.le_of_ble_eq_true rfl, Nat.le_of_ble_eq_true rfl⟩) (fun r_5 hr_5 => ?_)
        subst hr_5
        refine lv_if_eq (tgt := 111) (pc := 98) hx hb dX1_clashingMinims_98 (by decide) (fun c4 => ?_) (fun c4 => ?_)
        · have c4 := bI_0.mp c4
          refine lv_iload (pc := 111) hx hb dX1_clashingMinims_111 (lv_at hl 3 rfl) ?_
          refine lv_iload (pc := 113) hx hb dX1_clashingMinims_113 (lv_at hl 2 rfl) ?_
          refine lv_icmp_gt (tgt := 124) (pc := 115) hx hb dX1_clashingMinims_115 (by decide) (fun c5 => ?_) (fun c5 => ?_)
          · have c5 : bg σ w (j + 1) + d0 < bg σ v (i + 1) := (nI_ltI (a := bg σ w (j + 1) + d0) (b := bg σ v (i + 1)) (by omega) (by omega)).mp c5
            refine lv_iinc (v := nI (j + 1)) (lv' := [(6, .int (nI (j + 1))), (10, .int (nI (min (bg σ v (i + 1)) (bg σ w (j + 1) + d0)))), (9, .int (nI (max (bg σ v i) (bg σ w j + d0)))), (8, .int (nI (bg σ w (j + 1) + d0))), (7, .int (nI (bg σ v (i + 1)))), (5, .int (nI i)), (4, .int x), (0, .ref (gV g v)), (1, .ref (gV g w)), (2, .int (nI d0)), (3, .int u0)]) (pc := 124) hx hb dX1_clashingMinims_124 hl (k := 4) rfl (nI_1 _) (by decide) rfl (fun ls hl => ?_)
            refine lv_goto (tgt := 9) (pc := 127) hx hb dX1_clashingMinims_127 (by decide) ?_
            exact ih_9 i (j + 1) x ⟨⟨by omega, by omega⟩, by first | exact mx_iA hx0 hi hj (by omega) (by omega) | exact mx_iB hx0 hi hj (by omega) c4 | exact mx_iC hx0 hi hj (by omega) c4 (by omega) | exact mx_jA hx0 hi hj (by omega) (by omega) | exact mx_jB hx0 hi hj (by omega) c4 | exact mx_jC hx0 hi hj (by omega) c4 (by omega)⟩ (by omega) _ (lv_sub hl [0, 5, 6, 7, 8, 9, 10] rfl)
          · have c5 : ¬ (bg σ w (j + 1) + d0 < bg σ v (i + 1)) := fun z => c5 ((nI_ltI (a := bg σ w (j + 1) + d0) (b := bg σ v (i + 1)) (by omega) (by omega)).mpr z)
            refine lv_iinc (v := nI (i + 1)) (lv' := [(5, .int (nI (i + 1))), (10, .int (nI (min (bg σ v (i + 1)) (bg σ w (j + 1) + d0)))), (9, .int (nI (max (bg σ v i) (bg σ w j + d0)))), (8, .int (nI (bg σ w (j + 1) + d0))), (7, .int (nI (bg σ v (i + 1)))), (6, .int (nI j)), (4, .int x), (0, .ref (gV g v)), (1, .ref (gV g w)), (2, .int (nI d0)), (3, .int u0)]) (pc := 118) hx hb dX1_clashingMinims_118 hl (k := 5) rfl (nI_1 _) (by decide) rfl (fun ls hl => ?_)
            refine lv_goto (tgt := 127) (pc := 121) hx hb dX1_clashingMinims_121 (by decide) ?_
            refine lv_goto (tgt := 9) (pc := 127) hx hb dX1_clashingMinims_127 (by decide) ?_
            exact ih_9 (i + 1) j x ⟨⟨by omega, by omega⟩, by first | exact mx_iA hx0 hi hj (by omega) (by omega) | exact mx_iB hx0 hi hj (by omega) c4 | exact mx_iC hx0 hi hj (by omega) c4 (by omega) | exact mx_jA hx0 hi hj (by omega) (by omega) | exact mx_jB hx0 hi hj (by omega) c4 | exact mx_jC hx0 hi hj (by omega) c4 (by omega)⟩ (by omega) _ (lv_sub hl [5, 0, 6, 7, 8, 9, 10] rfl)
        · have c4 := bI_n0.mp c4
          refine lv_iload (pc := 101) hx hb dX1_clashingMinims_101 (lv_at hl 6 rfl) ?_
          refine lv_iload (pc := 103) hx hb dX1_clashingMinims_103 (lv_at hl 0 rfl) ?_
          refine lv_iload (pc := 105) hx hb dX1_clashingMinims_105 (lv_at hl 1 rfl) ?_
          refine lv_isub (pc := 107) hx hb dX1_clashingMinims_107 ?_
          refine lv_iadd (pc := 108) hx hb dX1_clashingMinims_108 ?_
          refine lv_istore (lv' := [(4, .int (x + ((nI (min (bg σ v (i + 1)) (bg σ w (j + 1) + d0))) - (nI (max (bg σ v i) (bg σ w j + d0)))))), (10, .int (nI (min (bg σ v (i + 1)) (bg σ w (j + 1) + d0)))), (9, .int (nI (max (bg σ v i) (bg σ w j + d0)))), (8, .int (nI (bg σ w (j + 1) + d0))), (7, .int (nI (bg σ v (i + 1)))), (6, .int (nI j)), (5, .int (nI i)), (0, .ref (gV g v)), (1, .ref (gV g w)), (2, .int (nI d0)), (3, .int u0)]) (pc := 109) hx hb dX1_clashingMinims_109 hl (by decide) rfl (fun ls hl => ?_)
          refine lv_iload (pc := 111) hx hb dX1_clashingMinims_111 (lv_at hl 4 rfl) ?_
          refine lv_iload (pc := 113) hx hb dX1_clashingMinims_113 (lv_at hl 3 rfl) ?_
          refine lv_icmp_gt (tgt := 124) (pc := 115) hx hb dX1_clashingMinims_115 (by decide) (fun c5 => ?_) (fun c5 => ?_)
          · have c5 : bg σ w (j + 1) + d0 < bg σ v (i + 1) := (nI_ltI (a := bg σ w (j + 1) + d0) (b := bg σ v (i + 1)) (by omega) (by omega)).mp c5
            refine lv_iinc (v := nI (j + 1)) (lv' := [(6, .int (nI (j + 1))), (4, .int (x + ((nI (min (bg σ v (i + 1)) (bg σ w (j + 1) + d0))) - (nI (max (bg σ v i) (bg σ w j + d0)))))), (10, .int (nI (min (bg σ v (i + 1)) (bg σ w (j + 1) + d0)))), (9, .int (nI (max (bg σ v i) (bg σ w j + d0)))), (8, .int (nI (bg σ w (j + 1) + d0))), (7, .int (nI (bg σ v (i + 1)))), (5, .int (nI i)), (0, .ref (gV g v)), (1, .ref (gV g w)), (2, .int (nI d0)), (3, .int u0)]) (pc := 124) hx hb dX1_clashingMinims_124 hl (k := 5) rfl (nI_1 _) (by decide) rfl (fun ls hl => ?_)
            refine lv_goto (tgt := 9) (pc := 127) hx hb dX1_clashingMinims_127 (by decide) ?_
            exact ih_9 i (j + 1) (x + ((nI (min (bg σ v (i + 1)) (bg σ w (j + 1) + d0))) - (nI (max (bg σ v i) (bg σ w j + d0))))) ⟨⟨by omega, by omega⟩, by first | exact mx_iA hx0 hi hj (by omega) (by omega) | exact mx_iB hx0 hi hj (by omega) c4 | exact mx_iC hx0 hi hj (by omega) c4 (by omega) | exact mx_jA hx0 hi hj (by omega) (by omega) | exact mx_jB hx0 hi hj (by omega) c4 | exact mx_jC hx0 hi hj (by omega) c4 (by omega)⟩ (by omega) _ (lv_sub hl [0, 6, 1, 7, 8, 9, 10] rfl)
          · have c5 : ¬ (bg σ w (j + 1) + d0 < bg σ v (i + 1)) := fun z => c5 ((nI_ltI (a := bg σ w (j + 1) + d0) (b := bg σ v (i + 1)) (by omega) (by omega)).mpr z)
            refine lv_iinc (v := nI (i + 1)) (lv' := [(5, .int (nI (i + 1))), (4, .int (x + ((nI (min (bg σ v (i + 1)) (bg σ w (j + 1) + d0))) - (nI (max (bg σ v i) (bg σ w j + d0)))))), (10, .int (nI (min (bg σ v (i + 1)) (bg σ w (j + 1) + d0)))), (9, .int (nI (max (bg σ v i) (bg σ w j + d0)))), (8, .int (nI (bg σ w (j + 1) + d0))), (7, .int (nI (bg σ v (i + 1)))), (6, .int (nI j)), (0, .ref (gV g v)), (1, .ref (gV g w)), (2, .int (nI d0)), (3, .int u0)]) (pc := 118) hx hb dX1_clashingMinims_118 hl (k := 6) rfl (nI_1 _) (by decide) rfl (fun ls hl => ?_)
            refine lv_goto (tgt := 127) (pc := 121) hx hb dX1_clashingMinims_121 (by decide) ?_
            refine lv_goto (tgt := 9) (pc := 127) hx hb dX1_clashingMinims_127 (by decide) ?_
            exact ih_9 (i + 1) j (x + ((nI (min (bg σ v (i + 1)) (bg σ w (j + 1) + d0))) - (nI (max (bg σ v i) (bg σ w j + d0))))) ⟨⟨by omega, by omega⟩, by first | exact mx_iA hx0 hi hj (by omega) (by omega) | exact mx_iB hx0 hi hj (by omega) c4 | exact mx_iC hx0 hi hj (by omega) c4 (by omega) | exact mx_jA hx0 hi hj (by omega) (by omega) | exact mx_jB hx0 hi hj (by omega) c4 | exact mx_jC hx0 hi hj (by omega) c4 (by omega)⟩ (by omega) _ (lv_sub hl [6, 0, 1, 7, 8, 9, 10] rfl)
set_option maxHeartbeats 4000000 in
set_option maxRecDepth 100000 in
/-- the first minim in which two voices clash -/
theorem cX1_firstClashingMinim_m (l : Launch) (g : GA) (A : Nat → Prop) (σ : St) (rest : va_W) (v w : Nat) (u0 : Int32) (hv : v < 4) (hw : w < 4) (hI : Inv σ) : Met l yX1_firstClashingMinim wsX1_firstClashingMinim ({ frames := 2, cells := 0, slots := 0, locals := 46 }) (va_Pc [.ref (gV g v), .ref (gV g w), .int u0] (Cx g A (cw g σ ++ rest))) (vp_Si (fun r : Int32 => r = fst (clT σ v w 0 u0) (len σ v))) 0 0 (fun _ => False) := by
  refine Met.ofW (cc := cX1_firstClashingMinim) (maxL := 9) (ret := (some .int)) (by decide) rfl ?_
  intro p e s m args below meth c s₁ B hml hv0
  obtain ⟨rfl, hP, hD, hA, hK, hX⟩ := hv0
  have hx := B.exec
  have hb := B.bytes
  have hr := B.returns
  have hts := atoms_spec (ws := wsX1_firstClashingMinim) B.pre
  have hown : s.vm.findClass RX1 = some m.cls := findClass_of_methodNamed B.named
  have hlocks := B.notSynchronized
  have hS : va_S A s.heap s.heap [] := va_S.rf
  have hinX0 : ∀ w ∈ u_ws RX0 TX0 10, w ∈ wsX1_firstClashingMinim := by decide +kernel
  have hl := lv_entry ([.ref (gV g v), .ref (gV g w), .int u0]) (n := 9) (Nat.le_of_ble_eq_true rfl)
  rw [lg_entry_eq]
  generalize (lg_sl ([.ref (gV g v), .ref (gV g w), .int u0]) ++ List.replicate (9 - (lg_sl ([.ref (gV g v), .ref (gV g w), .int u0])).length) Slot.unset).toArray = ls at hl ⊢
  have hl : lv_has ls 9 [(0, .ref (gV g v)), (1, .ref (gV g w)), (2, .int u0)] := hl
  have hCv := hI.C v
  have hCw := hI.C w
  refine lv_iconst (v := 0) (pc := 0) hx hb dX1_firstClashingMinim_0 (by decide) ?_
  refine lv_istore_n (lv' := [(3, .int 0), (0, .ref (gV g v)), (1, .ref (gV g w)), (2, .int u0)]) (pc := 1) hx hb dX1_firstClashingMinim_1 rfl hl (by decide) rfl (fun ls hl => ?_)
  refine lv_iconst (v := 0) (pc := 2) hx hb dX1_firstClashingMinim_2 (by decide) ?_
  refine lv_istore (lv' := [(4, .int 0), (3, .int 0), (0, .ref (gV g v)), (1, .ref (gV g w)), (2, .int u0)]) (pc := 3) hx hb dX1_firstClashingMinim_3 hl (by decide) rfl (fun ls hl => ?_)
  refine k_loop2 (pc := 5) (nL := 9) (fun (i : Nat) (j : Nat) => (i ≤ sC σ v ∧ j ≤ sC σ w) ∧ mgN σ v w 0 u0 i j = 0) (fun (i : Nat) (j : Nat) => sC σ v + sC σ w - i - j) (fun (i : Nat) (j : Nat) => [(4, .int (nI j)), (3, .int (nI i)), (0, .ref (gV g v)), (1, .ref (gV g w)), (2, .int u0)]) (fun i j hI ih_5 ls hl => ?_) 0 0 ⟨⟨Nat.zero_le _, Nat.zero_le _⟩, mg_0⟩ (lv_sub hl [0, 1, 2, 3, 4] rfl)
  obtain ⟨⟨hi0, hj0⟩, h0⟩ := hI
  have hl : lv_has ls 9 [(4, .int (nI j)), (3, .int (nI i)), (0, .ref (gV g v)), (1, .ref (gV g w)), (2, .int u0)] := hl
  refine lv_iload_n (pc := 5) hx hb dX1_firstClashingMinim_5 rfl (lv_at hl 1 rfl) ?_
  refine lv_aload_n (pc := 6) hx hb dX1_firstClashingMinim_6 rfl (lv_at hl 2 rfl) ?_
  refine va_getN (v := .int (nI (sC σ v))) (pc := 7) (D := gD g) (ci := 0) (C := RX0) (T := TX0) (N := 10) hx hb hts hinX0 hown hK hP (2 + 6 * v) (cv0 g σ rest hv) rfl 4 (by decide) (va_Nw.use rfl (nf_64 hX)) (fun _ h9 => h9) rfl dX1_firstClashingMinim_7 ?_
  refine lv_icmp_ge (tgt := 111) (pc := 10) hx hb dX1_firstClashingMinim_10 (by decide) (fun c1 => ?_) (fun c1 => ?_)
  · have c1 : sC σ v ≤ i := (nI_leI (a := sC σ v) (b := i) (by omega) (by omega)).mp c1
    refine lv_iconst (v := (-1)) (pc := 111) hx hb dX1_firstClashingMinim_111 (by decide) ?_
    exact W.iret hx hb hr (fun t ht hW => ⟨_, rfl, (fs_no h0 (by omega)).symm, ht⟩) (fun q hq => absurd hq List.not_mem_nil) dX1_firstClashingMinim_112
  · have c1 : ¬ (sC σ v ≤ i) := fun z => c1 ((nI_leI (a := sC σ v) (b := i) (by omega) (by omega)).mpr z)
    refine lv_iload (pc := 13) hx hb dX1_firstClashingMinim_13 (lv_at hl 0 rfl) ?_
    refine lv_aload_n (pc := 15) hx hb dX1_firstClashingMinim_15 rfl (lv_at hl 3 rfl) ?_
    refine va_getN (v := .int (nI (sC σ w))) (pc := 16) (D := gD g) (ci := 0) (C := RX0) (T := TX0) (N := 10) hx hb hts hinX0 hown hK hP (2 + 6 * w) (cv0 g σ rest hw) rfl 4 (by decide) (va_Nw.use rfl (nf_64 hX)) (fun _ h9 => h9) rfl dX1_firstClashingMinim_16 ?_
    refine lv_icmp_ge (tgt := 111) (pc := 19) hx hb dX1_firstClashingMinim_19 (by decide) (fun c2 => ?_) (fun c2 => ?_)
    · have c2 : sC σ w ≤ j := (nI_leI (a := sC σ w) (b := j) (by omega) (by omega)).mp c2
      refine lv_iconst (v := (-1)) (pc := 111) hx hb dX1_firstClashingMinim_111 (by decide) ?_
      exact W.iret hx hb hr (fun t ht hW => ⟨_, rfl, (fs_no h0 (by omega)).symm, ht⟩) (fun q hq => absurd hq List.not_mem_nil) dX1_firstClashingMinim_112
    · have c2 : ¬ (sC σ w ≤ j) := fun z => c2 ((nI_leI (a := sC σ w) (b := j) (by omega) (by omega)).mpr z)
      have hi : i < sC σ v := by omega
      have hj : j < sC σ w := by omega
      have b1 := hI.bgC v (show i + 1 ≤ sC σ v by omega)
      have b2 := hI.bgC w (show j + 1 ≤ sC σ w by omega)
      have b3 := bg_mono σ v (show i ≤ i + 1 by omega)
      have b4 := bg_mono σ w (show j ≤ j + 1 by omega)
      refine lv_aload_n (pc := 22) hx hb dX1_firstClashingMinim_22 rfl (lv_at hl 2 rfl) ?_
      refine va_getN (v := .ref (gA g v 4)) (pc := 23) (D := gD g) (ci := 0) (C := RX0) (T := TX0) (N := 10) hx hb hts hinX0 hown hK hP (2 + 6 * v) (cv0 g σ rest hv) rfl 9 (by decide) (va_Nw.use rfl (nf_116 hX)) (fun _ h9 => h9) rfl dX1_firstClashingMinim_23 ?_
      refine lv_iload_n (pc := 26) hx hb dX1_firstClashingMinim_26 rfl (lv_at hl 1 rfl) ?_
      refine lv_iconst (v := 1) (pc := 27) hx hb dX1_firstClashingMinim_27 (by decide) ?_
      refine lv_iadd (pc := 28) hx hb dX1_firstClashingMinim_28 ?_
      refine k_cong (y := nI (i + 1)) (nI_1 i) ?_
      refine k_iald (pc := 29) (x := sB σ v (i + 1)) hx hb hK hP (7 + 6 * v) 0 (cv5 g σ rest hv) rfl (i + 1) rfl (by omega) (by decide) rfl dX1_firstClashingMinim_29 ?_
      refine k_cong (y := nI (bg σ v (i + 1))) (hI.B (by omega)) ?_
      refine lv_istore (lv' := [(5, .int (nI (bg σ v (i + 1)))), (4, .int (nI j)), (3, .int (nI i)), (0, .ref (gV g v)), (1, .ref (gV g w)), (2, .int u0)]) (pc := 30) hx hb dX1_firstClashingMinim_30 hl (by decide) rfl (fun ls hl => ?_)
      refine lv_aload_n (pc := 32) hx hb dX1_firstClashingMinim_32 rfl (lv_at hl 4 rfl) ?_
      refine va_getN (v := .ref (gA g w 4)) (pc := 33) (D := gD g) (ci := 0) (C := RX0) (T := TX0) (N := 10) hx hb hts hinX0 hown hK hP (2 + 6 * w) (cv0 g σ rest hw) rfl 9 (by decide) (va_Nw.use rfl (nf_116 hX)) (fun _ h9 => h9) rfl dX1_firstClashingMinim_33 ?_
      refine lv_iload (pc := 36) hx hb dX1_firstClashingMinim_36 (lv_at hl 1 rfl) ?_
      refine lv_iconst (v := 1) (pc := 38) hx hb dX1_firstClashingMinim_38 (by decide) ?_
      refine lv_iadd (pc := 39) hx hb dX1_firstClashingMinim_39 ?_
      refine k_cong (y := nI (j + 1)) (nI_1 j) ?_
      refine k_iald (pc := 40) (x := sB σ w (j + 1)) hx hb hK hP (7 + 6 * w) 0 (cv5 g σ rest hw) rfl (j + 1) rfl (by omega) (by decide) rfl dX1_firstClashingMinim_40 ?_
      refine k_cong (y := nI (bg σ w (j + 1))) (hI.B (by omega)) ?_
      refine lv_istore (lv' := [(6, .int (nI (bg σ w (j + 1)))), (5, .int (nI (bg σ v (i + 1)))), (4, .int (nI j)), (3, .int (nI i)), (0, .ref (gV g v)), (1, .ref (gV g w)), (2, .int u0)]) (pc := 41) hx hb dX1_firstClashingMinim_41 hl (by decide) rfl (fun ls hl => ?_)
      refine lv_aload_n (pc := 43) hx hb dX1_firstClashingMinim_43 rfl (lv_at hl 4 rfl) ?_
      refine va_getN (v := .ref (gA g v 4)) (pc := 44) (D := gD g) (ci := 0) (C := RX0) (T := TX0) (N := 10) hx hb hts hinX0 hown hK hP (2 + 6 * v) (cv0 g σ rest hv) rfl 9 (by decide) (va_Nw.use rfl (nf_116 hX)) (fun _ h9 => h9) rfl dX1_firstClashingMinim_44 ?_
      refine lv_iload_n (pc := 47) hx hb dX1_firstClashingMinim_47 rfl (lv_at hl 3 rfl) ?_
      refine k_iald (pc := 48) (x := sB σ v i) hx hb hK hP (7 + 6 * v) 0 (cv5 g σ rest hv) rfl i rfl (by omega) (by decide) rfl dX1_firstClashingMinim_48 ?_
      refine k_cong (y := nI (bg σ v i)) (hI.B (by omega)) ?_
      refine lv_aload_n (pc := 49) hx hb dX1_firstClashingMinim_49 rfl (lv_at hl 5 rfl) ?_
      refine va_getN (v := .ref (gA g w 4)) (pc := 50) (D := gD g) (ci := 0) (C := RX0) (T := TX0) (N := 10) hx hb hts hinX0 hown hK hP (2 + 6 * w) (cv0 g σ rest hw) rfl 9 (by decide) (va_Nw.use rfl (nf_116 hX)) (fun _ h9 => h9) rfl dX1_firstClashingMinim_50 ?_
      refine lv_iload (pc := 53) hx hb dX1_firstClashingMinim_53 (lv_at hl 2 rfl) ?_
      refine k_iald (pc := 55) (x := sB σ w j) hx hb hK hP (7 + 6 * w) 0 (cv5 g σ rest hw) rfl j rfl (by omega) (by decide) rfl dX1_firstClashingMinim_55 ?_
      refine k_cong (y := nI (bg σ w j)) (hI.B (by omega)) ?_
      refine va_mmax (pc := 56) hx hb (hml.trans hl.1.symm) hown (hts (.methodLink RX1 119 Lib.Math.max.name) (by decide +kernel)) (hts (.static Lib.Math.max.name) (by decide +kernel)) (hts (.initialized "java/lang/Math") (by decide +kernel)) (hts (.code Lib.Math.max.name Lib.Math.max.code 2 (some .int)) (by decide +kernel)) (Nat.le_of_ble_eq_true rfl) (Nat.le_of_ble_eq_true rfl) (Nat.le_of_ble_eq_true rfl) (Nat.le_of_ble_eq_true rfl) dX1_firstClashingMinim_56 ?_
      refine k_cong (y := nI (max (bg σ v i) (bg σ w j))) (mxI (by omega) (by omega)) ?_
      refine lv_istore (lv' := [(7, .int (nI (max (bg σ v i) (bg σ w j)))), (6, .int (nI (bg σ w (j + 1)))), (5, .int (nI (bg σ v (i + 1)))), (4, .int (nI j)), (3, .int (nI i)), (0, .ref (gV g v)), (1, .ref (gV g w)), (2, .int u0)]) (pc := 59) hx hb dX1_firstClashingMinim_59 hl (by decide) rfl (fun ls hl => ?_)
      refine lv_iload (pc := 61) hx hb dX1_firstClashingMinim_61 (lv_at hl 2 rfl) ?_
      refine lv_iload (pc := 63) hx hb dX1_firstClashingMinim_63 (lv_at hl 1 rfl) ?_
      refine va_mmin (pc := 65) hx hb (hml.trans hl.1.symm) hown (hts (.methodLink RX1 190 Lib.Math.min.name) (by decide +kernel)) (hts (.static Lib.Math.min.name) (by decide +kernel)) (hts (.initialized "java/lang/Math") (by decide +kernel)) (hts (.code Lib.Math.min.name Lib.Math.min.code 2 (some .int)) (by decide +kernel)) (Nat.le_of_ble_eq_true rfl) (Nat.le_of_ble_eq_true rfl) (Nat.le_of_ble_eq_true rfl) (Nat.le_of_ble_eq_true rfl) dX1_firstClashingMinim_65 ?_
      refine k_cong (y := nI (min (bg σ v (i + 1)) (bg σ w (j + 1)))) (mnI (by omega) (by omega)) ?_
      refine lv_istore (lv' := [(8, .int (nI (min (bg σ v (i + 1)) (bg σ w (j + 1))))), (7, .int (nI (max (bg σ v i) (bg σ w j)))), (6, .int (nI (bg σ w (j + 1)))), (5, .int (nI (bg σ v (i + 1)))), (4, .int (nI j)), (3, .int (nI i)), (0, .ref (gV g v)), (1, .ref (gV g w)), (2, .int u0)]) (pc := 68) hx hb dX1_firstClashingMinim_68 hl (by decide) rfl (fun ls hl => ?_)
      refine lv_iload (pc := 70) hx hb dX1_firstClashingMinim_70 (lv_at hl 1 rfl) ?_
      refine lv_iload (pc := 72) hx hb dX1_firstClashingMinim_72 (lv_at hl 0 rfl) ?_
      refine lv_icmp_ge (tgt := 92) (pc := 74) hx hb dX1_firstClashingMinim_74 (by decide) (fun c3 => ?_) (fun c3 => ?_)
      · have c3 : min (bg σ v (i + 1)) (bg σ w (j + 1)) ≤ max (bg σ v i) (bg σ w j) := (nI_leI (a := min (bg σ v (i + 1)) (bg σ w (j + 1))) (b := max (bg σ v i) (bg σ w j)) (by omega) (by omega)).mp c3
        refine lv_iload (pc := 92) hx hb dX1_firstClashingMinim_92 (lv_at hl 3 rfl) ?_
        refine lv_iload (pc := 94) hx hb dX1_firstClashingMinim_94 (lv_at hl 2 rfl) ?_
        refine lv_icmp_gt (tgt := 105) (pc := 96) hx hb dX1_firstClashingMinim_96 (by decide) (fun c5 => ?_) (fun c5 => ?_)
        · have c5 : bg σ w (j + 1) < bg σ v (i + 1) := (nI_ltI (a := bg σ w (j + 1)) (b := bg σ v (i + 1)) (by omega) (by omega)).mp c5
          refine lv_iinc (v := nI (j + 1)) (lv' := [(4, .int (nI (j + 1))), (8, .int (nI (min (bg σ v (i + 1)) (bg σ w (j + 1))))), (7, .int (nI (max (bg σ v i) (bg σ w j)))), (6, .int (nI (bg σ w (j + 1)))), (5, .int (nI (bg σ v (i + 1)))), (3, .int (nI i)), (0, .ref (gV g v)), (1, .ref (gV g w)), (2, .int u0)]) (pc := 105) hx hb dX1_firstClashingMinim_105 hl (k := 4) rfl (nI_1 _) (by decide) rfl (fun ls hl => ?_)
          refine lv_goto (tgt := 5) (pc := 108) hx hb dX1_firstClashingMinim_108 (by decide) ?_
          exact ih_5 i (j + 1) ⟨⟨by omega, by omega⟩, by first | exact f0_i h0 hi hj (by omega) (Or.inl (by omega)) | exact f0_i h0 hi hj (by omega) (Or.inr c4) | exact f0_j h0 hi hj (by omega) (Or.inl (by omega)) | exact f0_j h0 hi hj (by omega) (Or.inr c4)⟩ (by omega) _ (lv_sub hl [0, 5, 6, 7, 8] rfl)
        · have c5 : ¬ (bg σ w (j + 1) < bg σ v (i + 1)) := fun z => c5 ((nI_ltI (a := bg σ w (j + 1)) (b := bg σ v (i + 1)) (by omega) (by omega)).mpr z)
          refine lv_iinc (v := nI (i + 1)) (lv' := [(3, .int (nI (i + 1))), (8, .int (nI (min (bg σ v (i + 1)) (bg σ w (j + 1))))), (7, .int (nI (max (bg σ v i) (bg σ w j)))), (6, .int (nI (bg σ w (j + 1)))), (5, .int (nI (bg σ v (i + 1)))), (4, .int (nI j)), (0, .ref (gV g v)), (1, .ref (gV g w)), (2, .int u0)]) (pc := 99) hx hb dX1_firstClashingMinim_99 hl (k := 5) rfl (nI_1 _) (by decide) rfl (fun ls hl => ?_)
          refine lv_goto (tgt := 108) (pc := 102) hx hb dX1_firstClashingMinim_102 (by decide) ?_
          refine lv_goto (tgt := 5) (pc := 108) hx hb dX1_firstClashingMinim_108 (by decide) ?_
          exact ih_5 (i + 1) j ⟨⟨by omega, by omega⟩, by first | exact f0_i h0 hi hj (by omega) (Or.inl (by omega)) | exact f0_i h0 hi hj (by omega) (Or.inr c4) | exact f0_j h0 hi hj (by omega) (Or.inl (by omega)) | exact f0_j h0 hi hj (by omega) (Or.inr c4)⟩ (by omega) _ (lv_sub hl [5, 0, 6, 7, 8] rfl)
      · have c3 : ¬ (min (bg σ v (i + 1)) (bg σ w (j + 1)) ≤ max (bg σ v i) (bg σ w j)) := fun z => c3 ((nI_leI (a := min (bg σ v (i + 1)) (bg σ w (j + 1))) (b := max (bg σ v i) (bg σ w j)) (by omega) (by omega)).mpr z)
        refine lv_aload_n (pc := 77) hx hb dX1_firstClashingMinim_77 rfl (lv_at hl 6 rfl) ?_
        refine lv_iload_n (pc := 78) hx hb dX1_firstClashingMinim_78 rfl (lv_at hl 5 rfl) ?_
        refine lv_aload_n (pc := 79) hx hb dX1_firstClashingMinim_79 rfl (lv_at hl 7 rfl) ?_
        refine lv_iload (pc := 80) hx hb dX1_firstClashingMinim_80 (lv_at hl 4 rfl) ?_
        refine lv_iload_n (pc := 82) hx hb dX1_firstClashingMinim_82 rfl (lv_at hl 8 rfl) ?_
        refine k_ri (pc := 83) (va_runS (As := [.ref (gV g v), .int (nI i), .ref (gV g w), .int (nI j), .int u0]) (rest := []) ⟨hx, hb, hml, hown, hts⟩ (cX1_signsClash_m l g A σ rest v w i j u0 hv hw (by omega) (by omega)) (va_cwS 5 hts gX1_firstClashingMinim_X1_signsClash rfl rfl rfl (by decide +kernel) ⟨Nat.le_of_ble_eq_true rfl, Nat.le_of_ble_eq_true rfl⟩) (cx_S hP hD hA hK hX hS) rfl rfl hl.1 rfl (lv_room (Nat.le_of_ble_eq_true rfl)) dX1_firstClashingMinim_83 ⟨Nat.le_of_ble_eq_true rfl, Nat.le_of_ble_eq_true rfl⟩) (fun r_5 hr_5 => ?_)
        subst hr_5
        refine lv_if_eq (tgt := 92) (pc := 86) hx hb dX1_firstClashingMinim_86 (by decide) (fun c4 => ?_) (fun c4 => ?_)
        · have c4 := bI_0.mp c4
          refine lv_iload (pc := 92) hx hb dX1_firstClashingMinim_92 (lv_at hl 3 rfl) ?_
          refine lv_iload (pc := 94) hx hb dX1_firstClashingMinim_94 (lv_at hl 2 rfl) ?_
          refine lv_icmp_gt (tgt := 105) (pc := 96) hx hb dX1_firstClashingMinim_96 (by decide) (fun c5 => ?_) (fun c5 => ?_)
          · have c5 : bg σ w (j + 1) < bg σ v (i + 1) := (nI_ltI (a := bg σ w (j + 1)) (b := bg σ v (i + 1)) (by omega) (by omega)).mp c5
            refine lv_iinc (v := nI (j + 1)) (lv' := [(4, .int (nI (j + 1))), (8, .int (nI (min (bg σ v (i + 1)) (bg σ w (j + 1))))), (7, .int (nI (max (bg σ v i) (bg σ w j)))), (6, .int (nI (bg σ w (j + 1)))), (5, .int (nI (bg σ v (i + 1)))), (3, .int (nI i)), (0, .ref (gV g v)), (1, .ref (gV g w)), (2, .int u0)]) (pc := 105) hx hb dX1_firstClashingMinim_105 hl (k := 4) rfl (nI_1 _) (by decide) rfl (fun ls hl => ?_)
            refine lv_goto (tgt := 5) (pc := 108) hx hb dX1_firstClashingMinim_108 (by decide) ?_
            exact ih_5 i (j + 1) ⟨⟨by omega, by omega⟩, by first | exact f0_i h0 hi hj (by omega) (Or.inl (by omega)) | exact f0_i h0 hi hj (by omega) (Or.inr c4) | exact f0_j h0 hi hj (by omega) (Or.inl (by omega)) | exact f0_j h0 hi hj (by omega) (Or.inr c4)⟩ (by omega) _ (lv_sub hl [0, 5, 6, 7, 8] rfl)
          · have c5 : ¬ (bg σ w (j + 1) < bg σ v (i + 1)) := fun z => c5 ((nI_ltI (a := bg σ w (j + 1)) (b := bg σ v (i + 1)) (by omega) (by omega)).mpr z)
            refine lv_iinc (v := nI (i + 1)) (lv' := [(3, .int (nI (i + 1))), (8, .int (nI (min (bg σ v (i + 1)) (bg σ w (j + 1))))), (7, .int (nI (max (bg σ v i) (bg σ w j)))), (6, .int (nI (bg σ w (j + 1)))), (5, .int (nI (bg σ v (i + 1)))), (4, .int (nI j)), (0, .ref (gV g v)), (1, .ref (gV g w)), (2, .int u0)]) (pc := 99) hx hb dX1_firstClashingMinim_99 hl (k := 5) rfl (nI_1 _) (by decide) rfl (fun ls hl => ?_)
            refine lv_goto (tgt := 108) (pc := 102) hx hb dX1_firstClashingMinim_102 (by decide) ?_
            refine lv_goto (tgt := 5) (pc := 108) hx hb dX1_firstClashingMinim_108 (by decide) ?_
            exact ih_5 (i + 1) j ⟨⟨by omega, by omega⟩, by first | exact f0_i h0 hi hj (by omega) (Or.inl (by omega)) | exact f0_i h0 hi hj (by omega) (Or.inr c4) | exact f0_j h0 hi hj (by omega) (Or.inl (by omega)) | exact f0_j h0 hi hj (by omega) (Or.inr c4)⟩ (by omega) _ (lv_sub hl [5, 0, 6, 7, 8] rfl)
        · have c4 := bI_n0.mp c4
          refine lv_iload (pc := 89) hx hb dX1_firstClashingMinim_89 (lv_at hl 1 rfl) ?_
          exact W.iret hx hb hr (fun t ht hW => ⟨_, rfl, (fs_hit h0 hi hj c4 (by omega) (by omega)).symm, ht⟩) (fun q hq => absurd hq List.not_mem_nil) dX1_firstClashingMinim_91
end
section
theorem gV_inj {g : GA} {A : Nat → Prop} {σ : St} {r : va_W} (hD : va_D A (cw g σ ++ r)) {i v : Nat} (hi : i < 4) (hv : v < 4) (e : gV g i = gV g v) : i = v := by
  have := hD.1 _ _ _ _ (cv0 g σ r hi) (cv0 g σ r hv) e
  omega
theorem sm_0 {F : Nat → Nat} {i : Nat} {x : Int32} (hx : x = nI (sum F i)) (h : F i = 0) : x = nI (sum F (i + 1)) := by
  show x = nI (sum F i + F i)
  rw [h]; exact hx
theorem sm_p {F : Nat → Nat} {i k : Nat} {x : Int32} (hx : x = nI (sum F i)) (h : F i = k) : x + nI k = nI (sum F (i + 1)) := by
  show x + nI k = nI (sum F i + F i)
  rw [h, hx, nI_add]
theorem sum_le {F : Nat → Nat} {k : Nat} (h : ∀ i, F i ≤ k) : ∀ n, sum F n ≤ k * n
  | 0 => Nat.le_refl _
  | n + 1 => by
    have h1 := sum_le h n
    have h2 := h n
    show sum F n + F n ≤ k * (n + 1)
    rw [Nat.mul_succ]
    omega
theorem clN_le {σ : St} (hI : Inv σ) (v w d : Nat) (up : Int32) : clN σ v w d up ≤ 648 := Nat.le_trans (cnt_le _ _) (hI.bgC v (Nat.le_refl _))
theorem cwF_le {σ : St} (hI : Inv σ) (v : Nat) (c : Int32) (i : Nat) : cwF σ v c i ≤ 648 := by
  unfold cwF
  split
  · omega
  · split
    · omega
    · exact clN_le hI _ _ _ _
theorem cwN_le {σ : St} (hI : Inv σ) (v : Nat) (c : Int32) : cwN σ v c ≤ 2592 := by
  have h1 := sum_le (cwF_le hI v c) (sN σ)
  have h2 := hI.N
  unfold cwN
  omega
theorem cwF_v {σ : St} {v i : Nat} {c : Int32} (h : i = v) : cwF σ v c i = 0 := if_pos h
theorem cwF_n {σ : St} {v i : Nat} {c : Int32} (h : ¬ i = v) (h2 : sL σ i = -1) : cwF σ v c i = 0 := by unfold cwF; rw [if_neg h, if_pos h2]
theorem cwF_c {σ : St} {v i : Nat} {c : Int32} (h : ¬ i = v) (h2 : ¬ sL σ i = -1) : cwF σ v c i = clN σ v i 0 (2 * (sL σ i - c)) := by unfold cwF; rw [if_neg h, if_neg h2]
/-- the class's two numbers: the best so far, the fewest so far -/
def bsR (o : Option (Nat × Nat)) (b m : Int32) : Prop := match o with
  | none => b = -1 ∧ m = 2147483647
  | some (q, k) => b = nI q ∧ m = nI k ∧ k < 2147483647
theorem bsR_I {o : Option (Nat × Nat)} {b m : Int32} (h : bsR o b m) : b = bsI o := by
  cases o with
  | none => exact h.1
  | some x => exact h.1
section BS
variable {ok : Nat → Bool} {f : Nat → Nat} {i : Nat} {b m : Int32}
theorem bs_skip (h : bsR (bst ok f i) b m) (ho : ok i = false) : bsR (bst ok f (i + 1)) b m := by
  show bsR (match bst ok f i with
    | none => if ok i then some (i, f i) else none
    | some (b, m) => if ok i && decide (f i < m) then some (i, f i) else some (b, m)) b m
  cases e : bst ok f i with
  | none => rw [e] at h; simp only [ho]; exact h
  | some x => rw [e] at h; obtain ⟨q, k⟩ := x; simp only [ho]; exact h
theorem bs_keep (h : bsR (bst ok f i) b m) (hf : f i < 2147483647) (hm : m ≤ nI (f i)) : bsR (bst ok f (i + 1)) b m := by
  show bsR (match bst ok f i with
    | none => if ok i then some (i, f i) else none
    | some (b, m) => if ok i && decide (f i < m) then some (i, f i) else some (b, m)) b m
  cases e : bst ok f i with
  | none =>
    rw [e] at h
    have h1 : m = nI 2147483647 := h.2
    rw [h1] at hm
    exact absurd ((nI_leI (by omega) (by omega)).mp hm) (by omega)
  | some x =>
    rw [e] at h
    obtain ⟨q, k⟩ := x
    obtain ⟨h1, h2, h3⟩ := h
    have h4 : k ≤ f i := (nI_leI (by omega) (by omega)).mp (h2 ▸ hm)
    have h5 : (ok i && decide (f i < k)) = false := by rw [decide_eq_false (by omega), Bool.and_false]
    simp only [h5]
    exact ⟨h1, h2, h3⟩
theorem bs_take (h : bsR (bst ok f i) b m) (ho : ok i = true) (hf : f i < 2147483647) (hm : ¬ m ≤ nI (f i)) : bsR (bst ok f (i + 1)) (nI i) (nI (f i)) := by
  show bsR (match bst ok f i with
    | none => if ok i then some (i, f i) else none
    | some (b, m) => if ok i && decide (f i < m) then some (i, f i) else some (b, m)) (nI i) (nI (f i))
  cases e : bst ok f i with
  | none => simp only [ho]; exact ⟨rfl, rfl, hf⟩
  | some x =>
    rw [e] at h
    obtain ⟨q, k⟩ := x
    obtain ⟨h1, h2, h3⟩ := h
    have h4 : f i < k := by
      rcases Nat.lt_or_ge (f i) k with q | q
      · exact q
      · exact absurd (h2 ▸ (nI_leI (by omega) (by omega)).mpr q) hm
    have h5 : (ok i && decide (f i < k)) = true := by rw [ho, decide_eq_true h4]; rfl
    simp only [h5]
    exact ⟨rfl, rfl, hf⟩
end BS
theorem lngF_le {σ : St} (hI : Inv σ) : ∀ n, lngF σ n ≤ 648
  | 0 => Nat.zero_le _
  | n + 1 => by
    have h1 := lngF_le hI n
    have h2 : len σ n ≤ 648 := hI.bgC n (Nat.le_refl _)
    show (if _ then _ else _) ≤ _
    split <;> omega
theorem lng_mx {σ : St} (hI : Inv σ) (n : Nat) : (if nI (lngF σ n) < nI (len σ n) then nI (len σ n) else nI (lngF σ n)) = nI (lngF σ (n + 1)) := by
  have h1 := lngF_le hI n
  have h2 : len σ n ≤ 648 := hI.bgC n (Nat.le_refl _)
  show _ = nI (if lngF σ n < len σ n then len σ n else lngF σ n)
  by_cases h : lngF σ n < len σ n
  · rw [if_pos ((nI_ltI (by omega) (by omega)).mpr h), if_pos h]
  · rw [if_neg (fun q => h ((nI_ltI (by omega) (by omega)).mp q)), if_neg h]
end
section
/-! THE CLASS: the best clef, the best delay, the checksum -/
set_option maxHeartbeats 4000000 in
set_option maxRecDepth 100000 in
/-- clashes with the others, if it had this clef -/
theorem cX1_clashesIfClef_m (l : Launch) (g : GA) (A : Nat → Prop) (σ : St) (rest : va_W) (v : Nat) (c0 : Int32) (hv : v < 4) (hI : Inv σ) : Met l yX1_clashesIfClef wsX1_clashesIfClef ({ frames := 3, cells := 0, slots := 0, locals := 76 }) (va_Pc [.ref (gX g), .ref (gV g v), .int c0] (Cx g A (cw g σ ++ rest))) (vp_Si (fun r : Int32 => r = nI (cwN σ v c0))) 0 0 (fun _ => False) := by
  refine Met.ofW (cc := cX1_clashesIfClef) (maxL := 6) (ret := (some .int)) (by decide) rfl ?_
  intro p e s m args below meth c s₁ B hml hv0
  obtain ⟨rfl, hP, hD, hA, hK, hX⟩ := hv0
  have hx := B.exec
  have hb := B.bytes
  have hr := B.returns
  have hts := atoms_spec (ws := wsX1_clashesIfClef) B.pre
  have hown : s.vm.findClass RX1 = some m.cls := findClass_of_methodNamed B.named
  have hlocks := B.notSynchronized
  have hS : va_S A s.heap s.heap [] := va_S.rf
  have hinX0 : ∀ w ∈ u_ws RX0 TX0 10, w ∈ wsX1_clashesIfClef := by decide +kernel
  have hinX1 : ∀ w ∈ u_ws RX1 TX1 2, w ∈ wsX1_clashesIfClef := by decide +kernel
  have hl := lv_entry ([.ref (gX g), .ref (gV g v), .int c0]) (n := 6) (Nat.le_of_ble_eq_true rfl)
  rw [lg_entry_eq]
  generalize (lg_sl ([.ref (gX g), .ref (gV g v), .int c0]) ++ List.replicate (6 - (lg_sl ([.ref (gX g), .ref (gV g v), .int c0])).length) Slot.unset).toArray = ls at hl ⊢
  have hl : lv_has ls 6 [(0, .ref (gX g)), (1, .ref (gV g v)), (2, .int c0)] := hl
  have hN := hI.N
  refine lv_iconst (v := 0) (pc := 0) hx hb dX1_clashesIfClef_0 (by decide) ?_
  refine lv_istore_n (lv' := [(3, .int 0), (0, .ref (gX g)), (1, .ref (gV g v)), (2, .int c0)]) (pc := 1) hx hb dX1_clashesIfClef_1 rfl hl (by decide) rfl (fun ls hl => ?_)
  refine lv_iconst (v := 0) (pc := 2) hx hb dX1_clashesIfClef_2 (by decide) ?_
  refine lv_istore (lv' := [(4, .int 0), (3, .int 0), (0, .ref (gX g)), (1, .ref (gV g v)), (2, .int c0)]) (pc := 3) hx hb dX1_clashesIfClef_3 hl (by decide) rfl (fun ls hl => ?_)
  refine k_loop2 (pc := 5) (nL := 6) (fun (i : Nat) (x : Int32) => i ≤ sN σ ∧ x = nI (sum (cwF σ v c0) i)) (fun (i : Nat) (x : Int32) => sN σ - i) (fun (i : Nat) (x : Int32) => [(4, .int (nI i)), (3, .int x), (0, .ref (gX g)), (1, .ref (gV g v)), (2, .int c0)]) (fun i x hJ ih_5 ls hl => ?_) 0 0 ⟨Nat.zero_le _, rfl⟩ (lv_sub hl [0, 1, 2, 3, 4] rfl)
  obtain ⟨hi, hx0⟩ := hJ
  have hl : lv_has ls 6 [(4, .int (nI i)), (3, .int x), (0, .ref (gX g)), (1, .ref (gV g v)), (2, .int c0)] := hl
  refine lv_iload (pc := 5) hx hb dX1_clashesIfClef_5 (lv_at hl 0 rfl) ?_
  refine lv_aload_n (pc := 7) hx hb dX1_clashesIfClef_7 rfl (lv_at hl 2 rfl) ?_
  refine va_get (v := .int (nI (sN σ))) (pc := 8) (D := gD g) (ci := 1) (C := RX1) (T := TX1) (N := 2) hx hb hts hinX1 hown hK hP 0 (cx0 g σ rest) rfl 1 (by decide) (hts (.fieldLink RX1 20 "ChoirNotes" "voiceCount" "I") (by decide +kernel)) (fun _ h9 => h9) rfl dX1_clashesIfClef_8 ?_
  refine lv_icmp_ge (tgt := 63) (pc := 11) hx hb dX1_clashesIfClef_11 (by decide) (fun c1 => ?_) (fun c1 => ?_)
  · have c1 : sN σ ≤ i := (nI_leI (a := sN σ) (b := i) (by omega) (by omega)).mp c1
    refine lv_iload_n (pc := 63) hx hb dX1_clashesIfClef_63 rfl (lv_at hl 1 rfl) ?_
    exact W.iret hx hb hr (fun t ht hW => ⟨_, rfl, (by rw [hx0, show i = sN σ by omega]; rfl), ht⟩) (fun q hq => absurd hq List.not_mem_nil) dX1_clashesIfClef_64
  · have c1 : ¬ (sN σ ≤ i) := fun z => c1 ((nI_leI (a := sN σ) (b := i) (by omega) (by omega)).mpr z)
    refine lv_aload_n (pc := 14) hx hb dX1_clashesIfClef_14 rfl (lv_at hl 2 rfl) ?_
    refine va_get (v := .ref (gK g)) (pc := 15) (D := gD g) (ci := 1) (C := RX1) (T := TX1) (N := 2) hx hb hts hinX1 hown hK hP 0 (cx0 g σ rest) rfl 0 (by decide) (hts (.fieldLink RX1 11 "ChoirNotes" "book" "[LChoirNotes$Voice;") (by decide +kernel)) (fun _ h9 => h9) rfl dX1_clashesIfClef_15 ?_
    refine lv_iload (pc := 18) hx hb dX1_clashesIfClef_18 (lv_at hl 0 rfl) ?_
    refine k_aald (pc := 20) (x := gV g i) hx hb hK hP 1 2 (cx1 g σ rest) rfl i rfl (show i < 4 by omega) (by decide) (if_pos (show i < 4 by omega)) dX1_clashesIfClef_20 ?_
    refine lv_astore (lv' := [(5, .ref (gV g i)), (4, .int (nI i)), (3, .int x), (0, .ref (gX g)), (1, .ref (gV g v)), (2, .int c0)]) (pc := 21) hx hb dX1_clashesIfClef_21 hl (by decide) rfl (fun ls hl => ?_)
    refine lv_aload (pc := 23) hx hb dX1_clashesIfClef_23 (lv_at hl 0 rfl) ?_
    refine lv_aload_n (pc := 25) hx hb dX1_clashesIfClef_25 rfl (lv_at hl 4 rfl) ?_
    refine lv_acmp_eq (pc := 26) (tgt := 57) (rx := some (gV g i)) (ry := some (gV g v)) hx hb dX1_clashesIfClef_26 (by decide) (fun c2 => ?_) (fun c2 => ?_)
    · have c2 : i = v := gV_inj hD (by omega) (by omega) (Option.some.inj c2)
      refine lv_iinc (v := nI (i + 1)) (lv' := [(4, .int (nI (i + 1))), (5, .ref (gV g i)), (3, .int x), (0, .ref (gX g)), (1, .ref (gV g v)), (2, .int c0)]) (pc := 57) hx hb dX1_clashesIfClef_57 hl (k := 1) rfl (nI_1 _) (by decide) rfl (fun ls hl => ?_)
      refine lv_goto (tgt := 5) (pc := 60) hx hb dX1_clashesIfClef_60 (by decide) ?_
      exact ih_5 (i + 1) x ⟨by omega, by first | exact sm_0 hx0 (cwF_v c2) | exact sm_0 hx0 (cwF_n c2 c3) | exact sm_p hx0 (cwF_c c2 c3)⟩ (by omega) _ (lv_sub hl [0, 2, 3, 4, 5] rfl)
    · have c2 : ¬ i = v := fun q => c2 (by rw [q])
      refine lv_aload (pc := 29) hx hb dX1_clashesIfClef_29 (lv_at hl 0 rfl) ?_
      refine va_getN (v := .int (sL σ i)) (pc := 31) (D := gD g) (ci := 0) (C := RX0) (T := TX0) (N := 10) hx hb hts hinX0 hown hK hP (2 + 6 * i) (cv0 g σ rest (show i < 4 by omega)) rfl 3 (by decide) (va_Nw.use rfl (nf_86 hX)) (fun _ h9 => h9) rfl dX1_clashesIfClef_31 ?_
      refine lv_iconst (v := (-1)) (pc := 34) hx hb dX1_clashesIfClef_34 (by decide) ?_
      refine lv_icmp_eq (tgt := 57) (pc := 35) hx hb dX1_clashesIfClef_35 (by decide) (fun c3 => ?_) (fun c3 => ?_)
      · refine lv_iinc (v := nI (i + 1)) (lv' := [(4, .int (nI (i + 1))), (5, .ref (gV g i)), (3, .int x), (0, .ref (gX g)), (1, .ref (gV g v)), (2, .int c0)]) (pc := 57) hx hb dX1_clashesIfClef_57 hl (k := 1) rfl (nI_1 _) (by decide) rfl (fun ls hl => ?_)
        refine lv_goto (tgt := 5) (pc := 60) hx hb dX1_clashesIfClef_60 (by decide) ?_
        exact ih_5 (i + 1) x ⟨by omega, by first | exact sm_0 hx0 (cwF_v c2) | exact sm_0 hx0 (cwF_n c2 c3) | exact sm_p hx0 (cwF_c c2 c3)⟩ (by omega) _ (lv_sub hl [0, 2, 3, 4, 5] rfl)
      · refine lv_iload_n (pc := 38) hx hb dX1_clashesIfClef_38 rfl (lv_at hl 2 rfl) ?_
        refine lv_aload_n (pc := 39) hx hb dX1_clashesIfClef_39 rfl (lv_at hl 4 rfl) ?_
        refine lv_aload (pc := 40) hx hb dX1_clashesIfClef_40 (lv_at hl 0 rfl) ?_
        refine lv_iconst (v := 0) (pc := 42) hx hb dX1_clashesIfClef_42 (by decide) ?_
        refine lv_iconst (v := 2) (pc := 43) hx hb dX1_clashesIfClef_43 (by decide) ?_
        refine lv_aload (pc := 44) hx hb dX1_clashesIfClef_44 (lv_at hl 0 rfl) ?_
        refine va_getN (v := .int (sL σ i)) (pc := 46) (D := gD g) (ci := 0) (C := RX0) (T := TX0) (N := 10) hx hb hts hinX0 hown hK hP (2 + 6 * i) (cv0 g σ rest (show i < 4 by omega)) rfl 3 (by decide) (va_Nw.use rfl (nf_86 hX)) (fun _ h9 => h9) rfl dX1_clashesIfClef_46 ?_
        refine lv_iload_n (pc := 49) hx hb dX1_clashesIfClef_49 rfl (lv_at hl 5 rfl) ?_
        refine lv_isub (pc := 50) hx hb dX1_clashesIfClef_50 ?_
        refine lv_imul (pc := 51) hx hb dX1_clashesIfClef_51 ?_
        refine k_ri (pc := 52) (va_runS (As := [.ref (gV g v), .ref (gV g i), .int 0, .int (2 * ((sL σ i) - c0))]) (rest := [.int x]) ⟨hx, hb, hml, hown, hts⟩ (cX1_clashingMinims_m l g A σ rest v i 0 (2 * ((sL σ i) - c0)) hv (show i < 4 by omega) hI (by omega)) (va_cwS 4 hts gX1_clashesIfClef_X1_clashingMinims rfl rfl rfl (by decide +kernel) ⟨Nat.le_of_ble_eq_true rfl, Nat.le_of_ble_eq_true rfl⟩) (cx_S hP hD hA hK hX hS) rfl rfl hl.1 rfl (lv_room (Nat.le_of_ble_eq_true rfl)) dX1_clashesIfClef_52 ⟨Nat.le_of_ble_eq_true rfl, Nat.le_of_ble_eq_true rfl⟩) (fun r_3 hr_3 => ?_)
        subst hr_3
        refine lv_iadd (pc := 55) hx hb dX1_clashesIfClef_55 ?_
        refine lv_istore_n (lv' := [(3, .int (x + (nI (clN σ v i 0 (2 * ((sL σ i) - c0)))))), (5, .ref (gV g i)), (4, .int (nI i)), (0, .ref (gX g)), (1, .ref (gV g v)), (2, .int c0)]) (pc := 56) hx hb dX1_clashesIfClef_56 rfl hl (by decide) rfl (fun ls hl => ?_)
        refine lv_iinc (v := nI (i + 1)) (lv' := [(4, .int (nI (i + 1))), (3, .int (x + (nI (clN σ v i 0 (2 * ((sL σ i) - c0)))))), (5, .ref (gV g i)), (0, .ref (gX g)), (1, .ref (gV g v)), (2, .int c0)]) (pc := 57) hx hb dX1_clashesIfClef_57 hl (k := 2) rfl (nI_1 _) (by decide) rfl (fun ls hl => ?_)
        refine lv_goto (tgt := 5) (pc := 60) hx hb dX1_clashesIfClef_60 (by decide) ?_
        exact ih_5 (i + 1) (x + (nI (clN σ v i 0 (2 * ((sL σ i) - c0))))) ⟨by omega, by first | exact sm_0 hx0 (cwF_v c2) | exact sm_0 hx0 (cwF_n c2 c3) | exact sm_p hx0 (cwF_c c2 c3)⟩ (by omega) _ (lv_sub hl [0, 1, 3, 4, 5] rfl)
set_option maxHeartbeats 4000000 in
set_option maxRecDepth 100000 in
/-- the clef with the fewest clashes -/
theorem cX1_clefWithFewestClashes_m (l : Launch) (g : GA) (A : Nat → Prop) (σ : St) (rest : va_W) (v : Nat) (hv : v < 4) (hI : Inv σ) : Met l yX1_clefWithFewestClashes wsX1_clefWithFewestClashes ({ frames := 4, cells := 0, slots := 0, locals := 101 }) (va_Pc [.ref (gX g), .ref (gV g v)] (Cx g A (cw g σ ++ rest))) (vp_Si (fun r : Int32 => r = bcl σ v)) 0 0 (fun _ => False) := by
  refine Met.ofW (cc := cX1_clefWithFewestClashes) (maxL := 6) (ret := (some .int)) (by decide) rfl ?_
  intro p e s m args below meth c s₁ B hml hv0
  obtain ⟨rfl, hP, hD, hA, hK, hX⟩ := hv0
  have hx := B.exec
  have hb := B.bytes
  have hr := B.returns
  have hts := atoms_spec (ws := wsX1_clefWithFewestClashes) B.pre
  have hown : s.vm.findClass RX1 = some m.cls := findClass_of_methodNamed B.named
  have hlocks := B.notSynchronized
  have hS : va_S A s.heap s.heap [] := va_S.rf
  have hl := lv_entry ([.ref (gX g), .ref (gV g v)]) (n := 6) (Nat.le_of_ble_eq_true rfl)
  rw [lg_entry_eq]
  generalize (lg_sl ([.ref (gX g), .ref (gV g v)]) ++ List.replicate (6 - (lg_sl ([.ref (gX g), .ref (gV g v)])).length) Slot.unset).toArray = ls at hl ⊢
  have hl : lv_has ls 6 [(0, .ref (gX g)), (1, .ref (gV g v))] := hl
  refine lv_iconst (v := (-1)) (pc := 0) hx hb dX1_clefWithFewestClashes_0 (by decide) ?_
  refine lv_istore_n (lv' := [(2, .int ((-1))), (0, .ref (gX g)), (1, .ref (gV g v))]) (pc := 1) hx hb dX1_clefWithFewestClashes_1 rfl hl (by decide) rfl (fun ls hl => ?_)
  refine lv_ldc (pc := 2) (v := 2147483647) hx hb hown (hts (.constant RX1 126 2147483647) (by decide +kernel)) dX1_clefWithFewestClashes_2 ?_
  refine lv_istore_n (lv' := [(3, .int 2147483647), (2, .int ((-1))), (0, .ref (gX g)), (1, .ref (gV g v))]) (pc := 4) hx hb dX1_clefWithFewestClashes_4 rfl hl (by decide) rfl (fun ls hl => ?_)
  refine lv_iconst (v := 0) (pc := 5) hx hb dX1_clefWithFewestClashes_5 (by decide) ?_
  refine lv_istore (lv' := [(4, .int 0), (3, .int 2147483647), (2, .int ((-1))), (0, .ref (gX g)), (1, .ref (gV g v))]) (pc := 6) hx hb dX1_clefWithFewestClashes_6 hl (by decide) rfl (fun ls hl => ?_)
  refine k_loop3 (pc := 8) (nL := 6) (fun (i : Nat) (b0 : Int32) (m0 : Int32) => i ≤ 6 ∧ bsR (bst (fun c => ft σ v (nI c)) (fun c => cwN σ v (nI c)) i) b0 m0) (fun (i : Nat) (b0 : Int32) (m0 : Int32) => 6 - i) (fun (i : Nat) (b0 : Int32) (m0 : Int32) => [(4, .int (nI i)), (3, .int m0), (2, .int b0), (0, .ref (gX g)), (1, .ref (gV g v))]) (fun i b0 m0 hJ ih_8 ls hl => ?_) 0 ((-1)) 2147483647 ⟨Nat.zero_le _, ⟨rfl, rfl⟩⟩ (lv_sub hl [0, 1, 2, 3, 4] rfl)
  obtain ⟨hi, hbs⟩ := hJ
  have hl : lv_has ls 6 [(4, .int (nI i)), (3, .int m0), (2, .int b0), (0, .ref (gX g)), (1, .ref (gV g v))] := hl
  refine lv_iload (pc := 8) hx hb dX1_clefWithFewestClashes_8 (lv_at hl 0 rfl) ?_
  refine lv_iconst (v := 5) (pc := 10) hx hb dX1_clefWithFewestClashes_10 (by decide) ?_
  refine lv_icmp_gt (tgt := 50) (pc := 11) hx hb dX1_clefWithFewestClashes_11 (by decide) (fun c1 => ?_) (fun c1 => ?_)
  · have c1 : 5 < i := (nI_ltI (a := 5) (b := i) (by omega) (by omega)).mp c1
    refine lv_iload_n (pc := 50) hx hb dX1_clefWithFewestClashes_50 rfl (lv_at hl 2 rfl) ?_
    exact W.iret hx hb hr (fun t ht hW => ⟨_, rfl, (by rw [bsR_I hbs, show i = 6 by omega]; rfl), ht⟩) (fun q hq => absurd hq List.not_mem_nil) dX1_clefWithFewestClashes_51
  · have c1 : ¬ (5 < i) := fun z => c1 ((nI_ltI (a := 5) (b := i) (by omega) (by omega)).mpr z)
    refine lv_aload_n (pc := 14) hx hb dX1_clefWithFewestClashes_14 rfl (lv_at hl 4 rfl) ?_
    refine lv_iload (pc := 15) hx hb dX1_clefWithFewestClashes_15 (lv_at hl 0 rfl) ?_
    refine k_ri (pc := 17) (va_runVN (As := [.int (nI i)]) (rest := []) ⟨hx, hb, hml, hown, hts⟩ (cX0_wouldFit_m l g A σ rest v (nI i) hv hI) ⟨va_cnB 1 hts gX1_clefWithFewestClashes_X0_wouldFit_n134 rfl rfl rfl (nm_134 hX) (hts (.initialized RX0) (by decide +kernel)) (by decide +kernel) ⟨Nat.le_of_ble_eq_true rfl, Nat.le_of_ble_eq_true rfl⟩, hts (.instanceMethod yX0_wouldFit) (by decide +kernel), hts (.selects RX0 yX0_wouldFit yX0_wouldFit) (by decide +kernel)⟩ (cx_V (q0 := (2 + 6 * v)) (ci := 0) (r := (RX0, TX0, 10)) rfl (cv0 g σ rest hv) hP hD hA hK hX hS) rfl rfl hl.1 rfl (lv_room (Nat.le_of_ble_eq_true rfl)) dX1_clefWithFewestClashes_17 ⟨Nat.le_of_ble_eq_true rfl, Nat.le_of_ble_eq_true rfl⟩) (fun r_2 hr_2 => ?_)
    subst hr_2
    refine lv_if_eq (tgt := 44) (pc := 20) hx hb dX1_clefWithFewestClashes_20 (by decide) (fun c2 => ?_) (fun c2 => ?_)
    · have c2 := bI_0.mp c2
      refine lv_iinc (v := nI (i + 1)) (lv' := [(4, .int (nI (i + 1))), (3, .int m0), (2, .int b0), (0, .ref (gX g)), (1, .ref (gV g v))]) (pc := 44) hx hb dX1_clefWithFewestClashes_44 hl (k := 0) rfl (nI_1 _) (by decide) rfl (fun ls hl => ?_)
      refine lv_goto (tgt := 8) (pc := 47) hx hb dX1_clefWithFewestClashes_47 (by decide) ?_
      exact ih_8 (i + 1) b0 m0 ⟨by omega, by first | exact bs_skip hbs c2 | exact bs_keep hbs (by have := cwN_le hI v (nI i); omega) c3 | exact bs_take hbs c2 (by have := cwN_le hI v (nI i); omega) c3⟩ (by omega) _ (lv_sub hl [0, 1, 2, 3, 4] rfl)
    · have c2 := bI_n0.mp c2
      refine lv_aload_n (pc := 23) hx hb dX1_clefWithFewestClashes_23 rfl (lv_at hl 3 rfl) ?_
      refine lv_aload_n (pc := 24) hx hb dX1_clefWithFewestClashes_24 rfl (lv_at hl 4 rfl) ?_
      refine lv_iload (pc := 25) hx hb dX1_clefWithFewestClashes_25 (lv_at hl 0 rfl) ?_
      refine k_ri (pc := 27) (va_runV (As := [.ref (gV g v), .int (nI i)]) (rest := []) ⟨hx, hb, hml, hown, hts⟩ (cX1_clashesIfClef_m l g A σ rest v (nI i) hv hI) (cwV 2 hts gX1_clefWithFewestClashes_X1_clashesIfClef rfl rfl rfl (by decide +kernel) ⟨Nat.le_of_ble_eq_true rfl, Nat.le_of_ble_eq_true rfl⟩) (cx_V (q0 := 0) (ci := 1) (r := (RX1, TX1, 2)) rfl (cx0 g σ rest) hP hD hA hK hX hS) rfl rfl hl.1 rfl (lv_room (Nat.le_of_ble_eq_true rfl)) dX1_clefWithFewestClashes_27 ⟨Nat.le_of_ble_eq_true rfl, Nat.le_of_ble_eq_true rfl⟩) (fun r_4 hr_4 => ?_)
      subst hr_4
      refine lv_istore (lv' := [(5, .int (nI (cwN σ v (nI i)))), (4, .int (nI i)), (3, .int m0), (2, .int b0), (0, .ref (gX g)), (1, .ref (gV g v))]) (pc := 30) hx hb dX1_clefWithFewestClashes_30 hl (by decide) rfl (fun ls hl => ?_)
      refine lv_iload (pc := 32) hx hb dX1_clefWithFewestClashes_32 (lv_at hl 0 rfl) ?_
      refine lv_iload_n (pc := 34) hx hb dX1_clefWithFewestClashes_34 rfl (lv_at hl 2 rfl) ?_
      refine lv_icmp_ge (tgt := 44) (pc := 35) hx hb dX1_clefWithFewestClashes_35 (by decide) (fun c3 => ?_) (fun c3 => ?_)
      · refine lv_iinc (v := nI (i + 1)) (lv' := [(4, .int (nI (i + 1))), (5, .int (nI (cwN σ v (nI i)))), (3, .int m0), (2, .int b0), (0, .ref (gX g)), (1, .ref (gV g v))]) (pc := 44) hx hb dX1_clefWithFewestClashes_44 hl (k := 1) rfl (nI_1 _) (by decide) rfl (fun ls hl => ?_)
        refine lv_goto (tgt := 8) (pc := 47) hx hb dX1_clefWithFewestClashes_47 (by decide) ?_
        exact ih_8 (i + 1) b0 m0 ⟨by omega, by first | exact bs_skip hbs c2 | exact bs_keep hbs (by have := cwN_le hI v (nI i); omega) c3 | exact bs_take hbs c2 (by have := cwN_le hI v (nI i); omega) c3⟩ (by omega) _ (lv_sub hl [0, 2, 3, 4, 5] rfl)
      · refine lv_iload (pc := 38) hx hb dX1_clefWithFewestClashes_38 (lv_at hl 1 rfl) ?_
        refine lv_istore_n (lv' := [(2, .int (nI i)), (5, .int (nI (cwN σ v (nI i)))), (4, .int (nI i)), (3, .int m0), (0, .ref (gX g)), (1, .ref (gV g v))]) (pc := 40) hx hb dX1_clefWithFewestClashes_40 rfl hl (by decide) rfl (fun ls hl => ?_)
        refine lv_iload (pc := 41) hx hb dX1_clefWithFewestClashes_41 (lv_at hl 1 rfl) ?_
        refine lv_istore_n (lv' := [(3, .int (nI (cwN σ v (nI i)))), (2, .int (nI i)), (5, .int (nI (cwN σ v (nI i)))), (4, .int (nI i)), (0, .ref (gX g)), (1, .ref (gV g v))]) (pc := 43) hx hb dX1_clefWithFewestClashes_43 rfl hl (by decide) rfl (fun ls hl => ?_)
        refine lv_iinc (v := nI (i + 1)) (lv' := [(4, .int (nI (i + 1))), (3, .int (nI (cwN σ v (nI i)))), (2, .int (nI i)), (5, .int (nI (cwN σ v (nI i)))), (0, .ref (gX g)), (1, .ref (gV g v))]) (pc := 44) hx hb dX1_clefWithFewestClashes_44 hl (k := 3) rfl (nI_1 _) (by decide) rfl (fun ls hl => ?_)
        refine lv_goto (tgt := 8) (pc := 47) hx hb dX1_clefWithFewestClashes_47 (by decide) ?_
        exact ih_8 (i + 1) (nI i) (nI (cwN σ v (nI i))) ⟨by omega, by first | exact bs_skip hbs c2 | exact bs_keep hbs (by have := cwN_le hI v (nI i); omega) c3 | exact bs_take hbs c2 (by have := cwN_le hI v (nI i); omega) c3⟩ (by omega) _ (lv_sub hl [0, 1, 2, 4, 5] rfl)
set_option maxHeartbeats 4000000 in
set_option maxRecDepth 100000 in
/-- the delay with the fewest clashes -/
theorem cX1_delayWithFewestClashes_m (l : Launch) (g : GA) (A : Nat → Prop) (σ : St) (rest : va_W) (v : Nat) (u0 : Int32) (hv : v < 4) (hI : Inv σ) : Met l yX1_delayWithFewestClashes wsX1_delayWithFewestClashes ({ frames := 3, cells := 0, slots := 0, locals := 76 }) (va_Pc [.ref (gV g v), .int u0] (Cx g A (cw g σ ++ rest))) (vp_Si (fun r : Int32 => r = bdl σ v u0)) 0 0 (fun _ => False) := by
  refine Met.ofW (cc := cX1_delayWithFewestClashes) (maxL := 6) (ret := (some .int)) (by decide) rfl ?_
  intro p e s m args below meth c s₁ B hml hv0
  obtain ⟨rfl, hP, hD, hA, hK, hX⟩ := hv0
  have hx := B.exec
  have hb := B.bytes
  have hr := B.returns
  have hts := atoms_spec (ws := wsX1_delayWithFewestClashes) B.pre
  have hown : s.vm.findClass RX1 = some m.cls := findClass_of_methodNamed B.named
  have hlocks := B.notSynchronized
  have hS : va_S A s.heap s.heap [] := va_S.rf
  have hl := lv_entry ([.ref (gV g v), .int u0]) (n := 6) (Nat.le_of_ble_eq_true rfl)
  rw [lg_entry_eq]
  generalize (lg_sl ([.ref (gV g v), .int u0]) ++ List.replicate (6 - (lg_sl ([.ref (gV g v), .int u0])).length) Slot.unset).toArray = ls at hl ⊢
  have hl : lv_has ls 6 [(0, .ref (gV g v)), (1, .int u0)] := hl
  refine lv_iconst (v := (-1)) (pc := 0) hx hb dX1_delayWithFewestClashes_0 (by decide) ?_
  refine lv_istore_n (lv' := [(2, .int ((-1))), (0, .ref (gV g v)), (1, .int u0)]) (pc := 1) hx hb dX1_delayWithFewestClashes_1 rfl hl (by decide) rfl (fun ls hl => ?_)
  refine lv_ldc (pc := 2) (v := 2147483647) hx hb hown (hts (.constant RX1 126 2147483647) (by decide +kernel)) dX1_delayWithFewestClashes_2 ?_
  refine lv_istore_n (lv' := [(3, .int 2147483647), (2, .int ((-1))), (0, .ref (gV g v)), (1, .int u0)]) (pc := 4) hx hb dX1_delayWithFewestClashes_4 rfl hl (by decide) rfl (fun ls hl => ?_)
  refine lv_iconst (v := 1) (pc := 5) hx hb dX1_delayWithFewestClashes_5 (by decide) ?_
  refine lv_istore (lv' := [(4, .int 1), (3, .int 2147483647), (2, .int ((-1))), (0, .ref (gV g v)), (1, .int u0)]) (pc := 6) hx hb dX1_delayWithFewestClashes_6 hl (by decide) rfl (fun ls hl => ?_)
  refine k_loop3 (pc := 8) (nL := 6) (fun (i : Nat) (b0 : Int32) (m0 : Int32) => (1 ≤ i ∧ i ≤ 49) ∧ bsR (bst (fun d => decide (1 ≤ d)) (fun d => clN σ v v d u0) i) b0 m0) (fun (i : Nat) (b0 : Int32) (m0 : Int32) => 49 - i) (fun (i : Nat) (b0 : Int32) (m0 : Int32) => [(4, .int (nI i)), (3, .int m0), (2, .int b0), (0, .ref (gV g v)), (1, .int u0)]) (fun i b0 m0 hJ ih_8 ls hl => ?_) 1 ((-1)) 2147483647 ⟨⟨Nat.le_refl _, by omega⟩, ⟨rfl, rfl⟩⟩ (lv_sub hl [0, 1, 2, 3, 4] rfl)
  obtain ⟨⟨hi1, hi⟩, hbs⟩ := hJ
  have hl : lv_has ls 6 [(4, .int (nI i)), (3, .int m0), (2, .int b0), (0, .ref (gV g v)), (1, .int u0)] := hl
  refine lv_iload (pc := 8) hx hb dX1_delayWithFewestClashes_8 (lv_at hl 0 rfl) ?_
  refine lv_bipush (v := 48) (pc := 10) hx hb dX1_delayWithFewestClashes_10 (by decide) ?_
  refine lv_icmp_gt (tgt := 43) (pc := 12) hx hb dX1_delayWithFewestClashes_12 (by decide) (fun c1 => ?_) (fun c1 => ?_)
  · have c1 : 48 < i := (nI_ltI (a := 48) (b := i) (by omega) (by omega)).mp c1
    refine lv_iload_n (pc := 43) hx hb dX1_delayWithFewestClashes_43 rfl (lv_at hl 2 rfl) ?_
    exact W.iret hx hb hr (fun t ht hW => ⟨_, rfl, (by rw [bsR_I hbs, show i = 49 by omega]; rfl), ht⟩) (fun q hq => absurd hq List.not_mem_nil) dX1_delayWithFewestClashes_44
  · have c1 : ¬ (48 < i) := fun z => c1 ((nI_ltI (a := 48) (b := i) (by omega) (by omega)).mpr z)
    refine lv_aload_n (pc := 15) hx hb dX1_delayWithFewestClashes_15 rfl (lv_at hl 3 rfl) ?_
    refine lv_aload_n (pc := 16) hx hb dX1_delayWithFewestClashes_16 rfl (lv_at hl 3 rfl) ?_
    refine lv_iload (pc := 17) hx hb dX1_delayWithFewestClashes_17 (lv_at hl 0 rfl) ?_
    refine lv_iload_n (pc := 19) hx hb dX1_delayWithFewestClashes_19 rfl (lv_at hl 4 rfl) ?_
    refine k_ri (pc := 20) (va_runS (As := [.ref (gV g v), .ref (gV g v), .int (nI i), .int u0]) (rest := []) ⟨hx, hb, hml, hown, hts⟩ (cX1_clashingMinims_m l g A σ rest v v i u0 hv hv hI (by omega)) (va_cwS 4 hts gX1_delayWithFewestClashes_X1_clashingMinims rfl rfl rfl (by decide +kernel) ⟨Nat.le_of_ble_eq_true rfl, Nat.le_of_ble_eq_true rfl⟩) (cx_S hP hD hA hK hX hS) rfl rfl hl.1 rfl (lv_room (Nat.le_of_ble_eq_true rfl)) dX1_delayWithFewestClashes_20 ⟨Nat.le_of_ble_eq_true rfl, Nat.le_of_ble_eq_true rfl⟩) (fun r_2 hr_2 => ?_)
    subst hr_2
    refine lv_istore (lv' := [(5, .int (nI (clN σ v v i u0))), (4, .int (nI i)), (3, .int m0), (2, .int b0), (0, .ref (gV g v)), (1, .int u0)]) (pc := 23) hx hb dX1_delayWithFewestClashes_23 hl (by decide) rfl (fun ls hl => ?_)
    refine lv_iload (pc := 25) hx hb dX1_delayWithFewestClashes_25 (lv_at hl 0 rfl) ?_
    refine lv_iload_n (pc := 27) hx hb dX1_delayWithFewestClashes_27 rfl (lv_at hl 2 rfl) ?_
    refine lv_icmp_ge (tgt := 37) (pc := 28) hx hb dX1_delayWithFewestClashes_28 (by decide) (fun c3 => ?_) (fun c3 => ?_)
    · refine lv_iinc (v := nI (i + 1)) (lv' := [(4, .int (nI (i + 1))), (5, .int (nI (clN σ v v i u0))), (3, .int m0), (2, .int b0), (0, .ref (gV g v)), (1, .int u0)]) (pc := 37) hx hb dX1_delayWithFewestClashes_37 hl (k := 1) rfl (nI_1 _) (by decide) rfl (fun ls hl => ?_)
      refine lv_goto (tgt := 8) (pc := 40) hx hb dX1_delayWithFewestClashes_40 (by decide) ?_
      exact ih_8 (i + 1) b0 m0 ⟨⟨by omega, by omega⟩, by first | exact bs_keep hbs (by have := clN_le hI v v i u0; omega) c3 | exact bs_take hbs (decide_eq_true hi1) (by have := clN_le hI v v i u0; omega) c3⟩ (by omega) _ (lv_sub hl [0, 2, 3, 4, 5] rfl)
    · refine lv_iload (pc := 31) hx hb dX1_delayWithFewestClashes_31 (lv_at hl 1 rfl) ?_
      refine lv_istore_n (lv' := [(2, .int (nI i)), (5, .int (nI (clN σ v v i u0))), (4, .int (nI i)), (3, .int m0), (0, .ref (gV g v)), (1, .int u0)]) (pc := 33) hx hb dX1_delayWithFewestClashes_33 rfl hl (by decide) rfl (fun ls hl => ?_)
      refine lv_iload (pc := 34) hx hb dX1_delayWithFewestClashes_34 (lv_at hl 1 rfl) ?_
      refine lv_istore_n (lv' := [(3, .int (nI (clN σ v v i u0))), (2, .int (nI i)), (5, .int (nI (clN σ v v i u0))), (4, .int (nI i)), (0, .ref (gV g v)), (1, .int u0)]) (pc := 36) hx hb dX1_delayWithFewestClashes_36 rfl hl (by decide) rfl (fun ls hl => ?_)
      refine lv_iinc (v := nI (i + 1)) (lv' := [(4, .int (nI (i + 1))), (3, .int (nI (clN σ v v i u0))), (2, .int (nI i)), (5, .int (nI (clN σ v v i u0))), (0, .ref (gV g v)), (1, .int u0)]) (pc := 37) hx hb dX1_delayWithFewestClashes_37 hl (k := 3) rfl (nI_1 _) (by decide) rfl (fun ls hl => ?_)
      refine lv_goto (tgt := 8) (pc := 40) hx hb dX1_delayWithFewestClashes_40 (by decide) ?_
      exact ih_8 (i + 1) (nI i) (nI (clN σ v v i u0)) ⟨⟨by omega, by omega⟩, by first | exact bs_keep hbs (by have := clN_le hI v v i u0; omega) c3 | exact bs_take hbs (decide_eq_true hi1) (by have := clN_le hI v v i u0; omega) c3⟩ (by omega) _ (lv_sub hl [0, 1, 2, 4, 5] rfl)
set_option maxHeartbeats 4000000 in
set_option maxRecDepth 100000 in
/-- a number into the checksum -/
theorem cX1_mix_m (l : Launch) (g : GA) (A : Nat → Prop) (σ : St) (rest : va_W) (d0 : Int64) (x0 : Int32) : Met l yX1_mix wsX1_mix ({ frames := 0, cells := 0, slots := 0, locals := 0 }) (va_Pc [.long d0, .int x0] (Cx g A (cw g σ ++ rest))) (vp_Sl (fun r : Int64 => r = mx d0 x0)) 0 0 (fun _ => False) := by
  refine Met.ofW (cc := cX1_mix) (maxL := 3) (ret := (some .long)) (by decide) rfl ?_
  intro p e s m args below meth c s₁ B hml hv0
  obtain ⟨rfl, hP, hD, hA, hK, hX⟩ := hv0
  have hx := B.exec
  have hb := B.bytes
  have hr := B.returns
  have hts := atoms_spec (ws := wsX1_mix) B.pre
  have hown : s.vm.findClass RX1 = some m.cls := findClass_of_methodNamed B.named
  have hlocks := B.notSynchronized
  have hS : va_S A s.heap s.heap [] := va_S.rf
  have hl := lv_entry ([.long d0, .int x0]) (n := 3) (Nat.le_of_ble_eq_true rfl)
  rw [lg_entry_eq]
  generalize (lg_sl ([.long d0, .int x0]) ++ List.replicate (3 - (lg_sl ([.long d0, .int x0])).length) Slot.unset).toArray = ls at hl ⊢
  have hl : lv_has ls 3 [(0, .long d0), (2, .int x0)] := hl
  refine lv_lload_n (pc := 0) hx hb dX1_mix_0 rfl (lv_at hl 0 rfl) ?_
  refine lv_ldc2 (pc := 1) (v := 31) hx hb hown (hts (.constantLong RX1 200 31) (by decide +kernel)) dX1_mix_1 ?_
  refine lv_lmul (pc := 4) hx hb dX1_mix_4 ?_
  refine lv_iload_n (pc := 5) hx hb dX1_mix_5 rfl (lv_at hl 1 rfl) ?_
  refine lv_i2l (pc := 6) hx hb dX1_mix_6 rfl ?_
  refine lv_ladd (pc := 7) hx hb dX1_mix_7 ?_
  exact W.lret hx hb hr (fun t ht hW => ⟨_, rfl, rfl, ht⟩) (fun q hq => absurd hq List.not_mem_nil) dX1_mix_8
set_option maxHeartbeats 4000000 in
set_option maxRecDepth 100000 in
/-- a sign into the checksum -/
theorem cX1_mixSign_m (l : Launch) (g : GA) (A : Nat → Prop) (σ : St) (rest : va_W) (v s0 : Nat) (d0 : Int64) (hv : v < 4) (hI : Inv σ) (hs : s0 < sC σ v) : Met l yX1_mixSign wsX1_mixSign ({ frames := 1, cells := 0, slots := 0, locals := 22 }) (va_Pc [.long d0, .ref (gV g v), .int (nI s0)] (Cx g A (cw g σ ++ rest))) (vp_Sl (fun r : Int64 => r = mxl d0 (dgS σ v s0))) 0 0 (fun _ => False) := by
  refine Met.ofW (cc := cX1_mixSign) (maxL := 6) (ret := (some .long)) (by decide) rfl ?_
  intro p e s m args below meth c s₁ B hml hv0
  obtain ⟨rfl, hP, hD, hA, hK, hX⟩ := hv0
  have hx := B.exec
  have hb := B.bytes
  have hr := B.returns
  have hts := atoms_spec (ws := wsX1_mixSign) B.pre
  have hown : s.vm.findClass RX1 = some m.cls := findClass_of_methodNamed B.named
  have hlocks := B.notSynchronized
  have hS : va_S A s.heap s.heap [] := va_S.rf
  have hinX0 : ∀ w ∈ u_ws RX0 TX0 10, w ∈ wsX1_mixSign := by decide +kernel
  have hl := lv_entry ([.long d0, .ref (gV g v), .int (nI s0)]) (n := 6) (Nat.le_of_ble_eq_true rfl)
  rw [lg_entry_eq]
  generalize (lg_sl ([.long d0, .ref (gV g v), .int (nI s0)]) ++ List.replicate (6 - (lg_sl ([.long d0, .ref (gV g v), .int (nI s0)])).length) Slot.unset).toArray = ls at hl ⊢
  have hl : lv_has ls 6 [(0, .long d0), (2, .ref (gV g v)), (3, .int (nI s0))] := hl
  have hC := hI.C v
  refine lv_lload_n (pc := 0) hx hb dX1_mixSign_0 rfl (lv_at hl 0 rfl) ?_
  refine lv_aload_n (pc := 1) hx hb dX1_mixSign_1 rfl (lv_at hl 1 rfl) ?_
  refine va_getN (v := .ref (gA g v 0)) (pc := 2) (D := gD g) (ci := 0) (C := RX0) (T := TX0) (N := 10) hx hb hts hinX0 hown hK hP (2 + 6 * v) (cv0 g σ rest hv) rfl 5 (by decide) (va_Nw.use rfl (nf_98 hX)) (fun _ h9 => h9) rfl dX1_mixSign_2 ?_
  refine lv_iload_n (pc := 5) hx hb dX1_mixSign_5 rfl (lv_at hl 2 rfl) ?_
  refine k_iald (pc := 6) (x := nI (sK σ v s0)) hx hb hK hP (3 + 6 * v) 0 (cv1 g σ rest hv) rfl s0 rfl (by omega) (by decide) rfl dX1_mixSign_6 ?_
  refine k_rl (pc := 7) (va_runS (As := [.long d0, .int (nI (sK σ v s0))]) (rest := []) ⟨hx, hb, hml, hown, hts⟩ (cX1_mix_m l g A σ rest d0 (nI (sK σ v s0))) (va_cwS 2 hts gX1_mixSign_X1_mix rfl rfl rfl (by decide +kernel) ⟨Nat.le_of_ble_eq_true rfl, Nat.le_of_ble_eq_true rfl⟩) (cx_S hP hD hA hK hX hS) rfl rfl hl.1 rfl (lv_room (Nat.le_of_ble_eq_true rfl)) dX1_mixSign_7 ⟨Nat.le_of_ble_eq_true rfl, Nat.le_of_ble_eq_true rfl⟩) (fun r_1 hr_1 => ?_)
  subst hr_1
  refine lv_lstore (lv' := [(4, .long (mx d0 (nI (sK σ v s0)))), (0, .long d0), (2, .ref (gV g v)), (3, .int (nI s0))]) (pc := 10) hx hb dX1_mixSign_10 hl (by decide) rfl (fun ls hl => ?_)
  refine lv_lload (pc := 12) hx hb dX1_mixSign_12 (lv_at hl 0 rfl) ?_
  refine lv_aload_n (pc := 14) hx hb dX1_mixSign_14 rfl (lv_at hl 2 rfl) ?_
  refine va_getN (v := .ref (gA g v 1)) (pc := 15) (D := gD g) (ci := 0) (C := RX0) (T := TX0) (N := 10) hx hb hts hinX0 hown hK hP (2 + 6 * v) (cv0 g σ rest hv) rfl 6 (by decide) (va_Nw.use rfl (nf_102 hX)) (fun _ h9 => h9) rfl dX1_mixSign_15 ?_
  refine lv_iload_n (pc := 18) hx hb dX1_mixSign_18 rfl (lv_at hl 3 rfl) ?_
  refine k_iald (pc := 19) (x := sP σ v s0) hx hb hK hP (4 + 6 * v) 0 (cv2 g σ rest hv) rfl s0 rfl (by omega) (by decide) rfl dX1_mixSign_19 ?_
  refine k_rl (pc := 20) (va_runS (As := [.long (mx d0 (nI (sK σ v s0))), .int (sP σ v s0)]) (rest := []) ⟨hx, hb, hml, hown, hts⟩ (cX1_mix_m l g A σ rest (mx d0 (nI (sK σ v s0))) (sP σ v s0)) (va_cwS 2 hts gX1_mixSign_X1_mix rfl rfl rfl (by decide +kernel) ⟨Nat.le_of_ble_eq_true rfl, Nat.le_of_ble_eq_true rfl⟩) (cx_S hP hD hA hK hX hS) rfl rfl hl.1 rfl (lv_room (Nat.le_of_ble_eq_true rfl)) dX1_mixSign_20 ⟨Nat.le_of_ble_eq_true rfl, Nat.le_of_ble_eq_true rfl⟩) (fun r_2 hr_2 => ?_)
  subst hr_2
  refine lv_lstore (lv' := [(4, .long (mx (mx d0 (nI (sK σ v s0))) (sP σ v s0))), (0, .long d0), (2, .ref (gV g v)), (3, .int (nI s0))]) (pc := 23) hx hb dX1_mixSign_23 hl (by decide) rfl (fun ls hl => ?_)
  refine lv_lload (pc := 25) hx hb dX1_mixSign_25 (lv_at hl 0 rfl) ?_
  refine lv_aload_n (pc := 27) hx hb dX1_mixSign_27 rfl (lv_at hl 2 rfl) ?_
  refine va_getN (v := .ref (gA g v 3)) (pc := 28) (D := gD g) (ci := 0) (C := RX0) (T := TX0) (N := 10) hx hb hts hinX0 hown hK hP (2 + 6 * v) (cv0 g σ rest hv) rfl 8 (by decide) (va_Nw.use rfl (nf_109 hX)) (fun _ h9 => h9) rfl dX1_mixSign_28 ?_
  refine lv_iload_n (pc := 31) hx hb dX1_mixSign_31 rfl (lv_at hl 3 rfl) ?_
  refine k_iald (pc := 32) (x := sT σ v s0) hx hb hK hP (6 + 6 * v) 0 (cv4 g σ rest hv) rfl s0 rfl (by omega) (by decide) rfl dX1_mixSign_32 ?_
  refine k_rl (pc := 33) (va_runS (As := [.long (mx (mx d0 (nI (sK σ v s0))) (sP σ v s0)), .int (sT σ v s0)]) (rest := []) ⟨hx, hb, hml, hown, hts⟩ (cX1_mix_m l g A σ rest (mx (mx d0 (nI (sK σ v s0))) (sP σ v s0)) (sT σ v s0)) (va_cwS 2 hts gX1_mixSign_X1_mix rfl rfl rfl (by decide +kernel) ⟨Nat.le_of_ble_eq_true rfl, Nat.le_of_ble_eq_true rfl⟩) (cx_S hP hD hA hK hX hS) rfl rfl hl.1 rfl (lv_room (Nat.le_of_ble_eq_true rfl)) dX1_mixSign_33 ⟨Nat.le_of_ble_eq_true rfl, Nat.le_of_ble_eq_true rfl⟩) (fun r_3 hr_3 => ?_)
  subst hr_3
  refine lv_lstore (lv' := [(4, .long (mx (mx (mx d0 (nI (sK σ v s0))) (sP σ v s0)) (sT σ v s0))), (0, .long d0), (2, .ref (gV g v)), (3, .int (nI s0))]) (pc := 36) hx hb dX1_mixSign_36 hl (by decide) rfl (fun ls hl => ?_)
  refine lv_lload (pc := 38) hx hb dX1_mixSign_38 (lv_at hl 0 rfl) ?_
  refine lv_aload_n (pc := 40) hx hb dX1_mixSign_40 rfl (lv_at hl 2 rfl) ?_
  refine lv_iload_n (pc := 41) hx hb dX1_mixSign_41 rfl (lv_at hl 3 rfl) ?_
  refine k_ri (pc := 42) (va_runVN (As := [.int (nI s0)]) (rest := [.long (mx (mx (mx d0 (nI (sK σ v s0))) (sP σ v s0)) (sT σ v s0))]) ⟨hx, hb, hml, hown, hts⟩ (cX0_minimsOf_m l g A σ rest v s0 hv hI (by omega)) ⟨va_cnB 1 hts gX1_mixSign_X0_minimsOf_n112 rfl rfl rfl (nm_112 hX) (hts (.initialized RX0) (by decide +kernel)) (by decide +kernel) ⟨Nat.le_of_ble_eq_true rfl, Nat.le_of_ble_eq_true rfl⟩, hts (.instanceMethod yX0_minimsOf) (by decide +kernel), hts (.selects RX0 yX0_minimsOf yX0_minimsOf) (by decide +kernel)⟩ (cx_V (q0 := (2 + 6 * v)) (ci := 0) (r := (RX0, TX0, 10)) rfl (cv0 g σ rest hv) hP hD hA hK hX hS) rfl rfl hl.1 rfl (lv_room (Nat.le_of_ble_eq_true rfl)) dX1_mixSign_42 ⟨Nat.le_of_ble_eq_true rfl, Nat.le_of_ble_eq_true rfl⟩) (fun r_4 hr_4 => ?_)
  subst hr_4
  refine k_rl (pc := 45) (va_runS (As := [.long (mx (mx (mx d0 (nI (sK σ v s0))) (sP σ v s0)) (sT σ v s0)), .int (nI (lg σ v s0))]) (rest := []) ⟨hx, hb, hml, hown, hts⟩ (cX1_mix_m l g A σ rest (mx (mx (mx d0 (nI (sK σ v s0))) (sP σ v s0)) (sT σ v s0)) (nI (lg σ v s0))) (va_cwS 2 hts gX1_mixSign_X1_mix rfl rfl rfl (by decide +kernel) ⟨Nat.le_of_ble_eq_true rfl, Nat.le_of_ble_eq_true rfl⟩) (cx_S hP hD hA hK hX hS) rfl rfl hl.1 rfl (lv_room (Nat.le_of_ble_eq_true rfl)) dX1_mixSign_45 ⟨Nat.le_of_ble_eq_true rfl, Nat.le_of_ble_eq_true rfl⟩) (fun r_5 hr_5 => ?_)
  subst hr_5
  refine lv_lstore (lv' := [(4, .long (mx (mx (mx (mx d0 (nI (sK σ v s0))) (sP σ v s0)) (sT σ v s0)) (nI (lg σ v s0)))), (0, .long d0), (2, .ref (gV g v)), (3, .int (nI s0))]) (pc := 48) hx hb dX1_mixSign_48 hl (by decide) rfl (fun ls hl => ?_)
  refine lv_lload (pc := 50) hx hb dX1_mixSign_50 (lv_at hl 0 rfl) ?_
  refine lv_aload_n (pc := 52) hx hb dX1_mixSign_52 rfl (lv_at hl 2 rfl) ?_
  refine va_getN (v := .ref (gA g v 4)) (pc := 53) (D := gD g) (ci := 0) (C := RX0) (T := TX0) (N := 10) hx hb hts hinX0 hown hK hP (2 + 6 * v) (cv0 g σ rest hv) rfl 9 (by decide) (va_Nw.use rfl (nf_116 hX)) (fun _ h9 => h9) rfl dX1_mixSign_53 ?_
  refine lv_iload_n (pc := 56) hx hb dX1_mixSign_56 rfl (lv_at hl 3 rfl) ?_
  refine k_iald (pc := 57) (x := sB σ v s0) hx hb hK hP (7 + 6 * v) 0 (cv5 g σ rest hv) rfl s0 rfl (by omega) (by decide) rfl dX1_mixSign_57 ?_
  refine k_cong (y := nI (bg σ v s0)) (hI.B (by omega)) ?_
  refine k_rl (pc := 58) (va_runS (As := [.long (mx (mx (mx (mx d0 (nI (sK σ v s0))) (sP σ v s0)) (sT σ v s0)) (nI (lg σ v s0))), .int (nI (bg σ v s0))]) (rest := []) ⟨hx, hb, hml, hown, hts⟩ (cX1_mix_m l g A σ rest (mx (mx (mx (mx d0 (nI (sK σ v s0))) (sP σ v s0)) (sT σ v s0)) (nI (lg σ v s0))) (nI (bg σ v s0))) (va_cwS 2 hts gX1_mixSign_X1_mix rfl rfl rfl (by decide +kernel) ⟨Nat.le_of_ble_eq_true rfl, Nat.le_of_ble_eq_true rfl⟩) (cx_S hP hD hA hK hX hS) rfl rfl hl.1 rfl (lv_room (Nat.le_of_ble_eq_true rfl)) dX1_mixSign_58 ⟨Nat.le_of_ble_eq_true rfl, Nat.le_of_ble_eq_true rfl⟩) (fun r_6 hr_6 => ?_)
  subst hr_6
  exact W.lret hx hb hr (fun t ht hW => ⟨_, rfl, rfl, ht⟩) (fun q hq => absurd hq List.not_mem_nil) dX1_mixSign_61
set_option maxHeartbeats 4000000 in
set_option maxRecDepth 100000 in
/-- a voice into the checksum -/
theorem cX1_mixVoice_m (l : Launch) (g : GA) (A : Nat → Prop) (σ : St) (rest : va_W) (v : Nat) (d0 : Int64) (hv : v < 4) (hI : Inv σ) : Met l yX1_mixVoice wsX1_mixVoice ({ frames := 5, cells := 0, slots := 0, locals := 126 }) (va_Pc [.ref (gX g), .long d0, .ref (gV g v)] (Cx g A (cw g σ ++ rest))) (vp_Sl (fun r : Int64 => r = dgSs σ v (mxl d0 (dgV σ v)) (sC σ v))) 0 0 (fun _ => False) := by
  refine Met.ofW (cc := cX1_mixVoice) (maxL := 7) (ret := (some .long)) (by decide) rfl ?_
  intro p e s m args below meth c s₁ B hml hv0
  obtain ⟨rfl, hP, hD, hA, hK, hX⟩ := hv0
  have hx := B.exec
  have hb := B.bytes
  have hr := B.returns
  have hts := atoms_spec (ws := wsX1_mixVoice) B.pre
  have hown : s.vm.findClass RX1 = some m.cls := findClass_of_methodNamed B.named
  have hlocks := B.notSynchronized
  have hS : va_S A s.heap s.heap [] := va_S.rf
  have hinX0 : ∀ w ∈ u_ws RX0 TX0 10, w ∈ wsX1_mixVoice := by decide +kernel
  have hl := lv_entry ([.ref (gX g), .long d0, .ref (gV g v)]) (n := 7) (Nat.le_of_ble_eq_true rfl)
  rw [lg_entry_eq]
  generalize (lg_sl ([.ref (gX g), .long d0, .ref (gV g v)]) ++ List.replicate (7 - (lg_sl ([.ref (gX g), .long d0, .ref (gV g v)])).length) Slot.unset).toArray = ls at hl ⊢
  have hl : lv_has ls 7 [(0, .ref (gX g)), (1, .long d0), (3, .ref (gV g v))] := hl
  have hC := hI.C v
  refine lv_lload_n (pc := 0) hx hb dX1_mixVoice_0 rfl (lv_at hl 1 rfl) ?_
  refine lv_aload_n (pc := 1) hx hb dX1_mixVoice_1 rfl (lv_at hl 2 rfl) ?_
  refine va_getN (v := .int (nI (sC σ v))) (pc := 2) (D := gD g) (ci := 0) (C := RX0) (T := TX0) (N := 10) hx hb hts hinX0 hown hK hP (2 + 6 * v) (cv0 g σ rest hv) rfl 4 (by decide) (va_Nw.use rfl (nf_64 hX)) (fun _ h9 => h9) rfl dX1_mixVoice_2 ?_
  refine k_rl (pc := 5) (va_runS (As := [.long d0, .int (nI (sC σ v))]) (rest := []) ⟨hx, hb, hml, hown, hts⟩ (cX1_mix_m l g A σ rest d0 (nI (sC σ v))) (va_cwS 2 hts gX1_mixVoice_X1_mix rfl rfl rfl (by decide +kernel) ⟨Nat.le_of_ble_eq_true rfl, Nat.le_of_ble_eq_true rfl⟩) (cx_S hP hD hA hK hX hS) rfl rfl hl.1 rfl (lv_room (Nat.le_of_ble_eq_true rfl)) dX1_mixVoice_5 ⟨Nat.le_of_ble_eq_true rfl, Nat.le_of_ble_eq_true rfl⟩) (fun r_1 hr_1 => ?_)
  subst hr_1
  refine lv_lstore (lv' := [(4, .long (mx d0 (nI (sC σ v)))), (0, .ref (gX g)), (1, .long d0), (3, .ref (gV g v))]) (pc := 8) hx hb dX1_mixVoice_8 hl (by decide) rfl (fun ls hl => ?_)
  refine lv_lload (pc := 10) hx hb dX1_mixVoice_10 (lv_at hl 0 rfl) ?_
  refine lv_aload_n (pc := 12) hx hb dX1_mixVoice_12 rfl (lv_at hl 3 rfl) ?_
  refine k_ri (pc := 13) (va_runVN (As := []) (rest := [.long (mx d0 (nI (sC σ v)))]) ⟨hx, hb, hml, hown, hts⟩ (cX0_countNotes_m l g A σ rest v hv hI) ⟨va_cnB 0 hts gX1_mixVoice_X0_countNotes_n92 rfl rfl rfl (nm_92 hX) (hts (.initialized RX0) (by decide +kernel)) (by decide +kernel) ⟨Nat.le_of_ble_eq_true rfl, Nat.le_of_ble_eq_true rfl⟩, hts (.instanceMethod yX0_countNotes) (by decide +kernel), hts (.selects RX0 yX0_countNotes yX0_countNotes) (by decide +kernel)⟩ (cx_V (q0 := (2 + 6 * v)) (ci := 0) (r := (RX0, TX0, 10)) rfl (cv0 g σ rest hv) hP hD hA hK hX hS) rfl rfl hl.1 rfl (lv_room (Nat.le_of_ble_eq_true rfl)) dX1_mixVoice_13 ⟨Nat.le_of_ble_eq_true rfl, Nat.le_of_ble_eq_true rfl⟩) (fun r_2 hr_2 => ?_)
  subst hr_2
  refine k_rl (pc := 16) (va_runS (As := [.long (mx d0 (nI (sC σ v))), .int (nI (cnt (isNt σ v) (sC σ v)))]) (rest := []) ⟨hx, hb, hml, hown, hts⟩ (cX1_mix_m l g A σ rest (mx d0 (nI (sC σ v))) (nI (cnt (isNt σ v) (sC σ v)))) (va_cwS 2 hts gX1_mixVoice_X1_mix rfl rfl rfl (by decide +kernel) ⟨Nat.le_of_ble_eq_true rfl, Nat.le_of_ble_eq_true rfl⟩) (cx_S hP hD hA hK hX hS) rfl rfl hl.1 rfl (lv_room (Nat.le_of_ble_eq_true rfl)) dX1_mixVoice_16 ⟨Nat.le_of_ble_eq_true rfl, Nat.le_of_ble_eq_true rfl⟩) (fun r_3 hr_3 => ?_)
  subst hr_3
  refine lv_lstore (lv' := [(4, .long (mx (mx d0 (nI (sC σ v))) (nI (cnt (isNt σ v) (sC σ v))))), (0, .ref (gX g)), (1, .long d0), (3, .ref (gV g v))]) (pc := 19) hx hb dX1_mixVoice_19 hl (by decide) rfl (fun ls hl => ?_)
  refine lv_lload (pc := 21) hx hb dX1_mixVoice_21 (lv_at hl 0 rfl) ?_
  refine lv_aload_n (pc := 23) hx hb dX1_mixVoice_23 rfl (lv_at hl 3 rfl) ?_
  refine k_ri (pc := 24) (va_runVN (As := []) (rest := [.long (mx (mx d0 (nI (sC σ v))) (nI (cnt (isNt σ v) (sC σ v))))]) ⟨hx, hb, hml, hown, hts⟩ (cX0_countLigatures_m l g A σ rest v hv hI) ⟨va_cnB 0 hts gX1_mixVoice_X0_countLigatures_n95 rfl rfl rfl (nm_95 hX) (hts (.initialized RX0) (by decide +kernel)) (by decide +kernel) ⟨Nat.le_of_ble_eq_true rfl, Nat.le_of_ble_eq_true rfl⟩, hts (.instanceMethod yX0_countLigatures) (by decide +kernel), hts (.selects RX0 yX0_countLigatures yX0_countLigatures) (by decide +kernel)⟩ (cx_V (q0 := (2 + 6 * v)) (ci := 0) (r := (RX0, TX0, 10)) rfl (cv0 g σ rest hv) hP hD hA hK hX hS) rfl rfl hl.1 rfl (lv_room (Nat.le_of_ble_eq_true rfl)) dX1_mixVoice_24 ⟨Nat.le_of_ble_eq_true rfl, Nat.le_of_ble_eq_true rfl⟩) (fun r_4 hr_4 => ?_)
  subst hr_4
  refine k_rl (pc := 27) (va_runS (As := [.long (mx (mx d0 (nI (sC σ v))) (nI (cnt (isNt σ v) (sC σ v)))), .int (nI (cnt (isLg σ v) (sC σ v)))]) (rest := []) ⟨hx, hb, hml, hown, hts⟩ (cX1_mix_m l g A σ rest (mx (mx d0 (nI (sC σ v))) (nI (cnt (isNt σ v) (sC σ v)))) (nI (cnt (isLg σ v) (sC σ v)))) (va_cwS 2 hts gX1_mixVoice_X1_mix rfl rfl rfl (by decide +kernel) ⟨Nat.le_of_ble_eq_true rfl, Nat.le_of_ble_eq_true rfl⟩) (cx_S hP hD hA hK hX hS) rfl rfl hl.1 rfl (lv_room (Nat.le_of_ble_eq_true rfl)) dX1_mixVoice_27 ⟨Nat.le_of_ble_eq_true rfl, Nat.le_of_ble_eq_true rfl⟩) (fun r_5 hr_5 => ?_)
  subst hr_5
  refine lv_lstore (lv' := [(4, .long (mx (mx (mx d0 (nI (sC σ v))) (nI (cnt (isNt σ v) (sC σ v)))) (nI (cnt (isLg σ v) (sC σ v))))), (0, .ref (gX g)), (1, .long d0), (3, .ref (gV g v))]) (pc := 30) hx hb dX1_mixVoice_30 hl (by decide) rfl (fun ls hl => ?_)
  refine lv_lload (pc := 32) hx hb dX1_mixVoice_32 (lv_at hl 0 rfl) ?_
  refine lv_aload_n (pc := 34) hx hb dX1_mixVoice_34 rfl (lv_at hl 3 rfl) ?_
  refine k_ri (pc := 35) (va_runVN (As := []) (rest := [.long (mx (mx (mx d0 (nI (sC σ v))) (nI (cnt (isNt σ v) (sC σ v)))) (nI (cnt (isLg σ v) (sC σ v))))]) ⟨hx, hb, hml, hown, hts⟩ (cX0_end_m l g A σ rest v hv hI) ⟨va_cnB 0 hts gX1_mixVoice_X0_end_n89 rfl rfl rfl (nm_89 hX) (hts (.initialized RX0) (by decide +kernel)) (by decide +kernel) ⟨Nat.le_of_ble_eq_true rfl, Nat.le_of_ble_eq_true rfl⟩, hts (.instanceMethod yX0_end) (by decide +kernel), hts (.selects RX0 yX0_end yX0_end) (by decide +kernel)⟩ (cx_V (q0 := (2 + 6 * v)) (ci := 0) (r := (RX0, TX0, 10)) rfl (cv0 g σ rest hv) hP hD hA hK hX hS) rfl rfl hl.1 rfl (lv_room (Nat.le_of_ble_eq_true rfl)) dX1_mixVoice_35 ⟨Nat.le_of_ble_eq_true rfl, Nat.le_of_ble_eq_true rfl⟩) (fun r_6 hr_6 => ?_)
  subst hr_6
  refine k_rl (pc := 38) (va_runS (As := [.long (mx (mx (mx d0 (nI (sC σ v))) (nI (cnt (isNt σ v) (sC σ v)))) (nI (cnt (isLg σ v) (sC σ v)))), .int (nI (len σ v))]) (rest := []) ⟨hx, hb, hml, hown, hts⟩ (cX1_mix_m l g A σ rest (mx (mx (mx d0 (nI (sC σ v))) (nI (cnt (isNt σ v) (sC σ v)))) (nI (cnt (isLg σ v) (sC σ v)))) (nI (len σ v))) (va_cwS 2 hts gX1_mixVoice_X1_mix rfl rfl rfl (by decide +kernel) ⟨Nat.le_of_ble_eq_true rfl, Nat.le_of_ble_eq_true rfl⟩) (cx_S hP hD hA hK hX hS) rfl rfl hl.1 rfl (lv_room (Nat.le_of_ble_eq_true rfl)) dX1_mixVoice_38 ⟨Nat.le_of_ble_eq_true rfl, Nat.le_of_ble_eq_true rfl⟩) (fun r_7 hr_7 => ?_)
  subst hr_7
  refine lv_lstore (lv' := [(4, .long (mx (mx (mx (mx d0 (nI (sC σ v))) (nI (cnt (isNt σ v) (sC σ v)))) (nI (cnt (isLg σ v) (sC σ v)))) (nI (len σ v)))), (0, .ref (gX g)), (1, .long d0), (3, .ref (gV g v))]) (pc := 41) hx hb dX1_mixVoice_41 hl (by decide) rfl (fun ls hl => ?_)
  refine lv_lload (pc := 43) hx hb dX1_mixVoice_43 (lv_at hl 0 rfl) ?_
  refine lv_aload_n (pc := 45) hx hb dX1_mixVoice_45 rfl (lv_at hl 3 rfl) ?_
  refine va_getN (v := .int (sL σ v)) (pc := 46) (D := gD g) (ci := 0) (C := RX0) (T := TX0) (N := 10) hx hb hts hinX0 hown hK hP (2 + 6 * v) (cv0 g σ rest hv) rfl 3 (by decide) (va_Nw.use rfl (nf_86 hX)) (fun _ h9 => h9) rfl dX1_mixVoice_46 ?_
  refine k_rl (pc := 49) (va_runS (As := [.long (mx (mx (mx (mx d0 (nI (sC σ v))) (nI (cnt (isNt σ v) (sC σ v)))) (nI (cnt (isLg σ v) (sC σ v)))) (nI (len σ v))), .int (sL σ v)]) (rest := []) ⟨hx, hb, hml, hown, hts⟩ (cX1_mix_m l g A σ rest (mx (mx (mx (mx d0 (nI (sC σ v))) (nI (cnt (isNt σ v) (sC σ v)))) (nI (cnt (isLg σ v) (sC σ v)))) (nI (len σ v))) (sL σ v)) (va_cwS 2 hts gX1_mixVoice_X1_mix rfl rfl rfl (by decide +kernel) ⟨Nat.le_of_ble_eq_true rfl, Nat.le_of_ble_eq_true rfl⟩) (cx_S hP hD hA hK hX hS) rfl rfl hl.1 rfl (lv_room (Nat.le_of_ble_eq_true rfl)) dX1_mixVoice_49 ⟨Nat.le_of_ble_eq_true rfl, Nat.le_of_ble_eq_true rfl⟩) (fun r_8 hr_8 => ?_)
  subst hr_8
  refine lv_lstore (lv' := [(4, .long (mx (mx (mx (mx (mx d0 (nI (sC σ v))) (nI (cnt (isNt σ v) (sC σ v)))) (nI (cnt (isLg σ v) (sC σ v)))) (nI (len σ v))) (sL σ v))), (0, .ref (gX g)), (1, .long d0), (3, .ref (gV g v))]) (pc := 52) hx hb dX1_mixVoice_52 hl (by decide) rfl (fun ls hl => ?_)
  refine lv_lload (pc := 54) hx hb dX1_mixVoice_54 (lv_at hl 0 rfl) ?_
  refine lv_aload_n (pc := 56) hx hb dX1_mixVoice_56 rfl (lv_at hl 3 rfl) ?_
  refine k_ri (pc := 57) (va_runVN (As := []) (rest := [.long (mx (mx (mx (mx (mx d0 (nI (sC σ v))) (nI (cnt (isNt σ v) (sC σ v)))) (nI (cnt (isLg σ v) (sC σ v)))) (nI (len σ v))) (sL σ v))]) ⟨hx, hb, hml, hown, hts⟩ (cX0_countFittingClefs_m l g A σ rest v hv hI) ⟨va_cnB 0 hts gX1_mixVoice_X0_countFittingClefs_n137 rfl rfl rfl (nm_137 hX) (hts (.initialized RX0) (by decide +kernel)) (by decide +kernel) ⟨Nat.le_of_ble_eq_true rfl, Nat.le_of_ble_eq_true rfl⟩, hts (.instanceMethod yX0_countFittingClefs) (by decide +kernel), hts (.selects RX0 yX0_countFittingClefs yX0_countFittingClefs) (by decide +kernel)⟩ (cx_V (q0 := (2 + 6 * v)) (ci := 0) (r := (RX0, TX0, 10)) rfl (cv0 g σ rest hv) hP hD hA hK hX hS) rfl rfl hl.1 rfl (lv_room (Nat.le_of_ble_eq_true rfl)) dX1_mixVoice_57 ⟨Nat.le_of_ble_eq_true rfl, Nat.le_of_ble_eq_true rfl⟩) (fun r_9 hr_9 => ?_)
  subst hr_9
  refine k_rl (pc := 60) (va_runS (As := [.long (mx (mx (mx (mx (mx d0 (nI (sC σ v))) (nI (cnt (isNt σ v) (sC σ v)))) (nI (cnt (isLg σ v) (sC σ v)))) (nI (len σ v))) (sL σ v)), .int (nI (fct σ v))]) (rest := []) ⟨hx, hb, hml, hown, hts⟩ (cX1_mix_m l g A σ rest (mx (mx (mx (mx (mx d0 (nI (sC σ v))) (nI (cnt (isNt σ v) (sC σ v)))) (nI (cnt (isLg σ v) (sC σ v)))) (nI (len σ v))) (sL σ v)) (nI (fct σ v))) (va_cwS 2 hts gX1_mixVoice_X1_mix rfl rfl rfl (by decide +kernel) ⟨Nat.le_of_ble_eq_true rfl, Nat.le_of_ble_eq_true rfl⟩) (cx_S hP hD hA hK hX hS) rfl rfl hl.1 rfl (lv_room (Nat.le_of_ble_eq_true rfl)) dX1_mixVoice_60 ⟨Nat.le_of_ble_eq_true rfl, Nat.le_of_ble_eq_true rfl⟩) (fun r_10 hr_10 => ?_)
  subst hr_10
  refine lv_lstore (lv' := [(4, .long (mx (mx (mx (mx (mx (mx d0 (nI (sC σ v))) (nI (cnt (isNt σ v) (sC σ v)))) (nI (cnt (isLg σ v) (sC σ v)))) (nI (len σ v))) (sL σ v)) (nI (fct σ v)))), (0, .ref (gX g)), (1, .long d0), (3, .ref (gV g v))]) (pc := 63) hx hb dX1_mixVoice_63 hl (by decide) rfl (fun ls hl => ?_)
  refine lv_lload (pc := 65) hx hb dX1_mixVoice_65 (lv_at hl 0 rfl) ?_
  refine lv_aload_n (pc := 67) hx hb dX1_mixVoice_67 rfl (lv_at hl 1 rfl) ?_
  refine lv_aload_n (pc := 68) hx hb dX1_mixVoice_68 rfl (lv_at hl 3 rfl) ?_
  refine k_ri (pc := 69) (va_runV (As := [.ref (gV g v)]) (rest := [.long (mx (mx (mx (mx (mx (mx d0 (nI (sC σ v))) (nI (cnt (isNt σ v) (sC σ v)))) (nI (cnt (isLg σ v) (sC σ v)))) (nI (len σ v))) (sL σ v)) (nI (fct σ v)))]) ⟨hx, hb, hml, hown, hts⟩ (cX1_clefWithFewestClashes_m l g A σ rest v hv hI) (cwV 1 hts gX1_mixVoice_X1_clefWithFewestClashes rfl rfl rfl (by decide +kernel) ⟨Nat.le_of_ble_eq_true rfl, Nat.le_of_ble_eq_true rfl⟩) (cx_V (q0 := 0) (ci := 1) (r := (RX1, TX1, 2)) rfl (cx0 g σ rest) hP hD hA hK hX hS) rfl rfl hl.1 rfl (lv_room (Nat.le_of_ble_eq_true rfl)) dX1_mixVoice_69 ⟨Nat.le_of_ble_eq_true rfl, Nat.le_of_ble_eq_true rfl⟩) (fun r_11 hr_11 => ?_)
  subst hr_11
  refine k_rl (pc := 72) (va_runS (As := [.long (mx (mx (mx (mx (mx (mx d0 (nI (sC σ v))) (nI (cnt (isNt σ v) (sC σ v)))) (nI (cnt (isLg σ v) (sC σ v)))) (nI (len σ v))) (sL σ v)) (nI (fct σ v))), .int (bcl σ v)]) (rest := []) ⟨hx, hb, hml, hown, hts⟩ (cX1_mix_m l g A σ rest (mx (mx (mx (mx (mx (mx d0 (nI (sC σ v))) (nI (cnt (isNt σ v) (sC σ v)))) (nI (cnt (isLg σ v) (sC σ v)))) (nI (len σ v))) (sL σ v)) (nI (fct σ v))) (bcl σ v)) (va_cwS 2 hts gX1_mixVoice_X1_mix rfl rfl rfl (by decide +kernel) ⟨Nat.le_of_ble_eq_true rfl, Nat.le_of_ble_eq_true rfl⟩) (cx_S hP hD hA hK hX hS) rfl rfl hl.1 rfl (lv_room (Nat.le_of_ble_eq_true rfl)) dX1_mixVoice_72 ⟨Nat.le_of_ble_eq_true rfl, Nat.le_of_ble_eq_true rfl⟩) (fun r_12 hr_12 => ?_)
  subst hr_12
  refine lv_lstore (lv' := [(4, .long (mx (mx (mx (mx (mx (mx (mx d0 (nI (sC σ v))) (nI (cnt (isNt σ v) (sC σ v)))) (nI (cnt (isLg σ v) (sC σ v)))) (nI (len σ v))) (sL σ v)) (nI (fct σ v))) (bcl σ v))), (0, .ref (gX g)), (1, .long d0), (3, .ref (gV g v))]) (pc := 75) hx hb dX1_mixVoice_75 hl (by decide) rfl (fun ls hl => ?_)
  refine lv_lload (pc := 77) hx hb dX1_mixVoice_77 (lv_at hl 0 rfl) ?_
  refine lv_aload_n (pc := 79) hx hb dX1_mixVoice_79 rfl (lv_at hl 3 rfl) ?_
  refine lv_aload_n (pc := 80) hx hb dX1_mixVoice_80 rfl (lv_at hl 3 rfl) ?_
  refine lv_iconst (v := 4) (pc := 81) hx hb dX1_mixVoice_81 (by decide) ?_
  refine lv_iconst (v := 0) (pc := 82) hx hb dX1_mixVoice_82 (by decide) ?_
  refine k_ri (pc := 83) (va_runS (As := [.ref (gV g v), .ref (gV g v), .int 4, .int 0]) (rest := [.long (mx (mx (mx (mx (mx (mx (mx d0 (nI (sC σ v))) (nI (cnt (isNt σ v) (sC σ v)))) (nI (cnt (isLg σ v) (sC σ v)))) (nI (len σ v))) (sL σ v)) (nI (fct σ v))) (bcl σ v))]) ⟨hx, hb, hml, hown, hts⟩ (cX1_clashingMinims_m l g A σ rest v v 4 0 hv hv hI (by omega)) (va_cwS 4 hts gX1_mixVoice_X1_clashingMinims rfl rfl rfl (by decide +kernel) ⟨Nat.le_of_ble_eq_true rfl, Nat.le_of_ble_eq_true rfl⟩) (cx_S hP hD hA hK hX hS) rfl rfl hl.1 rfl (lv_room (Nat.le_of_ble_eq_true rfl)) dX1_mixVoice_83 ⟨Nat.le_of_ble_eq_true rfl, Nat.le_of_ble_eq_true rfl⟩) (fun r_13 hr_13 => ?_)
  subst hr_13
  refine k_rl (pc := 86) (va_runS (As := [.long (mx (mx (mx (mx (mx (mx (mx d0 (nI (sC σ v))) (nI (cnt (isNt σ v) (sC σ v)))) (nI (cnt (isLg σ v) (sC σ v)))) (nI (len σ v))) (sL σ v)) (nI (fct σ v))) (bcl σ v)), .int (nI (clN σ v v 4 0))]) (rest := []) ⟨hx, hb, hml, hown, hts⟩ (cX1_mix_m l g A σ rest (mx (mx (mx (mx (mx (mx (mx d0 (nI (sC σ v))) (nI (cnt (isNt σ v) (sC σ v)))) (nI (cnt (isLg σ v) (sC σ v)))) (nI (len σ v))) (sL σ v)) (nI (fct σ v))) (bcl σ v)) (nI (clN σ v v 4 0))) (va_cwS 2 hts gX1_mixVoice_X1_mix rfl rfl rfl (by decide +kernel) ⟨Nat.le_of_ble_eq_true rfl, Nat.le_of_ble_eq_true rfl⟩) (cx_S hP hD hA hK hX hS) rfl rfl hl.1 rfl (lv_room (Nat.le_of_ble_eq_true rfl)) dX1_mixVoice_86 ⟨Nat.le_of_ble_eq_true rfl, Nat.le_of_ble_eq_true rfl⟩) (fun r_14 hr_14 => ?_)
  subst hr_14
  refine lv_lstore (lv' := [(4, .long (mx (mx (mx (mx (mx (mx (mx (mx d0 (nI (sC σ v))) (nI (cnt (isNt σ v) (sC σ v)))) (nI (cnt (isLg σ v) (sC σ v)))) (nI (len σ v))) (sL σ v)) (nI (fct σ v))) (bcl σ v)) (nI (clN σ v v 4 0)))), (0, .ref (gX g)), (1, .long d0), (3, .ref (gV g v))]) (pc := 89) hx hb dX1_mixVoice_89 hl (by decide) rfl (fun ls hl => ?_)
  refine lv_lload (pc := 91) hx hb dX1_mixVoice_91 (lv_at hl 0 rfl) ?_
  refine lv_aload_n (pc := 93) hx hb dX1_mixVoice_93 rfl (lv_at hl 3 rfl) ?_
  refine lv_iconst (v := 4) (pc := 94) hx hb dX1_mixVoice_94 (by decide) ?_
  refine k_ri (pc := 95) (va_runS (As := [.ref (gV g v), .int 4]) (rest := [.long (mx (mx (mx (mx (mx (mx (mx (mx d0 (nI (sC σ v))) (nI (cnt (isNt σ v) (sC σ v)))) (nI (cnt (isLg σ v) (sC σ v)))) (nI (len σ v))) (sL σ v)) (nI (fct σ v))) (bcl σ v)) (nI (clN σ v v 4 0)))]) ⟨hx, hb, hml, hown, hts⟩ (cX1_delayWithFewestClashes_m l g A σ rest v 4 hv hI) (va_cwS 2 hts gX1_mixVoice_X1_delayWithFewestClashes rfl rfl rfl (by decide +kernel) ⟨Nat.le_of_ble_eq_true rfl, Nat.le_of_ble_eq_true rfl⟩) (cx_S hP hD hA hK hX hS) rfl rfl hl.1 rfl (lv_room (Nat.le_of_ble_eq_true rfl)) dX1_mixVoice_95 ⟨Nat.le_of_ble_eq_true rfl, Nat.le_of_ble_eq_true rfl⟩) (fun r_15 hr_15 => ?_)
  subst hr_15
  refine k_rl (pc := 98) (va_runS (As := [.long (mx (mx (mx (mx (mx (mx (mx (mx d0 (nI (sC σ v))) (nI (cnt (isNt σ v) (sC σ v)))) (nI (cnt (isLg σ v) (sC σ v)))) (nI (len σ v))) (sL σ v)) (nI (fct σ v))) (bcl σ v)) (nI (clN σ v v 4 0))), .int (bdl σ v 4)]) (rest := []) ⟨hx, hb, hml, hown, hts⟩ (cX1_mix_m l g A σ rest (mx (mx (mx (mx (mx (mx (mx (mx d0 (nI (sC σ v))) (nI (cnt (isNt σ v) (sC σ v)))) (nI (cnt (isLg σ v) (sC σ v)))) (nI (len σ v))) (sL σ v)) (nI (fct σ v))) (bcl σ v)) (nI (clN σ v v 4 0))) (bdl σ v 4)) (va_cwS 2 hts gX1_mixVoice_X1_mix rfl rfl rfl (by decide +kernel) ⟨Nat.le_of_ble_eq_true rfl, Nat.le_of_ble_eq_true rfl⟩) (cx_S hP hD hA hK hX hS) rfl rfl hl.1 rfl (lv_room (Nat.le_of_ble_eq_true rfl)) dX1_mixVoice_98 ⟨Nat.le_of_ble_eq_true rfl, Nat.le_of_ble_eq_true rfl⟩) (fun r_16 hr_16 => ?_)
  subst hr_16
  refine lv_lstore (lv' := [(4, .long (mx (mx (mx (mx (mx (mx (mx (mx (mx d0 (nI (sC σ v))) (nI (cnt (isNt σ v) (sC σ v)))) (nI (cnt (isLg σ v) (sC σ v)))) (nI (len σ v))) (sL σ v)) (nI (fct σ v))) (bcl σ v)) (nI (clN σ v v 4 0))) (bdl σ v 4))), (0, .ref (gX g)), (1, .long d0), (3, .ref (gV g v))]) (pc := 101) hx hb dX1_mixVoice_101 hl (by decide) rfl (fun ls hl => ?_)
  refine lv_iconst (v := 0) (pc := 103) hx hb dX1_mixVoice_103 (by decide) ?_
  refine lv_istore (lv' := [(6, .int 0), (4, .long (mx (mx (mx (mx (mx (mx (mx (mx (mx d0 (nI (sC σ v))) (nI (cnt (isNt σ v) (sC σ v)))) (nI (cnt (isLg σ v) (sC σ v)))) (nI (len σ v))) (sL σ v)) (nI (fct σ v))) (bcl σ v)) (nI (clN σ v v 4 0))) (bdl σ v 4))), (0, .ref (gX g)), (1, .long d0), (3, .ref (gV g v))]) (pc := 104) hx hb dX1_mixVoice_104 hl (by decide) rfl (fun ls hl => ?_)
  refine k_loop2 (pc := 106) (nL := 7) (fun (i : Nat) (y : Int64) => i ≤ sC σ v ∧ y = dgSs σ v (mxl d0 (dgV σ v)) i) (fun (i : Nat) (y : Int64) => sC σ v - i) (fun (i : Nat) (y : Int64) => [(6, .int (nI i)), (4, .long y), (0, .ref (gX g)), (3, .ref (gV g v))]) (fun i y hJ ih_106 ls hl => ?_) 0 (mx (mx (mx (mx (mx (mx (mx (mx (mx d0 (nI (sC σ v))) (nI (cnt (isNt σ v) (sC σ v)))) (nI (cnt (isLg σ v) (sC σ v)))) (nI (len σ v))) (sL σ v)) (nI (fct σ v))) (bcl σ v)) (nI (clN σ v v 4 0))) (bdl σ v 4)) ⟨Nat.zero_le _, rfl⟩ (lv_sub hl [0, 1, 2, 4] rfl)
  obtain ⟨hi, hy⟩ := hJ
  have hl : lv_has ls 7 [(6, .int (nI i)), (4, .long y), (0, .ref (gX g)), (3, .ref (gV g v))] := hl
  refine lv_iload (pc := 106) hx hb dX1_mixVoice_106 (lv_at hl 0 rfl) ?_
  refine lv_aload_n (pc := 108) hx hb dX1_mixVoice_108 rfl (lv_at hl 3 rfl) ?_
  refine va_getN (v := .int (nI (sC σ v))) (pc := 109) (D := gD g) (ci := 0) (C := RX0) (T := TX0) (N := 10) hx hb hts hinX0 hown hK hP (2 + 6 * v) (cv0 g σ rest hv) rfl 4 (by decide) (va_Nw.use rfl (nf_64 hX)) (fun _ h9 => h9) rfl dX1_mixVoice_109 ?_
  refine lv_icmp_ge (tgt := 131) (pc := 112) hx hb dX1_mixVoice_112 (by decide) (fun c1 => ?_) (fun c1 => ?_)
  · have c1 : sC σ v ≤ i := (nI_leI (a := sC σ v) (b := i) (by omega) (by omega)).mp c1
    refine lv_lload (pc := 131) hx hb dX1_mixVoice_131 (lv_at hl 1 rfl) ?_
    exact W.lret hx hb hr (fun t ht hW => ⟨_, rfl, (by rw [hy, show i = sC σ v by omega]), ht⟩) (fun q hq => absurd hq List.not_mem_nil) dX1_mixVoice_133
  · have c1 : ¬ (sC σ v ≤ i) := fun z => c1 ((nI_leI (a := sC σ v) (b := i) (by omega) (by omega)).mpr z)
    refine lv_lload (pc := 115) hx hb dX1_mixVoice_115 (lv_at hl 1 rfl) ?_
    refine lv_aload_n (pc := 117) hx hb dX1_mixVoice_117 rfl (lv_at hl 3 rfl) ?_
    refine lv_iload (pc := 118) hx hb dX1_mixVoice_118 (lv_at hl 0 rfl) ?_
    refine k_rl (pc := 120) (va_runS (As := [.long y, .ref (gV g v), .int (nI i)]) (rest := []) ⟨hx, hb, hml, hown, hts⟩ (cX1_mixSign_m l g A σ rest v i y hv hI (by omega)) (va_cwS 3 hts gX1_mixVoice_X1_mixSign rfl rfl rfl (by decide +kernel) ⟨Nat.le_of_ble_eq_true rfl, Nat.le_of_ble_eq_true rfl⟩) (cx_S hP hD hA hK hX hS) rfl rfl hl.1 rfl (lv_room (Nat.le_of_ble_eq_true rfl)) dX1_mixVoice_120 ⟨Nat.le_of_ble_eq_true rfl, Nat.le_of_ble_eq_true rfl⟩) (fun r_18 hr_18 => ?_)
    subst hr_18
    refine lv_lstore (lv' := [(4, .long (mxl y (dgS σ v i))), (6, .int (nI i)), (0, .ref (gX g)), (3, .ref (gV g v))]) (pc := 123) hx hb dX1_mixVoice_123 hl (by decide) rfl (fun ls hl => ?_)
    refine lv_iinc (v := nI (i + 1)) (lv' := [(6, .int (nI (i + 1))), (4, .long (mxl y (dgS σ v i))), (0, .ref (gX g)), (3, .ref (gV g v))]) (pc := 125) hx hb dX1_mixVoice_125 hl (k := 1) rfl (nI_1 _) (by decide) rfl (fun ls hl => ?_)
    refine lv_goto (tgt := 106) (pc := 128) hx hb dX1_mixVoice_128 (by decide) ?_
    exact ih_106 (i + 1) (mxl y (dgS σ v i)) ⟨by omega, by rw [hy]; rfl⟩ (by omega) _ (lv_sub hl [0, 1, 2, 3] rfl)
set_option maxHeartbeats 4000000 in
set_option maxRecDepth 100000 in
/-- how long the longest voice is -/
theorem cX1_longest_m (l : Launch) (g : GA) (A : Nat → Prop) (σ : St) (rest : va_W) (hI : Inv σ) : Met l yX1_longest wsX1_longest ({ frames := 1, cells := 0, slots := 0, locals := 21 }) (va_Pc [.ref (gX g)] (Cx g A (cw g σ ++ rest))) (vp_Si (fun r : Int32 => r = nI (lngst σ))) 0 0 (fun _ => False) := by
  refine Met.ofW (cc := cX1_longest) (maxL := 3) (ret := (some .int)) (by decide) rfl ?_
  intro p e s m args below meth c s₁ B hml hv0
  obtain ⟨rfl, hP, hD, hA, hK, hX⟩ := hv0
  have hx := B.exec
  have hb := B.bytes
  have hr := B.returns
  have hts := atoms_spec (ws := wsX1_longest) B.pre
  have hown : s.vm.findClass RX1 = some m.cls := findClass_of_methodNamed B.named
  have hlocks := B.notSynchronized
  have hS : va_S A s.heap s.heap [] := va_S.rf
  have hinX1 : ∀ w ∈ u_ws RX1 TX1 2, w ∈ wsX1_longest := by decide +kernel
  have hl := lv_entry ([.ref (gX g)]) (n := 3) (Nat.le_of_ble_eq_true rfl)
  rw [lg_entry_eq]
  generalize (lg_sl ([.ref (gX g)]) ++ List.replicate (3 - (lg_sl ([.ref (gX g)])).length) Slot.unset).toArray = ls at hl ⊢
  have hl : lv_has ls 3 [(0, .ref (gX g))] := hl
  have hN := hI.N
  refine lv_iconst (v := 0) (pc := 0) hx hb dX1_longest_0 (by decide) ?_
  refine lv_istore_n (lv' := [(1, .int 0), (0, .ref (gX g))]) (pc := 1) hx hb dX1_longest_1 rfl hl (by decide) rfl (fun ls hl => ?_)
  refine lv_iconst (v := 0) (pc := 2) hx hb dX1_longest_2 (by decide) ?_
  refine lv_istore_n (lv' := [(2, .int 0), (1, .int 0), (0, .ref (gX g))]) (pc := 3) hx hb dX1_longest_3 rfl hl (by decide) rfl (fun ls hl => ?_)
  refine k_loop1 (pc := 4) (nL := 3) (fun (i : Nat) => i ≤ sN σ) (fun (i : Nat) => sN σ - i) (fun (i : Nat) => [(2, .int (nI i)), (1, .int (nI (lngF σ i))), (0, .ref (gX g))]) (fun i hJ ih_4 ls hl => ?_) 0 (Nat.zero_le _) (lv_sub hl [0, 1, 2] rfl)
  have hi := hJ
  have hl : lv_has ls 3 [(2, .int (nI i)), (1, .int (nI (lngF σ i))), (0, .ref (gX g))] := hl
  refine lv_iload_n (pc := 4) hx hb dX1_longest_4 rfl (lv_at hl 0 rfl) ?_
  refine lv_aload_n (pc := 5) hx hb dX1_longest_5 rfl (lv_at hl 2 rfl) ?_
  refine va_get (v := .int (nI (sN σ))) (pc := 6) (D := gD g) (ci := 1) (C := RX1) (T := TX1) (N := 2) hx hb hts hinX1 hown hK hP 0 (cx0 g σ rest) rfl 1 (by decide) (hts (.fieldLink RX1 20 "ChoirNotes" "voiceCount" "I") (by decide +kernel)) (fun _ h9 => h9) rfl dX1_longest_6 ?_
  refine lv_icmp_ge (tgt := 32) (pc := 9) hx hb dX1_longest_9 (by decide) (fun c1 => ?_) (fun c1 => ?_)
  · have c1 : sN σ ≤ i := (nI_leI (a := sN σ) (b := i) (by omega) (by omega)).mp c1
    refine lv_iload_n (pc := 32) hx hb dX1_longest_32 rfl (lv_at hl 1 rfl) ?_
    exact W.iret hx hb hr (fun t ht hW => ⟨_, rfl, (by rw [show i = sN σ by omega]; rfl), ht⟩) (fun q hq => absurd hq List.not_mem_nil) dX1_longest_33
  · have c1 : ¬ (sN σ ≤ i) := fun z => c1 ((nI_leI (a := sN σ) (b := i) (by omega) (by omega)).mpr z)
    refine lv_iload_n (pc := 12) hx hb dX1_longest_12 rfl (lv_at hl 1 rfl) ?_
    refine lv_aload_n (pc := 13) hx hb dX1_longest_13 rfl (lv_at hl 2 rfl) ?_
    refine va_get (v := .ref (gK g)) (pc := 14) (D := gD g) (ci := 1) (C := RX1) (T := TX1) (N := 2) hx hb hts hinX1 hown hK hP 0 (cx0 g σ rest) rfl 0 (by decide) (hts (.fieldLink RX1 11 "ChoirNotes" "book" "[LChoirNotes$Voice;") (by decide +kernel)) (fun _ h9 => h9) rfl dX1_longest_14 ?_
    refine lv_iload_n (pc := 17) hx hb dX1_longest_17 rfl (lv_at hl 0 rfl) ?_
    refine k_aald (pc := 18) (x := gV g i) hx hb hK hP 1 2 (cx1 g σ rest) rfl i rfl (show i < 4 by omega) (by decide) (if_pos (show i < 4 by omega)) dX1_longest_18 ?_
    refine k_ri (pc := 19) (va_runVN (As := []) (rest := [.int (nI (lngF σ i))]) ⟨hx, hb, hml, hown, hts⟩ (cX0_end_m l g A σ rest i (show i < 4 by omega) hI) ⟨va_cnB 0 hts gX1_longest_X0_end_n89 rfl rfl rfl (nm_89 hX) (hts (.initialized RX0) (by decide +kernel)) (by decide +kernel) ⟨Nat.le_of_ble_eq_true rfl, Nat.le_of_ble_eq_true rfl⟩, hts (.instanceMethod yX0_end) (by decide +kernel), hts (.selects RX0 yX0_end yX0_end) (by decide +kernel)⟩ (cx_V (q0 := (2 + 6 * i)) (ci := 0) (r := (RX0, TX0, 10)) rfl (cv0 g σ rest (show i < 4 by omega)) hP hD hA hK hX hS) rfl rfl hl.1 rfl (lv_room (Nat.le_of_ble_eq_true rfl)) dX1_longest_19 ⟨Nat.le_of_ble_eq_true rfl, Nat.le_of_ble_eq_true rfl⟩) (fun r_2 hr_2 => ?_)
    subst hr_2
    refine va_mmax (pc := 22) hx hb (hml.trans hl.1.symm) hown (hts (.methodLink RX1 119 Lib.Math.max.name) (by decide +kernel)) (hts (.static Lib.Math.max.name) (by decide +kernel)) (hts (.initialized "java/lang/Math") (by decide +kernel)) (hts (.code Lib.Math.max.name Lib.Math.max.code 2 (some .int)) (by decide +kernel)) (Nat.le_of_ble_eq_true rfl) (Nat.le_of_ble_eq_true rfl) (Nat.le_of_ble_eq_true rfl) (Nat.le_of_ble_eq_true rfl) dX1_longest_22 ?_
    refine k_cong (y := nI (lngF σ (i + 1))) (lng_mx hI i) ?_
    refine lv_istore_n (lv' := [(1, .int (nI (lngF σ (i + 1)))), (2, .int (nI i)), (0, .ref (gX g))]) (pc := 25) hx hb dX1_longest_25 rfl hl (by decide) rfl (fun ls hl => ?_)
    refine lv_iinc (v := nI (i + 1)) (lv' := [(2, .int (nI (i + 1))), (1, .int (nI (lngF σ (i + 1)))), (0, .ref (gX g))]) (pc := 26) hx hb dX1_longest_26 hl (k := 1) rfl (nI_1 _) (by decide) rfl (fun ls hl => ?_)
    refine lv_goto (tgt := 4) (pc := 29) hx hb dX1_longest_29 (by decide) ?_
    exact ih_4 (i + 1) (by omega) (by omega) _ (lv_sub hl [0, 1, 2] rfl)
set_option maxHeartbeats 4000000 in
set_option maxRecDepth 100000 in
/-- the checksum -/
theorem cX1_digest_m (l : Launch) (g : GA) (A : Nat → Prop) (σ : St) (rest : va_W) (hI : Inv σ) : Met l yX1_digest wsX1_digest ({ frames := 6, cells := 0, slots := 0, locals := 152 }) (va_Pc [.ref (gX g)] (Cx g A (cw g σ ++ rest))) (vp_Sl (fun r : Int64 => r = dig σ)) 0 0 (fun _ => False) := by
  refine Met.ofW (cc := cX1_digest) (maxL := 4) (ret := (some .long)) (by decide) rfl ?_
  intro p e s m args below meth c s₁ B hml hv0
  obtain ⟨rfl, hP, hD, hA, hK, hX⟩ := hv0
  have hx := B.exec
  have hb := B.bytes
  have hr := B.returns
  have hts := atoms_spec (ws := wsX1_digest) B.pre
  have hown : s.vm.findClass RX1 = some m.cls := findClass_of_methodNamed B.named
  have hlocks := B.notSynchronized
  have hS : va_S A s.heap s.heap [] := va_S.rf
  have hinX1 : ∀ w ∈ u_ws RX1 TX1 2, w ∈ wsX1_digest := by decide +kernel
  have hl := lv_entry ([.ref (gX g)]) (n := 4) (Nat.le_of_ble_eq_true rfl)
  rw [lg_entry_eq]
  generalize (lg_sl ([.ref (gX g)]) ++ List.replicate (4 - (lg_sl ([.ref (gX g)])).length) Slot.unset).toArray = ls at hl ⊢
  have hl : lv_has ls 4 [(0, .ref (gX g))] := hl
  have hN := hI.N
  refine lv_ldc2 (pc := 0) (v := 2311) hx hb hown (hts (.constantLong RX1 159 2311) (by decide +kernel)) dX1_digest_0 ?_
  refine lv_aload_n (pc := 3) hx hb dX1_digest_3 rfl (lv_at hl 0 rfl) ?_
  refine va_get (v := .int (nI (sN σ))) (pc := 4) (D := gD g) (ci := 1) (C := RX1) (T := TX1) (N := 2) hx hb hts hinX1 hown hK hP 0 (cx0 g σ rest) rfl 1 (by decide) (hts (.fieldLink RX1 20 "ChoirNotes" "voiceCount" "I") (by decide +kernel)) (fun _ h9 => h9) rfl dX1_digest_4 ?_
  refine k_rl (pc := 7) (va_runS (As := [.long 2311, .int (nI (sN σ))]) (rest := []) ⟨hx, hb, hml, hown, hts⟩ (cX1_mix_m l g A σ rest 2311 (nI (sN σ))) (va_cwS 2 hts gX1_digest_X1_mix rfl rfl rfl (by decide +kernel) ⟨Nat.le_of_ble_eq_true rfl, Nat.le_of_ble_eq_true rfl⟩) (cx_S hP hD hA hK hX hS) rfl rfl hl.1 rfl (lv_room (Nat.le_of_ble_eq_true rfl)) dX1_digest_7 ⟨Nat.le_of_ble_eq_true rfl, Nat.le_of_ble_eq_true rfl⟩) (fun r_1 hr_1 => ?_)
  subst hr_1
  refine lv_lstore_n (lv' := [(1, .long (mx 2311 (nI (sN σ)))), (0, .ref (gX g))]) (pc := 10) hx hb dX1_digest_10 rfl hl (by decide) rfl (fun ls hl => ?_)
  refine lv_lload_n (pc := 11) hx hb dX1_digest_11 rfl (lv_at hl 0 rfl) ?_
  refine lv_aload_n (pc := 12) hx hb dX1_digest_12 rfl (lv_at hl 1 rfl) ?_
  refine k_ri (pc := 13) (va_runV (As := []) (rest := [.long (mx 2311 (nI (sN σ)))]) ⟨hx, hb, hml, hown, hts⟩ (cX1_longest_m l g A σ rest hI) (cwV 0 hts gX1_digest_X1_longest rfl rfl rfl (by decide +kernel) ⟨Nat.le_of_ble_eq_true rfl, Nat.le_of_ble_eq_true rfl⟩) (cx_V (q0 := 0) (ci := 1) (r := (RX1, TX1, 2)) rfl (cx0 g σ rest) hP hD hA hK hX hS) rfl rfl hl.1 rfl (lv_room (Nat.le_of_ble_eq_true rfl)) dX1_digest_13 ⟨Nat.le_of_ble_eq_true rfl, Nat.le_of_ble_eq_true rfl⟩) (fun r_2 hr_2 => ?_)
  subst hr_2
  refine k_rl (pc := 16) (va_runS (As := [.long (mx 2311 (nI (sN σ))), .int (nI (lngst σ))]) (rest := []) ⟨hx, hb, hml, hown, hts⟩ (cX1_mix_m l g A σ rest (mx 2311 (nI (sN σ))) (nI (lngst σ))) (va_cwS 2 hts gX1_digest_X1_mix rfl rfl rfl (by decide +kernel) ⟨Nat.le_of_ble_eq_true rfl, Nat.le_of_ble_eq_true rfl⟩) (cx_S hP hD hA hK hX hS) rfl rfl hl.1 rfl (lv_room (Nat.le_of_ble_eq_true rfl)) dX1_digest_16 ⟨Nat.le_of_ble_eq_true rfl, Nat.le_of_ble_eq_true rfl⟩) (fun r_3 hr_3 => ?_)
  subst hr_3
  refine lv_lstore_n (lv' := [(1, .long (mx (mx 2311 (nI (sN σ))) (nI (lngst σ)))), (0, .ref (gX g))]) (pc := 19) hx hb dX1_digest_19 rfl hl (by decide) rfl (fun ls hl => ?_)
  refine lv_iconst (v := 0) (pc := 20) hx hb dX1_digest_20 (by decide) ?_
  refine lv_istore_n (lv' := [(3, .int 0), (1, .long (mx (mx 2311 (nI (sN σ))) (nI (lngst σ)))), (0, .ref (gX g))]) (pc := 21) hx hb dX1_digest_21 rfl hl (by decide) rfl (fun ls hl => ?_)
  refine k_loop2 (pc := 22) (nL := 4) (fun (i : Nat) (y : Int64) => i ≤ sN σ ∧ y = dgVs σ (mxl 2311 [nI (sN σ), nI (lngst σ)]) i) (fun (i : Nat) (y : Int64) => sN σ - i) (fun (i : Nat) (y : Int64) => [(3, .int (nI i)), (1, .long y), (0, .ref (gX g))]) (fun i y hJ ih_22 ls hl => ?_) 0 (mx (mx 2311 (nI (sN σ))) (nI (lngst σ))) ⟨Nat.zero_le _, rfl⟩ (lv_sub hl [0, 1, 2] rfl)
  obtain ⟨hi, hy⟩ := hJ
  have hl : lv_has ls 4 [(3, .int (nI i)), (1, .long y), (0, .ref (gX g))] := hl
  refine lv_iload_n (pc := 22) hx hb dX1_digest_22 rfl (lv_at hl 0 rfl) ?_
  refine lv_aload_n (pc := 23) hx hb dX1_digest_23 rfl (lv_at hl 2 rfl) ?_
  refine va_get (v := .int (nI (sN σ))) (pc := 24) (D := gD g) (ci := 1) (C := RX1) (T := TX1) (N := 2) hx hb hts hinX1 hown hK hP 0 (cx0 g σ rest) rfl 1 (by decide) (hts (.fieldLink RX1 20 "ChoirNotes" "voiceCount" "I") (by decide +kernel)) (fun _ h9 => h9) rfl dX1_digest_24 ?_
  refine lv_icmp_ge (tgt := 48) (pc := 27) hx hb dX1_digest_27 (by decide) (fun c1 => ?_) (fun c1 => ?_)
  · have c1 : sN σ ≤ i := (nI_leI (a := sN σ) (b := i) (by omega) (by omega)).mp c1
    refine lv_lload_n (pc := 48) hx hb dX1_digest_48 rfl (lv_at hl 1 rfl) ?_
    exact W.lret hx hb hr (fun t ht hW => ⟨_, rfl, (by rw [hy, show i = sN σ by omega]; rfl), ht⟩) (fun q hq => absurd hq List.not_mem_nil) dX1_digest_49
  · have c1 : ¬ (sN σ ≤ i) := fun z => c1 ((nI_leI (a := sN σ) (b := i) (by omega) (by omega)).mpr z)
    refine lv_aload_n (pc := 30) hx hb dX1_digest_30 rfl (lv_at hl 2 rfl) ?_
    refine lv_lload_n (pc := 31) hx hb dX1_digest_31 rfl (lv_at hl 1 rfl) ?_
    refine lv_aload_n (pc := 32) hx hb dX1_digest_32 rfl (lv_at hl 2 rfl) ?_
    refine va_get (v := .ref (gK g)) (pc := 33) (D := gD g) (ci := 1) (C := RX1) (T := TX1) (N := 2) hx hb hts hinX1 hown hK hP 0 (cx0 g σ rest) rfl 0 (by decide) (hts (.fieldLink RX1 11 "ChoirNotes" "book" "[LChoirNotes$Voice;") (by decide +kernel)) (fun _ h9 => h9) rfl dX1_digest_33 ?_
    refine lv_iload_n (pc := 36) hx hb dX1_digest_36 rfl (lv_at hl 0 rfl) ?_
    refine k_aald (pc := 37) (x := gV g i) hx hb hK hP 1 2 (cx1 g σ rest) rfl i rfl (show i < 4 by omega) (by decide) (if_pos (show i < 4 by omega)) dX1_digest_37 ?_
    refine k_rl (pc := 38) (va_runV (As := [.long y, .ref (gV g i)]) (rest := []) ⟨hx, hb, hml, hown, hts⟩ (cX1_mixVoice_m l g A σ rest i y (show i < 4 by omega) hI) (cwV 2 hts gX1_digest_X1_mixVoice rfl rfl rfl (by decide +kernel) ⟨Nat.le_of_ble_eq_true rfl, Nat.le_of_ble_eq_true rfl⟩) (cx_V (q0 := 0) (ci := 1) (r := (RX1, TX1, 2)) rfl (cx0 g σ rest) hP hD hA hK hX hS) rfl rfl hl.1 rfl (lv_room (Nat.le_of_ble_eq_true rfl)) dX1_digest_38 ⟨Nat.le_of_ble_eq_true rfl, Nat.le_of_ble_eq_true rfl⟩) (fun r_5 hr_5 => ?_)
    subst hr_5
    refine lv_lstore_n (lv' := [(1, .long (dgSs σ i (mxl y (dgV σ i)) (sC σ i))), (3, .int (nI i)), (0, .ref (gX g))]) (pc := 41) hx hb dX1_digest_41 rfl hl (by decide) rfl (fun ls hl => ?_)
    refine lv_iinc (v := nI (i + 1)) (lv' := [(3, .int (nI (i + 1))), (1, .long (dgSs σ i (mxl y (dgV σ i)) (sC σ i))), (0, .ref (gX g))]) (pc := 42) hx hb dX1_digest_42 hl (k := 1) rfl (nI_1 _) (by decide) rfl (fun ls hl => ?_)
    refine lv_goto (tgt := 22) (pc := 45) hx hb dX1_digest_45 (by decide) ?_
    exact ih_22 (i + 1) (dgSs σ i (mxl y (dgV σ i)) (sC σ i)) ⟨by omega, by rw [hy]; rfl⟩ (by omega) _ (lv_sub hl [0, 1, 2] rfl)
end
section
theorem inr_max {t : Int32} : inr 0 2147483647 t = !decide (t < 0) := by
  unfold inr
  have h : t ≤ 2147483647 := by
    rw [Int32.le_iff_toInt_le]
    have h1 := Int32.toInt_lt t
    have h2 : (2147483647 : Int32).toInt = 2147483647 := by decide
    omega
  rw [decide_eq_true h, Bool.and_true]
end
section
/-! THE CLASS: calls that write nothing -/
set_option maxHeartbeats 4000000 in
set_option maxRecDepth 100000 in
/-- signs -/
theorem cX1_signs_m (l : Launch) (hfl : l.stackTraces = false) (g : GA) (A : Nat → Prop) (σ : St) (rest : va_W) (p0 : Int32) (hI : Inv σ) : vx_Met l yX1_signs wsX1_signs ({ frames := 7, cells := 1, slots := 6, locals := 111 }) (va_Pc [.ref (gX g), .int p0] (Cx g A (cw g σ ++ rest))) (vp_Si (fun r : Int32 => cdV σ p0 = 0 ∧ r = nI (sC σ (ix p0)))) (kX (fun E => (E = eI ∧ cdV σ p0 = 1))) 1 6 (fun _ => False) := by
  refine vx_ofW (cc := cX1_signs) (maxL := 2) (ret := (some .int)) (by decide) rfl ?_
  intro p e s m args below meth c s₁ B hml hno hv0
  obtain ⟨rfl, hP, hD, hA, hK, hX⟩ := hv0
  have hx := B.exec
  have hb := B.bytes
  have hr := B.returns
  have hts := atoms_spec (ws := wsX1_signs) B.pre
  have hown : s.vm.findClass RX1 = some m.cls := findClass_of_methodNamed B.named
  have hlocks := B.notSynchronized
  have hS : va_S A s.heap s.heap [] := va_S.rf
  have hinX0 : ∀ w ∈ u_ws RX0 TX0 10, w ∈ wsX1_signs := by decide +kernel
  have hl := lv_entry ([.ref (gX g), .int p0]) (n := 2) (Nat.le_of_ble_eq_true rfl)
  rw [lg_entry_eq]
  generalize (lg_sl ([.ref (gX g), .int p0]) ++ List.replicate (2 - (lg_sl ([.ref (gX g), .int p0])).length) Slot.unset).toArray = ls at hl ⊢
  have hl : lv_has ls 2 [(0, .ref (gX g)), (1, .int p0)] := hl
  refine lv_aload_n (pc := 0) hx hb dX1_signs_0 rfl (lv_at hl 0 rfl) ?_
  refine lv_iload_n (pc := 1) hx hb dX1_signs_1 rfl (lv_at hl 1 rfl) ?_
  refine k_xr (pc := 2) (vx_runV (As := [.int p0]) (rest := []) ⟨hx, hb, hml, hown, hts⟩ (cX1_knownVoice_m l hfl g A σ rest p0 hI) (cwV 1 hts gX1_signs_X1_knownVoice rfl rfl rfl (by decide +kernel) ⟨Nat.le_of_ble_eq_true rfl, Nat.le_of_ble_eq_true rfl⟩) (cx_V (q0 := 0) (ci := 1) (r := (RX1, TX1, 2)) rfl (cx0 g σ rest) hP hD hA hK hX hS) rfl rfl hl.1 rfl (lv_room (Nat.le_of_ble_eq_true rfl)) dX1_signs_2 ⟨Nat.le_of_ble_eq_true rfl, Nat.le_of_ble_eq_true rfl⟩) hno hlocks (fun E h => ⟨h.1, by simp [cdV, h.2]⟩) (Nat.le_of_ble_eq_true rfl) (Nat.le_of_ble_eq_true rfl) (fun r_1 hr_1 => ?_)
  obtain ⟨v, hvn, rfl, rfl⟩ := hr_1
  have hv4 : v < 4 := hI.v4 hvn
  have hixv : ix (nI v) = v := ix_n (by omega)
  have hokv : okV σ (nI v) = true := okV_t hvn hI.N
  refine va_getN (v := .int (nI (sC σ v))) (pc := 5) (D := gD g) (ci := 0) (C := RX0) (T := TX0) (N := 10) hx hb hts hinX0 hown hK hP (2 + 6 * v) (cv0 g σ rest hv4) rfl 4 (by decide) (va_Nw.use rfl (nf_64 hX)) (fun _ h9 => h9) rfl dX1_signs_5 ?_
  refine vx_ret ?_
  refine W.widen (k := 1) (n := 6) (Nat.le_of_ble_eq_true rfl) (Nat.le_of_ble_eq_true rfl) ?_
  exact W.iret hx hb hr (fun t ht hW => ⟨_, rfl, ⟨by simp [cdV, hokv], by simp only [hixv]⟩, ht⟩) (fun q hq => absurd hq List.not_mem_nil) dX1_signs_8
set_option maxHeartbeats 4000000 in
set_option maxRecDepth 100000 in
/-- notes -/
theorem cX1_notes_m (l : Launch) (hfl : l.stackTraces = false) (g : GA) (A : Nat → Prop) (σ : St) (rest : va_W) (p0 : Int32) (hI : Inv σ) : vx_Met l yX1_notes wsX1_notes ({ frames := 7, cells := 1, slots := 6, locals := 111 }) (va_Pc [.ref (gX g), .int p0] (Cx g A (cw g σ ++ rest))) (vp_Si (fun r : Int32 => cdV σ p0 = 0 ∧ r = nI (cnt (isNt σ (ix p0)) (sC σ (ix p0))))) (kX (fun E => (E = eI ∧ cdV σ p0 = 1))) 1 6 (fun _ => False) := by
  refine vx_ofW (cc := cX1_notes) (maxL := 2) (ret := (some .int)) (by decide) rfl ?_
  intro p e s m args below meth c s₁ B hml hno hv0
  obtain ⟨rfl, hP, hD, hA, hK, hX⟩ := hv0
  have hx := B.exec
  have hb := B.bytes
  have hr := B.returns
  have hts := atoms_spec (ws := wsX1_notes) B.pre
  have hown : s.vm.findClass RX1 = some m.cls := findClass_of_methodNamed B.named
  have hlocks := B.notSynchronized
  have hS : va_S A s.heap s.heap [] := va_S.rf
  have hl := lv_entry ([.ref (gX g), .int p0]) (n := 2) (Nat.le_of_ble_eq_true rfl)
  rw [lg_entry_eq]
  generalize (lg_sl ([.ref (gX g), .int p0]) ++ List.replicate (2 - (lg_sl ([.ref (gX g), .int p0])).length) Slot.unset).toArray = ls at hl ⊢
  have hl : lv_has ls 2 [(0, .ref (gX g)), (1, .int p0)] := hl
  refine lv_aload_n (pc := 0) hx hb dX1_notes_0 rfl (lv_at hl 0 rfl) ?_
  refine lv_iload_n (pc := 1) hx hb dX1_notes_1 rfl (lv_at hl 1 rfl) ?_
  refine k_xr (pc := 2) (vx_runV (As := [.int p0]) (rest := []) ⟨hx, hb, hml, hown, hts⟩ (cX1_knownVoice_m l hfl g A σ rest p0 hI) (cwV 1 hts gX1_notes_X1_knownVoice rfl rfl rfl (by decide +kernel) ⟨Nat.le_of_ble_eq_true rfl, Nat.le_of_ble_eq_true rfl⟩) (cx_V (q0 := 0) (ci := 1) (r := (RX1, TX1, 2)) rfl (cx0 g σ rest) hP hD hA hK hX hS) rfl rfl hl.1 rfl (lv_room (Nat.le_of_ble_eq_true rfl)) dX1_notes_2 ⟨Nat.le_of_ble_eq_true rfl, Nat.le_of_ble_eq_true rfl⟩) hno hlocks (fun E h => ⟨h.1, by simp [cdV, h.2]⟩) (Nat.le_of_ble_eq_true rfl) (Nat.le_of_ble_eq_true rfl) (fun r_1 hr_1 => ?_)
  obtain ⟨v, hvn, rfl, rfl⟩ := hr_1
  have hv4 : v < 4 := hI.v4 hvn
  have hixv : ix (nI v) = v := ix_n (by omega)
  have hokv : okV σ (nI v) = true := okV_t hvn hI.N
  refine k_ri (pc := 5) (va_runVN (As := []) (rest := []) ⟨hx, hb, hml, hown, hts⟩ (cX0_countNotes_m l g A σ rest v hv4 hI) ⟨va_cnB 0 hts gX1_notes_X0_countNotes_n92 rfl rfl rfl (nm_92 hX) (hts (.initialized RX0) (by decide +kernel)) (by decide +kernel) ⟨Nat.le_of_ble_eq_true rfl, Nat.le_of_ble_eq_true rfl⟩, hts (.instanceMethod yX0_countNotes) (by decide +kernel), hts (.selects RX0 yX0_countNotes yX0_countNotes) (by decide +kernel)⟩ (cx_V (q0 := (2 + 6 * v)) (ci := 0) (r := (RX0, TX0, 10)) rfl (cv0 g σ rest hv4) hP hD hA hK hX hS) rfl rfl hl.1 rfl (lv_room (Nat.le_of_ble_eq_true rfl)) dX1_notes_5 ⟨Nat.le_of_ble_eq_true rfl, Nat.le_of_ble_eq_true rfl⟩) (fun r_2 hr_2 => ?_)
  subst hr_2
  refine vx_ret ?_
  refine W.widen (k := 1) (n := 6) (Nat.le_of_ble_eq_true rfl) (Nat.le_of_ble_eq_true rfl) ?_
  exact W.iret hx hb hr (fun t ht hW => ⟨_, rfl, ⟨by simp [cdV, hokv], by simp only [hixv]⟩, ht⟩) (fun q hq => absurd hq List.not_mem_nil) dX1_notes_8
set_option maxHeartbeats 4000000 in
set_option maxRecDepth 100000 in
/-- ligatures -/
theorem cX1_ligatures_m (l : Launch) (hfl : l.stackTraces = false) (g : GA) (A : Nat → Prop) (σ : St) (rest : va_W) (p0 : Int32) (hI : Inv σ) : vx_Met l yX1_ligatures wsX1_ligatures ({ frames := 7, cells := 1, slots := 6, locals := 111 }) (va_Pc [.ref (gX g), .int p0] (Cx g A (cw g σ ++ rest))) (vp_Si (fun r : Int32 => cdV σ p0 = 0 ∧ r = nI (cnt (isLg σ (ix p0)) (sC σ (ix p0))))) (kX (fun E => (E = eI ∧ cdV σ p0 = 1))) 1 6 (fun _ => False) := by
  refine vx_ofW (cc := cX1_ligatures) (maxL := 2) (ret := (some .int)) (by decide) rfl ?_
  intro p e s m args below meth c s₁ B hml hno hv0
  obtain ⟨rfl, hP, hD, hA, hK, hX⟩ := hv0
  have hx := B.exec
  have hb := B.bytes
  have hr := B.returns
  have hts := atoms_spec (ws := wsX1_ligatures) B.pre
  have hown : s.vm.findClass RX1 = some m.cls := findClass_of_methodNamed B.named
  have hlocks := B.notSynchronized
  have hS : va_S A s.heap s.heap [] := va_S.rf
  have hl := lv_entry ([.ref (gX g), .int p0]) (n := 2) (Nat.le_of_ble_eq_true rfl)
  rw [lg_entry_eq]
  generalize (lg_sl ([.ref (gX g), .int p0]) ++ List.replicate (2 - (lg_sl ([.ref (gX g), .int p0])).length) Slot.unset).toArray = ls at hl ⊢
  have hl : lv_has ls 2 [(0, .ref (gX g)), (1, .int p0)] := hl
  refine lv_aload_n (pc := 0) hx hb dX1_ligatures_0 rfl (lv_at hl 0 rfl) ?_
  refine lv_iload_n (pc := 1) hx hb dX1_ligatures_1 rfl (lv_at hl 1 rfl) ?_
  refine k_xr (pc := 2) (vx_runV (As := [.int p0]) (rest := []) ⟨hx, hb, hml, hown, hts⟩ (cX1_knownVoice_m l hfl g A σ rest p0 hI) (cwV 1 hts gX1_ligatures_X1_knownVoice rfl rfl rfl (by decide +kernel) ⟨Nat.le_of_ble_eq_true rfl, Nat.le_of_ble_eq_true rfl⟩) (cx_V (q0 := 0) (ci := 1) (r := (RX1, TX1, 2)) rfl (cx0 g σ rest) hP hD hA hK hX hS) rfl rfl hl.1 rfl (lv_room (Nat.le_of_ble_eq_true rfl)) dX1_ligatures_2 ⟨Nat.le_of_ble_eq_true rfl, Nat.le_of_ble_eq_true rfl⟩) hno hlocks (fun E h => ⟨h.1, by simp [cdV, h.2]⟩) (Nat.le_of_ble_eq_true rfl) (Nat.le_of_ble_eq_true rfl) (fun r_1 hr_1 => ?_)
  obtain ⟨v, hvn, rfl, rfl⟩ := hr_1
  have hv4 : v < 4 := hI.v4 hvn
  have hixv : ix (nI v) = v := ix_n (by omega)
  have hokv : okV σ (nI v) = true := okV_t hvn hI.N
  refine k_ri (pc := 5) (va_runVN (As := []) (rest := []) ⟨hx, hb, hml, hown, hts⟩ (cX0_countLigatures_m l g A σ rest v hv4 hI) ⟨va_cnB 0 hts gX1_ligatures_X0_countLigatures_n95 rfl rfl rfl (nm_95 hX) (hts (.initialized RX0) (by decide +kernel)) (by decide +kernel) ⟨Nat.le_of_ble_eq_true rfl, Nat.le_of_ble_eq_true rfl⟩, hts (.instanceMethod yX0_countLigatures) (by decide +kernel), hts (.selects RX0 yX0_countLigatures yX0_countLigatures) (by decide +kernel)⟩ (cx_V (q0 := (2 + 6 * v)) (ci := 0) (r := (RX0, TX0, 10)) rfl (cv0 g σ rest hv4) hP hD hA hK hX hS) rfl rfl hl.1 rfl (lv_room (Nat.le_of_ble_eq_true rfl)) dX1_ligatures_5 ⟨Nat.le_of_ble_eq_true rfl, Nat.le_of_ble_eq_true rfl⟩) (fun r_2 hr_2 => ?_)
  subst hr_2
  refine vx_ret ?_
  refine W.widen (k := 1) (n := 6) (Nat.le_of_ble_eq_true rfl) (Nat.le_of_ble_eq_true rfl) ?_
  exact W.iret hx hb hr (fun t ht hW => ⟨_, rfl, ⟨by simp [cdV, hokv], by simp only [hixv]⟩, ht⟩) (fun q hq => absurd hq List.not_mem_nil) dX1_ligatures_8
set_option maxHeartbeats 4000000 in
set_option maxRecDepth 100000 in
/-- length -/
theorem cX1_length_m (l : Launch) (hfl : l.stackTraces = false) (g : GA) (A : Nat → Prop) (σ : St) (rest : va_W) (p0 : Int32) (hI : Inv σ) : vx_Met l yX1_length wsX1_length ({ frames := 7, cells := 1, slots := 6, locals := 111 }) (va_Pc [.ref (gX g), .int p0] (Cx g A (cw g σ ++ rest))) (vp_Si (fun r : Int32 => cdV σ p0 = 0 ∧ r = nI (len σ (ix p0)))) (kX (fun E => (E = eI ∧ cdV σ p0 = 1))) 1 6 (fun _ => False) := by
  refine vx_ofW (cc := cX1_length) (maxL := 2) (ret := (some .int)) (by decide) rfl ?_
  intro p e s m args below meth c s₁ B hml hno hv0
  obtain ⟨rfl, hP, hD, hA, hK, hX⟩ := hv0
  have hx := B.exec
  have hb := B.bytes
  have hr := B.returns
  have hts := atoms_spec (ws := wsX1_length) B.pre
  have hown : s.vm.findClass RX1 = some m.cls := findClass_of_methodNamed B.named
  have hlocks := B.notSynchronized
  have hS : va_S A s.heap s.heap [] := va_S.rf
  have hl := lv_entry ([.ref (gX g), .int p0]) (n := 2) (Nat.le_of_ble_eq_true rfl)
  rw [lg_entry_eq]
  generalize (lg_sl ([.ref (gX g), .int p0]) ++ List.replicate (2 - (lg_sl ([.ref (gX g), .int p0])).length) Slot.unset).toArray = ls at hl ⊢
  have hl : lv_has ls 2 [(0, .ref (gX g)), (1, .int p0)] := hl
  refine lv_aload_n (pc := 0) hx hb dX1_length_0 rfl (lv_at hl 0 rfl) ?_
  refine lv_iload_n (pc := 1) hx hb dX1_length_1 rfl (lv_at hl 1 rfl) ?_
  refine k_xr (pc := 2) (vx_runV (As := [.int p0]) (rest := []) ⟨hx, hb, hml, hown, hts⟩ (cX1_knownVoice_m l hfl g A σ rest p0 hI) (cwV 1 hts gX1_length_X1_knownVoice rfl rfl rfl (by decide +kernel) ⟨Nat.le_of_ble_eq_true rfl, Nat.le_of_ble_eq_true rfl⟩) (cx_V (q0 := 0) (ci := 1) (r := (RX1, TX1, 2)) rfl (cx0 g σ rest) hP hD hA hK hX hS) rfl rfl hl.1 rfl (lv_room (Nat.le_of_ble_eq_true rfl)) dX1_length_2 ⟨Nat.le_of_ble_eq_true rfl, Nat.le_of_ble_eq_true rfl⟩) hno hlocks (fun E h => ⟨h.1, by simp [cdV, h.2]⟩) (Nat.le_of_ble_eq_true rfl) (Nat.le_of_ble_eq_true rfl) (fun r_1 hr_1 => ?_)
  obtain ⟨v, hvn, rfl, rfl⟩ := hr_1
  have hv4 : v < 4 := hI.v4 hvn
  have hixv : ix (nI v) = v := ix_n (by omega)
  have hokv : okV σ (nI v) = true := okV_t hvn hI.N
  refine k_ri (pc := 5) (va_runVN (As := []) (rest := []) ⟨hx, hb, hml, hown, hts⟩ (cX0_end_m l g A σ rest v hv4 hI) ⟨va_cnB 0 hts gX1_length_X0_end_n89 rfl rfl rfl (nm_89 hX) (hts (.initialized RX0) (by decide +kernel)) (by decide +kernel) ⟨Nat.le_of_ble_eq_true rfl, Nat.le_of_ble_eq_true rfl⟩, hts (.instanceMethod yX0_end) (by decide +kernel), hts (.selects RX0 yX0_end yX0_end) (by decide +kernel)⟩ (cx_V (q0 := (2 + 6 * v)) (ci := 0) (r := (RX0, TX0, 10)) rfl (cv0 g σ rest hv4) hP hD hA hK hX hS) rfl rfl hl.1 rfl (lv_room (Nat.le_of_ble_eq_true rfl)) dX1_length_5 ⟨Nat.le_of_ble_eq_true rfl, Nat.le_of_ble_eq_true rfl⟩) (fun r_2 hr_2 => ?_)
  subst hr_2
  refine vx_ret ?_
  refine W.widen (k := 1) (n := 6) (Nat.le_of_ble_eq_true rfl) (Nat.le_of_ble_eq_true rfl) ?_
  exact W.iret hx hb hr (fun t ht hW => ⟨_, rfl, ⟨by simp [cdV, hokv], by simp only [hixv]⟩, ht⟩) (fun q hq => absurd hq List.not_mem_nil) dX1_length_8
set_option maxHeartbeats 4000000 in
set_option maxRecDepth 100000 in
/-- clefOf -/
theorem cX1_clefOf_m (l : Launch) (hfl : l.stackTraces = false) (g : GA) (A : Nat → Prop) (σ : St) (rest : va_W) (p0 : Int32) (hI : Inv σ) : vx_Met l yX1_clefOf wsX1_clefOf ({ frames := 7, cells := 1, slots := 6, locals := 111 }) (va_Pc [.ref (gX g), .int p0] (Cx g A (cw g σ ++ rest))) (vp_Si (fun r : Int32 => cdV σ p0 = 0 ∧ r = sL σ (ix p0))) (kX (fun E => (E = eI ∧ cdV σ p0 = 1))) 1 6 (fun _ => False) := by
  refine vx_ofW (cc := cX1_clefOf) (maxL := 2) (ret := (some .int)) (by decide) rfl ?_
  intro p e s m args below meth c s₁ B hml hno hv0
  obtain ⟨rfl, hP, hD, hA, hK, hX⟩ := hv0
  have hx := B.exec
  have hb := B.bytes
  have hr := B.returns
  have hts := atoms_spec (ws := wsX1_clefOf) B.pre
  have hown : s.vm.findClass RX1 = some m.cls := findClass_of_methodNamed B.named
  have hlocks := B.notSynchronized
  have hS : va_S A s.heap s.heap [] := va_S.rf
  have hinX0 : ∀ w ∈ u_ws RX0 TX0 10, w ∈ wsX1_clefOf := by decide +kernel
  have hl := lv_entry ([.ref (gX g), .int p0]) (n := 2) (Nat.le_of_ble_eq_true rfl)
  rw [lg_entry_eq]
  generalize (lg_sl ([.ref (gX g), .int p0]) ++ List.replicate (2 - (lg_sl ([.ref (gX g), .int p0])).length) Slot.unset).toArray = ls at hl ⊢
  have hl : lv_has ls 2 [(0, .ref (gX g)), (1, .int p0)] := hl
  refine lv_aload_n (pc := 0) hx hb dX1_clefOf_0 rfl (lv_at hl 0 rfl) ?_
  refine lv_iload_n (pc := 1) hx hb dX1_clefOf_1 rfl (lv_at hl 1 rfl) ?_
  refine k_xr (pc := 2) (vx_runV (As := [.int p0]) (rest := []) ⟨hx, hb, hml, hown, hts⟩ (cX1_knownVoice_m l hfl g A σ rest p0 hI) (cwV 1 hts gX1_clefOf_X1_knownVoice rfl rfl rfl (by decide +kernel) ⟨Nat.le_of_ble_eq_true rfl, Nat.le_of_ble_eq_true rfl⟩) (cx_V (q0 := 0) (ci := 1) (r := (RX1, TX1, 2)) rfl (cx0 g σ rest) hP hD hA hK hX hS) rfl rfl hl.1 rfl (lv_room (Nat.le_of_ble_eq_true rfl)) dX1_clefOf_2 ⟨Nat.le_of_ble_eq_true rfl, Nat.le_of_ble_eq_true rfl⟩) hno hlocks (fun E h => ⟨h.1, by simp [cdV, h.2]⟩) (Nat.le_of_ble_eq_true rfl) (Nat.le_of_ble_eq_true rfl) (fun r_1 hr_1 => ?_)
  obtain ⟨v, hvn, rfl, rfl⟩ := hr_1
  have hv4 : v < 4 := hI.v4 hvn
  have hixv : ix (nI v) = v := ix_n (by omega)
  have hokv : okV σ (nI v) = true := okV_t hvn hI.N
  refine va_getN (v := .int (sL σ v)) (pc := 5) (D := gD g) (ci := 0) (C := RX0) (T := TX0) (N := 10) hx hb hts hinX0 hown hK hP (2 + 6 * v) (cv0 g σ rest hv4) rfl 3 (by decide) (va_Nw.use rfl (nf_86 hX)) (fun _ h9 => h9) rfl dX1_clefOf_5 ?_
  refine vx_ret ?_
  refine W.widen (k := 1) (n := 6) (Nat.le_of_ble_eq_true rfl) (Nat.le_of_ble_eq_true rfl) ?_
  exact W.iret hx hb hr (fun t ht hW => ⟨_, rfl, ⟨by simp [cdV, hokv], by simp only [hixv]⟩, ht⟩) (fun q hq => absurd hq List.not_mem_nil) dX1_clefOf_8
set_option maxHeartbeats 4000000 in
set_option maxRecDepth 100000 in
/-- clefsThatFit -/
theorem cX1_clefsThatFit_m (l : Launch) (hfl : l.stackTraces = false) (g : GA) (A : Nat → Prop) (σ : St) (rest : va_W) (p0 : Int32) (hI : Inv σ) : vx_Met l yX1_clefsThatFit wsX1_clefsThatFit ({ frames := 7, cells := 1, slots := 6, locals := 111 }) (va_Pc [.ref (gX g), .int p0] (Cx g A (cw g σ ++ rest))) (vp_Si (fun r : Int32 => cdV σ p0 = 0 ∧ r = nI (fct σ (ix p0)))) (kX (fun E => (E = eI ∧ cdV σ p0 = 1))) 1 6 (fun _ => False) := by
  refine vx_ofW (cc := cX1_clefsThatFit) (maxL := 2) (ret := (some .int)) (by decide) rfl ?_
  intro p e s m args below meth c s₁ B hml hno hv0
  obtain ⟨rfl, hP, hD, hA, hK, hX⟩ := hv0
  have hx := B.exec
  have hb := B.bytes
  have hr := B.returns
  have hts := atoms_spec (ws := wsX1_clefsThatFit) B.pre
  have hown : s.vm.findClass RX1 = some m.cls := findClass_of_methodNamed B.named
  have hlocks := B.notSynchronized
  have hS : va_S A s.heap s.heap [] := va_S.rf
  have hl := lv_entry ([.ref (gX g), .int p0]) (n := 2) (Nat.le_of_ble_eq_true rfl)
  rw [lg_entry_eq]
  generalize (lg_sl ([.ref (gX g), .int p0]) ++ List.replicate (2 - (lg_sl ([.ref (gX g), .int p0])).length) Slot.unset).toArray = ls at hl ⊢
  have hl : lv_has ls 2 [(0, .ref (gX g)), (1, .int p0)] := hl
  refine lv_aload_n (pc := 0) hx hb dX1_clefsThatFit_0 rfl (lv_at hl 0 rfl) ?_
  refine lv_iload_n (pc := 1) hx hb dX1_clefsThatFit_1 rfl (lv_at hl 1 rfl) ?_
  refine k_xr (pc := 2) (vx_runV (As := [.int p0]) (rest := []) ⟨hx, hb, hml, hown, hts⟩ (cX1_knownVoice_m l hfl g A σ rest p0 hI) (cwV 1 hts gX1_clefsThatFit_X1_knownVoice rfl rfl rfl (by decide +kernel) ⟨Nat.le_of_ble_eq_true rfl, Nat.le_of_ble_eq_true rfl⟩) (cx_V (q0 := 0) (ci := 1) (r := (RX1, TX1, 2)) rfl (cx0 g σ rest) hP hD hA hK hX hS) rfl rfl hl.1 rfl (lv_room (Nat.le_of_ble_eq_true rfl)) dX1_clefsThatFit_2 ⟨Nat.le_of_ble_eq_true rfl, Nat.le_of_ble_eq_true rfl⟩) hno hlocks (fun E h => ⟨h.1, by simp [cdV, h.2]⟩) (Nat.le_of_ble_eq_true rfl) (Nat.le_of_ble_eq_true rfl) (fun r_1 hr_1 => ?_)
  obtain ⟨v, hvn, rfl, rfl⟩ := hr_1
  have hv4 : v < 4 := hI.v4 hvn
  have hixv : ix (nI v) = v := ix_n (by omega)
  have hokv : okV σ (nI v) = true := okV_t hvn hI.N
  refine k_ri (pc := 5) (va_runVN (As := []) (rest := []) ⟨hx, hb, hml, hown, hts⟩ (cX0_countFittingClefs_m l g A σ rest v hv4 hI) ⟨va_cnB 0 hts gX1_clefsThatFit_X0_countFittingClefs_n137 rfl rfl rfl (nm_137 hX) (hts (.initialized RX0) (by decide +kernel)) (by decide +kernel) ⟨Nat.le_of_ble_eq_true rfl, Nat.le_of_ble_eq_true rfl⟩, hts (.instanceMethod yX0_countFittingClefs) (by decide +kernel), hts (.selects RX0 yX0_countFittingClefs yX0_countFittingClefs) (by decide +kernel)⟩ (cx_V (q0 := (2 + 6 * v)) (ci := 0) (r := (RX0, TX0, 10)) rfl (cv0 g σ rest hv4) hP hD hA hK hX hS) rfl rfl hl.1 rfl (lv_room (Nat.le_of_ble_eq_true rfl)) dX1_clefsThatFit_5 ⟨Nat.le_of_ble_eq_true rfl, Nat.le_of_ble_eq_true rfl⟩) (fun r_2 hr_2 => ?_)
  subst hr_2
  refine vx_ret ?_
  refine W.widen (k := 1) (n := 6) (Nat.le_of_ble_eq_true rfl) (Nat.le_of_ble_eq_true rfl) ?_
  exact W.iret hx hb hr (fun t ht hW => ⟨_, rfl, ⟨by simp [cdV, hokv], by simp only [hixv]⟩, ht⟩) (fun q hq => absurd hq List.not_mem_nil) dX1_clefsThatFit_8
set_option maxHeartbeats 4000000 in
set_option maxRecDepth 100000 in
/-- kindOf -/
theorem cX1_kindOf_m (l : Launch) (hfl : l.stackTraces = false) (g : GA) (A : Nat → Prop) (σ : St) (rest : va_W) (p0 : Int32) (q0 : Int32) (hI : Inv σ) : vx_Met l yX1_kindOf wsX1_kindOf ({ frames := 8, cells := 2, slots := 12, locals := 134 }) (va_Pc [.ref (gX g), .int p0, .int q0] (Cx g A (cw g σ ++ rest))) (vp_Si (fun r : Int32 => cdS σ p0 q0 = 0 ∧ r = nI (sK σ (ix p0) (ix q0)))) (kX (fun E => (E = eI ∧ cdS σ p0 q0 = 1))) 2 12 (fun _ => False) := by
  refine vx_ofW (cc := cX1_kindOf) (maxL := 3) (ret := (some .int)) (by decide) rfl ?_
  intro p e s m args below meth c s₁ B hml hno hv0
  obtain ⟨rfl, hP, hD, hA, hK, hX⟩ := hv0
  have hx := B.exec
  have hb := B.bytes
  have hr := B.returns
  have hts := atoms_spec (ws := wsX1_kindOf) B.pre
  have hown : s.vm.findClass RX1 = some m.cls := findClass_of_methodNamed B.named
  have hlocks := B.notSynchronized
  have hS : va_S A s.heap s.heap [] := va_S.rf
  have hinX0 : ∀ w ∈ u_ws RX0 TX0 10, w ∈ wsX1_kindOf := by decide +kernel
  have hl := lv_entry ([.ref (gX g), .int p0, .int q0]) (n := 3) (Nat.le_of_ble_eq_true rfl)
  rw [lg_entry_eq]
  generalize (lg_sl ([.ref (gX g), .int p0, .int q0]) ++ List.replicate (3 - (lg_sl ([.ref (gX g), .int p0, .int q0])).length) Slot.unset).toArray = ls at hl ⊢
  have hl : lv_has ls 3 [(0, .ref (gX g)), (1, .int p0), (2, .int q0)] := hl
  refine lv_aload_n (pc := 0) hx hb dX1_kindOf_0 rfl (lv_at hl 0 rfl) ?_
  refine lv_iload_n (pc := 1) hx hb dX1_kindOf_1 rfl (lv_at hl 1 rfl) ?_
  refine lv_iload_n (pc := 2) hx hb dX1_kindOf_2 rfl (lv_at hl 2 rfl) ?_
  refine k_xr (pc := 3) (vx_runV (As := [.int p0, .int q0]) (rest := []) ⟨hx, hb, hml, hown, hts⟩ (cX1_voiceWithSign_m l hfl g A σ rest p0 q0 hI) (cwV 2 hts gX1_kindOf_X1_voiceWithSign rfl rfl rfl (by decide +kernel) ⟨Nat.le_of_ble_eq_true rfl, Nat.le_of_ble_eq_true rfl⟩) (cx_V (q0 := 0) (ci := 1) (r := (RX1, TX1, 2)) rfl (cx0 g σ rest) hP hD hA hK hX hS) rfl rfl hl.1 rfl (lv_room (Nat.le_of_ble_eq_true rfl)) dX1_kindOf_3 ⟨Nat.le_of_ble_eq_true rfl, Nat.le_of_ble_eq_true rfl⟩) hno hlocks (fun _ h => h) (Nat.le_of_ble_eq_true rfl) (Nat.le_of_ble_eq_true rfl) (fun r_1 hr_1 => ?_)
  obtain ⟨v, s0, hvn, hs0, rfl, rfl, rfl⟩ := hr_1
  have hv4 : v < 4 := hI.v4 hvn
  have hC := hI.C v
  have hixv : ix (nI v) = v := ix_n (by omega)
  have hixs : ix (nI s0) = s0 := ix_n (by omega)
  have hokv : okV σ (nI v) = true := okV_t hvn hI.N
  have hoks : okS σ v (nI s0) = true := okS_t hs0 hC
  refine va_getN (v := .ref (gA g v 0)) (pc := 6) (D := gD g) (ci := 0) (C := RX0) (T := TX0) (N := 10) hx hb hts hinX0 hown hK hP (2 + 6 * v) (cv0 g σ rest hv4) rfl 5 (by decide) (va_Nw.use rfl (nf_98 hX)) (fun _ h9 => h9) rfl dX1_kindOf_6 ?_
  refine lv_iload_n (pc := 9) hx hb dX1_kindOf_9 rfl (lv_at hl 2 rfl) ?_
  refine k_iald (pc := 10) (x := nI (sK σ v s0)) hx hb hK hP (3 + 6 * v) 0 (cv1 g σ rest hv4) rfl s0 rfl (by omega) (by decide) rfl dX1_kindOf_10 ?_
  refine vx_ret ?_
  refine W.widen (k := 2) (n := 12) (Nat.le_of_ble_eq_true rfl) (Nat.le_of_ble_eq_true rfl) ?_
  exact W.iret hx hb hr (fun t ht hW => ⟨_, rfl, ⟨by simp [cdS, hokv, hoks, hixv], by simp only [hixv, hixs]⟩, ht⟩) (fun q hq => absurd hq List.not_mem_nil) dX1_kindOf_11
set_option maxHeartbeats 4000000 in
set_option maxRecDepth 100000 in
/-- placeOf -/
theorem cX1_placeOf_m (l : Launch) (hfl : l.stackTraces = false) (g : GA) (A : Nat → Prop) (σ : St) (rest : va_W) (p0 : Int32) (q0 : Int32) (hI : Inv σ) : vx_Met l yX1_placeOf wsX1_placeOf ({ frames := 8, cells := 2, slots := 12, locals := 134 }) (va_Pc [.ref (gX g), .int p0, .int q0] (Cx g A (cw g σ ++ rest))) (vp_Si (fun r : Int32 => cdS σ p0 q0 = 0 ∧ r = sP σ (ix p0) (ix q0))) (kX (fun E => (E = eI ∧ cdS σ p0 q0 = 1))) 2 12 (fun _ => False) := by
  refine vx_ofW (cc := cX1_placeOf) (maxL := 3) (ret := (some .int)) (by decide) rfl ?_
  intro p e s m args below meth c s₁ B hml hno hv0
  obtain ⟨rfl, hP, hD, hA, hK, hX⟩ := hv0
  have hx := B.exec
  have hb := B.bytes
  have hr := B.returns
  have hts := atoms_spec (ws := wsX1_placeOf) B.pre
  have hown : s.vm.findClass RX1 = some m.cls := findClass_of_methodNamed B.named
  have hlocks := B.notSynchronized
  have hS : va_S A s.heap s.heap [] := va_S.rf
  have hinX0 : ∀ w ∈ u_ws RX0 TX0 10, w ∈ wsX1_placeOf := by decide +kernel
  have hl := lv_entry ([.ref (gX g), .int p0, .int q0]) (n := 3) (Nat.le_of_ble_eq_true rfl)
  rw [lg_entry_eq]
  generalize (lg_sl ([.ref (gX g), .int p0, .int q0]) ++ List.replicate (3 - (lg_sl ([.ref (gX g), .int p0, .int q0])).length) Slot.unset).toArray = ls at hl ⊢
  have hl : lv_has ls 3 [(0, .ref (gX g)), (1, .int p0), (2, .int q0)] := hl
  refine lv_aload_n (pc := 0) hx hb dX1_placeOf_0 rfl (lv_at hl 0 rfl) ?_
  refine lv_iload_n (pc := 1) hx hb dX1_placeOf_1 rfl (lv_at hl 1 rfl) ?_
  refine lv_iload_n (pc := 2) hx hb dX1_placeOf_2 rfl (lv_at hl 2 rfl) ?_
  refine k_xr (pc := 3) (vx_runV (As := [.int p0, .int q0]) (rest := []) ⟨hx, hb, hml, hown, hts⟩ (cX1_voiceWithSign_m l hfl g A σ rest p0 q0 hI) (cwV 2 hts gX1_placeOf_X1_voiceWithSign rfl rfl rfl (by decide +kernel) ⟨Nat.le_of_ble_eq_true rfl, Nat.le_of_ble_eq_true rfl⟩) (cx_V (q0 := 0) (ci := 1) (r := (RX1, TX1, 2)) rfl (cx0 g σ rest) hP hD hA hK hX hS) rfl rfl hl.1 rfl (lv_room (Nat.le_of_ble_eq_true rfl)) dX1_placeOf_3 ⟨Nat.le_of_ble_eq_true rfl, Nat.le_of_ble_eq_true rfl⟩) hno hlocks (fun _ h => h) (Nat.le_of_ble_eq_true rfl) (Nat.le_of_ble_eq_true rfl) (fun r_1 hr_1 => ?_)
  obtain ⟨v, s0, hvn, hs0, rfl, rfl, rfl⟩ := hr_1
  have hv4 : v < 4 := hI.v4 hvn
  have hC := hI.C v
  have hixv : ix (nI v) = v := ix_n (by omega)
  have hixs : ix (nI s0) = s0 := ix_n (by omega)
  have hokv : okV σ (nI v) = true := okV_t hvn hI.N
  have hoks : okS σ v (nI s0) = true := okS_t hs0 hC
  refine va_getN (v := .ref (gA g v 1)) (pc := 6) (D := gD g) (ci := 0) (C := RX0) (T := TX0) (N := 10) hx hb hts hinX0 hown hK hP (2 + 6 * v) (cv0 g σ rest hv4) rfl 6 (by decide) (va_Nw.use rfl (nf_102 hX)) (fun _ h9 => h9) rfl dX1_placeOf_6 ?_
  refine lv_iload_n (pc := 9) hx hb dX1_placeOf_9 rfl (lv_at hl 2 rfl) ?_
  refine k_iald (pc := 10) (x := sP σ v s0) hx hb hK hP (4 + 6 * v) 0 (cv2 g σ rest hv4) rfl s0 rfl (by omega) (by decide) rfl dX1_placeOf_10 ?_
  refine vx_ret ?_
  refine W.widen (k := 2) (n := 12) (Nat.le_of_ble_eq_true rfl) (Nat.le_of_ble_eq_true rfl) ?_
  exact W.iret hx hb hr (fun t ht hW => ⟨_, rfl, ⟨by simp [cdS, hokv, hoks, hixv], by simp only [hixv, hixs]⟩, ht⟩) (fun q hq => absurd hq List.not_mem_nil) dX1_placeOf_11
set_option maxHeartbeats 4000000 in
set_option maxRecDepth 100000 in
/-- isColoured -/
theorem cX1_isColoured_m (l : Launch) (hfl : l.stackTraces = false) (g : GA) (A : Nat → Prop) (σ : St) (rest : va_W) (p0 : Int32) (q0 : Int32) (hI : Inv σ) : vx_Met l yX1_isColoured wsX1_isColoured ({ frames := 8, cells := 2, slots := 12, locals := 134 }) (va_Pc [.ref (gX g), .int p0, .int q0] (Cx g A (cw g σ ++ rest))) (vp_Si (fun r : Int32 => cdS σ p0 q0 = 0 ∧ r = bI (sR σ (ix p0) (ix q0)))) (kX (fun E => (E = eI ∧ cdS σ p0 q0 = 1))) 2 12 (fun _ => False) := by
  refine vx_ofW (cc := cX1_isColoured) (maxL := 3) (ret := (some .boolean)) (by decide) rfl ?_
  intro p e s m args below meth c s₁ B hml hno hv0
  obtain ⟨rfl, hP, hD, hA, hK, hX⟩ := hv0
  have hx := B.exec
  have hb := B.bytes
  have hr := B.returns
  have hts := atoms_spec (ws := wsX1_isColoured) B.pre
  have hown : s.vm.findClass RX1 = some m.cls := findClass_of_methodNamed B.named
  have hlocks := B.notSynchronized
  have hS : va_S A s.heap s.heap [] := va_S.rf
  have hinX0 : ∀ w ∈ u_ws RX0 TX0 10, w ∈ wsX1_isColoured := by decide +kernel
  have hl := lv_entry ([.ref (gX g), .int p0, .int q0]) (n := 3) (Nat.le_of_ble_eq_true rfl)
  rw [lg_entry_eq]
  generalize (lg_sl ([.ref (gX g), .int p0, .int q0]) ++ List.replicate (3 - (lg_sl ([.ref (gX g), .int p0, .int q0])).length) Slot.unset).toArray = ls at hl ⊢
  have hl : lv_has ls 3 [(0, .ref (gX g)), (1, .int p0), (2, .int q0)] := hl
  refine lv_aload_n (pc := 0) hx hb dX1_isColoured_0 rfl (lv_at hl 0 rfl) ?_
  refine lv_iload_n (pc := 1) hx hb dX1_isColoured_1 rfl (lv_at hl 1 rfl) ?_
  refine lv_iload_n (pc := 2) hx hb dX1_isColoured_2 rfl (lv_at hl 2 rfl) ?_
  refine k_xr (pc := 3) (vx_runV (As := [.int p0, .int q0]) (rest := []) ⟨hx, hb, hml, hown, hts⟩ (cX1_voiceWithSign_m l hfl g A σ rest p0 q0 hI) (cwV 2 hts gX1_isColoured_X1_voiceWithSign rfl rfl rfl (by decide +kernel) ⟨Nat.le_of_ble_eq_true rfl, Nat.le_of_ble_eq_true rfl⟩) (cx_V (q0 := 0) (ci := 1) (r := (RX1, TX1, 2)) rfl (cx0 g σ rest) hP hD hA hK hX hS) rfl rfl hl.1 rfl (lv_room (Nat.le_of_ble_eq_true rfl)) dX1_isColoured_3 ⟨Nat.le_of_ble_eq_true rfl, Nat.le_of_ble_eq_true rfl⟩) hno hlocks (fun _ h => h) (Nat.le_of_ble_eq_true rfl) (Nat.le_of_ble_eq_true rfl) (fun r_1 hr_1 => ?_)
  obtain ⟨v, s0, hvn, hs0, rfl, rfl, rfl⟩ := hr_1
  have hv4 : v < 4 := hI.v4 hvn
  have hC := hI.C v
  have hixv : ix (nI v) = v := ix_n (by omega)
  have hixs : ix (nI s0) = s0 := ix_n (by omega)
  have hokv : okV σ (nI v) = true := okV_t hvn hI.N
  have hoks : okS σ v (nI s0) = true := okS_t hs0 hC
  refine va_getN (v := .ref (gA g v 2)) (pc := 6) (D := gD g) (ci := 0) (C := RX0) (T := TX0) (N := 10) hx hb hts hinX0 hown hK hP (2 + 6 * v) (cv0 g σ rest hv4) rfl 7 (by decide) (va_Nw.use rfl (nf_105 hX)) (fun _ h9 => h9) rfl dX1_isColoured_6 ?_
  refine lv_iload_n (pc := 9) hx hb dX1_isColoured_9 rfl (lv_at hl 2 rfl) ?_
  refine k_zald (pc := 10) (x := bI (sR σ v s0)) hx hb hK hP (5 + 6 * v) 1 (cv3 g σ rest hv4) rfl s0 rfl (by omega) (by decide) rfl dX1_isColoured_10 ?_
  refine vx_ret ?_
  refine W.widen (k := 2) (n := 12) (Nat.le_of_ble_eq_true rfl) (Nat.le_of_ble_eq_true rfl) ?_
  exact W.zret (v := bI (sR σ v s0)) hx hb hr (bI_nar _) (fun t ht hW => ⟨_, rfl, ⟨by simp [cdS, hokv, hoks, hixv], by simp only [hixv, hixs]⟩, ht⟩) (fun q hq => absurd hq List.not_mem_nil) dX1_isColoured_11
set_option maxHeartbeats 4000000 in
set_option maxRecDepth 100000 in
/-- placeInLigature -/
theorem cX1_placeInLigature_m (l : Launch) (hfl : l.stackTraces = false) (g : GA) (A : Nat → Prop) (σ : St) (rest : va_W) (p0 : Int32) (q0 : Int32) (hI : Inv σ) : vx_Met l yX1_placeInLigature wsX1_placeInLigature ({ frames := 8, cells := 2, slots := 12, locals := 134 }) (va_Pc [.ref (gX g), .int p0, .int q0] (Cx g A (cw g σ ++ rest))) (vp_Si (fun r : Int32 => cdS σ p0 q0 = 0 ∧ r = sT σ (ix p0) (ix q0))) (kX (fun E => (E = eI ∧ cdS σ p0 q0 = 1))) 2 12 (fun _ => False) := by
  refine vx_ofW (cc := cX1_placeInLigature) (maxL := 3) (ret := (some .int)) (by decide) rfl ?_
  intro p e s m args below meth c s₁ B hml hno hv0
  obtain ⟨rfl, hP, hD, hA, hK, hX⟩ := hv0
  have hx := B.exec
  have hb := B.bytes
  have hr := B.returns
  have hts := atoms_spec (ws := wsX1_placeInLigature) B.pre
  have hown : s.vm.findClass RX1 = some m.cls := findClass_of_methodNamed B.named
  have hlocks := B.notSynchronized
  have hS : va_S A s.heap s.heap [] := va_S.rf
  have hinX0 : ∀ w ∈ u_ws RX0 TX0 10, w ∈ wsX1_placeInLigature := by decide +kernel
  have hl := lv_entry ([.ref (gX g), .int p0, .int q0]) (n := 3) (Nat.le_of_ble_eq_true rfl)
  rw [lg_entry_eq]
  generalize (lg_sl ([.ref (gX g), .int p0, .int q0]) ++ List.replicate (3 - (lg_sl ([.ref (gX g), .int p0, .int q0])).length) Slot.unset).toArray = ls at hl ⊢
  have hl : lv_has ls 3 [(0, .ref (gX g)), (1, .int p0), (2, .int q0)] := hl
  refine lv_aload_n (pc := 0) hx hb dX1_placeInLigature_0 rfl (lv_at hl 0 rfl) ?_
  refine lv_iload_n (pc := 1) hx hb dX1_placeInLigature_1 rfl (lv_at hl 1 rfl) ?_
  refine lv_iload_n (pc := 2) hx hb dX1_placeInLigature_2 rfl (lv_at hl 2 rfl) ?_
  refine k_xr (pc := 3) (vx_runV (As := [.int p0, .int q0]) (rest := []) ⟨hx, hb, hml, hown, hts⟩ (cX1_voiceWithSign_m l hfl g A σ rest p0 q0 hI) (cwV 2 hts gX1_placeInLigature_X1_voiceWithSign rfl rfl rfl (by decide +kernel) ⟨Nat.le_of_ble_eq_true rfl, Nat.le_of_ble_eq_true rfl⟩) (cx_V (q0 := 0) (ci := 1) (r := (RX1, TX1, 2)) rfl (cx0 g σ rest) hP hD hA hK hX hS) rfl rfl hl.1 rfl (lv_room (Nat.le_of_ble_eq_true rfl)) dX1_placeInLigature_3 ⟨Nat.le_of_ble_eq_true rfl, Nat.le_of_ble_eq_true rfl⟩) hno hlocks (fun _ h => h) (Nat.le_of_ble_eq_true rfl) (Nat.le_of_ble_eq_true rfl) (fun r_1 hr_1 => ?_)
  obtain ⟨v, s0, hvn, hs0, rfl, rfl, rfl⟩ := hr_1
  have hv4 : v < 4 := hI.v4 hvn
  have hC := hI.C v
  have hixv : ix (nI v) = v := ix_n (by omega)
  have hixs : ix (nI s0) = s0 := ix_n (by omega)
  have hokv : okV σ (nI v) = true := okV_t hvn hI.N
  have hoks : okS σ v (nI s0) = true := okS_t hs0 hC
  refine va_getN (v := .ref (gA g v 3)) (pc := 6) (D := gD g) (ci := 0) (C := RX0) (T := TX0) (N := 10) hx hb hts hinX0 hown hK hP (2 + 6 * v) (cv0 g σ rest hv4) rfl 8 (by decide) (va_Nw.use rfl (nf_109 hX)) (fun _ h9 => h9) rfl dX1_placeInLigature_6 ?_
  refine lv_iload_n (pc := 9) hx hb dX1_placeInLigature_9 rfl (lv_at hl 2 rfl) ?_
  refine k_iald (pc := 10) (x := sT σ v s0) hx hb hK hP (6 + 6 * v) 0 (cv4 g σ rest hv4) rfl s0 rfl (by omega) (by decide) rfl dX1_placeInLigature_10 ?_
  refine vx_ret ?_
  refine W.widen (k := 2) (n := 12) (Nat.le_of_ble_eq_true rfl) (Nat.le_of_ble_eq_true rfl) ?_
  exact W.iret hx hb hr (fun t ht hW => ⟨_, rfl, ⟨by simp [cdS, hokv, hoks, hixv], by simp only [hixv, hixs]⟩, ht⟩) (fun q hq => absurd hq List.not_mem_nil) dX1_placeInLigature_11
set_option maxHeartbeats 4000000 in
set_option maxRecDepth 100000 in
/-- lengthOf -/
theorem cX1_lengthOf_m (l : Launch) (hfl : l.stackTraces = false) (g : GA) (A : Nat → Prop) (σ : St) (rest : va_W) (p0 : Int32) (q0 : Int32) (hI : Inv σ) : vx_Met l yX1_lengthOf wsX1_lengthOf ({ frames := 8, cells := 2, slots := 12, locals := 134 }) (va_Pc [.ref (gX g), .int p0, .int q0] (Cx g A (cw g σ ++ rest))) (vp_Si (fun r : Int32 => cdS σ p0 q0 = 0 ∧ r = nI (lg σ (ix p0) (ix q0)))) (kX (fun E => (E = eI ∧ cdS σ p0 q0 = 1))) 2 12 (fun _ => False) := by
  refine vx_ofW (cc := cX1_lengthOf) (maxL := 3) (ret := (some .int)) (by decide) rfl ?_
  intro p e s m args below meth c s₁ B hml hno hv0
  obtain ⟨rfl, hP, hD, hA, hK, hX⟩ := hv0
  have hx := B.exec
  have hb := B.bytes
  have hr := B.returns
  have hts := atoms_spec (ws := wsX1_lengthOf) B.pre
  have hown : s.vm.findClass RX1 = some m.cls := findClass_of_methodNamed B.named
  have hlocks := B.notSynchronized
  have hS : va_S A s.heap s.heap [] := va_S.rf
  have hl := lv_entry ([.ref (gX g), .int p0, .int q0]) (n := 3) (Nat.le_of_ble_eq_true rfl)
  rw [lg_entry_eq]
  generalize (lg_sl ([.ref (gX g), .int p0, .int q0]) ++ List.replicate (3 - (lg_sl ([.ref (gX g), .int p0, .int q0])).length) Slot.unset).toArray = ls at hl ⊢
  have hl : lv_has ls 3 [(0, .ref (gX g)), (1, .int p0), (2, .int q0)] := hl
  refine lv_aload_n (pc := 0) hx hb dX1_lengthOf_0 rfl (lv_at hl 0 rfl) ?_
  refine lv_iload_n (pc := 1) hx hb dX1_lengthOf_1 rfl (lv_at hl 1 rfl) ?_
  refine lv_iload_n (pc := 2) hx hb dX1_lengthOf_2 rfl (lv_at hl 2 rfl) ?_
  refine k_xr (pc := 3) (vx_runV (As := [.int p0, .int q0]) (rest := []) ⟨hx, hb, hml, hown, hts⟩ (cX1_voiceWithSign_m l hfl g A σ rest p0 q0 hI) (cwV 2 hts gX1_lengthOf_X1_voiceWithSign rfl rfl rfl (by decide +kernel) ⟨Nat.le_of_ble_eq_true rfl, Nat.le_of_ble_eq_true rfl⟩) (cx_V (q0 := 0) (ci := 1) (r := (RX1, TX1, 2)) rfl (cx0 g σ rest) hP hD hA hK hX hS) rfl rfl hl.1 rfl (lv_room (Nat.le_of_ble_eq_true rfl)) dX1_lengthOf_3 ⟨Nat.le_of_ble_eq_true rfl, Nat.le_of_ble_eq_true rfl⟩) hno hlocks (fun _ h => h) (Nat.le_of_ble_eq_true rfl) (Nat.le_of_ble_eq_true rfl) (fun r_1 hr_1 => ?_)
  obtain ⟨v, s0, hvn, hs0, rfl, rfl, rfl⟩ := hr_1
  have hv4 : v < 4 := hI.v4 hvn
  have hC := hI.C v
  have hixv : ix (nI v) = v := ix_n (by omega)
  have hixs : ix (nI s0) = s0 := ix_n (by omega)
  have hokv : okV σ (nI v) = true := okV_t hvn hI.N
  have hoks : okS σ v (nI s0) = true := okS_t hs0 hC
  refine lv_iload_n (pc := 6) hx hb dX1_lengthOf_6 rfl (lv_at hl 2 rfl) ?_
  refine k_ri (pc := 7) (va_runVN (As := [.int (nI s0)]) (rest := []) ⟨hx, hb, hml, hown, hts⟩ (cX0_minimsOf_m l g A σ rest v s0 hv4 hI hs0) ⟨va_cnB 1 hts gX1_lengthOf_X0_minimsOf_n112 rfl rfl rfl (nm_112 hX) (hts (.initialized RX0) (by decide +kernel)) (by decide +kernel) ⟨Nat.le_of_ble_eq_true rfl, Nat.le_of_ble_eq_true rfl⟩, hts (.instanceMethod yX0_minimsOf) (by decide +kernel), hts (.selects RX0 yX0_minimsOf yX0_minimsOf) (by decide +kernel)⟩ (cx_V (q0 := (2 + 6 * v)) (ci := 0) (r := (RX0, TX0, 10)) rfl (cv0 g σ rest hv4) hP hD hA hK hX hS) rfl rfl hl.1 rfl (lv_room (Nat.le_of_ble_eq_true rfl)) dX1_lengthOf_7 ⟨Nat.le_of_ble_eq_true rfl, Nat.le_of_ble_eq_true rfl⟩) (fun r_2 hr_2 => ?_)
  subst hr_2
  refine vx_ret ?_
  refine W.widen (k := 2) (n := 12) (Nat.le_of_ble_eq_true rfl) (Nat.le_of_ble_eq_true rfl) ?_
  exact W.iret hx hb hr (fun t ht hW => ⟨_, rfl, ⟨by simp [cdS, hokv, hoks, hixv], by simp only [hixv, hixs]⟩, ht⟩) (fun q hq => absurd hq List.not_mem_nil) dX1_lengthOf_10
set_option maxHeartbeats 4000000 in
set_option maxRecDepth 100000 in
/-- beginOf -/
theorem cX1_beginOf_m (l : Launch) (hfl : l.stackTraces = false) (g : GA) (A : Nat → Prop) (σ : St) (rest : va_W) (p0 : Int32) (q0 : Int32) (hI : Inv σ) : vx_Met l yX1_beginOf wsX1_beginOf ({ frames := 8, cells := 2, slots := 12, locals := 134 }) (va_Pc [.ref (gX g), .int p0, .int q0] (Cx g A (cw g σ ++ rest))) (vp_Si (fun r : Int32 => cdS σ p0 q0 = 0 ∧ r = nI (bg σ (ix p0) (ix q0)))) (kX (fun E => (E = eI ∧ cdS σ p0 q0 = 1))) 2 12 (fun _ => False) := by
  refine vx_ofW (cc := cX1_beginOf) (maxL := 3) (ret := (some .int)) (by decide) rfl ?_
  intro p e s m args below meth c s₁ B hml hno hv0
  obtain ⟨rfl, hP, hD, hA, hK, hX⟩ := hv0
  have hx := B.exec
  have hb := B.bytes
  have hr := B.returns
  have hts := atoms_spec (ws := wsX1_beginOf) B.pre
  have hown : s.vm.findClass RX1 = some m.cls := findClass_of_methodNamed B.named
  have hlocks := B.notSynchronized
  have hS : va_S A s.heap s.heap [] := va_S.rf
  have hinX0 : ∀ w ∈ u_ws RX0 TX0 10, w ∈ wsX1_beginOf := by decide +kernel
  have hl := lv_entry ([.ref (gX g), .int p0, .int q0]) (n := 3) (Nat.le_of_ble_eq_true rfl)
  rw [lg_entry_eq]
  generalize (lg_sl ([.ref (gX g), .int p0, .int q0]) ++ List.replicate (3 - (lg_sl ([.ref (gX g), .int p0, .int q0])).length) Slot.unset).toArray = ls at hl ⊢
  have hl : lv_has ls 3 [(0, .ref (gX g)), (1, .int p0), (2, .int q0)] := hl
  refine lv_aload_n (pc := 0) hx hb dX1_beginOf_0 rfl (lv_at hl 0 rfl) ?_
  refine lv_iload_n (pc := 1) hx hb dX1_beginOf_1 rfl (lv_at hl 1 rfl) ?_
  refine lv_iload_n (pc := 2) hx hb dX1_beginOf_2 rfl (lv_at hl 2 rfl) ?_
  refine k_xr (pc := 3) (vx_runV (As := [.int p0, .int q0]) (rest := []) ⟨hx, hb, hml, hown, hts⟩ (cX1_voiceWithSign_m l hfl g A σ rest p0 q0 hI) (cwV 2 hts gX1_beginOf_X1_voiceWithSign rfl rfl rfl (by decide +kernel) ⟨Nat.le_of_ble_eq_true rfl, Nat.le_of_ble_eq_true rfl⟩) (cx_V (q0 := 0) (ci := 1) (r := (RX1, TX1, 2)) rfl (cx0 g σ rest) hP hD hA hK hX hS) rfl rfl hl.1 rfl (lv_room (Nat.le_of_ble_eq_true rfl)) dX1_beginOf_3 ⟨Nat.le_of_ble_eq_true rfl, Nat.le_of_ble_eq_true rfl⟩) hno hlocks (fun _ h => h) (Nat.le_of_ble_eq_true rfl) (Nat.le_of_ble_eq_true rfl) (fun r_1 hr_1 => ?_)
  obtain ⟨v, s0, hvn, hs0, rfl, rfl, rfl⟩ := hr_1
  have hv4 : v < 4 := hI.v4 hvn
  have hC := hI.C v
  have hixv : ix (nI v) = v := ix_n (by omega)
  have hixs : ix (nI s0) = s0 := ix_n (by omega)
  have hokv : okV σ (nI v) = true := okV_t hvn hI.N
  have hoks : okS σ v (nI s0) = true := okS_t hs0 hC
  refine va_getN (v := .ref (gA g v 4)) (pc := 6) (D := gD g) (ci := 0) (C := RX0) (T := TX0) (N := 10) hx hb hts hinX0 hown hK hP (2 + 6 * v) (cv0 g σ rest hv4) rfl 9 (by decide) (va_Nw.use rfl (nf_116 hX)) (fun _ h9 => h9) rfl dX1_beginOf_6 ?_
  refine lv_iload_n (pc := 9) hx hb dX1_beginOf_9 rfl (lv_at hl 2 rfl) ?_
  refine k_iald (pc := 10) (x := sB σ v s0) hx hb hK hP (7 + 6 * v) 0 (cv5 g σ rest hv4) rfl s0 rfl (by omega) (by decide) rfl dX1_beginOf_10 ?_
  refine k_cong (y := nI (bg σ v s0)) (hI.B (by omega)) ?_
  refine vx_ret ?_
  refine W.widen (k := 2) (n := 12) (Nat.le_of_ble_eq_true rfl) (Nat.le_of_ble_eq_true rfl) ?_
  exact W.iret hx hb hr (fun t ht hW => ⟨_, rfl, ⟨by simp [cdS, hokv, hoks, hixv], by simp only [hixv, hixs]⟩, ht⟩) (fun q hq => absurd hq List.not_mem_nil) dX1_beginOf_11
set_option maxHeartbeats 4000000 in
set_option maxRecDepth 100000 in
/-- signAt -/
theorem cX1_signAt_m (l : Launch) (hfl : l.stackTraces = false) (g : GA) (A : Nat → Prop) (σ : St) (rest : va_W) (p0 : Int32) (t0 : Int32) (hI : Inv σ) : vx_Met l yX1_signAt wsX1_signAt ({ frames := 7, cells := 2, slots := 12, locals := 112 }) (va_Pc [.ref (gX g), .int p0, .int t0] (Cx g A (cw g σ ++ rest))) (vp_Si (fun r : Int32 => cdVR σ p0 (!decide (t0 < 0)) = 0 ∧ r = sgAt σ (ix p0) t0 (sC σ (ix p0)))) (kX (fun E => (E = eI ∧ cdVR σ p0 (!decide (t0 < 0)) = 1) ∨ (E = eA ∧ cdVR σ p0 (!decide (t0 < 0)) = 2))) 2 12 (fun _ => False) := by
  refine vx_ofW (cc := cX1_signAt) (maxL := 4) (ret := (some .int)) (by decide) rfl ?_
  intro p e s m args below meth c s₁ B hml hno hv0
  obtain ⟨rfl, hP, hD, hA, hK, hX⟩ := hv0
  have hx := B.exec
  have hb := B.bytes
  have hr := B.returns
  have hts := atoms_spec (ws := wsX1_signAt) B.pre
  have hown : s.vm.findClass RX1 = some m.cls := findClass_of_methodNamed B.named
  have hlocks := B.notSynchronized
  have hS : va_S A s.heap s.heap [] := va_S.rf
  have hl := lv_entry ([.ref (gX g), .int p0, .int t0]) (n := 4) (Nat.le_of_ble_eq_true rfl)
  rw [lg_entry_eq]
  generalize (lg_sl ([.ref (gX g), .int p0, .int t0]) ++ List.replicate (4 - (lg_sl ([.ref (gX g), .int p0, .int t0])).length) Slot.unset).toArray = ls at hl ⊢
  have hl : lv_has ls 4 [(0, .ref (gX g)), (1, .int p0), (2, .int t0)] := hl
  refine lv_aload_n (pc := 0) hx hb dX1_signAt_0 rfl (lv_at hl 0 rfl) ?_
  refine lv_iload_n (pc := 1) hx hb dX1_signAt_1 rfl (lv_at hl 1 rfl) ?_
  refine k_xr (pc := 2) (vx_runV (As := [.int p0]) (rest := []) ⟨hx, hb, hml, hown, hts⟩ (cX1_knownVoice_m l hfl g A σ rest p0 hI) (cwV 1 hts gX1_signAt_X1_knownVoice rfl rfl rfl (by decide +kernel) ⟨Nat.le_of_ble_eq_true rfl, Nat.le_of_ble_eq_true rfl⟩) (cx_V (q0 := 0) (ci := 1) (r := (RX1, TX1, 2)) rfl (cx0 g σ rest) hP hD hA hK hX hS) rfl rfl hl.1 rfl (lv_room (Nat.le_of_ble_eq_true rfl)) dX1_signAt_2 ⟨Nat.le_of_ble_eq_true rfl, Nat.le_of_ble_eq_true rfl⟩) hno hlocks (fun E h => Or.inl ⟨h.1, by simp [cdVR, h.2]⟩) (Nat.le_of_ble_eq_true rfl) (Nat.le_of_ble_eq_true rfl) (fun r_1 hr_1 => ?_)
  obtain ⟨v, hvn, rfl, rfl⟩ := hr_1
  have hv4 : v < 4 := hI.v4 hvn
  have hixv : ix (nI v) = v := ix_n (by omega)
  have hokv : okV σ (nI v) = true := okV_t hvn hI.N
  refine lv_astore_n (lv' := [(3, .ref (gV g v)), (0, .ref (gX g)), (1, .int (nI v)), (2, .int t0)]) (pc := 5) hx hb dX1_signAt_5 rfl hl (by decide) rfl (fun ls hl => ?_)
  refine lv_iload_n (pc := 6) hx hb dX1_signAt_6 rfl (lv_at hl 3 rfl) ?_
  refine lv_iconst (v := 0) (pc := 7) hx hb dX1_signAt_7 (by decide) ?_
  refine lv_ldc (pc := 8) (v := 2147483647) hx hb hown (hts (.constant RX1 126 2147483647) (by decide +kernel)) dX1_signAt_8 ?_
  refine k_xv (pc := 10) (vx_runS (As := [.int t0, .int 0, .int 2147483647]) (rest := []) ⟨hx, hb, hml, hown, hts⟩ (cX1_checkRange_m l hfl g A σ rest t0 0 2147483647) (va_cwS 3 hts gX1_signAt_X1_checkRange rfl rfl rfl (by decide +kernel) ⟨Nat.le_of_ble_eq_true rfl, Nat.le_of_ble_eq_true rfl⟩) (cx_S hP hD hA hK hX hS) rfl rfl hl.1 rfl (lv_room (Nat.le_of_ble_eq_true rfl)) dX1_signAt_10 ⟨Nat.le_of_ble_eq_true rfl, Nat.le_of_ble_eq_true rfl⟩) hno hlocks (fun E h => Or.inr ⟨h.1, by simp only [cdVR, hokv]; rw [← inr_max, h.2]; rfl⟩) (Nat.le_of_ble_eq_true rfl) (Nat.le_of_ble_eq_true rfl) (fun hk1 => ?_)
  refine lv_aload_n (pc := 13) hx hb dX1_signAt_13 rfl (lv_at hl 0 rfl) ?_
  refine lv_iload_n (pc := 14) hx hb dX1_signAt_14 rfl (lv_at hl 3 rfl) ?_
  refine k_ri (pc := 15) (va_runVN (As := [.int t0]) (rest := []) ⟨hx, hb, hml, hown, hts⟩ (cX0_signLastingAt_m l g A σ rest v t0 hv4 hI) ⟨va_cnB 1 hts gX1_signAt_X0_signLastingAt_n127 rfl rfl rfl (nm_127 hX) (hts (.initialized RX0) (by decide +kernel)) (by decide +kernel) ⟨Nat.le_of_ble_eq_true rfl, Nat.le_of_ble_eq_true rfl⟩, hts (.instanceMethod yX0_signLastingAt) (by decide +kernel), hts (.selects RX0 yX0_signLastingAt yX0_signLastingAt) (by decide +kernel)⟩ (cx_V (q0 := (2 + 6 * v)) (ci := 0) (r := (RX0, TX0, 10)) rfl (cv0 g σ rest hv4) hP hD hA hK hX hS) rfl rfl hl.1 rfl (lv_room (Nat.le_of_ble_eq_true rfl)) dX1_signAt_15 ⟨Nat.le_of_ble_eq_true rfl, Nat.le_of_ble_eq_true rfl⟩) (fun r_3 hr_3 => ?_)
  subst hr_3
  refine vx_ret ?_
  refine W.widen (k := 2) (n := 12) (Nat.le_of_ble_eq_true rfl) (Nat.le_of_ble_eq_true rfl) ?_
  exact W.iret hx hb hr (fun t ht hW => ⟨_, rfl, ⟨by simp only [cdVR, hokv]; rw [← inr_max, hk1]; rfl, by simp only [hixv]⟩, ht⟩) (fun q hq => absurd hq List.not_mem_nil) dX1_signAt_18
set_option maxHeartbeats 4000000 in
set_option maxRecDepth 100000 in
/-- fits -/
theorem cX1_fits_m (l : Launch) (hfl : l.stackTraces = false) (g : GA) (A : Nat → Prop) (σ : St) (rest : va_W) (p0 : Int32) (c0 : Int32) (hI : Inv σ) : vx_Met l yX1_fits wsX1_fits ({ frames := 7, cells := 2, slots := 12, locals := 112 }) (va_Pc [.ref (gX g), .int p0, .int c0] (Cx g A (cw g σ ++ rest))) (vp_Si (fun r : Int32 => cdVR σ p0 (inr 0 5 c0) = 0 ∧ r = bI (ft σ (ix p0) c0))) (kX (fun E => (E = eI ∧ cdVR σ p0 (inr 0 5 c0) = 1) ∨ (E = eA ∧ cdVR σ p0 (inr 0 5 c0) = 2))) 2 12 (fun _ => False) := by
  refine vx_ofW (cc := cX1_fits) (maxL := 4) (ret := (some .boolean)) (by decide) rfl ?_
  intro p e s m args below meth c s₁ B hml hno hv0
  obtain ⟨rfl, hP, hD, hA, hK, hX⟩ := hv0
  have hx := B.exec
  have hb := B.bytes
  have hr := B.returns
  have hts := atoms_spec (ws := wsX1_fits) B.pre
  have hown : s.vm.findClass RX1 = some m.cls := findClass_of_methodNamed B.named
  have hlocks := B.notSynchronized
  have hS : va_S A s.heap s.heap [] := va_S.rf
  have hl := lv_entry ([.ref (gX g), .int p0, .int c0]) (n := 4) (Nat.le_of_ble_eq_true rfl)
  rw [lg_entry_eq]
  generalize (lg_sl ([.ref (gX g), .int p0, .int c0]) ++ List.replicate (4 - (lg_sl ([.ref (gX g), .int p0, .int c0])).length) Slot.unset).toArray = ls at hl ⊢
  have hl : lv_has ls 4 [(0, .ref (gX g)), (1, .int p0), (2, .int c0)] := hl
  refine lv_aload_n (pc := 0) hx hb dX1_fits_0 rfl (lv_at hl 0 rfl) ?_
  refine lv_iload_n (pc := 1) hx hb dX1_fits_1 rfl (lv_at hl 1 rfl) ?_
  refine k_xr (pc := 2) (vx_runV (As := [.int p0]) (rest := []) ⟨hx, hb, hml, hown, hts⟩ (cX1_knownVoice_m l hfl g A σ rest p0 hI) (cwV 1 hts gX1_fits_X1_knownVoice rfl rfl rfl (by decide +kernel) ⟨Nat.le_of_ble_eq_true rfl, Nat.le_of_ble_eq_true rfl⟩) (cx_V (q0 := 0) (ci := 1) (r := (RX1, TX1, 2)) rfl (cx0 g σ rest) hP hD hA hK hX hS) rfl rfl hl.1 rfl (lv_room (Nat.le_of_ble_eq_true rfl)) dX1_fits_2 ⟨Nat.le_of_ble_eq_true rfl, Nat.le_of_ble_eq_true rfl⟩) hno hlocks (fun E h => Or.inl ⟨h.1, by simp [cdVR, h.2]⟩) (Nat.le_of_ble_eq_true rfl) (Nat.le_of_ble_eq_true rfl) (fun r_1 hr_1 => ?_)
  obtain ⟨v, hvn, rfl, rfl⟩ := hr_1
  have hv4 : v < 4 := hI.v4 hvn
  have hixv : ix (nI v) = v := ix_n (by omega)
  have hokv : okV σ (nI v) = true := okV_t hvn hI.N
  refine lv_astore_n (lv' := [(3, .ref (gV g v)), (0, .ref (gX g)), (1, .int (nI v)), (2, .int c0)]) (pc := 5) hx hb dX1_fits_5 rfl hl (by decide) rfl (fun ls hl => ?_)
  refine lv_iload_n (pc := 6) hx hb dX1_fits_6 rfl (lv_at hl 3 rfl) ?_
  refine lv_iconst (v := 0) (pc := 7) hx hb dX1_fits_7 (by decide) ?_
  refine lv_iconst (v := 5) (pc := 8) hx hb dX1_fits_8 (by decide) ?_
  refine k_xv (pc := 9) (vx_runS (As := [.int c0, .int 0, .int 5]) (rest := []) ⟨hx, hb, hml, hown, hts⟩ (cX1_checkRange_m l hfl g A σ rest c0 0 5) (va_cwS 3 hts gX1_fits_X1_checkRange rfl rfl rfl (by decide +kernel) ⟨Nat.le_of_ble_eq_true rfl, Nat.le_of_ble_eq_true rfl⟩) (cx_S hP hD hA hK hX hS) rfl rfl hl.1 rfl (lv_room (Nat.le_of_ble_eq_true rfl)) dX1_fits_9 ⟨Nat.le_of_ble_eq_true rfl, Nat.le_of_ble_eq_true rfl⟩) hno hlocks (fun E h => Or.inr ⟨h.1, by simp only [cdVR, hokv, h.2]; rfl⟩) (Nat.le_of_ble_eq_true rfl) (Nat.le_of_ble_eq_true rfl) (fun hk1 => ?_)
  refine lv_aload_n (pc := 12) hx hb dX1_fits_12 rfl (lv_at hl 0 rfl) ?_
  refine lv_iload_n (pc := 13) hx hb dX1_fits_13 rfl (lv_at hl 3 rfl) ?_
  refine k_ri (pc := 14) (va_runVN (As := [.int c0]) (rest := []) ⟨hx, hb, hml, hown, hts⟩ (cX0_wouldFit_m l g A σ rest v c0 hv4 hI) ⟨va_cnB 1 hts gX1_fits_X0_wouldFit_n134 rfl rfl rfl (nm_134 hX) (hts (.initialized RX0) (by decide +kernel)) (by decide +kernel) ⟨Nat.le_of_ble_eq_true rfl, Nat.le_of_ble_eq_true rfl⟩, hts (.instanceMethod yX0_wouldFit) (by decide +kernel), hts (.selects RX0 yX0_wouldFit yX0_wouldFit) (by decide +kernel)⟩ (cx_V (q0 := (2 + 6 * v)) (ci := 0) (r := (RX0, TX0, 10)) rfl (cv0 g σ rest hv4) hP hD hA hK hX hS) rfl rfl hl.1 rfl (lv_room (Nat.le_of_ble_eq_true rfl)) dX1_fits_14 ⟨Nat.le_of_ble_eq_true rfl, Nat.le_of_ble_eq_true rfl⟩) (fun r_3 hr_3 => ?_)
  subst hr_3
  refine vx_ret ?_
  refine W.widen (k := 2) (n := 12) (Nat.le_of_ble_eq_true rfl) (Nat.le_of_ble_eq_true rfl) ?_
  exact W.zret (v := bI (ft σ v c0)) hx hb hr (bI_nar _) (fun t ht hW => ⟨_, rfl, ⟨by simp only [cdVR, hokv, hk1]; rfl, by simp only [hixv]⟩, ht⟩) (fun q hq => absurd hq List.not_mem_nil) dX1_fits_17
set_option maxHeartbeats 4000000 in
set_option maxRecDepth 100000 in
/-- clashesWith -/
theorem cX1_clashesWith_m (l : Launch) (hfl : l.stackTraces = false) (g : GA) (A : Nat → Prop) (σ : St) (rest : va_W) (p0 : Int32) (c0 : Int32) (hI : Inv σ) : vx_Met l yX1_clashesWith wsX1_clashesWith ({ frames := 7, cells := 2, slots := 12, locals := 112 }) (va_Pc [.ref (gX g), .int p0, .int c0] (Cx g A (cw g σ ++ rest))) (vp_Si (fun r : Int32 => cdVR σ p0 (inr 0 5 c0) = 0 ∧ r = nI (cwN σ (ix p0) c0))) (kX (fun E => (E = eI ∧ cdVR σ p0 (inr 0 5 c0) = 1) ∨ (E = eA ∧ cdVR σ p0 (inr 0 5 c0) = 2))) 2 12 (fun _ => False) := by
  refine vx_ofW (cc := cX1_clashesWith) (maxL := 4) (ret := (some .int)) (by decide) rfl ?_
  intro p e s m args below meth c s₁ B hml hno hv0
  obtain ⟨rfl, hP, hD, hA, hK, hX⟩ := hv0
  have hx := B.exec
  have hb := B.bytes
  have hr := B.returns
  have hts := atoms_spec (ws := wsX1_clashesWith) B.pre
  have hown : s.vm.findClass RX1 = some m.cls := findClass_of_methodNamed B.named
  have hlocks := B.notSynchronized
  have hS : va_S A s.heap s.heap [] := va_S.rf
  have hl := lv_entry ([.ref (gX g), .int p0, .int c0]) (n := 4) (Nat.le_of_ble_eq_true rfl)
  rw [lg_entry_eq]
  generalize (lg_sl ([.ref (gX g), .int p0, .int c0]) ++ List.replicate (4 - (lg_sl ([.ref (gX g), .int p0, .int c0])).length) Slot.unset).toArray = ls at hl ⊢
  have hl : lv_has ls 4 [(0, .ref (gX g)), (1, .int p0), (2, .int c0)] := hl
  refine lv_aload_n (pc := 0) hx hb dX1_clashesWith_0 rfl (lv_at hl 0 rfl) ?_
  refine lv_iload_n (pc := 1) hx hb dX1_clashesWith_1 rfl (lv_at hl 1 rfl) ?_
  refine k_xr (pc := 2) (vx_runV (As := [.int p0]) (rest := []) ⟨hx, hb, hml, hown, hts⟩ (cX1_knownVoice_m l hfl g A σ rest p0 hI) (cwV 1 hts gX1_clashesWith_X1_knownVoice rfl rfl rfl (by decide +kernel) ⟨Nat.le_of_ble_eq_true rfl, Nat.le_of_ble_eq_true rfl⟩) (cx_V (q0 := 0) (ci := 1) (r := (RX1, TX1, 2)) rfl (cx0 g σ rest) hP hD hA hK hX hS) rfl rfl hl.1 rfl (lv_room (Nat.le_of_ble_eq_true rfl)) dX1_clashesWith_2 ⟨Nat.le_of_ble_eq_true rfl, Nat.le_of_ble_eq_true rfl⟩) hno hlocks (fun E h => Or.inl ⟨h.1, by simp [cdVR, h.2]⟩) (Nat.le_of_ble_eq_true rfl) (Nat.le_of_ble_eq_true rfl) (fun r_1 hr_1 => ?_)
  obtain ⟨v, hvn, rfl, rfl⟩ := hr_1
  have hv4 : v < 4 := hI.v4 hvn
  have hixv : ix (nI v) = v := ix_n (by omega)
  have hokv : okV σ (nI v) = true := okV_t hvn hI.N
  refine lv_astore_n (lv' := [(3, .ref (gV g v)), (0, .ref (gX g)), (1, .int (nI v)), (2, .int c0)]) (pc := 5) hx hb dX1_clashesWith_5 rfl hl (by decide) rfl (fun ls hl => ?_)
  refine lv_iload_n (pc := 6) hx hb dX1_clashesWith_6 rfl (lv_at hl 3 rfl) ?_
  refine lv_iconst (v := 0) (pc := 7) hx hb dX1_clashesWith_7 (by decide) ?_
  refine lv_iconst (v := 5) (pc := 8) hx hb dX1_clashesWith_8 (by decide) ?_
  refine k_xv (pc := 9) (vx_runS (As := [.int c0, .int 0, .int 5]) (rest := []) ⟨hx, hb, hml, hown, hts⟩ (cX1_checkRange_m l hfl g A σ rest c0 0 5) (va_cwS 3 hts gX1_clashesWith_X1_checkRange rfl rfl rfl (by decide +kernel) ⟨Nat.le_of_ble_eq_true rfl, Nat.le_of_ble_eq_true rfl⟩) (cx_S hP hD hA hK hX hS) rfl rfl hl.1 rfl (lv_room (Nat.le_of_ble_eq_true rfl)) dX1_clashesWith_9 ⟨Nat.le_of_ble_eq_true rfl, Nat.le_of_ble_eq_true rfl⟩) hno hlocks (fun E h => Or.inr ⟨h.1, by simp only [cdVR, hokv, h.2]; rfl⟩) (Nat.le_of_ble_eq_true rfl) (Nat.le_of_ble_eq_true rfl) (fun hk1 => ?_)
  refine lv_aload_n (pc := 12) hx hb dX1_clashesWith_12 rfl (lv_at hl 1 rfl) ?_
  refine lv_aload_n (pc := 13) hx hb dX1_clashesWith_13 rfl (lv_at hl 0 rfl) ?_
  refine lv_iload_n (pc := 14) hx hb dX1_clashesWith_14 rfl (lv_at hl 3 rfl) ?_
  refine k_ri (pc := 15) (va_runV (As := [.ref (gV g v), .int c0]) (rest := []) ⟨hx, hb, hml, hown, hts⟩ (cX1_clashesIfClef_m l g A σ rest v c0 hv4 hI) (cwV 2 hts gX1_clashesWith_X1_clashesIfClef rfl rfl rfl (by decide +kernel) ⟨Nat.le_of_ble_eq_true rfl, Nat.le_of_ble_eq_true rfl⟩) (cx_V (q0 := 0) (ci := 1) (r := (RX1, TX1, 2)) rfl (cx0 g σ rest) hP hD hA hK hX hS) rfl rfl hl.1 rfl (lv_room (Nat.le_of_ble_eq_true rfl)) dX1_clashesWith_15 ⟨Nat.le_of_ble_eq_true rfl, Nat.le_of_ble_eq_true rfl⟩) (fun r_3 hr_3 => ?_)
  subst hr_3
  refine vx_ret ?_
  refine W.widen (k := 2) (n := 12) (Nat.le_of_ble_eq_true rfl) (Nat.le_of_ble_eq_true rfl) ?_
  exact W.iret hx hb hr (fun t ht hW => ⟨_, rfl, ⟨by simp only [cdVR, hokv, hk1]; rfl, by simp only [hixv]⟩, ht⟩) (fun q hq => absurd hq List.not_mem_nil) dX1_clashesWith_18
set_option maxHeartbeats 4000000 in
set_option maxRecDepth 100000 in
/-- bestClef -/
theorem cX1_bestClef_m (l : Launch) (hfl : l.stackTraces = false) (g : GA) (A : Nat → Prop) (σ : St) (rest : va_W) (p0 : Int32) (hI : Inv σ) : vx_Met l yX1_bestClef wsX1_bestClef ({ frames := 7, cells := 1, slots := 6, locals := 126 }) (va_Pc [.ref (gX g), .int p0] (Cx g A (cw g σ ++ rest))) (vp_Si (fun r : Int32 => cdV σ p0 = 0 ∧ r = bcl σ (ix p0))) (kX (fun E => (E = eI ∧ cdV σ p0 = 1))) 1 6 (fun _ => False) := by
  refine vx_ofW (cc := cX1_bestClef) (maxL := 2) (ret := (some .int)) (by decide) rfl ?_
  intro p e s m args below meth c s₁ B hml hno hv0
  obtain ⟨rfl, hP, hD, hA, hK, hX⟩ := hv0
  have hx := B.exec
  have hb := B.bytes
  have hr := B.returns
  have hts := atoms_spec (ws := wsX1_bestClef) B.pre
  have hown : s.vm.findClass RX1 = some m.cls := findClass_of_methodNamed B.named
  have hlocks := B.notSynchronized
  have hS : va_S A s.heap s.heap [] := va_S.rf
  have hl := lv_entry ([.ref (gX g), .int p0]) (n := 2) (Nat.le_of_ble_eq_true rfl)
  rw [lg_entry_eq]
  generalize (lg_sl ([.ref (gX g), .int p0]) ++ List.replicate (2 - (lg_sl ([.ref (gX g), .int p0])).length) Slot.unset).toArray = ls at hl ⊢
  have hl : lv_has ls 2 [(0, .ref (gX g)), (1, .int p0)] := hl
  refine lv_aload_n (pc := 0) hx hb dX1_bestClef_0 rfl (lv_at hl 0 rfl) ?_
  refine lv_aload_n (pc := 1) hx hb dX1_bestClef_1 rfl (lv_at hl 0 rfl) ?_
  refine lv_iload_n (pc := 2) hx hb dX1_bestClef_2 rfl (lv_at hl 1 rfl) ?_
  refine k_xr (pc := 3) (vx_runV (As := [.int p0]) (rest := [.ref (gX g)]) ⟨hx, hb, hml, hown, hts⟩ (cX1_knownVoice_m l hfl g A σ rest p0 hI) (cwV 1 hts gX1_bestClef_X1_knownVoice rfl rfl rfl (by decide +kernel) ⟨Nat.le_of_ble_eq_true rfl, Nat.le_of_ble_eq_true rfl⟩) (cx_V (q0 := 0) (ci := 1) (r := (RX1, TX1, 2)) rfl (cx0 g σ rest) hP hD hA hK hX hS) rfl rfl hl.1 rfl (lv_room (Nat.le_of_ble_eq_true rfl)) dX1_bestClef_3 ⟨Nat.le_of_ble_eq_true rfl, Nat.le_of_ble_eq_true rfl⟩) hno hlocks (fun E h => ⟨h.1, by simp [cdV, h.2]⟩) (Nat.le_of_ble_eq_true rfl) (Nat.le_of_ble_eq_true rfl) (fun r_1 hr_1 => ?_)
  obtain ⟨v, hvn, rfl, rfl⟩ := hr_1
  have hv4 : v < 4 := hI.v4 hvn
  have hixv : ix (nI v) = v := ix_n (by omega)
  have hokv : okV σ (nI v) = true := okV_t hvn hI.N
  refine k_ri (pc := 6) (va_runV (As := [.ref (gV g v)]) (rest := []) ⟨hx, hb, hml, hown, hts⟩ (cX1_clefWithFewestClashes_m l g A σ rest v hv4 hI) (cwV 1 hts gX1_bestClef_X1_clefWithFewestClashes rfl rfl rfl (by decide +kernel) ⟨Nat.le_of_ble_eq_true rfl, Nat.le_of_ble_eq_true rfl⟩) (cx_V (q0 := 0) (ci := 1) (r := (RX1, TX1, 2)) rfl (cx0 g σ rest) hP hD hA hK hX hS) rfl rfl hl.1 rfl (lv_room (Nat.le_of_ble_eq_true rfl)) dX1_bestClef_6 ⟨Nat.le_of_ble_eq_true rfl, Nat.le_of_ble_eq_true rfl⟩) (fun r_2 hr_2 => ?_)
  subst hr_2
  refine vx_ret ?_
  refine W.widen (k := 1) (n := 6) (Nat.le_of_ble_eq_true rfl) (Nat.le_of_ble_eq_true rfl) ?_
  exact W.iret hx hb hr (fun t ht hW => ⟨_, rfl, ⟨by simp [cdV, hokv], by simp only [hixv]⟩, ht⟩) (fun q hq => absurd hq List.not_mem_nil) dX1_bestClef_9
set_option maxHeartbeats 4000000 in
set_option maxRecDepth 100000 in
/-- bestDelay -/
theorem cX1_bestDelay_m (l : Launch) (hfl : l.stackTraces = false) (g : GA) (A : Nat → Prop) (σ : St) (rest : va_W) (p0 : Int32) (u0 : Int32) (hI : Inv σ) : vx_Met l yX1_bestDelay wsX1_bestDelay ({ frames := 7, cells := 2, slots := 12, locals := 112 }) (va_Pc [.ref (gX g), .int p0, .int u0] (Cx g A (cw g σ ++ rest))) (vp_Si (fun r : Int32 => cdVR σ p0 (inr (-7) 7 u0) = 0 ∧ r = bdl σ (ix p0) u0)) (kX (fun E => (E = eI ∧ cdVR σ p0 (inr (-7) 7 u0) = 1) ∨ (E = eA ∧ cdVR σ p0 (inr (-7) 7 u0) = 2))) 2 12 (fun _ => False) := by
  refine vx_ofW (cc := cX1_bestDelay) (maxL := 4) (ret := (some .int)) (by decide) rfl ?_
  intro p e s m args below meth c s₁ B hml hno hv0
  obtain ⟨rfl, hP, hD, hA, hK, hX⟩ := hv0
  have hx := B.exec
  have hb := B.bytes
  have hr := B.returns
  have hts := atoms_spec (ws := wsX1_bestDelay) B.pre
  have hown : s.vm.findClass RX1 = some m.cls := findClass_of_methodNamed B.named
  have hlocks := B.notSynchronized
  have hS : va_S A s.heap s.heap [] := va_S.rf
  have hl := lv_entry ([.ref (gX g), .int p0, .int u0]) (n := 4) (Nat.le_of_ble_eq_true rfl)
  rw [lg_entry_eq]
  generalize (lg_sl ([.ref (gX g), .int p0, .int u0]) ++ List.replicate (4 - (lg_sl ([.ref (gX g), .int p0, .int u0])).length) Slot.unset).toArray = ls at hl ⊢
  have hl : lv_has ls 4 [(0, .ref (gX g)), (1, .int p0), (2, .int u0)] := hl
  refine lv_aload_n (pc := 0) hx hb dX1_bestDelay_0 rfl (lv_at hl 0 rfl) ?_
  refine lv_iload_n (pc := 1) hx hb dX1_bestDelay_1 rfl (lv_at hl 1 rfl) ?_
  refine k_xr (pc := 2) (vx_runV (As := [.int p0]) (rest := []) ⟨hx, hb, hml, hown, hts⟩ (cX1_knownVoice_m l hfl g A σ rest p0 hI) (cwV 1 hts gX1_bestDelay_X1_knownVoice rfl rfl rfl (by decide +kernel) ⟨Nat.le_of_ble_eq_true rfl, Nat.le_of_ble_eq_true rfl⟩) (cx_V (q0 := 0) (ci := 1) (r := (RX1, TX1, 2)) rfl (cx0 g σ rest) hP hD hA hK hX hS) rfl rfl hl.1 rfl (lv_room (Nat.le_of_ble_eq_true rfl)) dX1_bestDelay_2 ⟨Nat.le_of_ble_eq_true rfl, Nat.le_of_ble_eq_true rfl⟩) hno hlocks (fun E h => Or.inl ⟨h.1, by simp [cdVR, h.2]⟩) (Nat.le_of_ble_eq_true rfl) (Nat.le_of_ble_eq_true rfl) (fun r_1 hr_1 => ?_)
  obtain ⟨v, hvn, rfl, rfl⟩ := hr_1
  have hv4 : v < 4 := hI.v4 hvn
  have hixv : ix (nI v) = v := ix_n (by omega)
  have hokv : okV σ (nI v) = true := okV_t hvn hI.N
  refine lv_astore_n (lv' := [(3, .ref (gV g v)), (0, .ref (gX g)), (1, .int (nI v)), (2, .int u0)]) (pc := 5) hx hb dX1_bestDelay_5 rfl hl (by decide) rfl (fun ls hl => ?_)
  refine lv_iload_n (pc := 6) hx hb dX1_bestDelay_6 rfl (lv_at hl 3 rfl) ?_
  refine lv_bipush (v := (-7)) (pc := 7) hx hb dX1_bestDelay_7 (by decide) ?_
  refine lv_bipush (v := 7) (pc := 9) hx hb dX1_bestDelay_9 (by decide) ?_
  refine k_xv (pc := 11) (vx_runS (As := [.int u0, .int ((-7)), .int 7]) (rest := []) ⟨hx, hb, hml, hown, hts⟩ (cX1_checkRange_m l hfl g A σ rest u0 ((-7)) 7) (va_cwS 3 hts gX1_bestDelay_X1_checkRange rfl rfl rfl (by decide +kernel) ⟨Nat.le_of_ble_eq_true rfl, Nat.le_of_ble_eq_true rfl⟩) (cx_S hP hD hA hK hX hS) rfl rfl hl.1 rfl (lv_room (Nat.le_of_ble_eq_true rfl)) dX1_bestDelay_11 ⟨Nat.le_of_ble_eq_true rfl, Nat.le_of_ble_eq_true rfl⟩) hno hlocks (fun E h => Or.inr ⟨h.1, by simp only [cdVR, hokv, h.2]; rfl⟩) (Nat.le_of_ble_eq_true rfl) (Nat.le_of_ble_eq_true rfl) (fun hk1 => ?_)
  refine lv_aload_n (pc := 14) hx hb dX1_bestDelay_14 rfl (lv_at hl 0 rfl) ?_
  refine lv_iload_n (pc := 15) hx hb dX1_bestDelay_15 rfl (lv_at hl 3 rfl) ?_
  refine k_ri (pc := 16) (va_runS (As := [.ref (gV g v), .int u0]) (rest := []) ⟨hx, hb, hml, hown, hts⟩ (cX1_delayWithFewestClashes_m l g A σ rest v u0 hv4 hI) (va_cwS 2 hts gX1_bestDelay_X1_delayWithFewestClashes rfl rfl rfl (by decide +kernel) ⟨Nat.le_of_ble_eq_true rfl, Nat.le_of_ble_eq_true rfl⟩) (cx_S hP hD hA hK hX hS) rfl rfl hl.1 rfl (lv_room (Nat.le_of_ble_eq_true rfl)) dX1_bestDelay_16 ⟨Nat.le_of_ble_eq_true rfl, Nat.le_of_ble_eq_true rfl⟩) (fun r_3 hr_3 => ?_)
  subst hr_3
  refine vx_ret ?_
  refine W.widen (k := 2) (n := 12) (Nat.le_of_ble_eq_true rfl) (Nat.le_of_ble_eq_true rfl) ?_
  exact W.iret hx hb hr (fun t ht hW => ⟨_, rfl, ⟨by simp only [cdVR, hokv, hk1]; rfl, by simp only [hixv]⟩, ht⟩) (fun q hq => absurd hq List.not_mem_nil) dX1_bestDelay_19
set_option maxHeartbeats 4000000 in
set_option maxRecDepth 100000 in
/-- canonClashes -/
theorem cX1_canonClashes_m (l : Launch) (hfl : l.stackTraces = false) (g : GA) (A : Nat → Prop) (σ : St) (rest : va_W) (p0 : Int32) (d0 : Int32) (u0 : Int32) (hI : Inv σ) : vx_Met l yX1_canonClashes wsX1_canonClashes ({ frames := 7, cells := 3, slots := 18, locals := 112 }) (va_Pc [.ref (gX g), .int p0, .int d0, .int u0] (Cx g A (cw g σ ++ rest))) (vp_Si (fun r : Int32 => cd_canon σ p0 d0 u0 = 0 ∧ r = nI (clN σ (ix p0) (ix p0) (ix d0) u0))) (kX (fun E => (E = eI ∧ cd_canon σ p0 d0 u0 = 1) ∨ (E = eA ∧ cd_canon σ p0 d0 u0 = 2))) 3 18 (fun _ => False) := by
  refine vx_ofW (cc := cX1_canonClashes) (maxL := 5) (ret := (some .int)) (by decide) rfl ?_
  intro p e s m args below meth c s₁ B hml hno hv0
  obtain ⟨rfl, hP, hD, hA, hK, hX⟩ := hv0
  have hx := B.exec
  have hb := B.bytes
  have hr := B.returns
  have hts := atoms_spec (ws := wsX1_canonClashes) B.pre
  have hown : s.vm.findClass RX1 = some m.cls := findClass_of_methodNamed B.named
  have hlocks := B.notSynchronized
  have hS : va_S A s.heap s.heap [] := va_S.rf
  have hl := lv_entry ([.ref (gX g), .int p0, .int d0, .int u0]) (n := 5) (Nat.le_of_ble_eq_true rfl)
  rw [lg_entry_eq]
  generalize (lg_sl ([.ref (gX g), .int p0, .int d0, .int u0]) ++ List.replicate (5 - (lg_sl ([.ref (gX g), .int p0, .int d0, .int u0])).length) Slot.unset).toArray = ls at hl ⊢
  have hl : lv_has ls 5 [(0, .ref (gX g)), (1, .int p0), (2, .int d0), (3, .int u0)] := hl
  refine lv_aload_n (pc := 0) hx hb dX1_canonClashes_0 rfl (lv_at hl 0 rfl) ?_
  refine lv_iload_n (pc := 1) hx hb dX1_canonClashes_1 rfl (lv_at hl 1 rfl) ?_
  refine k_xr (pc := 2) (vx_runV (As := [.int p0]) (rest := []) ⟨hx, hb, hml, hown, hts⟩ (cX1_knownVoice_m l hfl g A σ rest p0 hI) (cwV 1 hts gX1_canonClashes_X1_knownVoice rfl rfl rfl (by decide +kernel) ⟨Nat.le_of_ble_eq_true rfl, Nat.le_of_ble_eq_true rfl⟩) (cx_V (q0 := 0) (ci := 1) (r := (RX1, TX1, 2)) rfl (cx0 g σ rest) hP hD hA hK hX hS) rfl rfl hl.1 rfl (lv_room (Nat.le_of_ble_eq_true rfl)) dX1_canonClashes_2 ⟨Nat.le_of_ble_eq_true rfl, Nat.le_of_ble_eq_true rfl⟩) hno hlocks (fun E h => Or.inl ⟨h.1, by simp [cd_canon, cdVR, h.2]⟩) (Nat.le_of_ble_eq_true rfl) (Nat.le_of_ble_eq_true rfl) (fun r_1 hr_1 => ?_)
  obtain ⟨v, hvn, rfl, rfl⟩ := hr_1
  have hv4 : v < 4 := hI.v4 hvn
  have hixv : ix (nI v) = v := ix_n (by omega)
  have hokv : okV σ (nI v) = true := okV_t hvn hI.N
  refine lv_astore (lv' := [(4, .ref (gV g v)), (0, .ref (gX g)), (1, .int (nI v)), (2, .int d0), (3, .int u0)]) (pc := 5) hx hb dX1_canonClashes_5 hl (by decide) rfl (fun ls hl => ?_)
  refine lv_iload_n (pc := 7) hx hb dX1_canonClashes_7 rfl (lv_at hl 3 rfl) ?_
  refine lv_iconst (v := 1) (pc := 8) hx hb dX1_canonClashes_8 (by decide) ?_
  refine lv_bipush (v := 48) (pc := 9) hx hb dX1_canonClashes_9 (by decide) ?_
  refine k_xv (pc := 11) (vx_runS (As := [.int d0, .int 1, .int 48]) (rest := []) ⟨hx, hb, hml, hown, hts⟩ (cX1_checkRange_m l hfl g A σ rest d0 1 48) (va_cwS 3 hts gX1_canonClashes_X1_checkRange rfl rfl rfl (by decide +kernel) ⟨Nat.le_of_ble_eq_true rfl, Nat.le_of_ble_eq_true rfl⟩) (cx_S hP hD hA hK hX hS) rfl rfl hl.1 rfl (lv_room (Nat.le_of_ble_eq_true rfl)) dX1_canonClashes_11 ⟨Nat.le_of_ble_eq_true rfl, Nat.le_of_ble_eq_true rfl⟩) hno hlocks (fun E h => Or.inr ⟨h.1, by simp [cd_canon, cdVR, hokv, h.2]⟩) (Nat.le_of_ble_eq_true rfl) (Nat.le_of_ble_eq_true rfl) (fun hk1 => ?_)
  have hk1s := hk1
  obtain ⟨d, hd1, hd2, rfl⟩ := inr_nat (a := 1) (b := 48) rfl rfl (by decide) (by decide) hk1
  have hixd : ix (nI d) = d := ix_n (by omega)
  refine lv_iload_n (pc := 14) hx hb dX1_canonClashes_14 rfl (lv_at hl 4 rfl) ?_
  refine lv_bipush (v := (-7)) (pc := 15) hx hb dX1_canonClashes_15 (by decide) ?_
  refine lv_bipush (v := 7) (pc := 17) hx hb dX1_canonClashes_17 (by decide) ?_
  refine k_xv (pc := 19) (vx_runS (As := [.int u0, .int ((-7)), .int 7]) (rest := []) ⟨hx, hb, hml, hown, hts⟩ (cX1_checkRange_m l hfl g A σ rest u0 ((-7)) 7) (va_cwS 3 hts gX1_canonClashes_X1_checkRange rfl rfl rfl (by decide +kernel) ⟨Nat.le_of_ble_eq_true rfl, Nat.le_of_ble_eq_true rfl⟩) (cx_S hP hD hA hK hX hS) rfl rfl hl.1 rfl (lv_room (Nat.le_of_ble_eq_true rfl)) dX1_canonClashes_19 ⟨Nat.le_of_ble_eq_true rfl, Nat.le_of_ble_eq_true rfl⟩) hno hlocks (fun E h => Or.inr ⟨h.1, by simp [cd_canon, cdVR, hokv, hk1s, h.2]⟩) (Nat.le_of_ble_eq_true rfl) (Nat.le_of_ble_eq_true rfl) (fun hk2 => ?_)
  refine lv_aload (pc := 22) hx hb dX1_canonClashes_22 (lv_at hl 0 rfl) ?_
  refine lv_aload (pc := 24) hx hb dX1_canonClashes_24 (lv_at hl 0 rfl) ?_
  refine lv_iload_n (pc := 26) hx hb dX1_canonClashes_26 rfl (lv_at hl 3 rfl) ?_
  refine lv_iload_n (pc := 27) hx hb dX1_canonClashes_27 rfl (lv_at hl 4 rfl) ?_
  refine k_ri (pc := 28) (va_runS (As := [.ref (gV g v), .ref (gV g v), .int (nI d), .int u0]) (rest := []) ⟨hx, hb, hml, hown, hts⟩ (cX1_clashingMinims_m l g A σ rest v v d u0 hv4 hv4 hI (by omega)) (va_cwS 4 hts gX1_canonClashes_X1_clashingMinims rfl rfl rfl (by decide +kernel) ⟨Nat.le_of_ble_eq_true rfl, Nat.le_of_ble_eq_true rfl⟩) (cx_S hP hD hA hK hX hS) rfl rfl hl.1 rfl (lv_room (Nat.le_of_ble_eq_true rfl)) dX1_canonClashes_28 ⟨Nat.le_of_ble_eq_true rfl, Nat.le_of_ble_eq_true rfl⟩) (fun r_4 hr_4 => ?_)
  subst hr_4
  refine vx_ret ?_
  refine W.widen (k := 3) (n := 18) (Nat.le_of_ble_eq_true rfl) (Nat.le_of_ble_eq_true rfl) ?_
  exact W.iret hx hb hr (fun t ht hW => ⟨_, rfl, ⟨by simp [cd_canon, cdVR, hokv, hk1s, hk2], by simp only [hixv, hixd]⟩, ht⟩) (fun q hq => absurd hq List.not_mem_nil) dX1_canonClashes_31
set_option maxHeartbeats 4000000 in
set_option maxRecDepth 100000 in
/-- pitchOf -/
theorem cX1_pitchOf_m (l : Launch) (hfl : l.stackTraces = false) (g : GA) (A : Nat → Prop) (σ : St) (rest : va_W) (p0 : Int32) (q0 : Int32) (hI : Inv σ) : vx_Met l yX1_pitchOf wsX1_pitchOf ({ frames := 8, cells := 3, slots := 18, locals := 134 }) (va_Pc [.ref (gX g), .int p0, .int q0] (Cx g A (cw g σ ++ rest))) (vp_Si (fun r : Int32 => cd_pitchOf σ p0 q0 = 0 ∧ r = an_pitchOf σ (ix p0) (ix q0))) (kX (fun E => (E = eI ∧ cd_pitchOf σ p0 q0 = 1) ∨ (E = eS ∧ cd_pitchOf σ p0 q0 = 2))) 3 18 (fun _ => False) := by
  refine vx_ofW (cc := cX1_pitchOf) (maxL := 4) (ret := (some .int)) (by decide) rfl ?_
  intro p e s m args below meth c s₁ B hml hno hv0
  obtain ⟨rfl, hP, hD, hA, hK, hX⟩ := hv0
  have hx := B.exec
  have hb := B.bytes
  have hr := B.returns
  have hts := atoms_spec (ws := wsX1_pitchOf) B.pre
  have hown : s.vm.findClass RX1 = some m.cls := findClass_of_methodNamed B.named
  have hlocks := B.notSynchronized
  have hS : va_S A s.heap s.heap [] := va_S.rf
  have hinX0 : ∀ w ∈ u_ws RX0 TX0 10, w ∈ wsX1_pitchOf := by decide +kernel
  have hl := lv_entry ([.ref (gX g), .int p0, .int q0]) (n := 4) (Nat.le_of_ble_eq_true rfl)
  rw [lg_entry_eq]
  generalize (lg_sl ([.ref (gX g), .int p0, .int q0]) ++ List.replicate (4 - (lg_sl ([.ref (gX g), .int p0, .int q0])).length) Slot.unset).toArray = ls at hl ⊢
  have hl : lv_has ls 4 [(0, .ref (gX g)), (1, .int p0), (2, .int q0)] := hl
  refine lv_aload_n (pc := 0) hx hb dX1_pitchOf_0 rfl (lv_at hl 0 rfl) ?_
  refine lv_iload_n (pc := 1) hx hb dX1_pitchOf_1 rfl (lv_at hl 1 rfl) ?_
  refine lv_iload_n (pc := 2) hx hb dX1_pitchOf_2 rfl (lv_at hl 2 rfl) ?_
  refine k_xr (pc := 3) (vx_runV (As := [.int p0, .int q0]) (rest := []) ⟨hx, hb, hml, hown, hts⟩ (cX1_voiceWithSign_m l hfl g A σ rest p0 q0 hI) (cwV 2 hts gX1_pitchOf_X1_voiceWithSign rfl rfl rfl (by decide +kernel) ⟨Nat.le_of_ble_eq_true rfl, Nat.le_of_ble_eq_true rfl⟩) (cx_V (q0 := 0) (ci := 1) (r := (RX1, TX1, 2)) rfl (cx0 g σ rest) hP hD hA hK hX hS) rfl rfl hl.1 rfl (lv_room (Nat.le_of_ble_eq_true rfl)) dX1_pitchOf_3 ⟨Nat.le_of_ble_eq_true rfl, Nat.le_of_ble_eq_true rfl⟩) hno hlocks (fun E h => Or.inl ⟨h.1, by have q := h.2; unfold cdS at q; unfold cd_pitchOf; split at q; exact absurd q (by decide); rename_i z; rw [if_neg z]⟩) (Nat.le_of_ble_eq_true rfl) (Nat.le_of_ble_eq_true rfl) (fun r_1 hr_1 => ?_)
  obtain ⟨v, s0, hvn, hs0, rfl, rfl, rfl⟩ := hr_1
  have hv4 : v < 4 := hI.v4 hvn
  have hC := hI.C v
  have hixv : ix (nI v) = v := ix_n (by omega)
  have hixs : ix (nI s0) = s0 := ix_n (by omega)
  have hokv : okV σ (nI v) = true := okV_t hvn hI.N
  have hoks : okS σ v (nI s0) = true := okS_t hs0 hC
  refine lv_astore_n (lv' := [(3, .ref (gV g v)), (0, .ref (gX g)), (1, .int (nI v)), (2, .int (nI s0))]) (pc := 6) hx hb dX1_pitchOf_6 rfl hl (by decide) rfl (fun ls hl => ?_)
  refine lv_aload_n (pc := 7) hx hb dX1_pitchOf_7 rfl (lv_at hl 0 rfl) ?_
  refine k_xv (pc := 8) (vx_runS (As := [.ref (gV g v)]) (rest := []) ⟨hx, hb, hml, hown, hts⟩ (cX1_checkHasClef_m l hfl g A σ rest v hv4) (va_cwS 1 hts gX1_pitchOf_X1_checkHasClef rfl rfl rfl (by decide +kernel) ⟨Nat.le_of_ble_eq_true rfl, Nat.le_of_ble_eq_true rfl⟩) (cx_S hP hD hA hK hX hS) rfl rfl hl.1 rfl (lv_room (Nat.le_of_ble_eq_true rfl)) dX1_pitchOf_8 ⟨Nat.le_of_ble_eq_true rfl, Nat.le_of_ble_eq_true rfl⟩) hno hlocks (fun E h => Or.inr ⟨h.1, by simp [cd_pitchOf, hokv, hoks, hixv, h.2]⟩) (Nat.le_of_ble_eq_true rfl) (Nat.le_of_ble_eq_true rfl) (fun hk1 => ?_)
  refine lv_aload_n (pc := 11) hx hb dX1_pitchOf_11 rfl (lv_at hl 0 rfl) ?_
  refine lv_iload_n (pc := 12) hx hb dX1_pitchOf_12 rfl (lv_at hl 3 rfl) ?_
  refine k_ri (pc := 13) (va_runVN (As := [.int (nI s0)]) (rest := []) ⟨hx, hb, hml, hown, hts⟩ (cX0_isRest_m l g A σ rest v s0 hv4 (by omega)) ⟨va_cnB 1 hts gX1_pitchOf_X0_isRest_n77 rfl rfl rfl (nm_77 hX) (hts (.initialized RX0) (by decide +kernel)) (by decide +kernel) ⟨Nat.le_of_ble_eq_true rfl, Nat.le_of_ble_eq_true rfl⟩, hts (.instanceMethod yX0_isRest) (by decide +kernel), hts (.selects RX0 yX0_isRest yX0_isRest) (by decide +kernel)⟩ (cx_V (q0 := (2 + 6 * v)) (ci := 0) (r := (RX0, TX0, 10)) rfl (cv0 g σ rest hv4) hP hD hA hK hX hS) rfl rfl hl.1 rfl (lv_room (Nat.le_of_ble_eq_true rfl)) dX1_pitchOf_13 ⟨Nat.le_of_ble_eq_true rfl, Nat.le_of_ble_eq_true rfl⟩) (fun r_3 hr_3 => ?_)
  subst hr_3
  refine lv_if_eq (tgt := 23) (pc := 16) hx hb dX1_pitchOf_16 (by decide) (fun c2 => ?_) (fun c2 => ?_)
  · have c2 : isNt σ v s0 = true := by simpa using bI_0.mp c2
    refine lv_aload_n (pc := 23) hx hb dX1_pitchOf_23 rfl (lv_at hl 0 rfl) ?_
    refine va_getN (v := .ref (gA g v 1)) (pc := 24) (D := gD g) (ci := 0) (C := RX0) (T := TX0) (N := 10) hx hb hts hinX0 hown hK hP (2 + 6 * v) (cv0 g σ rest hv4) rfl 6 (by decide) (va_Nw.use rfl (nf_102 hX)) (fun _ h9 => h9) rfl dX1_pitchOf_24 ?_
    refine lv_iload_n (pc := 27) hx hb dX1_pitchOf_27 rfl (lv_at hl 3 rfl) ?_
    refine k_iald (pc := 28) (x := sP σ v s0) hx hb hK hP (4 + 6 * v) 0 (cv2 g σ rest hv4) rfl s0 rfl (by omega) (by decide) rfl dX1_pitchOf_28 ?_
    refine lv_iconst (v := 2) (pc := 29) hx hb dX1_pitchOf_29 (by decide) ?_
    refine lv_aload_n (pc := 30) hx hb dX1_pitchOf_30 rfl (lv_at hl 0 rfl) ?_
    refine va_getN (v := .int (sL σ v)) (pc := 31) (D := gD g) (ci := 0) (C := RX0) (T := TX0) (N := 10) hx hb hts hinX0 hown hK hP (2 + 6 * v) (cv0 g σ rest hv4) rfl 3 (by decide) (va_Nw.use rfl (nf_86 hX)) (fun _ h9 => h9) rfl dX1_pitchOf_31 ?_
    refine lv_imul (pc := 34) hx hb dX1_pitchOf_34 ?_
    refine lv_iadd (pc := 35) hx hb dX1_pitchOf_35 ?_
    refine vx_ret ?_
    refine W.widen (k := 3) (n := 18) (Nat.le_of_ble_eq_true rfl) (Nat.le_of_ble_eq_true rfl) ?_
    exact W.iret hx hb hr (fun t ht hW => ⟨_, rfl, ⟨by simp [cd_pitchOf, hokv, hoks, hixv, hk1], by simp only [hixv, hixs, an_pitchOf, c2]; rfl⟩, ht⟩) (fun q hq => absurd hq List.not_mem_nil) dX1_pitchOf_36
  · have c2 : isNt σ v s0 = false := by simpa using bI_n0.mp c2
    refine lv_iconst (v := (-1)) (pc := 19) hx hb dX1_pitchOf_19 (by decide) ?_
    refine lv_goto (tgt := 36) (pc := 20) hx hb dX1_pitchOf_20 (by decide) ?_
    refine vx_ret ?_
    refine W.widen (k := 3) (n := 18) (Nat.le_of_ble_eq_true rfl) (Nat.le_of_ble_eq_true rfl) ?_
    exact W.iret hx hb hr (fun t ht hW => ⟨_, rfl, ⟨by simp [cd_pitchOf, hokv, hoks, hixv, hk1], by simp only [hixv, hixs, an_pitchOf, c2]; rfl⟩, ht⟩) (fun q hq => absurd hq List.not_mem_nil) dX1_pitchOf_36
set_option maxHeartbeats 4000000 in
set_option maxRecDepth 100000 in
/-- clashes -/
theorem cX1_clashes_m (l : Launch) (hfl : l.stackTraces = false) (g : GA) (A : Nat → Prop) (σ : St) (rest : va_W) (p0 : Int32) (q0 : Int32) (hI : Inv σ) : vx_Met l yX1_clashes wsX1_clashes ({ frames := 7, cells := 4, slots := 24, locals := 111 }) (va_Pc [.ref (gX g), .int p0, .int q0] (Cx g A (cw g σ ++ rest))) (vp_Si (fun r : Int32 => cd_clashes σ p0 q0 = 0 ∧ r = nI (clN σ (ix p0) (ix q0) 0 (2 * (sL σ (ix q0) - sL σ (ix p0)))))) (kX (fun E => (E = eI ∧ cd_clashes σ p0 q0 = 1) ∨ (E = eS ∧ cd_clashes σ p0 q0 = 2))) 4 24 (fun _ => False) := by
  refine vx_ofW (cc := cX1_clashes) (maxL := 5) (ret := (some .int)) (by decide) rfl ?_
  intro p e s m args below meth c s₁ B hml hno hv0
  obtain ⟨rfl, hP, hD, hA, hK, hX⟩ := hv0
  have hx := B.exec
  have hb := B.bytes
  have hr := B.returns
  have hts := atoms_spec (ws := wsX1_clashes) B.pre
  have hown : s.vm.findClass RX1 = some m.cls := findClass_of_methodNamed B.named
  have hlocks := B.notSynchronized
  have hS : va_S A s.heap s.heap [] := va_S.rf
  have hinX0 : ∀ w ∈ u_ws RX0 TX0 10, w ∈ wsX1_clashes := by decide +kernel
  have hl := lv_entry ([.ref (gX g), .int p0, .int q0]) (n := 5) (Nat.le_of_ble_eq_true rfl)
  rw [lg_entry_eq]
  generalize (lg_sl ([.ref (gX g), .int p0, .int q0]) ++ List.replicate (5 - (lg_sl ([.ref (gX g), .int p0, .int q0])).length) Slot.unset).toArray = ls at hl ⊢
  have hl : lv_has ls 5 [(0, .ref (gX g)), (1, .int p0), (2, .int q0)] := hl
  refine lv_aload_n (pc := 0) hx hb dX1_clashes_0 rfl (lv_at hl 0 rfl) ?_
  refine lv_iload_n (pc := 1) hx hb dX1_clashes_1 rfl (lv_at hl 1 rfl) ?_
  refine k_xr (pc := 2) (vx_runV (As := [.int p0]) (rest := []) ⟨hx, hb, hml, hown, hts⟩ (cX1_knownVoice_m l hfl g A σ rest p0 hI) (cwV 1 hts gX1_clashes_X1_knownVoice rfl rfl rfl (by decide +kernel) ⟨Nat.le_of_ble_eq_true rfl, Nat.le_of_ble_eq_true rfl⟩) (cx_V (q0 := 0) (ci := 1) (r := (RX1, TX1, 2)) rfl (cx0 g σ rest) hP hD hA hK hX hS) rfl rfl hl.1 rfl (lv_room (Nat.le_of_ble_eq_true rfl)) dX1_clashes_2 ⟨Nat.le_of_ble_eq_true rfl, Nat.le_of_ble_eq_true rfl⟩) hno hlocks (fun E h => Or.inl ⟨h.1, by simp [cd_clashes, h.2]⟩) (Nat.le_of_ble_eq_true rfl) (Nat.le_of_ble_eq_true rfl) (fun r_1 hr_1 => ?_)
  obtain ⟨v, hvn, rfl, rfl⟩ := hr_1
  have hv4 : v < 4 := hI.v4 hvn
  have hixv : ix (nI v) = v := ix_n (by omega)
  have hokv : okV σ (nI v) = true := okV_t hvn hI.N
  refine lv_astore_n (lv' := [(3, .ref (gV g v)), (0, .ref (gX g)), (1, .int (nI v)), (2, .int q0)]) (pc := 5) hx hb dX1_clashes_5 rfl hl (by decide) rfl (fun ls hl => ?_)
  refine lv_aload_n (pc := 6) hx hb dX1_clashes_6 rfl (lv_at hl 1 rfl) ?_
  refine lv_iload_n (pc := 7) hx hb dX1_clashes_7 rfl (lv_at hl 3 rfl) ?_
  refine k_xr (pc := 8) (vx_runV (As := [.int q0]) (rest := []) ⟨hx, hb, hml, hown, hts⟩ (cX1_knownVoice_m l hfl g A σ rest q0 hI) (cwV 1 hts gX1_clashes_X1_knownVoice rfl rfl rfl (by decide +kernel) ⟨Nat.le_of_ble_eq_true rfl, Nat.le_of_ble_eq_true rfl⟩) (cx_V (q0 := 0) (ci := 1) (r := (RX1, TX1, 2)) rfl (cx0 g σ rest) hP hD hA hK hX hS) rfl rfl hl.1 rfl (lv_room (Nat.le_of_ble_eq_true rfl)) dX1_clashes_8 ⟨Nat.le_of_ble_eq_true rfl, Nat.le_of_ble_eq_true rfl⟩) hno hlocks (fun E h => Or.inl ⟨h.1, by simp [cd_clashes, h.2]⟩) (Nat.le_of_ble_eq_true rfl) (Nat.le_of_ble_eq_true rfl) (fun r_2 hr_2 => ?_)
  obtain ⟨w, hwn, rfl, rfl⟩ := hr_2
  have hw4 : w < 4 := hI.v4 hwn
  have hixw : ix (nI w) = w := ix_n (by omega)
  have hokw : okV σ (nI w) = true := okV_t hwn hI.N
  refine lv_astore (lv' := [(4, .ref (gV g w)), (3, .ref (gV g v)), (0, .ref (gX g)), (1, .int (nI v)), (2, .int (nI w))]) (pc := 11) hx hb dX1_clashes_11 hl (by decide) rfl (fun ls hl => ?_)
  refine lv_aload_n (pc := 13) hx hb dX1_clashes_13 rfl (lv_at hl 1 rfl) ?_
  refine k_xv (pc := 14) (vx_runS (As := [.ref (gV g v)]) (rest := []) ⟨hx, hb, hml, hown, hts⟩ (cX1_checkHasClef_m l hfl g A σ rest v hv4) (va_cwS 1 hts gX1_clashes_X1_checkHasClef rfl rfl rfl (by decide +kernel) ⟨Nat.le_of_ble_eq_true rfl, Nat.le_of_ble_eq_true rfl⟩) (cx_S hP hD hA hK hX hS) rfl rfl hl.1 rfl (lv_room (Nat.le_of_ble_eq_true rfl)) dX1_clashes_14 ⟨Nat.le_of_ble_eq_true rfl, Nat.le_of_ble_eq_true rfl⟩) hno hlocks (fun E h => Or.inr ⟨h.1, by simp [cd_clashes, hokv, hokw, hixv, hixw, h.2]⟩) (Nat.le_of_ble_eq_true rfl) (Nat.le_of_ble_eq_true rfl) (fun hk1 => ?_)
  refine lv_aload (pc := 17) hx hb dX1_clashes_17 (lv_at hl 0 rfl) ?_
  refine k_xv (pc := 19) (vx_runS (As := [.ref (gV g w)]) (rest := []) ⟨hx, hb, hml, hown, hts⟩ (cX1_checkHasClef_m l hfl g A σ rest w hw4) (va_cwS 1 hts gX1_clashes_X1_checkHasClef rfl rfl rfl (by decide +kernel) ⟨Nat.le_of_ble_eq_true rfl, Nat.le_of_ble_eq_true rfl⟩) (cx_S hP hD hA hK hX hS) rfl rfl hl.1 rfl (lv_room (Nat.le_of_ble_eq_true rfl)) dX1_clashes_19 ⟨Nat.le_of_ble_eq_true rfl, Nat.le_of_ble_eq_true rfl⟩) hno hlocks (fun E h => Or.inr ⟨h.1, by simp [cd_clashes, hokv, hokw, hixv, hixw, h.2]⟩) (Nat.le_of_ble_eq_true rfl) (Nat.le_of_ble_eq_true rfl) (fun hk2 => ?_)
  refine lv_aload_n (pc := 22) hx hb dX1_clashes_22 rfl (lv_at hl 1 rfl) ?_
  refine lv_aload (pc := 23) hx hb dX1_clashes_23 (lv_at hl 0 rfl) ?_
  refine lv_iconst (v := 0) (pc := 25) hx hb dX1_clashes_25 (by decide) ?_
  refine lv_iconst (v := 2) (pc := 26) hx hb dX1_clashes_26 (by decide) ?_
  refine lv_aload (pc := 27) hx hb dX1_clashes_27 (lv_at hl 0 rfl) ?_
  refine va_getN (v := .int (sL σ w)) (pc := 29) (D := gD g) (ci := 0) (C := RX0) (T := TX0) (N := 10) hx hb hts hinX0 hown hK hP (2 + 6 * w) (cv0 g σ rest hw4) rfl 3 (by decide) (va_Nw.use rfl (nf_86 hX)) (fun _ h9 => h9) rfl dX1_clashes_29 ?_
  refine lv_aload_n (pc := 32) hx hb dX1_clashes_32 rfl (lv_at hl 1 rfl) ?_
  refine va_getN (v := .int (sL σ v)) (pc := 33) (D := gD g) (ci := 0) (C := RX0) (T := TX0) (N := 10) hx hb hts hinX0 hown hK hP (2 + 6 * v) (cv0 g σ rest hv4) rfl 3 (by decide) (va_Nw.use rfl (nf_86 hX)) (fun _ h9 => h9) rfl dX1_clashes_33 ?_
  refine lv_isub (pc := 36) hx hb dX1_clashes_36 ?_
  refine lv_imul (pc := 37) hx hb dX1_clashes_37 ?_
  refine k_ri (pc := 38) (va_runS (As := [.ref (gV g v), .ref (gV g w), .int 0, .int (2 * ((sL σ w) - (sL σ v)))]) (rest := []) ⟨hx, hb, hml, hown, hts⟩ (cX1_clashingMinims_m l g A σ rest v w 0 (2 * ((sL σ w) - (sL σ v))) hv4 hw4 hI (by omega)) (va_cwS 4 hts gX1_clashes_X1_clashingMinims rfl rfl rfl (by decide +kernel) ⟨Nat.le_of_ble_eq_true rfl, Nat.le_of_ble_eq_true rfl⟩) (cx_S hP hD hA hK hX hS) rfl rfl hl.1 rfl (lv_room (Nat.le_of_ble_eq_true rfl)) dX1_clashes_38 ⟨Nat.le_of_ble_eq_true rfl, Nat.le_of_ble_eq_true rfl⟩) (fun r_5 hr_5 => ?_)
  subst hr_5
  refine vx_ret ?_
  refine W.widen (k := 4) (n := 24) (Nat.le_of_ble_eq_true rfl) (Nat.le_of_ble_eq_true rfl) ?_
  exact W.iret hx hb hr (fun t ht hW => ⟨_, rfl, ⟨by simp [cd_clashes, hokv, hokw, hixv, hixw, hk1, hk2], by simp only [hixv, hixw]⟩, ht⟩) (fun q hq => absurd hq List.not_mem_nil) dX1_clashes_41
set_option maxHeartbeats 4000000 in
set_option maxRecDepth 100000 in
/-- firstClash -/
theorem cX1_firstClash_m (l : Launch) (hfl : l.stackTraces = false) (g : GA) (A : Nat → Prop) (σ : St) (rest : va_W) (p0 : Int32) (q0 : Int32) (hI : Inv σ) : vx_Met l yX1_firstClash wsX1_firstClash ({ frames := 7, cells := 4, slots := 24, locals := 111 }) (va_Pc [.ref (gX g), .int p0, .int q0] (Cx g A (cw g σ ++ rest))) (vp_Si (fun r : Int32 => cd_clashes σ p0 q0 = 0 ∧ r = fst (clT σ (ix p0) (ix q0) 0 (2 * (sL σ (ix q0) - sL σ (ix p0)))) (len σ (ix p0)))) (kX (fun E => (E = eI ∧ cd_clashes σ p0 q0 = 1) ∨ (E = eS ∧ cd_clashes σ p0 q0 = 2))) 4 24 (fun _ => False) := by
  refine vx_ofW (cc := cX1_firstClash) (maxL := 5) (ret := (some .int)) (by decide) rfl ?_
  intro p e s m args below meth c s₁ B hml hno hv0
  obtain ⟨rfl, hP, hD, hA, hK, hX⟩ := hv0
  have hx := B.exec
  have hb := B.bytes
  have hr := B.returns
  have hts := atoms_spec (ws := wsX1_firstClash) B.pre
  have hown : s.vm.findClass RX1 = some m.cls := findClass_of_methodNamed B.named
  have hlocks := B.notSynchronized
  have hS : va_S A s.heap s.heap [] := va_S.rf
  have hinX0 : ∀ w ∈ u_ws RX0 TX0 10, w ∈ wsX1_firstClash := by decide +kernel
  have hl := lv_entry ([.ref (gX g), .int p0, .int q0]) (n := 5) (Nat.le_of_ble_eq_true rfl)
  rw [lg_entry_eq]
  generalize (lg_sl ([.ref (gX g), .int p0, .int q0]) ++ List.replicate (5 - (lg_sl ([.ref (gX g), .int p0, .int q0])).length) Slot.unset).toArray = ls at hl ⊢
  have hl : lv_has ls 5 [(0, .ref (gX g)), (1, .int p0), (2, .int q0)] := hl
  refine lv_aload_n (pc := 0) hx hb dX1_firstClash_0 rfl (lv_at hl 0 rfl) ?_
  refine lv_iload_n (pc := 1) hx hb dX1_firstClash_1 rfl (lv_at hl 1 rfl) ?_
  refine k_xr (pc := 2) (vx_runV (As := [.int p0]) (rest := []) ⟨hx, hb, hml, hown, hts⟩ (cX1_knownVoice_m l hfl g A σ rest p0 hI) (cwV 1 hts gX1_firstClash_X1_knownVoice rfl rfl rfl (by decide +kernel) ⟨Nat.le_of_ble_eq_true rfl, Nat.le_of_ble_eq_true rfl⟩) (cx_V (q0 := 0) (ci := 1) (r := (RX1, TX1, 2)) rfl (cx0 g σ rest) hP hD hA hK hX hS) rfl rfl hl.1 rfl (lv_room (Nat.le_of_ble_eq_true rfl)) dX1_firstClash_2 ⟨Nat.le_of_ble_eq_true rfl, Nat.le_of_ble_eq_true rfl⟩) hno hlocks (fun E h => Or.inl ⟨h.1, by simp [cd_clashes, h.2]⟩) (Nat.le_of_ble_eq_true rfl) (Nat.le_of_ble_eq_true rfl) (fun r_1 hr_1 => ?_)
  obtain ⟨v, hvn, rfl, rfl⟩ := hr_1
  have hv4 : v < 4 := hI.v4 hvn
  have hixv : ix (nI v) = v := ix_n (by omega)
  have hokv : okV σ (nI v) = true := okV_t hvn hI.N
  refine lv_astore_n (lv' := [(3, .ref (gV g v)), (0, .ref (gX g)), (1, .int (nI v)), (2, .int q0)]) (pc := 5) hx hb dX1_firstClash_5 rfl hl (by decide) rfl (fun ls hl => ?_)
  refine lv_aload_n (pc := 6) hx hb dX1_firstClash_6 rfl (lv_at hl 1 rfl) ?_
  refine lv_iload_n (pc := 7) hx hb dX1_firstClash_7 rfl (lv_at hl 3 rfl) ?_
  refine k_xr (pc := 8) (vx_runV (As := [.int q0]) (rest := []) ⟨hx, hb, hml, hown, hts⟩ (cX1_knownVoice_m l hfl g A σ rest q0 hI) (cwV 1 hts gX1_firstClash_X1_knownVoice rfl rfl rfl (by decide +kernel) ⟨Nat.le_of_ble_eq_true rfl, Nat.le_of_ble_eq_true rfl⟩) (cx_V (q0 := 0) (ci := 1) (r := (RX1, TX1, 2)) rfl (cx0 g σ rest) hP hD hA hK hX hS) rfl rfl hl.1 rfl (lv_room (Nat.le_of_ble_eq_true rfl)) dX1_firstClash_8 ⟨Nat.le_of_ble_eq_true rfl, Nat.le_of_ble_eq_true rfl⟩) hno hlocks (fun E h => Or.inl ⟨h.1, by simp [cd_clashes, h.2]⟩) (Nat.le_of_ble_eq_true rfl) (Nat.le_of_ble_eq_true rfl) (fun r_2 hr_2 => ?_)
  obtain ⟨w, hwn, rfl, rfl⟩ := hr_2
  have hw4 : w < 4 := hI.v4 hwn
  have hixw : ix (nI w) = w := ix_n (by omega)
  have hokw : okV σ (nI w) = true := okV_t hwn hI.N
  refine lv_astore (lv' := [(4, .ref (gV g w)), (3, .ref (gV g v)), (0, .ref (gX g)), (1, .int (nI v)), (2, .int (nI w))]) (pc := 11) hx hb dX1_firstClash_11 hl (by decide) rfl (fun ls hl => ?_)
  refine lv_aload_n (pc := 13) hx hb dX1_firstClash_13 rfl (lv_at hl 1 rfl) ?_
  refine k_xv (pc := 14) (vx_runS (As := [.ref (gV g v)]) (rest := []) ⟨hx, hb, hml, hown, hts⟩ (cX1_checkHasClef_m l hfl g A σ rest v hv4) (va_cwS 1 hts gX1_firstClash_X1_checkHasClef rfl rfl rfl (by decide +kernel) ⟨Nat.le_of_ble_eq_true rfl, Nat.le_of_ble_eq_true rfl⟩) (cx_S hP hD hA hK hX hS) rfl rfl hl.1 rfl (lv_room (Nat.le_of_ble_eq_true rfl)) dX1_firstClash_14 ⟨Nat.le_of_ble_eq_true rfl, Nat.le_of_ble_eq_true rfl⟩) hno hlocks (fun E h => Or.inr ⟨h.1, by simp [cd_clashes, hokv, hokw, hixv, hixw, h.2]⟩) (Nat.le_of_ble_eq_true rfl) (Nat.le_of_ble_eq_true rfl) (fun hk1 => ?_)
  refine lv_aload (pc := 17) hx hb dX1_firstClash_17 (lv_at hl 0 rfl) ?_
  refine k_xv (pc := 19) (vx_runS (As := [.ref (gV g w)]) (rest := []) ⟨hx, hb, hml, hown, hts⟩ (cX1_checkHasClef_m l hfl g A σ rest w hw4) (va_cwS 1 hts gX1_firstClash_X1_checkHasClef rfl rfl rfl (by decide +kernel) ⟨Nat.le_of_ble_eq_true rfl, Nat.le_of_ble_eq_true rfl⟩) (cx_S hP hD hA hK hX hS) rfl rfl hl.1 rfl (lv_room (Nat.le_of_ble_eq_true rfl)) dX1_firstClash_19 ⟨Nat.le_of_ble_eq_true rfl, Nat.le_of_ble_eq_true rfl⟩) hno hlocks (fun E h => Or.inr ⟨h.1, by simp [cd_clashes, hokv, hokw, hixv, hixw, h.2]⟩) (Nat.le_of_ble_eq_true rfl) (Nat.le_of_ble_eq_true rfl) (fun hk2 => ?_)
  refine lv_aload_n (pc := 22) hx hb dX1_firstClash_22 rfl (lv_at hl 1 rfl) ?_
  refine lv_aload (pc := 23) hx hb dX1_firstClash_23 (lv_at hl 0 rfl) ?_
  refine lv_iconst (v := 2) (pc := 25) hx hb dX1_firstClash_25 (by decide) ?_
  refine lv_aload (pc := 26) hx hb dX1_firstClash_26 (lv_at hl 0 rfl) ?_
  refine va_getN (v := .int (sL σ w)) (pc := 28) (D := gD g) (ci := 0) (C := RX0) (T := TX0) (N := 10) hx hb hts hinX0 hown hK hP (2 + 6 * w) (cv0 g σ rest hw4) rfl 3 (by decide) (va_Nw.use rfl (nf_86 hX)) (fun _ h9 => h9) rfl dX1_firstClash_28 ?_
  refine lv_aload_n (pc := 31) hx hb dX1_firstClash_31 rfl (lv_at hl 1 rfl) ?_
  refine va_getN (v := .int (sL σ v)) (pc := 32) (D := gD g) (ci := 0) (C := RX0) (T := TX0) (N := 10) hx hb hts hinX0 hown hK hP (2 + 6 * v) (cv0 g σ rest hv4) rfl 3 (by decide) (va_Nw.use rfl (nf_86 hX)) (fun _ h9 => h9) rfl dX1_firstClash_32 ?_
  refine lv_isub (pc := 35) hx hb dX1_firstClash_35 ?_
  refine lv_imul (pc := 36) hx hb dX1_firstClash_36 ?_
  refine k_ri (pc := 37) (va_runS (As := [.ref (gV g v), .ref (gV g w), .int (2 * ((sL σ w) - (sL σ v)))]) (rest := []) ⟨hx, hb, hml, hown, hts⟩ (cX1_firstClashingMinim_m l g A σ rest v w (2 * ((sL σ w) - (sL σ v))) hv4 hw4 hI) (va_cwS 3 hts gX1_firstClash_X1_firstClashingMinim rfl rfl rfl (by decide +kernel) ⟨Nat.le_of_ble_eq_true rfl, Nat.le_of_ble_eq_true rfl⟩) (cx_S hP hD hA hK hX hS) rfl rfl hl.1 rfl (lv_room (Nat.le_of_ble_eq_true rfl)) dX1_firstClash_37 ⟨Nat.le_of_ble_eq_true rfl, Nat.le_of_ble_eq_true rfl⟩) (fun r_5 hr_5 => ?_)
  subst hr_5
  refine vx_ret ?_
  refine W.widen (k := 4) (n := 24) (Nat.le_of_ble_eq_true rfl) (Nat.le_of_ble_eq_true rfl) ?_
  exact W.iret hx hb hr (fun t ht hW => ⟨_, rfl, ⟨by simp [cd_clashes, hokv, hokw, hixv, hixw, hk1, hk2], by simp only [hixv, hixw]⟩, ht⟩) (fun q hq => absurd hq List.not_mem_nil) dX1_firstClash_40
set_option maxHeartbeats 4000000 in
set_option maxRecDepth 100000 in
/-- voices -/
theorem cX1_voices_m (l : Launch) (g : GA) (A : Nat → Prop) (σ : St) (rest : va_W)  : Met l yX1_voices wsX1_voices ({ frames := 0, cells := 0, slots := 0, locals := 0 }) (va_Pc [.ref (gX g)] (Cx g A (cw g σ ++ rest))) (vp_Si (fun r : Int32 => r = nI (sN σ))) 0 0 (fun _ => False) := by
  refine Met.ofW (cc := cX1_voices) (maxL := 1) (ret := (some .int)) (by decide) rfl ?_
  intro p e s m args below meth c s₁ B hml hv0
  obtain ⟨rfl, hP, hD, hA, hK, hX⟩ := hv0
  have hx := B.exec
  have hb := B.bytes
  have hr := B.returns
  have hts := atoms_spec (ws := wsX1_voices) B.pre
  have hown : s.vm.findClass RX1 = some m.cls := findClass_of_methodNamed B.named
  have hlocks := B.notSynchronized
  have hS : va_S A s.heap s.heap [] := va_S.rf
  have hinX1 : ∀ w ∈ u_ws RX1 TX1 2, w ∈ wsX1_voices := by decide +kernel
  have hl := lv_entry ([.ref (gX g)]) (n := 1) (Nat.le_of_ble_eq_true rfl)
  rw [lg_entry_eq]
  generalize (lg_sl ([.ref (gX g)]) ++ List.replicate (1 - (lg_sl ([.ref (gX g)])).length) Slot.unset).toArray = ls at hl ⊢
  have hl : lv_has ls 1 [(0, .ref (gX g))] := hl
  refine lv_aload_n (pc := 0) hx hb dX1_voices_0 rfl (lv_at hl 0 rfl) ?_
  refine va_get (v := .int (nI (sN σ))) (pc := 1) (D := gD g) (ci := 1) (C := RX1) (T := TX1) (N := 2) hx hb hts hinX1 hown hK hP 0 (cx0 g σ rest) rfl 1 (by decide) (hts (.fieldLink RX1 20 "ChoirNotes" "voiceCount" "I") (by decide +kernel)) (fun _ h9 => h9) rfl dX1_voices_1 ?_
  exact W.iret hx hb hr (fun t ht hW => ⟨_, rfl, rfl, ht⟩) (fun q hq => absurd hq List.not_mem_nil) dX1_voices_4
end
section
/-! WHAT IS READ of a state that was written to -/
theorem sN_uN (σ : St) (n : Nat) : sN (uN σ n) = n := rfl
theorem sC_uN (σ : St) (n : Nat) : sC (uN σ n) = sC σ := rfl
theorem sL_uN (σ : St) (n : Nat) : sL (uN σ n) = sL σ := rfl
theorem sM_uN (σ : St) (n : Nat) : sM (uN σ n) = sM σ := rfl
theorem sK_uN (σ : St) (n : Nat) : sK (uN σ n) = sK σ := rfl
theorem sP_uN (σ : St) (n : Nat) : sP (uN σ n) = sP σ := rfl
theorem sR_uN (σ : St) (n : Nat) : sR (uN σ n) = sR σ := rfl
theorem sT_uN (σ : St) (n : Nat) : sT (uN σ n) = sT σ := rfl
theorem sB_uN (σ : St) (n : Nat) : sB (uN σ n) = sB σ := rfl
theorem sN_uC (σ : St) (v n : Nat) : sN (uC σ v n) = sN σ := rfl
theorem sC_uC (σ : St) (v n : Nat) : sC (uC σ v n) = up1 (sC σ) v n := rfl
theorem sL_uC (σ : St) (v n : Nat) : sL (uC σ v n) = sL σ := rfl
theorem sM_uC (σ : St) (v n : Nat) : sM (uC σ v n) = sM σ := rfl
theorem sK_uC (σ : St) (v n : Nat) : sK (uC σ v n) = sK σ := rfl
theorem sP_uC (σ : St) (v n : Nat) : sP (uC σ v n) = sP σ := rfl
theorem sR_uC (σ : St) (v n : Nat) : sR (uC σ v n) = sR σ := rfl
theorem sT_uC (σ : St) (v n : Nat) : sT (uC σ v n) = sT σ := rfl
theorem sB_uC (σ : St) (v n : Nat) : sB (uC σ v n) = sB σ := rfl
theorem sN_uL (σ : St) (v : Nat) (x : Int32) : sN (uL σ v x) = sN σ := rfl
theorem sC_uL (σ : St) (v : Nat) (x : Int32) : sC (uL σ v x) = sC σ := rfl
theorem sL_uL (σ : St) (v : Nat) (x : Int32) : sL (uL σ v x) = up1 (sL σ) v x := rfl
theorem sM_uL (σ : St) (v : Nat) (x : Int32) : sM (uL σ v x) = sM σ := rfl
theorem sK_uL (σ : St) (v : Nat) (x : Int32) : sK (uL σ v x) = sK σ := rfl
theorem sP_uL (σ : St) (v : Nat) (x : Int32) : sP (uL σ v x) = sP σ := rfl
theorem sR_uL (σ : St) (v : Nat) (x : Int32) : sR (uL σ v x) = sR σ := rfl
theorem sT_uL (σ : St) (v : Nat) (x : Int32) : sT (uL σ v x) = sT σ := rfl
theorem sB_uL (σ : St) (v : Nat) (x : Int32) : sB (uL σ v x) = sB σ := rfl
theorem sN_uM (σ : St) (v i x : Nat) : sN (uM σ v i x) = sN σ := rfl
theorem sC_uM (σ : St) (v i x : Nat) : sC (uM σ v i x) = sC σ := rfl
theorem sL_uM (σ : St) (v i x : Nat) : sL (uM σ v i x) = sL σ := rfl
theorem sM_uM (σ : St) (v i x : Nat) : sM (uM σ v i x) = up2 (sM σ) v i x := rfl
theorem sK_uM (σ : St) (v i x : Nat) : sK (uM σ v i x) = sK σ := rfl
theorem sP_uM (σ : St) (v i x : Nat) : sP (uM σ v i x) = sP σ := rfl
theorem sR_uM (σ : St) (v i x : Nat) : sR (uM σ v i x) = sR σ := rfl
theorem sT_uM (σ : St) (v i x : Nat) : sT (uM σ v i x) = sT σ := rfl
theorem sB_uM (σ : St) (v i x : Nat) : sB (uM σ v i x) = sB σ := rfl
theorem sN_uK (σ : St) (v s x : Nat) : sN (uK σ v s x) = sN σ := rfl
theorem sC_uK (σ : St) (v s x : Nat) : sC (uK σ v s x) = sC σ := rfl
theorem sL_uK (σ : St) (v s x : Nat) : sL (uK σ v s x) = sL σ := rfl
theorem sM_uK (σ : St) (v s x : Nat) : sM (uK σ v s x) = sM σ := rfl
theorem sK_uK (σ : St) (v s x : Nat) : sK (uK σ v s x) = up2 (sK σ) v s x := rfl
theorem sP_uK (σ : St) (v s x : Nat) : sP (uK σ v s x) = sP σ := rfl
theorem sR_uK (σ : St) (v s x : Nat) : sR (uK σ v s x) = sR σ := rfl
theorem sT_uK (σ : St) (v s x : Nat) : sT (uK σ v s x) = sT σ := rfl
theorem sB_uK (σ : St) (v s x : Nat) : sB (uK σ v s x) = sB σ := rfl
theorem sN_uP (σ : St) (v s : Nat) (x : Int32) : sN (uP σ v s x) = sN σ := rfl
theorem sC_uP (σ : St) (v s : Nat) (x : Int32) : sC (uP σ v s x) = sC σ := rfl
theorem sL_uP (σ : St) (v s : Nat) (x : Int32) : sL (uP σ v s x) = sL σ := rfl
theorem sM_uP (σ : St) (v s : Nat) (x : Int32) : sM (uP σ v s x) = sM σ := rfl
theorem sK_uP (σ : St) (v s : Nat) (x : Int32) : sK (uP σ v s x) = sK σ := rfl
theorem sP_uP (σ : St) (v s : Nat) (x : Int32) : sP (uP σ v s x) = up2 (sP σ) v s x := rfl
theorem sR_uP (σ : St) (v s : Nat) (x : Int32) : sR (uP σ v s x) = sR σ := rfl
theorem sT_uP (σ : St) (v s : Nat) (x : Int32) : sT (uP σ v s x) = sT σ := rfl
theorem sB_uP (σ : St) (v s : Nat) (x : Int32) : sB (uP σ v s x) = sB σ := rfl
theorem sN_uR (σ : St) (v s : Nat) (x : Bool) : sN (uR σ v s x) = sN σ := rfl
theorem sC_uR (σ : St) (v s : Nat) (x : Bool) : sC (uR σ v s x) = sC σ := rfl
theorem sL_uR (σ : St) (v s : Nat) (x : Bool) : sL (uR σ v s x) = sL σ := rfl
theorem sM_uR (σ : St) (v s : Nat) (x : Bool) : sM (uR σ v s x) = sM σ := rfl
theorem sK_uR (σ : St) (v s : Nat) (x : Bool) : sK (uR σ v s x) = sK σ := rfl
theorem sP_uR (σ : St) (v s : Nat) (x : Bool) : sP (uR σ v s x) = sP σ := rfl
theorem sR_uR (σ : St) (v s : Nat) (x : Bool) : sR (uR σ v s x) = up2 (sR σ) v s x := rfl
theorem sT_uR (σ : St) (v s : Nat) (x : Bool) : sT (uR σ v s x) = sT σ := rfl
theorem sB_uR (σ : St) (v s : Nat) (x : Bool) : sB (uR σ v s x) = sB σ := rfl
theorem sN_uT (σ : St) (v s : Nat) (x : Int32) : sN (uT σ v s x) = sN σ := rfl
theorem sC_uT (σ : St) (v s : Nat) (x : Int32) : sC (uT σ v s x) = sC σ := rfl
theorem sL_uT (σ : St) (v s : Nat) (x : Int32) : sL (uT σ v s x) = sL σ := rfl
theorem sM_uT (σ : St) (v s : Nat) (x : Int32) : sM (uT σ v s x) = sM σ := rfl
theorem sK_uT (σ : St) (v s : Nat) (x : Int32) : sK (uT σ v s x) = sK σ := rfl
theorem sP_uT (σ : St) (v s : Nat) (x : Int32) : sP (uT σ v s x) = sP σ := rfl
theorem sR_uT (σ : St) (v s : Nat) (x : Int32) : sR (uT σ v s x) = sR σ := rfl
theorem sT_uT (σ : St) (v s : Nat) (x : Int32) : sT (uT σ v s x) = up2 (sT σ) v s x := rfl
theorem sB_uT (σ : St) (v s : Nat) (x : Int32) : sB (uT σ v s x) = sB σ := rfl
theorem sN_uB (σ : St) (b : Nat → Nat → Int32) : sN (uB σ b) = sN σ := rfl
theorem sC_uB (σ : St) (b : Nat → Nat → Int32) : sC (uB σ b) = sC σ := rfl
theorem sL_uB (σ : St) (b : Nat → Nat → Int32) : sL (uB σ b) = sL σ := rfl
theorem sM_uB (σ : St) (b : Nat → Nat → Int32) : sM (uB σ b) = sM σ := rfl
theorem sK_uB (σ : St) (b : Nat → Nat → Int32) : sK (uB σ b) = sK σ := rfl
theorem sP_uB (σ : St) (b : Nat → Nat → Int32) : sP (uB σ b) = sP σ := rfl
theorem sR_uB (σ : St) (b : Nat → Nat → Int32) : sR (uB σ b) = sR σ := rfl
theorem sT_uB (σ : St) (b : Nat → Nat → Int32) : sT (uB σ b) = sT σ := rfl
theorem sB_uB (σ : St) (b : Nat → Nat → Int32) : sB (uB σ b) = b := rfl
theorem sN_apS (σ : St) (v k : Nat) (p : Int32) (r : Bool) (t : Int32) : sN (apS σ v k p r t) = sN σ := by unfold apS; simp only [sN_uN, sN_uC, sN_uL, sN_uM, sN_uK, sN_uP, sN_uR, sN_uT, sN_uB]
theorem sC_apS (σ : St) (v k : Nat) (p : Int32) (r : Bool) (t : Int32) : sC (apS σ v k p r t) = up1 (sC σ) v (sC σ v + 1) := by unfold apS; simp only [sC_uN, sC_uC, sC_uL, sC_uM, sC_uK, sC_uP, sC_uR, sC_uT, sC_uB]
theorem sL_apS (σ : St) (v k : Nat) (p : Int32) (r : Bool) (t : Int32) : sL (apS σ v k p r t) = sL σ := by unfold apS; simp only [sL_uN, sL_uC, sL_uL, sL_uM, sL_uK, sL_uP, sL_uR, sL_uT, sL_uB]
theorem sM_apS (σ : St) (v k : Nat) (p : Int32) (r : Bool) (t : Int32) : sM (apS σ v k p r t) = sM σ := by unfold apS; simp only [sM_uN, sM_uC, sM_uL, sM_uM, sM_uK, sM_uP, sM_uR, sM_uT, sM_uB]
theorem sK_apS (σ : St) (v k : Nat) (p : Int32) (r : Bool) (t : Int32) : sK (apS σ v k p r t) = up2 (sK σ) v (sC σ v) k := by unfold apS; simp only [sK_uN, sK_uC, sK_uL, sK_uM, sK_uK, sK_uP, sK_uR, sK_uT, sK_uB]
theorem sP_apS (σ : St) (v k : Nat) (p : Int32) (r : Bool) (t : Int32) : sP (apS σ v k p r t) = up2 (sP σ) v (sC σ v) p := by unfold apS; simp only [sP_uN, sP_uC, sP_uL, sP_uM, sP_uK, sP_uP, sP_uR, sP_uT, sP_uB]
theorem sR_apS (σ : St) (v k : Nat) (p : Int32) (r : Bool) (t : Int32) : sR (apS σ v k p r t) = up2 (sR σ) v (sC σ v) r := by unfold apS; simp only [sR_uN, sR_uC, sR_uL, sR_uM, sR_uK, sR_uP, sR_uR, sR_uT, sR_uB]
theorem sT_apS (σ : St) (v k : Nat) (p : Int32) (r : Bool) (t : Int32) : sT (apS σ v k p r t) = up2 (sT σ) v (sC σ v) t := by unfold apS; simp only [sT_uN, sT_uC, sT_uL, sT_uM, sT_uK, sT_uP, sT_uR, sT_uT, sT_uB]
theorem sB_apS (σ : St) (v k : Nat) (p : Int32) (r : Bool) (t : Int32) : sB (apS σ v k p r t) = sB σ := by unfold apS; simp only [sB_uN, sB_uC, sB_uL, sB_uM, sB_uK, sB_uP, sB_uR, sB_uT, sB_uB]
theorem sN_meS (σ : St) (v a b c : Nat) : sN (meS σ v a b c) = sN σ := by unfold meS; simp only [sN_uN, sN_uC, sN_uL, sN_uM, sN_uK, sN_uP, sN_uR, sN_uT, sN_uB]
theorem sC_meS (σ : St) (v a b c : Nat) : sC (meS σ v a b c) = sC σ := by unfold meS; simp only [sC_uN, sC_uC, sC_uL, sC_uM, sC_uK, sC_uP, sC_uR, sC_uT, sC_uB]
theorem sL_meS (σ : St) (v a b c : Nat) : sL (meS σ v a b c) = sL σ := by unfold meS; simp only [sL_uN, sL_uC, sL_uL, sL_uM, sL_uK, sL_uP, sL_uR, sL_uT, sL_uB]
theorem sM_meS (σ : St) (v a b c : Nat) : sM (meS σ v a b c) = up2 (up2 (up2 (sM σ) v 0 a) v 1 b) v 2 c := by unfold meS; simp only [sM_uN, sM_uC, sM_uL, sM_uM, sM_uK, sM_uP, sM_uR, sM_uT, sM_uB]
theorem sK_meS (σ : St) (v a b c : Nat) : sK (meS σ v a b c) = sK σ := by unfold meS; simp only [sK_uN, sK_uC, sK_uL, sK_uM, sK_uK, sK_uP, sK_uR, sK_uT, sK_uB]
theorem sP_meS (σ : St) (v a b c : Nat) : sP (meS σ v a b c) = sP σ := by unfold meS; simp only [sP_uN, sP_uC, sP_uL, sP_uM, sP_uK, sP_uP, sP_uR, sP_uT, sP_uB]
theorem sR_meS (σ : St) (v a b c : Nat) : sR (meS σ v a b c) = sR σ := by unfold meS; simp only [sR_uN, sR_uC, sR_uL, sR_uM, sR_uK, sR_uP, sR_uR, sR_uT, sR_uB]
theorem sT_meS (σ : St) (v a b c : Nat) : sT (meS σ v a b c) = sT σ := by unfold meS; simp only [sT_uN, sT_uC, sT_uL, sT_uM, sT_uK, sT_uP, sT_uR, sT_uT, sT_uB]
theorem sB_meS (σ : St) (v a b c : Nat) : sB (meS σ v a b c) = sB σ := by unfold meS; simp only [sB_uN, sB_uC, sB_uL, sB_uM, sB_uK, sB_uP, sB_uR, sB_uT, sB_uB]
theorem St_eta (σ : St) : σ = mkS (sN σ) (sC σ) (sL σ) (sM σ) (sK σ) (sP σ) (sR σ) (sT σ) (sB σ) := rfl
theorem St_ext {σ τ : St} (hN : sN σ = sN τ) (hC : sC σ = sC τ) (hL : sL σ = sL τ) (hM : sM σ = sM τ) (hK : sK σ = sK τ) (hP : sP σ = sP τ) (hR : sR σ = sR τ) (hT : sT σ = sT τ) (hB : sB σ = sB τ) : σ = τ :=
  (St_eta σ).trans (by rw [hN, hC, hL, hM, hK, hP, hR, hT, hB]; exact (St_eta τ).symm)
theorem apS_uB (σ : St) (b : Nat → Nat → Int32) (v k : Nat) (p : Int32) (r : Bool) (t : Int32) : apS (uB σ b) v k p r t = uB (apS σ v k p r t) b := by
  apply St_ext <;> simp only [sN_uN, sC_uN, sL_uN, sM_uN, sK_uN, sP_uN, sR_uN, sT_uN, sB_uN, sN_uC, sC_uC, sL_uC, sM_uC, sK_uC, sP_uC, sR_uC, sT_uC, sB_uC, sN_uL, sC_uL, sL_uL, sM_uL, sK_uL, sP_uL, sR_uL, sT_uL, sB_uL, sN_uM, sC_uM, sL_uM, sM_uM, sK_uM, sP_uM, sR_uM, sT_uM, sB_uM, sN_uK, sC_uK, sL_uK, sM_uK, sK_uK, sP_uK, sR_uK, sT_uK, sB_uK, sN_uP, sC_uP, sL_uP, sM_uP, sK_uP, sP_uP, sR_uP, sT_uP, sB_uP, sN_uR, sC_uR, sL_uR, sM_uR, sK_uR, sP_uR, sR_uR, sT_uR, sB_uR, sN_uT, sC_uT, sL_uT, sM_uT, sK_uT, sP_uT, sR_uT, sT_uT, sB_uT, sN_uB, sC_uB, sL_uB, sM_uB, sK_uB, sP_uB, sR_uB, sT_uB, sB_uB, sN_apS, sC_apS, sL_apS, sM_apS, sK_apS, sP_apS, sR_apS, sT_apS, sB_apS, sN_meS, sC_meS, sL_meS, sM_meS, sK_meS, sP_meS, sR_meS, sT_meS, sB_meS]
theorem uB_uB (σ : St) (b b2 : Nat → Nat → Int32) : uB (uB σ b) b2 = uB σ b2 := by
  apply St_ext <;> simp only [sN_uN, sC_uN, sL_uN, sM_uN, sK_uN, sP_uN, sR_uN, sT_uN, sB_uN, sN_uC, sC_uC, sL_uC, sM_uC, sK_uC, sP_uC, sR_uC, sT_uC, sB_uC, sN_uL, sC_uL, sL_uL, sM_uL, sK_uL, sP_uL, sR_uL, sT_uL, sB_uL, sN_uM, sC_uM, sL_uM, sM_uM, sK_uM, sP_uM, sR_uM, sT_uM, sB_uM, sN_uK, sC_uK, sL_uK, sM_uK, sK_uK, sP_uK, sR_uK, sT_uK, sB_uK, sN_uP, sC_uP, sL_uP, sM_uP, sK_uP, sP_uP, sR_uP, sT_uP, sB_uP, sN_uR, sC_uR, sL_uR, sM_uR, sK_uR, sP_uR, sR_uR, sT_uR, sB_uR, sN_uT, sC_uT, sL_uT, sM_uT, sK_uT, sP_uT, sR_uT, sT_uT, sB_uT, sN_uB, sC_uB, sL_uB, sM_uB, sK_uB, sP_uB, sR_uB, sT_uB, sB_uB, sN_apS, sC_apS, sL_apS, sM_apS, sK_apS, sP_apS, sR_apS, sT_apS, sB_apS, sN_meS, sC_meS, sL_meS, sM_meS, sK_meS, sP_meS, sR_meS, sT_meS, sB_meS]
theorem uN_uB (σ : St) (b : Nat → Nat → Int32) (n : Nat) : uN (uB σ b) n = uB (uN σ n) b := by
  apply St_ext <;> simp only [sN_uN, sC_uN, sL_uN, sM_uN, sK_uN, sP_uN, sR_uN, sT_uN, sB_uN, sN_uC, sC_uC, sL_uC, sM_uC, sK_uC, sP_uC, sR_uC, sT_uC, sB_uC, sN_uL, sC_uL, sL_uL, sM_uL, sK_uL, sP_uL, sR_uL, sT_uL, sB_uL, sN_uM, sC_uM, sL_uM, sM_uM, sK_uM, sP_uM, sR_uM, sT_uM, sB_uM, sN_uK, sC_uK, sL_uK, sM_uK, sK_uK, sP_uK, sR_uK, sT_uK, sB_uK, sN_uP, sC_uP, sL_uP, sM_uP, sK_uP, sP_uP, sR_uP, sT_uP, sB_uP, sN_uR, sC_uR, sL_uR, sM_uR, sK_uR, sP_uR, sR_uR, sT_uR, sB_uR, sN_uT, sC_uT, sL_uT, sM_uT, sK_uT, sP_uT, sR_uT, sT_uT, sB_uT, sN_uB, sC_uB, sL_uB, sM_uB, sK_uB, sP_uB, sR_uB, sT_uB, sB_uB, sN_apS, sC_apS, sL_apS, sM_apS, sK_apS, sP_apS, sR_apS, sT_apS, sB_apS, sN_meS, sC_meS, sL_meS, sM_meS, sK_meS, sP_meS, sR_meS, sT_meS, sB_meS]
end
section
/-! WHAT IS KEPT by each write -/
theorem inv_B {σ : St} {v : Nat} {u : Nat → Nat → Int32} (h : tfP σ v u) (hI : ∀ w, w ≠ v → ∀ s, s ≤ sC σ w → sB σ w s = nI (bg σ w s)) : ∀ w s, s ≤ sC σ w → u w s = nI (bg σ w s) := by
  intro w s hs
  by_cases q : w = v
  · subst q; exact h.2 s hs
  · rw [h.1 w q]; exact hI w q s hs
/-- a voice that isn't written to begins as it did -/
theorem bg_row {σ σ' : St} {w : Nat} (hM : sM σ' w = sM σ w) (hK : sK σ' w = sK σ w) (hR : sR σ' w = sR σ w) (n : Nat) : bg σ' w n = bg σ w n :=
  bg_cong (fun q _ => by unfold lg; rw [hM, hK, hR])
theorem inM_nat {a b c : Int32} (h : inM a b c = true) : ∃ i j k : Nat, a = nI i ∧ b = nI j ∧ c = nI k ∧ (i = 2 ∨ i = 3) ∧ (j = 2 ∨ j = 3) ∧ (k = 2 ∨ k = 3) := by
  unfold inM at h
  simp only [Bool.and_eq_true] at h
  obtain ⟨i, h1, h2, h3⟩ := inr_nat (a := 2) (b := 3) rfl rfl (by decide) (by decide) h.1
  obtain ⟨j, h4, h5, h6⟩ := inr_nat (a := 2) (b := 3) rfl rfl (by decide) (by decide) h.2.1
  obtain ⟨k, h7, h8, h9⟩ := inr_nat (a := 2) (b := 3) rfl rfl (by decide) (by decide) h.2.2
  exact ⟨i, j, k, h3, h6, h9, by omega, by omega, by omega⟩
theorem inv_me {σ : St} (hI : Inv σ) {v a b c : Nat} (ha : a = 2 ∨ a = 3) (hb : b = 2 ∨ b = 3) (hc : c = 2 ∨ c = 3) {u : Nat → Nat → Int32} (h : tfP (meS σ v a b c) v u) : Inv (uB (meS σ v a b c) u) := by
  have hB := inv_B h (fun x hx s hs => by
    rw [bg_row (σ' := meS σ v a b c) (σ := σ) (w := x) (by rw [sM_meS, up2_row _ hx, up2_row _ hx, up2_row _ hx]) (by rw [sK_meS]) (by rw [sR_meS]), sB_meS]
    rw [sC_meS] at hs
    exact hI.B hs)
  obtain ⟨i1, i2, i3, i4, i5, i6, i7⟩ := hI
  unfold Inv
  simp only [bg_uB, sN_uN, sC_uN, sL_uN, sM_uN, sK_uN, sP_uN, sR_uN, sT_uN, sB_uN, sN_uC, sC_uC, sL_uC, sM_uC, sK_uC, sP_uC, sR_uC, sT_uC, sB_uC, sN_uL, sC_uL, sL_uL, sM_uL, sK_uL, sP_uL, sR_uL, sT_uL, sB_uL, sN_uM, sC_uM, sL_uM, sM_uM, sK_uM, sP_uM, sR_uM, sT_uM, sB_uM, sN_uK, sC_uK, sL_uK, sM_uK, sK_uK, sP_uK, sR_uK, sT_uK, sB_uK, sN_uP, sC_uP, sL_uP, sM_uP, sK_uP, sP_uP, sR_uP, sT_uP, sB_uP, sN_uR, sC_uR, sL_uR, sM_uR, sK_uR, sP_uR, sR_uR, sT_uR, sB_uR, sN_uT, sC_uT, sL_uT, sM_uT, sK_uT, sP_uT, sR_uT, sT_uT, sB_uT, sN_uB, sC_uB, sL_uB, sM_uB, sK_uB, sP_uB, sR_uB, sT_uB, sB_uB, sN_apS, sC_apS, sL_apS, sM_apS, sK_apS, sP_apS, sR_apS, sT_apS, sB_apS, sN_meS, sC_meS, sL_meS, sM_meS, sK_meS, sP_meS, sR_meS, sT_meS, sB_meS] at hB ⊢
  refine ⟨i1, i2, i3, ?_, i5, i6, hB⟩
  intro w hw i hi
  unfold up2
  split
  · exact hc
  · split
    · exact hb
    · split
      · exact ha
      · exact i4 w hw i hi
theorem inv_uL {σ : St} (hI : Inv σ) {v : Nat} (hv : v < sN σ) (x : Int32) : Inv (uL σ v x) := by
  obtain ⟨i1, i2, i3, i4, i5, i6, i7⟩ := hI
  have hB : ∀ w s, bg (uL σ v x) w s = bg σ w s := fun w s => bg_row (by rw [sM_uL]) (by rw [sK_uL]) (by rw [sR_uL]) s
  unfold Inv
  simp only [hB, sN_uN, sC_uN, sL_uN, sM_uN, sK_uN, sP_uN, sR_uN, sT_uN, sB_uN, sN_uC, sC_uC, sL_uC, sM_uC, sK_uC, sP_uC, sR_uC, sT_uC, sB_uC, sN_uL, sC_uL, sL_uL, sM_uL, sK_uL, sP_uL, sR_uL, sT_uL, sB_uL, sN_uM, sC_uM, sL_uM, sM_uM, sK_uM, sP_uM, sR_uM, sT_uM, sB_uM, sN_uK, sC_uK, sL_uK, sM_uK, sK_uK, sP_uK, sR_uK, sT_uK, sB_uK, sN_uP, sC_uP, sL_uP, sM_uP, sK_uP, sP_uP, sR_uP, sT_uP, sB_uP, sN_uR, sC_uR, sL_uR, sM_uR, sK_uR, sP_uR, sR_uR, sT_uR, sB_uR, sN_uT, sC_uT, sL_uT, sM_uT, sK_uT, sP_uT, sR_uT, sT_uT, sB_uT, sN_uB, sC_uB, sL_uB, sM_uB, sK_uB, sP_uB, sR_uB, sT_uB, sB_uB, sN_apS, sC_apS, sL_apS, sM_apS, sK_apS, sP_apS, sR_apS, sT_apS, sB_apS, sN_meS, sC_meS, sL_meS, sM_meS, sK_meS, sP_meS, sR_meS, sT_meS, sB_meS]
  refine ⟨i1, i2, ?_, i4, i5, i6, i7⟩
  intro w hw
  exact ⟨(up1_n _ (by omega) _).trans (i3 w hw).1, (i3 w hw).2⟩
theorem inv_dl {σ : St} (hI : Inv σ) (v d : Nat) : Inv (uC σ v (sC σ v - d)) := by
  obtain ⟨i1, i2, i3, i4, i5, i6, i7⟩ := hI
  have hc : ∀ w, up1 (sC σ) v (sC σ v - d) w ≤ sC σ w := by
    intro w
    unfold up1
    split
    · rename_i e; rw [e]; omega
    · exact Nat.le_refl _
  have hB : ∀ w s, bg (uC σ v (sC σ v - d)) w s = bg σ w s := fun w s => bg_row (by rw [sM_uC]) (by rw [sK_uC]) (by rw [sR_uC]) s
  unfold Inv
  simp only [hB, sN_uN, sC_uN, sL_uN, sM_uN, sK_uN, sP_uN, sR_uN, sT_uN, sB_uN, sN_uC, sC_uC, sL_uC, sM_uC, sK_uC, sP_uC, sR_uC, sT_uC, sB_uC, sN_uL, sC_uL, sL_uL, sM_uL, sK_uL, sP_uL, sR_uL, sT_uL, sB_uL, sN_uM, sC_uM, sL_uM, sM_uM, sK_uM, sP_uM, sR_uM, sT_uM, sB_uM, sN_uK, sC_uK, sL_uK, sM_uK, sK_uK, sP_uK, sR_uK, sT_uK, sB_uK, sN_uP, sC_uP, sL_uP, sM_uP, sK_uP, sP_uP, sR_uP, sT_uP, sB_uP, sN_uR, sC_uR, sL_uR, sM_uR, sK_uR, sP_uR, sR_uR, sT_uR, sB_uR, sN_uT, sC_uT, sL_uT, sM_uT, sK_uT, sP_uT, sR_uT, sT_uT, sB_uT, sN_uB, sC_uB, sL_uB, sM_uB, sK_uB, sP_uB, sR_uB, sT_uB, sB_uB, sN_apS, sC_apS, sL_apS, sM_apS, sK_apS, sP_apS, sR_apS, sT_apS, sB_apS, sN_meS, sC_meS, sL_meS, sM_meS, sK_meS, sP_meS, sR_meS, sT_meS, sB_meS]
  refine ⟨i1, fun w => Nat.le_trans (hc w) (i2 w), ?_, i4, i5, i6, fun w s hs => i7 w s (Nat.le_trans hs (hc w))⟩
  intro w hw
  have := hc w
  have h2 := (i3 w hw).2
  exact ⟨(i3 w hw).1, by omega⟩
theorem inv_tc {σ : St} (hI : Inv σ) {v s0 : Nat} {r : Bool} {u : Nat → Nat → Int32} (h : tfP (uR σ v s0 r) v u) : Inv (uB (uR σ v s0 r) u) := by
  have hB := inv_B h (fun x hx s hs => by
    rw [bg_row (σ' := uR σ v s0 r) (σ := σ) (w := x) (by rw [sM_uR]) (by rw [sK_uR]) (by rw [sR_uR, up2_row _ hx]), sB_uR]
    rw [sC_uR] at hs
    exact hI.B hs)
  obtain ⟨i1, i2, i3, i4, i5, i6, i7⟩ := hI
  unfold Inv
  simp only [bg_uB, sN_uN, sC_uN, sL_uN, sM_uN, sK_uN, sP_uN, sR_uN, sT_uN, sB_uN, sN_uC, sC_uC, sL_uC, sM_uC, sK_uC, sP_uC, sR_uC, sT_uC, sB_uC, sN_uL, sC_uL, sL_uL, sM_uL, sK_uL, sP_uL, sR_uL, sT_uL, sB_uL, sN_uM, sC_uM, sL_uM, sM_uM, sK_uM, sP_uM, sR_uM, sT_uM, sB_uM, sN_uK, sC_uK, sL_uK, sM_uK, sK_uK, sP_uK, sR_uK, sT_uK, sB_uK, sN_uP, sC_uP, sL_uP, sM_uP, sK_uP, sP_uP, sR_uP, sT_uP, sB_uP, sN_uR, sC_uR, sL_uR, sM_uR, sK_uR, sP_uR, sR_uR, sT_uR, sB_uR, sN_uT, sC_uT, sL_uT, sM_uT, sK_uT, sP_uT, sR_uT, sT_uT, sB_uT, sN_uB, sC_uB, sL_uB, sM_uB, sK_uB, sP_uB, sR_uB, sT_uB, sB_uB, sN_apS, sC_apS, sL_apS, sM_apS, sK_apS, sP_apS, sR_apS, sT_apS, sB_apS, sN_meS, sC_meS, sL_meS, sM_meS, sK_meS, sP_meS, sR_meS, sT_meS, sB_meS] at hB ⊢
  exact ⟨i1, i2, i3, i4, i5, i6, hB⟩
/-- a rank that a sign may have -/
def rkOk (σ : St) (v : Nat) (t : Int32) : Prop := t = -1 ∨ ∃ j : Nat, j ≤ sC σ v ∧ j ≤ 2 ∧ t = nI j
theorem inv_ap {σ : St} (hI : Inv σ) {v k : Nat} {p : Int32} {r : Bool} {t : Int32} {u : Nat → Nat → Int32} (hv : v < sN σ) (hk : k ≤ 3) (hc : sC σ v < 24) (ht : rkOk σ v t) (h : tfP (apS σ v k p r t) v u) : Inv (uB (apS σ v k p r t) u) := by
  have hB := inv_B h (fun x hx s hs => by
    rw [bg_row (σ' := apS σ v k p r t) (σ := σ) (w := x) (by rw [sM_apS]) (by rw [sK_apS, up2_row _ hx]) (by rw [sR_apS, up2_row _ hx]), sB_apS]
    rw [sC_apS, up1_n _ hx] at hs
    exact hI.B hs)
  obtain ⟨i1, i2, i3, i4, i5, i6, i7⟩ := hI
  have hC : up1 (sC σ) v (sC σ v + 1) v = sC σ v + 1 := up1_s _ _ _
  have hCn : ∀ w, w ≠ v → up1 (sC σ) v (sC σ v + 1) w = sC σ w := fun w hw => up1_n _ hw _
  unfold Inv
  simp only [bg_uB, sN_uN, sC_uN, sL_uN, sM_uN, sK_uN, sP_uN, sR_uN, sT_uN, sB_uN, sN_uC, sC_uC, sL_uC, sM_uC, sK_uC, sP_uC, sR_uC, sT_uC, sB_uC, sN_uL, sC_uL, sL_uL, sM_uL, sK_uL, sP_uL, sR_uL, sT_uL, sB_uL, sN_uM, sC_uM, sL_uM, sM_uM, sK_uM, sP_uM, sR_uM, sT_uM, sB_uM, sN_uK, sC_uK, sL_uK, sM_uK, sK_uK, sP_uK, sR_uK, sT_uK, sB_uK, sN_uP, sC_uP, sL_uP, sM_uP, sK_uP, sP_uP, sR_uP, sT_uP, sB_uP, sN_uR, sC_uR, sL_uR, sM_uR, sK_uR, sP_uR, sR_uR, sT_uR, sB_uR, sN_uT, sC_uT, sL_uT, sM_uT, sK_uT, sP_uT, sR_uT, sT_uT, sB_uT, sN_uB, sC_uB, sL_uB, sM_uB, sK_uB, sP_uB, sR_uB, sT_uB, sB_uB, sN_apS, sC_apS, sL_apS, sM_apS, sK_apS, sP_apS, sR_apS, sT_apS, sB_apS, sN_meS, sC_meS, sL_meS, sM_meS, sK_meS, sP_meS, sR_meS, sT_meS, sB_meS] at hB ⊢
  refine ⟨i1, ?_, ?_, i4, ?_, ?_, hB⟩
  · intro w
    by_cases q : w = v
    · subst q; omega
    · rw [hCn w q]; exact i2 w
  · intro w hw
    exact ⟨(i3 w hw).1, (hCn w (by omega)).trans (i3 w hw).2⟩
  · intro w s
    unfold up2
    split
    · exact hk
    · exact i5 w s
  · intro w s
    by_cases q : w = v ∧ s = sC σ v
    · obtain ⟨rfl, rfl⟩ := q
      rw [up2_s]; exact ht
    · rw [up2_n _ q]; exact i6 w s
theorem inv_av {σ : St} (hI : Inv σ) {a b c : Nat} (hn : sN σ < 4) (ha : a = 2 ∨ a = 3) (hb : b = 2 ∨ b = 3) (hc : c = 2 ∨ c = 3) {u : Nat → Nat → Int32} (h : tfP (meS σ (sN σ) a b c) (sN σ) u) : Inv (uB (uN (meS σ (sN σ) a b c) (sN σ + 1)) u) := by
  have h1 := inv_me hI ha hb hc h
  have hB : ∀ w s, bg (uN (meS σ (sN σ) a b c) (sN σ + 1)) w s = bg (meS σ (sN σ) a b c) w s := fun w s => bg_row (by rw [sM_uN]) (by rw [sK_uN]) (by rw [sR_uN]) s
  obtain ⟨i1, i2, i3, i4, i5, i6, i7⟩ := h1
  unfold Inv
  simp only [bg_uB, hB, sN_uN, sC_uN, sL_uN, sM_uN, sK_uN, sP_uN, sR_uN, sT_uN, sB_uN, sN_uC, sC_uC, sL_uC, sM_uC, sK_uC, sP_uC, sR_uC, sT_uC, sB_uC, sN_uL, sC_uL, sL_uL, sM_uL, sK_uL, sP_uL, sR_uL, sT_uL, sB_uL, sN_uM, sC_uM, sL_uM, sM_uM, sK_uM, sP_uM, sR_uM, sT_uM, sB_uM, sN_uK, sC_uK, sL_uK, sM_uK, sK_uK, sP_uK, sR_uK, sT_uK, sB_uK, sN_uP, sC_uP, sL_uP, sM_uP, sK_uP, sP_uP, sR_uP, sT_uP, sB_uP, sN_uR, sC_uR, sL_uR, sM_uR, sK_uR, sP_uR, sR_uR, sT_uR, sB_uR, sN_uT, sC_uT, sL_uT, sM_uT, sK_uT, sP_uT, sR_uT, sT_uT, sB_uT, sN_uB, sC_uB, sL_uB, sM_uB, sK_uB, sP_uB, sR_uB, sT_uB, sB_uB, sN_apS, sC_apS, sL_apS, sM_apS, sK_apS, sP_apS, sR_apS, sT_apS, sB_apS, sN_meS, sC_meS, sL_meS, sM_meS, sK_meS, sP_meS, sR_meS, sT_meS, sB_meS] at i1 i2 i3 i4 i5 i6 i7 ⊢
  refine ⟨hn, i2, fun w hw => i3 w (by omega), ?_, i5, i6, i7⟩
  intro w hw i hi
  by_cases q : w = sN σ
  · subst q
    rcases (show i = 0 ∨ i = 1 ∨ i = 2 by omega) with rfl | rfl | rfl
    · rw [up2_n _ (by omega), up2_n _ (by omega), up2_s]; exact ha
    · rw [up2_n _ (by omega), up2_s]; exact hb
    · rw [up2_s]; exact hc
  · exact i4 w (by omega) i hi
/-- what append needs, of a state that append left -/
theorem ivA_ap {σ : St} {v : Nat} (hI : IvA σ v) {k : Nat} {p : Int32} {r : Bool} {t : Int32} {u : Nat → Nat → Int32} (hk : k ≤ 3) (h : tfP (apS σ v k p r t) v u) : IvA (uB (apS σ v k p r t) u) v := by
  have h2 := h.2
  unfold IvA
  simp only [bg_uB, sN_uN, sC_uN, sL_uN, sM_uN, sK_uN, sP_uN, sR_uN, sT_uN, sB_uN, sN_uC, sC_uC, sL_uC, sM_uC, sK_uC, sP_uC, sR_uC, sT_uC, sB_uC, sN_uL, sC_uL, sL_uL, sM_uL, sK_uL, sP_uL, sR_uL, sT_uL, sB_uL, sN_uM, sC_uM, sL_uM, sM_uM, sK_uM, sP_uM, sR_uM, sT_uM, sB_uM, sN_uK, sC_uK, sL_uK, sM_uK, sK_uK, sP_uK, sR_uK, sT_uK, sB_uK, sN_uP, sC_uP, sL_uP, sM_uP, sK_uP, sP_uP, sR_uP, sT_uP, sB_uP, sN_uR, sC_uR, sL_uR, sM_uR, sK_uR, sP_uR, sR_uR, sT_uR, sB_uR, sN_uT, sC_uT, sL_uT, sM_uT, sK_uT, sP_uT, sR_uT, sT_uT, sB_uT, sN_uB, sC_uB, sL_uB, sM_uB, sK_uB, sP_uB, sR_uB, sT_uB, sB_uB, sN_apS, sC_apS, sL_apS, sM_apS, sK_apS, sP_apS, sR_apS, sT_apS, sB_apS, sN_meS, sC_meS, sL_meS, sM_meS, sK_meS, sP_meS, sR_meS, sT_meS, sB_meS] at h2 ⊢
  refine ⟨fun s => ?_, h2⟩
  unfold up2
  split
  · exact hk
  · exact hI.1 s
end
