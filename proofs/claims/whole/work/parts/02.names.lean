
/-! ===== BEGIN printed: names, fields, word lists, decode rows ===== -/
def RX0 : String := "ChoirNotes$Voice"
def TX0 : u_T := fun k => match k with
  | 0 => ("ChoirNotes$Voice", "brevesInLonga", "I", false)
  | 1 => ("ChoirNotes$Voice", "semibrevesInBreve", "I", false)
  | 2 => ("ChoirNotes$Voice", "minimsInSemibreve", "I", false)
  | 3 => ("ChoirNotes$Voice", "clef", "I", false)
  | 4 => ("ChoirNotes$Voice", "count", "I", false)
  | 5 => ("ChoirNotes$Voice", "kinds", "[I", true)
  | 6 => ("ChoirNotes$Voice", "places", "[I", true)
  | 7 => ("ChoirNotes$Voice", "colours", "[Z", true)
  | 8 => ("ChoirNotes$Voice", "ranks", "[I", true)
  | _ => ("ChoirNotes$Voice", "begins", "[I", true)
def tyX0 : Nat → FieldType := fun k => match k with
  | 0 => .int
  | 1 => .int
  | 2 => .int
  | 3 => .int
  | 4 => .int
  | 5 => .array .int
  | 6 => .array .int
  | 7 => .array .boolean
  | 8 => .array .int
  | _ => .array .int
abbrev wsX00 : List Cond := u_ws RX0 TX0 10
theorem nmX0 : ∀ a, a < 10 → ∀ b, b < 10 → a ≠ b → (TX0 a).2.1 ≠ (TX0 b).2.1 := by decide +kernel
theorem tyX0_ok : ∀ k, k < 10 → parseFieldDescriptor (TX0 k).2.2.1 = some (tyX0 k) := by decide +kernel
abbrev cX0_init : ByteArray := prog_2_method_1_code
def yX0_init : MethodName := ⟨RX0, "<init>", "()V"⟩
abbrev cX0_measure : ByteArray := prog_2_method_2_code
def yX0_measure : MethodName := ⟨RX0, "measure", "(III)V"⟩
abbrev cX0_append : ByteArray := prog_2_method_3_code
def yX0_append : MethodName := ⟨RX0, "append", "(IIZI)I"⟩
abbrev cX0_dropLast : ByteArray := prog_2_method_4_code
def yX0_dropLast : MethodName := ⟨RX0, "dropLast", "()I"⟩
abbrev cX0_turnColour : ByteArray := prog_2_method_5_code
def yX0_turnColour : MethodName := ⟨RX0, "turnColour", "(I)Z"⟩
abbrev cX0_timeFrom : ByteArray := prog_2_method_6_code
def yX0_timeFrom : MethodName := ⟨RX0, "timeFrom", "(I)V"⟩
abbrev cX0_minimsByKind : ByteArray := prog_2_method_7_code
def yX0_minimsByKind : MethodName := ⟨RX0, "minimsByKind", "(IZ)I"⟩
abbrev cX0_minimsOf : ByteArray := prog_2_method_8_code
def yX0_minimsOf : MethodName := ⟨RX0, "minimsOf", "(I)I"⟩
abbrev cX0_end : ByteArray := prog_2_method_9_code
def yX0_end : MethodName := ⟨RX0, "end", "()I"⟩
abbrev cX0_signLastingAt : ByteArray := prog_2_method_10_code
def yX0_signLastingAt : MethodName := ⟨RX0, "signLastingAt", "(I)I"⟩
abbrev cX0_isRest : ByteArray := prog_2_method_11_code
def yX0_isRest : MethodName := ⟨RX0, "isRest", "(I)Z"⟩
abbrev cX0_countNotes : ByteArray := prog_2_method_12_code
def yX0_countNotes : MethodName := ⟨RX0, "countNotes", "()I"⟩
abbrev cX0_countLigatures : ByteArray := prog_2_method_13_code
def yX0_countLigatures : MethodName := ⟨RX0, "countLigatures", "()I"⟩
abbrev cX0_wouldFit : ByteArray := prog_2_method_14_code
def yX0_wouldFit : MethodName := ⟨RX0, "wouldFit", "(I)Z"⟩
abbrev cX0_countFittingClefs : ByteArray := prog_2_method_15_code
def yX0_countFittingClefs : MethodName := ⟨RX0, "countFittingClefs", "()I"⟩
def RX1 : String := "ChoirNotes"
def TX1 : u_T := fun k => match k with
  | 0 => ("ChoirNotes", "book", "[LChoirNotes$Voice;", true)
  | _ => ("ChoirNotes", "voiceCount", "I", false)
def tyX1 : Nat → FieldType := fun k => match k with
  | 0 => .array (.object "ChoirNotes$Voice")
  | _ => .int
abbrev wsX10 : List Cond := u_ws RX1 TX1 2
theorem nmX1 : ∀ a, a < 2 → ∀ b, b < 2 → a ≠ b → (TX1 a).2.1 ≠ (TX1 b).2.1 := by decide +kernel
theorem tyX1_ok : ∀ k, k < 2 → parseFieldDescriptor (TX1 k).2.2.1 = some (tyX1 k) := by decide +kernel
abbrev cX1_init : ByteArray := prog_1_method_1_code
def yX1_init : MethodName := ⟨RX1, "<init>", "()V"⟩
abbrev cX1_addVoice : ByteArray := prog_1_method_2_code
def yX1_addVoice : MethodName := ⟨RX1, "addVoice", "(III)I"⟩
abbrev cX1_addNote : ByteArray := prog_1_method_3_code
def yX1_addNote : MethodName := ⟨RX1, "addNote", "(IIIZ)I"⟩
abbrev cX1_addRest : ByteArray := prog_1_method_4_code
def yX1_addRest : MethodName := ⟨RX1, "addRest", "(II)I"⟩
abbrev cX1_addLigature : ByteArray := prog_1_method_5_code
def yX1_addLigature : MethodName := ⟨RX1, "addLigature", "(IIIIZ)I"⟩
abbrev cX1_erase : ByteArray := prog_1_method_6_code
def yX1_erase : MethodName := ⟨RX1, "erase", "(I)I"⟩
abbrev cX1_recolour : ByteArray := prog_1_method_7_code
def yX1_recolour : MethodName := ⟨RX1, "recolour", "(II)Z"⟩
abbrev cX1_setClef : ByteArray := prog_1_method_8_code
def yX1_setClef : MethodName := ⟨RX1, "setClef", "(II)I"⟩
abbrev cX1_setMensuration : ByteArray := prog_1_method_9_code
def yX1_setMensuration : MethodName := ⟨RX1, "setMensuration", "(IIII)I"⟩
abbrev cX1_voices : ByteArray := prog_1_method_10_code
def yX1_voices : MethodName := ⟨RX1, "voices", "()I"⟩
abbrev cX1_signs : ByteArray := prog_1_method_11_code
def yX1_signs : MethodName := ⟨RX1, "signs", "(I)I"⟩
abbrev cX1_notes : ByteArray := prog_1_method_12_code
def yX1_notes : MethodName := ⟨RX1, "notes", "(I)I"⟩
abbrev cX1_ligatures : ByteArray := prog_1_method_13_code
def yX1_ligatures : MethodName := ⟨RX1, "ligatures", "(I)I"⟩
abbrev cX1_kindOf : ByteArray := prog_1_method_14_code
def yX1_kindOf : MethodName := ⟨RX1, "kindOf", "(II)I"⟩
abbrev cX1_placeOf : ByteArray := prog_1_method_15_code
def yX1_placeOf : MethodName := ⟨RX1, "placeOf", "(II)I"⟩
abbrev cX1_isColoured : ByteArray := prog_1_method_16_code
def yX1_isColoured : MethodName := ⟨RX1, "isColoured", "(II)Z"⟩
abbrev cX1_placeInLigature : ByteArray := prog_1_method_17_code
def yX1_placeInLigature : MethodName := ⟨RX1, "placeInLigature", "(II)I"⟩
abbrev cX1_lengthOf : ByteArray := prog_1_method_18_code
def yX1_lengthOf : MethodName := ⟨RX1, "lengthOf", "(II)I"⟩
abbrev cX1_beginOf : ByteArray := prog_1_method_19_code
def yX1_beginOf : MethodName := ⟨RX1, "beginOf", "(II)I"⟩
abbrev cX1_length : ByteArray := prog_1_method_20_code
def yX1_length : MethodName := ⟨RX1, "length", "(I)I"⟩
abbrev cX1_longest : ByteArray := prog_1_method_21_code
def yX1_longest : MethodName := ⟨RX1, "longest", "()I"⟩
abbrev cX1_signAt : ByteArray := prog_1_method_22_code
def yX1_signAt : MethodName := ⟨RX1, "signAt", "(II)I"⟩
abbrev cX1_clefOf : ByteArray := prog_1_method_23_code
def yX1_clefOf : MethodName := ⟨RX1, "clefOf", "(I)I"⟩
abbrev cX1_pitchOf : ByteArray := prog_1_method_24_code
def yX1_pitchOf : MethodName := ⟨RX1, "pitchOf", "(II)I"⟩
abbrev cX1_fits : ByteArray := prog_1_method_25_code
def yX1_fits : MethodName := ⟨RX1, "fits", "(II)Z"⟩
abbrev cX1_clefsThatFit : ByteArray := prog_1_method_26_code
def yX1_clefsThatFit : MethodName := ⟨RX1, "clefsThatFit", "(I)I"⟩
abbrev cX1_clashes : ByteArray := prog_1_method_27_code
def yX1_clashes : MethodName := ⟨RX1, "clashes", "(II)I"⟩
abbrev cX1_firstClash : ByteArray := prog_1_method_28_code
def yX1_firstClash : MethodName := ⟨RX1, "firstClash", "(II)I"⟩
abbrev cX1_clashesWith : ByteArray := prog_1_method_29_code
def yX1_clashesWith : MethodName := ⟨RX1, "clashesWith", "(II)I"⟩
abbrev cX1_bestClef : ByteArray := prog_1_method_30_code
def yX1_bestClef : MethodName := ⟨RX1, "bestClef", "(I)I"⟩
abbrev cX1_canonClashes : ByteArray := prog_1_method_31_code
def yX1_canonClashes : MethodName := ⟨RX1, "canonClashes", "(III)I"⟩
abbrev cX1_bestDelay : ByteArray := prog_1_method_32_code
def yX1_bestDelay : MethodName := ⟨RX1, "bestDelay", "(II)I"⟩
abbrev cX1_meanLength : ByteArray := prog_1_method_33_code
def yX1_meanLength : MethodName := ⟨RX1, "meanLength", "()D"⟩
abbrev cX1_digest : ByteArray := prog_1_method_34_code
def yX1_digest : MethodName := ⟨RX1, "digest", "()J"⟩
abbrev cX1_knownVoice : ByteArray := prog_1_method_35_code
def yX1_knownVoice : MethodName := ⟨RX1, "knownVoice", "(I)LChoirNotes$Voice;"⟩
abbrev cX1_voiceWithSign : ByteArray := prog_1_method_36_code
def yX1_voiceWithSign : MethodName := ⟨RX1, "voiceWithSign", "(II)LChoirNotes$Voice;"⟩
abbrev cX1_checkRange : ByteArray := prog_1_method_37_code
def yX1_checkRange : MethodName := ⟨RX1, "checkRange", "(III)V"⟩
abbrev cX1_checkMensuration : ByteArray := prog_1_method_38_code
def yX1_checkMensuration : MethodName := ⟨RX1, "checkMensuration", "(III)V"⟩
abbrev cX1_checkLigature : ByteArray := prog_1_method_39_code
def yX1_checkLigature : MethodName := ⟨RX1, "checkLigature", "(III)V"⟩
abbrev cX1_checkRoom : ByteArray := prog_1_method_40_code
def yX1_checkRoom : MethodName := ⟨RX1, "checkRoom", "(LChoirNotes$Voice;I)V"⟩
abbrev cX1_checkHasClef : ByteArray := prog_1_method_41_code
def yX1_checkHasClef : MethodName := ⟨RX1, "checkHasClef", "(LChoirNotes$Voice;)V"⟩
abbrev cX1_firstKind : ByteArray := prog_1_method_42_code
def yX1_firstKind : MethodName := ⟨RX1, "firstKind", "(IIZ)I"⟩
abbrev cX1_secondKind : ByteArray := prog_1_method_43_code
def yX1_secondKind : MethodName := ⟨RX1, "secondKind", "(IIZZ)I"⟩
abbrev cX1_lastKind : ByteArray := prog_1_method_44_code
def yX1_lastKind : MethodName := ⟨RX1, "lastKind", "(II)I"⟩
abbrev cX1_clashingMinims : ByteArray := prog_1_method_45_code
def yX1_clashingMinims : MethodName := ⟨RX1, "clashingMinims", "(LChoirNotes$Voice;LChoirNotes$Voice;II)I"⟩
abbrev cX1_firstClashingMinim : ByteArray := prog_1_method_46_code
def yX1_firstClashingMinim : MethodName := ⟨RX1, "firstClashingMinim", "(LChoirNotes$Voice;LChoirNotes$Voice;I)I"⟩
abbrev cX1_signsClash : ByteArray := prog_1_method_47_code
def yX1_signsClash : MethodName := ⟨RX1, "signsClash", "(LChoirNotes$Voice;ILChoirNotes$Voice;II)Z"⟩
abbrev cX1_clashesIfClef : ByteArray := prog_1_method_48_code
def yX1_clashesIfClef : MethodName := ⟨RX1, "clashesIfClef", "(LChoirNotes$Voice;I)I"⟩
abbrev cX1_clefWithFewestClashes : ByteArray := prog_1_method_49_code
def yX1_clefWithFewestClashes : MethodName := ⟨RX1, "clefWithFewestClashes", "(LChoirNotes$Voice;)I"⟩
abbrev cX1_delayWithFewestClashes : ByteArray := prog_1_method_50_code
def yX1_delayWithFewestClashes : MethodName := ⟨RX1, "delayWithFewestClashes", "(LChoirNotes$Voice;I)I"⟩
abbrev cX1_mix : ByteArray := prog_1_method_51_code
def yX1_mix : MethodName := ⟨RX1, "mix", "(JI)J"⟩
abbrev cX1_mixVoice : ByteArray := prog_1_method_52_code
def yX1_mixVoice : MethodName := ⟨RX1, "mixVoice", "(JLChoirNotes$Voice;)J"⟩
abbrev cX1_mixSign : ByteArray := prog_1_method_53_code
def yX1_mixSign : MethodName := ⟨RX1, "mixSign", "(JLChoirNotes$Voice;I)J"⟩
def RX2 : String := "ChoirNotesModel"
def TX2 : u_T := fun k => match k with
  | 0 => ("ChoirNotesModel", "thrown", "I", false)
  | 1 => ("ChoirNotesModel", "voices", "I", false)
  | 2 => ("ChoirNotesModel", "many", "[I", true)
  | 3 => ("ChoirNotesModel", "clef", "[I", true)
  | 4 => ("ChoirNotesModel", "measure", "[I", true)
  | 5 => ("ChoirNotesModel", "kind", "[I", true)
  | 6 => ("ChoirNotesModel", "place", "[I", true)
  | 7 => ("ChoirNotesModel", "isRed", "[Z", true)
  | 8 => ("ChoirNotesModel", "tied", "[I", true)
  | 9 => ("ChoirNotesModel", "mine", "[I", true)
  | _ => ("ChoirNotesModel", "theirs", "[I", true)
def tyX2 : Nat → FieldType := fun k => match k with
  | 0 => .int
  | 1 => .int
  | 2 => .array .int
  | 3 => .array .int
  | 4 => .array .int
  | 5 => .array .int
  | 6 => .array .int
  | 7 => .array .boolean
  | 8 => .array .int
  | 9 => .array .int
  | _ => .array .int
abbrev wsX20 : List Cond := u_ws RX2 TX2 11
theorem nmX2 : ∀ a, a < 11 → ∀ b, b < 11 → a ≠ b → (TX2 a).2.1 ≠ (TX2 b).2.1 := by decide +kernel
theorem tyX2_ok : ∀ k, k < 11 → parseFieldDescriptor (TX2 k).2.2.1 = some (tyX2 k) := by decide +kernel
abbrev cX2_init : ByteArray := prog_4_method_1_code
def yX2_init : MethodName := ⟨RX2, "<init>", "()V"⟩
abbrev cX2_thrown : ByteArray := prog_4_method_2_code
def yX2_thrown : MethodName := ⟨RX2, "thrown", "()I"⟩
abbrev cX2_fail : ByteArray := prog_4_method_3_code
def yX2_fail : MethodName := ⟨RX2, "fail", "(I)I"⟩
abbrev cX2_told : ByteArray := prog_4_method_4_code
def yX2_told : MethodName := ⟨RX2, "told", "(I)I"⟩
abbrev cX2_isIn : ByteArray := prog_4_method_5_code
def yX2_isIn : MethodName := ⟨RX2, "isIn", "(III)Z"⟩
abbrev cX2_isVoice : ByteArray := prog_4_method_6_code
def yX2_isVoice : MethodName := ⟨RX2, "isVoice", "(I)Z"⟩
abbrev cX2_isSign : ByteArray := prog_4_method_7_code
def yX2_isSign : MethodName := ⟨RX2, "isSign", "(II)Z"⟩
abbrev cX2_isMeasure : ByteArray := prog_4_method_8_code
def yX2_isMeasure : MethodName := ⟨RX2, "isMeasure", "(III)Z"⟩
abbrev cX2_set : ByteArray := prog_4_method_9_code
def yX2_set : MethodName := ⟨RX2, "set", "(IIII)V"⟩
abbrev cX2_put : ByteArray := prog_4_method_10_code
def yX2_put : MethodName := ⟨RX2, "put", "(IIIZI)V"⟩
abbrev cX2_lasts : ByteArray := prog_4_method_11_code
def yX2_lasts : MethodName := ⟨RX2, "lasts", "(II)I"⟩
abbrev cX2_all : ByteArray := prog_4_method_12_code
def yX2_all : MethodName := ⟨RX2, "all", "(I)I"⟩
abbrev cX2_lay : ByteArray := prog_4_method_13_code
def yX2_lay : MethodName := ⟨RX2, "lay", "(I[I)I"⟩
abbrev cX2_isClash : ByteArray := prog_4_method_14_code
def yX2_isClash : MethodName := ⟨RX2, "isClash", "(I)Z"⟩
abbrev cX2_clash : ByteArray := prog_4_method_15_code
def yX2_clash : MethodName := ⟨RX2, "clash", "(IIIIZ)I"⟩
abbrev cX2_addVoice : ByteArray := prog_4_method_16_code
def yX2_addVoice : MethodName := ⟨RX2, "addVoice", "(III)I"⟩
abbrev cX2_addNote : ByteArray := prog_4_method_17_code
def yX2_addNote : MethodName := ⟨RX2, "addNote", "(IIIZ)I"⟩
abbrev cX2_addRest : ByteArray := prog_4_method_18_code
def yX2_addRest : MethodName := ⟨RX2, "addRest", "(II)I"⟩
abbrev cX2_addLigature : ByteArray := prog_4_method_19_code
def yX2_addLigature : MethodName := ⟨RX2, "addLigature", "(IIIIZ)I"⟩
abbrev cX2_erase : ByteArray := prog_4_method_20_code
def yX2_erase : MethodName := ⟨RX2, "erase", "(I)I"⟩
abbrev cX2_recolour : ByteArray := prog_4_method_21_code
def yX2_recolour : MethodName := ⟨RX2, "recolour", "(II)Z"⟩
abbrev cX2_setClef : ByteArray := prog_4_method_22_code
def yX2_setClef : MethodName := ⟨RX2, "setClef", "(II)I"⟩
abbrev cX2_setMensuration : ByteArray := prog_4_method_23_code
def yX2_setMensuration : MethodName := ⟨RX2, "setMensuration", "(IIII)I"⟩
abbrev cX2_voices : ByteArray := prog_4_method_24_code
def yX2_voices : MethodName := ⟨RX2, "voices", "()I"⟩
abbrev cX2_signs : ByteArray := prog_4_method_25_code
def yX2_signs : MethodName := ⟨RX2, "signs", "(I)I"⟩
abbrev cX2_count : ByteArray := prog_4_method_26_code
def yX2_count : MethodName := ⟨RX2, "count", "(IZ)I"⟩
abbrev cX2_notes : ByteArray := prog_4_method_27_code
def yX2_notes : MethodName := ⟨RX2, "notes", "(I)I"⟩
abbrev cX2_ligatures : ByteArray := prog_4_method_28_code
def yX2_ligatures : MethodName := ⟨RX2, "ligatures", "(I)I"⟩
abbrev cX2_of : ByteArray := prog_4_method_29_code
def yX2_of : MethodName := ⟨RX2, "of", "(II[I)I"⟩
abbrev cX2_kindOf : ByteArray := prog_4_method_30_code
def yX2_kindOf : MethodName := ⟨RX2, "kindOf", "(II)I"⟩
abbrev cX2_placeOf : ByteArray := prog_4_method_31_code
def yX2_placeOf : MethodName := ⟨RX2, "placeOf", "(II)I"⟩
abbrev cX2_isColoured : ByteArray := prog_4_method_32_code
def yX2_isColoured : MethodName := ⟨RX2, "isColoured", "(II)Z"⟩
abbrev cX2_placeInLigature : ByteArray := prog_4_method_33_code
def yX2_placeInLigature : MethodName := ⟨RX2, "placeInLigature", "(II)I"⟩
abbrev cX2_lengthOf : ByteArray := prog_4_method_34_code
def yX2_lengthOf : MethodName := ⟨RX2, "lengthOf", "(II)I"⟩
abbrev cX2_begins : ByteArray := prog_4_method_35_code
def yX2_begins : MethodName := ⟨RX2, "begins", "(II)I"⟩
abbrev cX2_beginOf : ByteArray := prog_4_method_36_code
def yX2_beginOf : MethodName := ⟨RX2, "beginOf", "(II)I"⟩
abbrev cX2_length : ByteArray := prog_4_method_37_code
def yX2_length : MethodName := ⟨RX2, "length", "(I)I"⟩
abbrev cX2_most : ByteArray := prog_4_method_38_code
def yX2_most : MethodName := ⟨RX2, "most", "()I"⟩
abbrev cX2_longest : ByteArray := prog_4_method_39_code
def yX2_longest : MethodName := ⟨RX2, "longest", "()I"⟩
abbrev cX2_signAt : ByteArray := prog_4_method_40_code
def yX2_signAt : MethodName := ⟨RX2, "signAt", "(II)I"⟩
abbrev cX2_clefOf : ByteArray := prog_4_method_41_code
def yX2_clefOf : MethodName := ⟨RX2, "clefOf", "(I)I"⟩
abbrev cX2_pitchOf : ByteArray := prog_4_method_42_code
def yX2_pitchOf : MethodName := ⟨RX2, "pitchOf", "(II)I"⟩
abbrev cX2_fit : ByteArray := prog_4_method_43_code
def yX2_fit : MethodName := ⟨RX2, "fit", "(II)Z"⟩
abbrev cX2_fits : ByteArray := prog_4_method_44_code
def yX2_fits : MethodName := ⟨RX2, "fits", "(II)Z"⟩
abbrev cX2_fitting : ByteArray := prog_4_method_45_code
def yX2_fitting : MethodName := ⟨RX2, "fitting", "(I)I"⟩
abbrev cX2_clefsThatFit : ByteArray := prog_4_method_46_code
def yX2_clefsThatFit : MethodName := ⟨RX2, "clefsThatFit", "(I)I"⟩
abbrev cX2_both : ByteArray := prog_4_method_47_code
def yX2_both : MethodName := ⟨RX2, "both", "(IIZ)I"⟩
abbrev cX2_clashes : ByteArray := prog_4_method_48_code
def yX2_clashes : MethodName := ⟨RX2, "clashes", "(II)I"⟩
abbrev cX2_firstClash : ByteArray := prog_4_method_49_code
def yX2_firstClash : MethodName := ⟨RX2, "firstClash", "(II)I"⟩
abbrev cX2_withAll : ByteArray := prog_4_method_50_code
def yX2_withAll : MethodName := ⟨RX2, "withAll", "(II)I"⟩
abbrev cX2_clashesWith : ByteArray := prog_4_method_51_code
def yX2_clashesWith : MethodName := ⟨RX2, "clashesWith", "(II)I"⟩
abbrev cX2_best : ByteArray := prog_4_method_52_code
def yX2_best : MethodName := ⟨RX2, "best", "(I)I"⟩
abbrev cX2_bestClef : ByteArray := prog_4_method_53_code
def yX2_bestClef : MethodName := ⟨RX2, "bestClef", "(I)I"⟩
abbrev cX2_canon : ByteArray := prog_4_method_54_code
def yX2_canon : MethodName := ⟨RX2, "canon", "(III)I"⟩
abbrev cX2_canonClashes : ByteArray := prog_4_method_55_code
def yX2_canonClashes : MethodName := ⟨RX2, "canonClashes", "(III)I"⟩
abbrev cX2_delay : ByteArray := prog_4_method_56_code
def yX2_delay : MethodName := ⟨RX2, "delay", "(II)I"⟩
abbrev cX2_bestDelay : ByteArray := prog_4_method_57_code
def yX2_bestDelay : MethodName := ⟨RX2, "bestDelay", "(II)I"⟩
abbrev cX2_meanLength : ByteArray := prog_4_method_58_code
def yX2_meanLength : MethodName := ⟨RX2, "meanLength", "()D"⟩
abbrev cX2_digest : ByteArray := prog_4_method_59_code
def yX2_digest : MethodName := ⟨RX2, "digest", "()J"⟩
def RJ9 : String := "java/lang/Math"
def TJ9 : u_T := fun k => match k with
  | _ => ("", "", "", false)
def tyJ9 : Nat → FieldType := fun k => match k with
  | _ => .int
abbrev wsJ90 : List Cond := u_ws RJ9 TJ9 0
theorem nmJ9 : ∀ a, a < 0 → ∀ b, b < 0 → a ≠ b → (TJ9 a).2.1 ≠ (TJ9 b).2.1 := by decide +kernel
theorem tyJ9_ok : ∀ k, k < 0 → parseFieldDescriptor (TJ9 k).2.2.1 = some (tyJ9 k) := by decide +kernel
abbrev cJ9_abs_0f7a4 : ByteArray := prog_9_method_59_code
def yJ9_abs_0f7a4 : MethodName := ⟨RJ9, "abs", "(I)I"⟩
abbrev cJ9_max_7cf53 : ByteArray := prog_9_method_65_code
def yJ9_max_7cf53 : MethodName := ⟨RJ9, "max", "(II)I"⟩
abbrev cJ9_min_7cf53 : ByteArray := prog_9_method_69_code
def yJ9_min_7cf53 : MethodName := ⟨RJ9, "min", "(II)I"⟩
def RJ0 : String := "java/lang/String"
def TJ0 : u_T := fun k => match k with
  | _ => ("", "", "", false)
def tyJ0 : Nat → FieldType := fun k => match k with
  | _ => .int
abbrev wsJ00 : List Cond := u_ws RJ0 TJ0 0
theorem nmJ0 : ∀ a, a < 0 → ∀ b, b < 0 → a ≠ b → (TJ0 a).2.1 ≠ (TJ0 b).2.1 := by decide +kernel
theorem tyJ0_ok : ∀ k, k < 0 → parseFieldDescriptor (TJ0 k).2.2.1 = some (tyJ0 k) := by decide +kernel
def wsX0_init : List Cond := .code yX0_init cX0_init 1 none :: ([.methodLink RX0 3 objectInit, .instanceMethod objectInit, .code objectInit ⟨#[0xb1]⟩ 1 none, .fieldLink RX0 9 "ChoirNotes$Voice" "clef" "I", .arrayClass .int, .fieldLink RX0 15 "ChoirNotes$Voice" "kinds" "[I", .fieldLink RX0 19 "ChoirNotes$Voice" "places" "[I", .arrayClass .boolean, .fieldLink RX0 22 "ChoirNotes$Voice" "colours" "[Z", .fieldLink RX0 26 "ChoirNotes$Voice" "ranks" "[I", .fieldLink RX0 29 "ChoirNotes$Voice" "begins" "[I"] ++ wsX00)
def wsX0_minimsByKind : List Cond := .code yX0_minimsByKind cX0_minimsByKind 3 (some .int) :: ([.fieldLink RX0 32 "ChoirNotes$Voice" "brevesInLonga" "I", .fieldLink RX0 35 "ChoirNotes$Voice" "semibrevesInBreve" "I", .fieldLink RX0 38 "ChoirNotes$Voice" "minimsInSemibreve" "I"] ++ wsX00)
def wsX0_timeFrom : List Cond := .code yX0_timeFrom cX0_timeFrom 3 none :: ([.fieldLink RX0 45 "ChoirNotes$Voice" "count" "I", .fieldLink RX0 29 "ChoirNotes$Voice" "begins" "[I", .fieldLink RX0 15 "ChoirNotes$Voice" "kinds" "[I", .fieldLink RX0 22 "ChoirNotes$Voice" "colours" "[Z", .methodLink RX0 48 yX0_minimsByKind, .instanceMethod yX0_minimsByKind, .selects RX0 yX0_minimsByKind yX0_minimsByKind, .initialized RX0, .code yX0_minimsByKind cX0_minimsByKind 3 (some .int), .fieldLink RX0 32 "ChoirNotes$Voice" "brevesInLonga" "I", .fieldLink RX0 35 "ChoirNotes$Voice" "semibrevesInBreve" "I", .fieldLink RX0 38 "ChoirNotes$Voice" "minimsInSemibreve" "I"] ++ wsX00)
def wsX0_measure : List Cond := .code yX0_measure cX0_measure 4 none :: ([.fieldLink RX0 32 "ChoirNotes$Voice" "brevesInLonga" "I", .fieldLink RX0 35 "ChoirNotes$Voice" "semibrevesInBreve" "I", .fieldLink RX0 38 "ChoirNotes$Voice" "minimsInSemibreve" "I", .methodLink RX0 41 yX0_timeFrom, .instanceMethod yX0_timeFrom, .selects RX0 yX0_timeFrom yX0_timeFrom, .initialized RX0, .code yX0_timeFrom cX0_timeFrom 3 none, .fieldLink RX0 45 "ChoirNotes$Voice" "count" "I", .fieldLink RX0 29 "ChoirNotes$Voice" "begins" "[I", .fieldLink RX0 15 "ChoirNotes$Voice" "kinds" "[I", .fieldLink RX0 22 "ChoirNotes$Voice" "colours" "[Z", .methodLink RX0 48 yX0_minimsByKind, .instanceMethod yX0_minimsByKind, .selects RX0 yX0_minimsByKind yX0_minimsByKind, .code yX0_minimsByKind cX0_minimsByKind 3 (some .int)] ++ wsX00)
def wsX0_append : List Cond := .code yX0_append cX0_append 6 (some .int) :: ([.fieldLink RX0 45 "ChoirNotes$Voice" "count" "I", .fieldLink RX0 15 "ChoirNotes$Voice" "kinds" "[I", .fieldLink RX0 19 "ChoirNotes$Voice" "places" "[I", .fieldLink RX0 22 "ChoirNotes$Voice" "colours" "[Z", .fieldLink RX0 26 "ChoirNotes$Voice" "ranks" "[I", .methodLink RX0 41 yX0_timeFrom, .instanceMethod yX0_timeFrom, .selects RX0 yX0_timeFrom yX0_timeFrom, .initialized RX0, .code yX0_timeFrom cX0_timeFrom 3 none, .fieldLink RX0 29 "ChoirNotes$Voice" "begins" "[I", .methodLink RX0 48 yX0_minimsByKind, .instanceMethod yX0_minimsByKind, .selects RX0 yX0_minimsByKind yX0_minimsByKind, .code yX0_minimsByKind cX0_minimsByKind 3 (some .int), .fieldLink RX0 32 "ChoirNotes$Voice" "brevesInLonga" "I", .fieldLink RX0 35 "ChoirNotes$Voice" "semibrevesInBreve" "I", .fieldLink RX0 38 "ChoirNotes$Voice" "minimsInSemibreve" "I"] ++ wsX00)
def wsX0_dropLast : List Cond := .code yX0_dropLast cX0_dropLast 3 (some .int) :: ([.fieldLink RX0 26 "ChoirNotes$Voice" "ranks" "[I", .fieldLink RX0 45 "ChoirNotes$Voice" "count" "I"] ++ wsX00)
def wsX0_turnColour : List Cond := .code yX0_turnColour cX0_turnColour 2 (some .boolean) :: ([.fieldLink RX0 22 "ChoirNotes$Voice" "colours" "[Z", .methodLink RX0 41 yX0_timeFrom, .instanceMethod yX0_timeFrom, .selects RX0 yX0_timeFrom yX0_timeFrom, .initialized RX0, .code yX0_timeFrom cX0_timeFrom 3 none, .fieldLink RX0 45 "ChoirNotes$Voice" "count" "I", .fieldLink RX0 29 "ChoirNotes$Voice" "begins" "[I", .fieldLink RX0 15 "ChoirNotes$Voice" "kinds" "[I", .methodLink RX0 48 yX0_minimsByKind, .instanceMethod yX0_minimsByKind, .selects RX0 yX0_minimsByKind yX0_minimsByKind, .code yX0_minimsByKind cX0_minimsByKind 3 (some .int), .fieldLink RX0 32 "ChoirNotes$Voice" "brevesInLonga" "I", .fieldLink RX0 35 "ChoirNotes$Voice" "semibrevesInBreve" "I", .fieldLink RX0 38 "ChoirNotes$Voice" "minimsInSemibreve" "I"] ++ wsX00)
def wsX0_minimsOf : List Cond := .code yX0_minimsOf cX0_minimsOf 2 (some .int) :: ([.fieldLink RX0 29 "ChoirNotes$Voice" "begins" "[I"] ++ wsX00)
def wsX0_end : List Cond := .code yX0_end cX0_end 1 (some .int) :: ([.fieldLink RX0 29 "ChoirNotes$Voice" "begins" "[I", .fieldLink RX0 45 "ChoirNotes$Voice" "count" "I"] ++ wsX00)
def wsX0_signLastingAt : List Cond := .code yX0_signLastingAt cX0_signLastingAt 3 (some .int) :: ([.fieldLink RX0 45 "ChoirNotes$Voice" "count" "I", .fieldLink RX0 29 "ChoirNotes$Voice" "begins" "[I"] ++ wsX00)
def wsX0_isRest : List Cond := .code yX0_isRest cX0_isRest 2 (some .boolean) :: ([.fieldLink RX0 19 "ChoirNotes$Voice" "places" "[I"] ++ wsX00)
def wsX0_countNotes : List Cond := .code yX0_countNotes cX0_countNotes 3 (some .int) :: ([.fieldLink RX0 45 "ChoirNotes$Voice" "count" "I", .methodLink RX0 52 yX0_isRest, .instanceMethod yX0_isRest, .selects RX0 yX0_isRest yX0_isRest, .initialized RX0, .code yX0_isRest cX0_isRest 2 (some .boolean), .fieldLink RX0 19 "ChoirNotes$Voice" "places" "[I"] ++ wsX00)
def wsX0_countLigatures : List Cond := .code yX0_countLigatures cX0_countLigatures 3 (some .int) :: ([.fieldLink RX0 45 "ChoirNotes$Voice" "count" "I", .fieldLink RX0 26 "ChoirNotes$Voice" "ranks" "[I"] ++ wsX00)
def wsX0_wouldFit : List Cond := .code yX0_wouldFit cX0_wouldFit 4 (some .boolean) :: ([.fieldLink RX0 45 "ChoirNotes$Voice" "count" "I", .fieldLink RX0 19 "ChoirNotes$Voice" "places" "[I", .methodLink RX0 52 yX0_isRest, .instanceMethod yX0_isRest, .selects RX0 yX0_isRest yX0_isRest, .initialized RX0, .code yX0_isRest cX0_isRest 2 (some .boolean)] ++ wsX00)
def wsX0_countFittingClefs : List Cond := .code yX0_countFittingClefs cX0_countFittingClefs 3 (some .int) :: ([.methodLink RX0 56 yX0_wouldFit, .instanceMethod yX0_wouldFit, .selects RX0 yX0_wouldFit yX0_wouldFit, .initialized RX0, .code yX0_wouldFit cX0_wouldFit 4 (some .boolean), .fieldLink RX0 45 "ChoirNotes$Voice" "count" "I", .fieldLink RX0 19 "ChoirNotes$Voice" "places" "[I", .methodLink RX0 52 yX0_isRest, .instanceMethod yX0_isRest, .selects RX0 yX0_isRest yX0_isRest, .code yX0_isRest cX0_isRest 2 (some .boolean)] ++ wsX00)
def wsX1_init : List Cond := .code yX1_init cX1_init 2 none :: ([.methodLink RX1 1 objectInit, .instanceMethod objectInit, .code objectInit ⟨#[0xb1]⟩ 1 none, .classLink RX1 9 RX0, .fieldLink RX1 11 "ChoirNotes" "book" "[LChoirNotes$Voice;", .instantiable RX0 10, .initialized RX0, .instanceMethod yX0_init, .code yX0_init cX0_init 1 none, .methodLink RX0 3 objectInit, .fieldLink RX0 9 "ChoirNotes$Voice" "clef" "I", .arrayClass .int, .fieldLink RX0 15 "ChoirNotes$Voice" "kinds" "[I", .fieldLink RX0 19 "ChoirNotes$Voice" "places" "[I", .arrayClass .boolean, .fieldLink RX0 22 "ChoirNotes$Voice" "colours" "[Z", .fieldLink RX0 26 "ChoirNotes$Voice" "ranks" "[I", .fieldLink RX0 29 "ChoirNotes$Voice" "begins" "[I"] ++ wsX10 ++ wsX00)
def wsX1_checkRange : List Cond := .code yX1_checkRange cX1_checkRange 3 none :: ([.classLink RX1 179 "java/lang/IllegalArgumentException", .initialized "java/lang/IllegalArgumentException"] ++ (vx_atS RX1 183 "java/lang/IllegalArgumentException" ["java/lang/RuntimeException", "java/lang/Exception"]).filter goodWord)
def wsX1_checkMensuration : List Cond := .code yX1_checkMensuration cX1_checkMensuration 3 none :: ([.methodLink RX1 38 yX1_checkRange, .static yX1_checkRange, .initialized RX1, .code yX1_checkRange cX1_checkRange 3 none, .classLink RX1 179 "java/lang/IllegalArgumentException", .initialized "java/lang/IllegalArgumentException"] ++ (vx_atS RX1 183 "java/lang/IllegalArgumentException" ["java/lang/RuntimeException", "java/lang/Exception"]).filter goodWord)
def wsX1_addVoice_r1 : List Cond := [Cond.classLink RX1 24 "java/lang/IllegalStateException", Cond.initialized "java/lang/IllegalStateException", Cond.fieldLink RX1 20 "ChoirNotes" "voiceCount" "I", Cond.fieldLink RX1 11 "ChoirNotes" "book" "[LChoirNotes$Voice;", Cond.methodLink RX1 16 yX1_checkMensuration, Cond.static yX1_checkMensuration, Cond.initialized RX1, Cond.code yX1_checkMensuration cX1_checkMensuration 3 none, Cond.methodLink RX1 38 yX1_checkRange, Cond.static yX1_checkRange, Cond.code yX1_checkRange cX1_checkRange 3 none, Cond.classLink RX1 179 "java/lang/IllegalArgumentException", Cond.initialized "java/lang/IllegalArgumentException", Cond.instanceMethod yX0_measure, Cond.initialized RX0, Cond.selects RX0 yX0_measure yX0_measure, Cond.code yX0_measure cX0_measure 4 none, Cond.fieldLink RX0 32 "ChoirNotes$Voice" "brevesInLonga" "I", Cond.fieldLink RX0 35 "ChoirNotes$Voice" "semibrevesInBreve" "I", Cond.fieldLink RX0 38 "ChoirNotes$Voice" "minimsInSemibreve" "I", Cond.methodLink RX0 41 yX0_timeFrom, Cond.instanceMethod yX0_timeFrom, Cond.selects RX0 yX0_timeFrom yX0_timeFrom, Cond.code yX0_timeFrom cX0_timeFrom 3 none]
def wsX1_addVoice_r2 : List Cond := [Cond.fieldLink RX0 45 "ChoirNotes$Voice" "count" "I", Cond.fieldLink RX0 29 "ChoirNotes$Voice" "begins" "[I", Cond.fieldLink RX0 15 "ChoirNotes$Voice" "kinds" "[I", Cond.fieldLink RX0 22 "ChoirNotes$Voice" "colours" "[Z", Cond.methodLink RX0 48 yX0_minimsByKind, Cond.instanceMethod yX0_minimsByKind, Cond.selects RX0 yX0_minimsByKind yX0_minimsByKind, Cond.code yX0_minimsByKind cX0_minimsByKind 3 (some .int)]
def wsX1_addVoice : List Cond := .code yX1_addVoice cX1_addVoice 4 (some .int) :: ((wsX1_addVoice_r1 ++ wsX1_addVoice_r2) ++ wsX10 ++ wsX00 ++ (vx_atS RX1 28 "java/lang/IllegalStateException" ["java/lang/RuntimeException", "java/lang/Exception"]).filter goodWord ++ (vx_atS RX1 183 "java/lang/IllegalArgumentException" ["java/lang/RuntimeException", "java/lang/Exception"]).filter goodWord)
def wsX1_knownVoice : List Cond := .code yX1_knownVoice cX1_knownVoice 2 (some (.object "ChoirNotes$Voice")) :: ([.classLink RX1 172 "java/lang/IndexOutOfBoundsException", .initialized "java/lang/IndexOutOfBoundsException", .fieldLink RX1 20 "ChoirNotes" "voiceCount" "I", .fieldLink RX1 11 "ChoirNotes" "book" "[LChoirNotes$Voice;"] ++ wsX10 ++ (vx_atS RX1 176 "java/lang/IndexOutOfBoundsException" ["java/lang/RuntimeException", "java/lang/Exception"]).filter goodWord)
def wsX1_checkRoom : List Cond := .code yX1_checkRoom cX1_checkRoom 2 none :: ([.classLink RX1 24 "java/lang/IllegalStateException", .initialized "java/lang/IllegalStateException"] ++ wsX00 ++ (vx_atS RX1 28 "java/lang/IllegalStateException" ["java/lang/RuntimeException", "java/lang/Exception"]).filter goodWord)
def wsX1_addNote_r1 : List Cond := [Cond.methodLink RX1 34 yX1_knownVoice, Cond.instanceMethod yX1_knownVoice, Cond.selects RX1 yX1_knownVoice yX1_knownVoice, Cond.initialized RX1, Cond.code yX1_knownVoice cX1_knownVoice 2 (some (.object "ChoirNotes$Voice")), Cond.classLink RX1 172 "java/lang/IndexOutOfBoundsException", Cond.initialized "java/lang/IndexOutOfBoundsException", Cond.fieldLink RX1 20 "ChoirNotes" "voiceCount" "I", Cond.fieldLink RX1 11 "ChoirNotes" "book" "[LChoirNotes$Voice;", Cond.methodLink RX1 38 yX1_checkRange, Cond.static yX1_checkRange, Cond.code yX1_checkRange cX1_checkRange 3 none, Cond.classLink RX1 179 "java/lang/IllegalArgumentException", Cond.initialized "java/lang/IllegalArgumentException", Cond.methodLink RX1 41 yX1_checkRoom, Cond.static yX1_checkRoom, Cond.code yX1_checkRoom cX1_checkRoom 2 none, Cond.classLink RX1 24 "java/lang/IllegalStateException", Cond.initialized "java/lang/IllegalStateException", Cond.instanceMethod yX0_append, Cond.initialized RX0, Cond.selects RX0 yX0_append yX0_append, Cond.code yX0_append cX0_append 6 (some .int), Cond.fieldLink RX0 45 "ChoirNotes$Voice" "count" "I"]
def wsX1_addNote_r2 : List Cond := [Cond.fieldLink RX0 15 "ChoirNotes$Voice" "kinds" "[I", Cond.fieldLink RX0 19 "ChoirNotes$Voice" "places" "[I", Cond.fieldLink RX0 22 "ChoirNotes$Voice" "colours" "[Z", Cond.fieldLink RX0 26 "ChoirNotes$Voice" "ranks" "[I", Cond.methodLink RX0 41 yX0_timeFrom, Cond.instanceMethod yX0_timeFrom, Cond.selects RX0 yX0_timeFrom yX0_timeFrom, Cond.code yX0_timeFrom cX0_timeFrom 3 none, Cond.fieldLink RX0 29 "ChoirNotes$Voice" "begins" "[I", Cond.methodLink RX0 48 yX0_minimsByKind, Cond.instanceMethod yX0_minimsByKind, Cond.selects RX0 yX0_minimsByKind yX0_minimsByKind, Cond.code yX0_minimsByKind cX0_minimsByKind 3 (some .int), Cond.fieldLink RX0 32 "ChoirNotes$Voice" "brevesInLonga" "I", Cond.fieldLink RX0 35 "ChoirNotes$Voice" "semibrevesInBreve" "I", Cond.fieldLink RX0 38 "ChoirNotes$Voice" "minimsInSemibreve" "I"]
def wsX1_addNote : List Cond := .code yX1_addNote cX1_addNote 6 (some .int) :: ((wsX1_addNote_r1 ++ wsX1_addNote_r2) ++ wsX10 ++ wsX00 ++ (vx_atS RX1 176 "java/lang/IndexOutOfBoundsException" ["java/lang/RuntimeException", "java/lang/Exception"]).filter goodWord ++ (vx_atS RX1 183 "java/lang/IllegalArgumentException" ["java/lang/RuntimeException", "java/lang/Exception"]).filter goodWord ++ (vx_atS RX1 28 "java/lang/IllegalStateException" ["java/lang/RuntimeException", "java/lang/Exception"]).filter goodWord)
def wsX1_addRest_r1 : List Cond := [Cond.methodLink RX1 34 yX1_knownVoice, Cond.instanceMethod yX1_knownVoice, Cond.selects RX1 yX1_knownVoice yX1_knownVoice, Cond.initialized RX1, Cond.code yX1_knownVoice cX1_knownVoice 2 (some (.object "ChoirNotes$Voice")), Cond.classLink RX1 172 "java/lang/IndexOutOfBoundsException", Cond.initialized "java/lang/IndexOutOfBoundsException", Cond.fieldLink RX1 20 "ChoirNotes" "voiceCount" "I", Cond.fieldLink RX1 11 "ChoirNotes" "book" "[LChoirNotes$Voice;", Cond.methodLink RX1 38 yX1_checkRange, Cond.static yX1_checkRange, Cond.code yX1_checkRange cX1_checkRange 3 none, Cond.classLink RX1 179 "java/lang/IllegalArgumentException", Cond.initialized "java/lang/IllegalArgumentException", Cond.methodLink RX1 41 yX1_checkRoom, Cond.static yX1_checkRoom, Cond.code yX1_checkRoom cX1_checkRoom 2 none, Cond.classLink RX1 24 "java/lang/IllegalStateException", Cond.initialized "java/lang/IllegalStateException", Cond.instanceMethod yX0_append, Cond.initialized RX0, Cond.selects RX0 yX0_append yX0_append, Cond.code yX0_append cX0_append 6 (some .int), Cond.fieldLink RX0 45 "ChoirNotes$Voice" "count" "I"]
def wsX1_addRest_r2 : List Cond := [Cond.fieldLink RX0 15 "ChoirNotes$Voice" "kinds" "[I", Cond.fieldLink RX0 19 "ChoirNotes$Voice" "places" "[I", Cond.fieldLink RX0 22 "ChoirNotes$Voice" "colours" "[Z", Cond.fieldLink RX0 26 "ChoirNotes$Voice" "ranks" "[I", Cond.methodLink RX0 41 yX0_timeFrom, Cond.instanceMethod yX0_timeFrom, Cond.selects RX0 yX0_timeFrom yX0_timeFrom, Cond.code yX0_timeFrom cX0_timeFrom 3 none, Cond.fieldLink RX0 29 "ChoirNotes$Voice" "begins" "[I", Cond.methodLink RX0 48 yX0_minimsByKind, Cond.instanceMethod yX0_minimsByKind, Cond.selects RX0 yX0_minimsByKind yX0_minimsByKind, Cond.code yX0_minimsByKind cX0_minimsByKind 3 (some .int), Cond.fieldLink RX0 32 "ChoirNotes$Voice" "brevesInLonga" "I", Cond.fieldLink RX0 35 "ChoirNotes$Voice" "semibrevesInBreve" "I", Cond.fieldLink RX0 38 "ChoirNotes$Voice" "minimsInSemibreve" "I"]
def wsX1_addRest : List Cond := .code yX1_addRest cX1_addRest 4 (some .int) :: ((wsX1_addRest_r1 ++ wsX1_addRest_r2) ++ wsX10 ++ wsX00 ++ (vx_atS RX1 176 "java/lang/IndexOutOfBoundsException" ["java/lang/RuntimeException", "java/lang/Exception"]).filter goodWord ++ (vx_atS RX1 183 "java/lang/IllegalArgumentException" ["java/lang/RuntimeException", "java/lang/Exception"]).filter goodWord ++ (vx_atS RX1 28 "java/lang/IllegalStateException" ["java/lang/RuntimeException", "java/lang/Exception"]).filter goodWord)
def wsX1_checkLigature : List Cond := .code yX1_checkLigature cX1_checkLigature 3 none :: ([.classLink RX1 179 "java/lang/IllegalArgumentException", .initialized "java/lang/IllegalArgumentException", .methodLink RX1 38 yX1_checkRange, .static yX1_checkRange, .initialized RX1, .code yX1_checkRange cX1_checkRange 3 none] ++ (vx_atS RX1 183 "java/lang/IllegalArgumentException" ["java/lang/RuntimeException", "java/lang/Exception"]).filter goodWord)
def wsX1_lastKind : List Cond := .code yX1_lastKind cX1_lastKind 2 (some .int) :: ([])
def wsX1_firstKind : List Cond := .code yX1_firstKind cX1_firstKind 3 (some .int) :: ([.methodLink RX1 60 yX1_lastKind, .static yX1_lastKind, .initialized RX1, .code yX1_lastKind cX1_lastKind 2 (some .int)])
def wsX1_secondKind : List Cond := .code yX1_secondKind cX1_secondKind 4 (some .int) :: ([.methodLink RX1 60 yX1_lastKind, .static yX1_lastKind, .initialized RX1, .code yX1_lastKind cX1_lastKind 2 (some .int)])
def wsX1_addLigature_r1 : List Cond := [Cond.methodLink RX1 34 yX1_knownVoice, Cond.instanceMethod yX1_knownVoice, Cond.selects RX1 yX1_knownVoice yX1_knownVoice, Cond.initialized RX1, Cond.code yX1_knownVoice cX1_knownVoice 2 (some (.object "ChoirNotes$Voice")), Cond.classLink RX1 172 "java/lang/IndexOutOfBoundsException", Cond.initialized "java/lang/IndexOutOfBoundsException", Cond.fieldLink RX1 20 "ChoirNotes" "voiceCount" "I", Cond.fieldLink RX1 11 "ChoirNotes" "book" "[LChoirNotes$Voice;", Cond.methodLink RX1 49 yX1_checkLigature, Cond.static yX1_checkLigature, Cond.code yX1_checkLigature cX1_checkLigature 3 none, Cond.classLink RX1 179 "java/lang/IllegalArgumentException", Cond.initialized "java/lang/IllegalArgumentException", Cond.methodLink RX1 38 yX1_checkRange, Cond.static yX1_checkRange, Cond.code yX1_checkRange cX1_checkRange 3 none, Cond.methodLink RX1 41 yX1_checkRoom, Cond.static yX1_checkRoom, Cond.code yX1_checkRoom cX1_checkRoom 2 none, Cond.classLink RX1 24 "java/lang/IllegalStateException", Cond.initialized "java/lang/IllegalStateException", Cond.methodLink RX1 52 yX1_firstKind, Cond.static yX1_firstKind]
def wsX1_addLigature_r2 : List Cond := [Cond.code yX1_firstKind cX1_firstKind 3 (some .int), Cond.methodLink RX1 60 yX1_lastKind, Cond.static yX1_lastKind, Cond.code yX1_lastKind cX1_lastKind 2 (some .int), Cond.instanceMethod yX0_append, Cond.initialized RX0, Cond.selects RX0 yX0_append yX0_append, Cond.code yX0_append cX0_append 6 (some .int), Cond.fieldLink RX0 45 "ChoirNotes$Voice" "count" "I", Cond.fieldLink RX0 15 "ChoirNotes$Voice" "kinds" "[I", Cond.fieldLink RX0 19 "ChoirNotes$Voice" "places" "[I", Cond.fieldLink RX0 22 "ChoirNotes$Voice" "colours" "[Z", Cond.fieldLink RX0 26 "ChoirNotes$Voice" "ranks" "[I", Cond.methodLink RX0 41 yX0_timeFrom, Cond.instanceMethod yX0_timeFrom, Cond.selects RX0 yX0_timeFrom yX0_timeFrom, Cond.code yX0_timeFrom cX0_timeFrom 3 none, Cond.fieldLink RX0 29 "ChoirNotes$Voice" "begins" "[I", Cond.methodLink RX0 48 yX0_minimsByKind, Cond.instanceMethod yX0_minimsByKind, Cond.selects RX0 yX0_minimsByKind yX0_minimsByKind, Cond.code yX0_minimsByKind cX0_minimsByKind 3 (some .int), Cond.fieldLink RX0 32 "ChoirNotes$Voice" "brevesInLonga" "I", Cond.fieldLink RX0 35 "ChoirNotes$Voice" "semibrevesInBreve" "I"]
def wsX1_addLigature_r3 : List Cond := [Cond.fieldLink RX0 38 "ChoirNotes$Voice" "minimsInSemibreve" "I", Cond.methodLink RX1 56 yX1_secondKind, Cond.static yX1_secondKind, Cond.code yX1_secondKind cX1_secondKind 4 (some .int)]
def wsX1_addLigature : List Cond := .code yX1_addLigature cX1_addLigature 9 (some .int) :: ((wsX1_addLigature_r1 ++ (wsX1_addLigature_r2 ++ wsX1_addLigature_r3)) ++ wsX10 ++ wsX00 ++ (vx_atS RX1 176 "java/lang/IndexOutOfBoundsException" ["java/lang/RuntimeException", "java/lang/Exception"]).filter goodWord ++ (vx_atS RX1 183 "java/lang/IllegalArgumentException" ["java/lang/RuntimeException", "java/lang/Exception"]).filter goodWord ++ (vx_atS RX1 28 "java/lang/IllegalStateException" ["java/lang/RuntimeException", "java/lang/Exception"]).filter goodWord)
def wsX1_erase : List Cond := .code yX1_erase cX1_erase 3 (some .int) :: ([.classLink RX1 24 "java/lang/IllegalStateException", .initialized "java/lang/IllegalStateException", .methodLink RX1 34 yX1_knownVoice, .instanceMethod yX1_knownVoice, .selects RX1 yX1_knownVoice yX1_knownVoice, .initialized RX1, .code yX1_knownVoice cX1_knownVoice 2 (some (.object "ChoirNotes$Voice")), .classLink RX1 172 "java/lang/IndexOutOfBoundsException", .initialized "java/lang/IndexOutOfBoundsException", .fieldLink RX1 20 "ChoirNotes" "voiceCount" "I", .fieldLink RX1 11 "ChoirNotes" "book" "[LChoirNotes$Voice;", .instanceMethod yX0_dropLast, .initialized RX0, .selects RX0 yX0_dropLast yX0_dropLast, .code yX0_dropLast cX0_dropLast 3 (some .int), .fieldLink RX0 26 "ChoirNotes$Voice" "ranks" "[I", .fieldLink RX0 45 "ChoirNotes$Voice" "count" "I"] ++ wsX00 ++ wsX10 ++ (vx_atS RX1 28 "java/lang/IllegalStateException" ["java/lang/RuntimeException", "java/lang/Exception"]).filter goodWord ++ (vx_atS RX1 176 "java/lang/IndexOutOfBoundsException" ["java/lang/RuntimeException", "java/lang/Exception"]).filter goodWord)
def wsX1_voiceWithSign : List Cond := .code yX1_voiceWithSign cX1_voiceWithSign 4 (some (.object "ChoirNotes$Voice")) :: ([.classLink RX1 172 "java/lang/IndexOutOfBoundsException", .initialized "java/lang/IndexOutOfBoundsException", .methodLink RX1 34 yX1_knownVoice, .instanceMethod yX1_knownVoice, .selects RX1 yX1_knownVoice yX1_knownVoice, .initialized RX1, .code yX1_knownVoice cX1_knownVoice 2 (some (.object "ChoirNotes$Voice")), .fieldLink RX1 20 "ChoirNotes" "voiceCount" "I", .fieldLink RX1 11 "ChoirNotes" "book" "[LChoirNotes$Voice;"] ++ wsX00 ++ wsX10 ++ (vx_atS RX1 176 "java/lang/IndexOutOfBoundsException" ["java/lang/RuntimeException", "java/lang/Exception"]).filter goodWord)
def wsX1_recolour_r1 : List Cond := [Cond.classLink RX1 24 "java/lang/IllegalStateException", Cond.initialized "java/lang/IllegalStateException", Cond.methodLink RX1 73 yX1_voiceWithSign, Cond.instanceMethod yX1_voiceWithSign, Cond.selects RX1 yX1_voiceWithSign yX1_voiceWithSign, Cond.initialized RX1, Cond.code yX1_voiceWithSign cX1_voiceWithSign 4 (some (.object "ChoirNotes$Voice")), Cond.classLink RX1 172 "java/lang/IndexOutOfBoundsException", Cond.initialized "java/lang/IndexOutOfBoundsException", Cond.methodLink RX1 34 yX1_knownVoice, Cond.instanceMethod yX1_knownVoice, Cond.selects RX1 yX1_knownVoice yX1_knownVoice, Cond.code yX1_knownVoice cX1_knownVoice 2 (some (.object "ChoirNotes$Voice")), Cond.fieldLink RX1 20 "ChoirNotes" "voiceCount" "I", Cond.fieldLink RX1 11 "ChoirNotes" "book" "[LChoirNotes$Voice;", Cond.instanceMethod yX0_isRest, Cond.initialized RX0, Cond.selects RX0 yX0_isRest yX0_isRest, Cond.code yX0_isRest cX0_isRest 2 (some .boolean), Cond.fieldLink RX0 19 "ChoirNotes$Voice" "places" "[I", Cond.instanceMethod yX0_turnColour, Cond.selects RX0 yX0_turnColour yX0_turnColour, Cond.code yX0_turnColour cX0_turnColour 2 (some .boolean), Cond.fieldLink RX0 22 "ChoirNotes$Voice" "colours" "[Z"]
def wsX1_recolour_r2 : List Cond := [Cond.methodLink RX0 41 yX0_timeFrom, Cond.instanceMethod yX0_timeFrom, Cond.selects RX0 yX0_timeFrom yX0_timeFrom, Cond.code yX0_timeFrom cX0_timeFrom 3 none, Cond.fieldLink RX0 45 "ChoirNotes$Voice" "count" "I", Cond.fieldLink RX0 29 "ChoirNotes$Voice" "begins" "[I", Cond.fieldLink RX0 15 "ChoirNotes$Voice" "kinds" "[I", Cond.methodLink RX0 48 yX0_minimsByKind, Cond.instanceMethod yX0_minimsByKind, Cond.selects RX0 yX0_minimsByKind yX0_minimsByKind, Cond.code yX0_minimsByKind cX0_minimsByKind 3 (some .int), Cond.fieldLink RX0 32 "ChoirNotes$Voice" "brevesInLonga" "I", Cond.fieldLink RX0 35 "ChoirNotes$Voice" "semibrevesInBreve" "I", Cond.fieldLink RX0 38 "ChoirNotes$Voice" "minimsInSemibreve" "I"]
def wsX1_recolour : List Cond := .code yX1_recolour cX1_recolour 4 (some .boolean) :: ((wsX1_recolour_r1 ++ wsX1_recolour_r2) ++ wsX00 ++ wsX10 ++ (vx_atS RX1 28 "java/lang/IllegalStateException" ["java/lang/RuntimeException", "java/lang/Exception"]).filter goodWord ++ (vx_atS RX1 176 "java/lang/IndexOutOfBoundsException" ["java/lang/RuntimeException", "java/lang/Exception"]).filter goodWord)
def wsX1_setClef : List Cond := .code yX1_setClef cX1_setClef 5 (some .int) :: ([.methodLink RX1 34 yX1_knownVoice, .instanceMethod yX1_knownVoice, .selects RX1 yX1_knownVoice yX1_knownVoice, .initialized RX1, .code yX1_knownVoice cX1_knownVoice 2 (some (.object "ChoirNotes$Voice")), .classLink RX1 172 "java/lang/IndexOutOfBoundsException", .initialized "java/lang/IndexOutOfBoundsException", .fieldLink RX1 20 "ChoirNotes" "voiceCount" "I", .fieldLink RX1 11 "ChoirNotes" "book" "[LChoirNotes$Voice;", .methodLink RX1 38 yX1_checkRange, .static yX1_checkRange, .code yX1_checkRange cX1_checkRange 3 none, .classLink RX1 179 "java/lang/IllegalArgumentException", .initialized "java/lang/IllegalArgumentException"] ++ wsX00 ++ wsX10 ++ (vx_atS RX1 176 "java/lang/IndexOutOfBoundsException" ["java/lang/RuntimeException", "java/lang/Exception"]).filter goodWord ++ (vx_atS RX1 183 "java/lang/IllegalArgumentException" ["java/lang/RuntimeException", "java/lang/Exception"]).filter goodWord)
def wsX1_setMensuration_r1 : List Cond := [Cond.methodLink RX1 34 yX1_knownVoice, Cond.instanceMethod yX1_knownVoice, Cond.selects RX1 yX1_knownVoice yX1_knownVoice, Cond.initialized RX1, Cond.code yX1_knownVoice cX1_knownVoice 2 (some (.object "ChoirNotes$Voice")), Cond.classLink RX1 172 "java/lang/IndexOutOfBoundsException", Cond.initialized "java/lang/IndexOutOfBoundsException", Cond.fieldLink RX1 20 "ChoirNotes" "voiceCount" "I", Cond.fieldLink RX1 11 "ChoirNotes" "book" "[LChoirNotes$Voice;", Cond.methodLink RX1 16 yX1_checkMensuration, Cond.static yX1_checkMensuration, Cond.code yX1_checkMensuration cX1_checkMensuration 3 none, Cond.methodLink RX1 38 yX1_checkRange, Cond.static yX1_checkRange, Cond.code yX1_checkRange cX1_checkRange 3 none, Cond.classLink RX1 179 "java/lang/IllegalArgumentException", Cond.initialized "java/lang/IllegalArgumentException", Cond.instanceMethod yX0_measure, Cond.initialized RX0, Cond.selects RX0 yX0_measure yX0_measure, Cond.code yX0_measure cX0_measure 4 none, Cond.fieldLink RX0 32 "ChoirNotes$Voice" "brevesInLonga" "I", Cond.fieldLink RX0 35 "ChoirNotes$Voice" "semibrevesInBreve" "I", Cond.fieldLink RX0 38 "ChoirNotes$Voice" "minimsInSemibreve" "I"]
def wsX1_setMensuration_r2 : List Cond := [Cond.methodLink RX0 41 yX0_timeFrom, Cond.instanceMethod yX0_timeFrom, Cond.selects RX0 yX0_timeFrom yX0_timeFrom, Cond.code yX0_timeFrom cX0_timeFrom 3 none, Cond.fieldLink RX0 45 "ChoirNotes$Voice" "count" "I", Cond.fieldLink RX0 29 "ChoirNotes$Voice" "begins" "[I", Cond.fieldLink RX0 15 "ChoirNotes$Voice" "kinds" "[I", Cond.fieldLink RX0 22 "ChoirNotes$Voice" "colours" "[Z", Cond.methodLink RX0 48 yX0_minimsByKind, Cond.instanceMethod yX0_minimsByKind, Cond.selects RX0 yX0_minimsByKind yX0_minimsByKind, Cond.code yX0_minimsByKind cX0_minimsByKind 3 (some .int), Cond.instanceMethod yX0_end, Cond.selects RX0 yX0_end yX0_end, Cond.code yX0_end cX0_end 1 (some .int)]
def wsX1_setMensuration : List Cond := .code yX1_setMensuration cX1_setMensuration 6 (some .int) :: ((wsX1_setMensuration_r1 ++ wsX1_setMensuration_r2) ++ wsX10 ++ wsX00 ++ (vx_atS RX1 176 "java/lang/IndexOutOfBoundsException" ["java/lang/RuntimeException", "java/lang/Exception"]).filter goodWord ++ (vx_atS RX1 183 "java/lang/IllegalArgumentException" ["java/lang/RuntimeException", "java/lang/Exception"]).filter goodWord)
def wsX1_voices : List Cond := .code yX1_voices cX1_voices 1 (some .int) :: ([.fieldLink RX1 20 "ChoirNotes" "voiceCount" "I"] ++ wsX10)
def wsX1_signs : List Cond := .code yX1_signs cX1_signs 2 (some .int) :: ([.methodLink RX1 34 yX1_knownVoice, .instanceMethod yX1_knownVoice, .selects RX1 yX1_knownVoice yX1_knownVoice, .initialized RX1, .code yX1_knownVoice cX1_knownVoice 2 (some (.object "ChoirNotes$Voice")), .classLink RX1 172 "java/lang/IndexOutOfBoundsException", .initialized "java/lang/IndexOutOfBoundsException", .fieldLink RX1 20 "ChoirNotes" "voiceCount" "I", .fieldLink RX1 11 "ChoirNotes" "book" "[LChoirNotes$Voice;"] ++ wsX00 ++ wsX10 ++ (vx_atS RX1 176 "java/lang/IndexOutOfBoundsException" ["java/lang/RuntimeException", "java/lang/Exception"]).filter goodWord)
def wsX1_notes : List Cond := .code yX1_notes cX1_notes 2 (some .int) :: ([.methodLink RX1 34 yX1_knownVoice, .instanceMethod yX1_knownVoice, .selects RX1 yX1_knownVoice yX1_knownVoice, .initialized RX1, .code yX1_knownVoice cX1_knownVoice 2 (some (.object "ChoirNotes$Voice")), .classLink RX1 172 "java/lang/IndexOutOfBoundsException", .initialized "java/lang/IndexOutOfBoundsException", .fieldLink RX1 20 "ChoirNotes" "voiceCount" "I", .fieldLink RX1 11 "ChoirNotes" "book" "[LChoirNotes$Voice;", .instanceMethod yX0_countNotes, .initialized RX0, .selects RX0 yX0_countNotes yX0_countNotes, .code yX0_countNotes cX0_countNotes 3 (some .int), .fieldLink RX0 45 "ChoirNotes$Voice" "count" "I", .methodLink RX0 52 yX0_isRest, .instanceMethod yX0_isRest, .selects RX0 yX0_isRest yX0_isRest, .code yX0_isRest cX0_isRest 2 (some .boolean), .fieldLink RX0 19 "ChoirNotes$Voice" "places" "[I"] ++ wsX10 ++ wsX00 ++ (vx_atS RX1 176 "java/lang/IndexOutOfBoundsException" ["java/lang/RuntimeException", "java/lang/Exception"]).filter goodWord)
def wsX1_ligatures : List Cond := .code yX1_ligatures cX1_ligatures 2 (some .int) :: ([.methodLink RX1 34 yX1_knownVoice, .instanceMethod yX1_knownVoice, .selects RX1 yX1_knownVoice yX1_knownVoice, .initialized RX1, .code yX1_knownVoice cX1_knownVoice 2 (some (.object "ChoirNotes$Voice")), .classLink RX1 172 "java/lang/IndexOutOfBoundsException", .initialized "java/lang/IndexOutOfBoundsException", .fieldLink RX1 20 "ChoirNotes" "voiceCount" "I", .fieldLink RX1 11 "ChoirNotes" "book" "[LChoirNotes$Voice;", .instanceMethod yX0_countLigatures, .initialized RX0, .selects RX0 yX0_countLigatures yX0_countLigatures, .code yX0_countLigatures cX0_countLigatures 3 (some .int), .fieldLink RX0 45 "ChoirNotes$Voice" "count" "I", .fieldLink RX0 26 "ChoirNotes$Voice" "ranks" "[I"] ++ wsX10 ++ wsX00 ++ (vx_atS RX1 176 "java/lang/IndexOutOfBoundsException" ["java/lang/RuntimeException", "java/lang/Exception"]).filter goodWord)
def wsX1_kindOf : List Cond := .code yX1_kindOf cX1_kindOf 3 (some .int) :: ([.methodLink RX1 73 yX1_voiceWithSign, .instanceMethod yX1_voiceWithSign, .selects RX1 yX1_voiceWithSign yX1_voiceWithSign, .initialized RX1, .code yX1_voiceWithSign cX1_voiceWithSign 4 (some (.object "ChoirNotes$Voice")), .classLink RX1 172 "java/lang/IndexOutOfBoundsException", .initialized "java/lang/IndexOutOfBoundsException", .methodLink RX1 34 yX1_knownVoice, .instanceMethod yX1_knownVoice, .selects RX1 yX1_knownVoice yX1_knownVoice, .code yX1_knownVoice cX1_knownVoice 2 (some (.object "ChoirNotes$Voice")), .fieldLink RX1 20 "ChoirNotes" "voiceCount" "I", .fieldLink RX1 11 "ChoirNotes" "book" "[LChoirNotes$Voice;"] ++ wsX00 ++ wsX10 ++ (vx_atS RX1 176 "java/lang/IndexOutOfBoundsException" ["java/lang/RuntimeException", "java/lang/Exception"]).filter goodWord)
def wsX1_placeOf : List Cond := .code yX1_placeOf cX1_placeOf 3 (some .int) :: ([.methodLink RX1 73 yX1_voiceWithSign, .instanceMethod yX1_voiceWithSign, .selects RX1 yX1_voiceWithSign yX1_voiceWithSign, .initialized RX1, .code yX1_voiceWithSign cX1_voiceWithSign 4 (some (.object "ChoirNotes$Voice")), .classLink RX1 172 "java/lang/IndexOutOfBoundsException", .initialized "java/lang/IndexOutOfBoundsException", .methodLink RX1 34 yX1_knownVoice, .instanceMethod yX1_knownVoice, .selects RX1 yX1_knownVoice yX1_knownVoice, .code yX1_knownVoice cX1_knownVoice 2 (some (.object "ChoirNotes$Voice")), .fieldLink RX1 20 "ChoirNotes" "voiceCount" "I", .fieldLink RX1 11 "ChoirNotes" "book" "[LChoirNotes$Voice;"] ++ wsX00 ++ wsX10 ++ (vx_atS RX1 176 "java/lang/IndexOutOfBoundsException" ["java/lang/RuntimeException", "java/lang/Exception"]).filter goodWord)
def wsX1_isColoured : List Cond := .code yX1_isColoured cX1_isColoured 3 (some .boolean) :: ([.methodLink RX1 73 yX1_voiceWithSign, .instanceMethod yX1_voiceWithSign, .selects RX1 yX1_voiceWithSign yX1_voiceWithSign, .initialized RX1, .code yX1_voiceWithSign cX1_voiceWithSign 4 (some (.object "ChoirNotes$Voice")), .classLink RX1 172 "java/lang/IndexOutOfBoundsException", .initialized "java/lang/IndexOutOfBoundsException", .methodLink RX1 34 yX1_knownVoice, .instanceMethod yX1_knownVoice, .selects RX1 yX1_knownVoice yX1_knownVoice, .code yX1_knownVoice cX1_knownVoice 2 (some (.object "ChoirNotes$Voice")), .fieldLink RX1 20 "ChoirNotes" "voiceCount" "I", .fieldLink RX1 11 "ChoirNotes" "book" "[LChoirNotes$Voice;"] ++ wsX00 ++ wsX10 ++ (vx_atS RX1 176 "java/lang/IndexOutOfBoundsException" ["java/lang/RuntimeException", "java/lang/Exception"]).filter goodWord)
def wsX1_placeInLigature : List Cond := .code yX1_placeInLigature cX1_placeInLigature 3 (some .int) :: ([.methodLink RX1 73 yX1_voiceWithSign, .instanceMethod yX1_voiceWithSign, .selects RX1 yX1_voiceWithSign yX1_voiceWithSign, .initialized RX1, .code yX1_voiceWithSign cX1_voiceWithSign 4 (some (.object "ChoirNotes$Voice")), .classLink RX1 172 "java/lang/IndexOutOfBoundsException", .initialized "java/lang/IndexOutOfBoundsException", .methodLink RX1 34 yX1_knownVoice, .instanceMethod yX1_knownVoice, .selects RX1 yX1_knownVoice yX1_knownVoice, .code yX1_knownVoice cX1_knownVoice 2 (some (.object "ChoirNotes$Voice")), .fieldLink RX1 20 "ChoirNotes" "voiceCount" "I", .fieldLink RX1 11 "ChoirNotes" "book" "[LChoirNotes$Voice;"] ++ wsX00 ++ wsX10 ++ (vx_atS RX1 176 "java/lang/IndexOutOfBoundsException" ["java/lang/RuntimeException", "java/lang/Exception"]).filter goodWord)
def wsX1_lengthOf : List Cond := .code yX1_lengthOf cX1_lengthOf 3 (some .int) :: ([.methodLink RX1 73 yX1_voiceWithSign, .instanceMethod yX1_voiceWithSign, .selects RX1 yX1_voiceWithSign yX1_voiceWithSign, .initialized RX1, .code yX1_voiceWithSign cX1_voiceWithSign 4 (some (.object "ChoirNotes$Voice")), .classLink RX1 172 "java/lang/IndexOutOfBoundsException", .initialized "java/lang/IndexOutOfBoundsException", .methodLink RX1 34 yX1_knownVoice, .instanceMethod yX1_knownVoice, .selects RX1 yX1_knownVoice yX1_knownVoice, .code yX1_knownVoice cX1_knownVoice 2 (some (.object "ChoirNotes$Voice")), .fieldLink RX1 20 "ChoirNotes" "voiceCount" "I", .fieldLink RX1 11 "ChoirNotes" "book" "[LChoirNotes$Voice;", .instanceMethod yX0_minimsOf, .initialized RX0, .selects RX0 yX0_minimsOf yX0_minimsOf, .code yX0_minimsOf cX0_minimsOf 2 (some .int), .fieldLink RX0 29 "ChoirNotes$Voice" "begins" "[I"] ++ wsX00 ++ wsX10 ++ (vx_atS RX1 176 "java/lang/IndexOutOfBoundsException" ["java/lang/RuntimeException", "java/lang/Exception"]).filter goodWord)
def wsX1_beginOf : List Cond := .code yX1_beginOf cX1_beginOf 3 (some .int) :: ([.methodLink RX1 73 yX1_voiceWithSign, .instanceMethod yX1_voiceWithSign, .selects RX1 yX1_voiceWithSign yX1_voiceWithSign, .initialized RX1, .code yX1_voiceWithSign cX1_voiceWithSign 4 (some (.object "ChoirNotes$Voice")), .classLink RX1 172 "java/lang/IndexOutOfBoundsException", .initialized "java/lang/IndexOutOfBoundsException", .methodLink RX1 34 yX1_knownVoice, .instanceMethod yX1_knownVoice, .selects RX1 yX1_knownVoice yX1_knownVoice, .code yX1_knownVoice cX1_knownVoice 2 (some (.object "ChoirNotes$Voice")), .fieldLink RX1 20 "ChoirNotes" "voiceCount" "I", .fieldLink RX1 11 "ChoirNotes" "book" "[LChoirNotes$Voice;"] ++ wsX00 ++ wsX10 ++ (vx_atS RX1 176 "java/lang/IndexOutOfBoundsException" ["java/lang/RuntimeException", "java/lang/Exception"]).filter goodWord)
def wsX1_length : List Cond := .code yX1_length cX1_length 2 (some .int) :: ([.methodLink RX1 34 yX1_knownVoice, .instanceMethod yX1_knownVoice, .selects RX1 yX1_knownVoice yX1_knownVoice, .initialized RX1, .code yX1_knownVoice cX1_knownVoice 2 (some (.object "ChoirNotes$Voice")), .classLink RX1 172 "java/lang/IndexOutOfBoundsException", .initialized "java/lang/IndexOutOfBoundsException", .fieldLink RX1 20 "ChoirNotes" "voiceCount" "I", .fieldLink RX1 11 "ChoirNotes" "book" "[LChoirNotes$Voice;", .instanceMethod yX0_end, .initialized RX0, .selects RX0 yX0_end yX0_end, .code yX0_end cX0_end 1 (some .int), .fieldLink RX0 29 "ChoirNotes$Voice" "begins" "[I", .fieldLink RX0 45 "ChoirNotes$Voice" "count" "I"] ++ wsX10 ++ wsX00 ++ (vx_atS RX1 176 "java/lang/IndexOutOfBoundsException" ["java/lang/RuntimeException", "java/lang/Exception"]).filter goodWord)
def wsX1_longest : List Cond := .code yX1_longest cX1_longest 3 (some .int) :: ([.fieldLink RX1 20 "ChoirNotes" "voiceCount" "I", .fieldLink RX1 11 "ChoirNotes" "book" "[LChoirNotes$Voice;", .methodLink RX1 119 Lib.Math.max.name, .static Lib.Math.max.name, .initialized "java/lang/Math", .code Lib.Math.max.name Lib.Math.max.code 2 (some .int), .instanceMethod yX0_end, .initialized RX0, .selects RX0 yX0_end yX0_end, .code yX0_end cX0_end 1 (some .int), .fieldLink RX0 29 "ChoirNotes$Voice" "begins" "[I", .fieldLink RX0 45 "ChoirNotes$Voice" "count" "I"] ++ wsX10 ++ wsX00)
def wsX1_signAt : List Cond := .code yX1_signAt cX1_signAt 4 (some .int) :: ([.constant RX1 126 (2147483647), .methodLink RX1 34 yX1_knownVoice, .instanceMethod yX1_knownVoice, .selects RX1 yX1_knownVoice yX1_knownVoice, .initialized RX1, .code yX1_knownVoice cX1_knownVoice 2 (some (.object "ChoirNotes$Voice")), .classLink RX1 172 "java/lang/IndexOutOfBoundsException", .initialized "java/lang/IndexOutOfBoundsException", .fieldLink RX1 20 "ChoirNotes" "voiceCount" "I", .fieldLink RX1 11 "ChoirNotes" "book" "[LChoirNotes$Voice;", .methodLink RX1 38 yX1_checkRange, .static yX1_checkRange, .code yX1_checkRange cX1_checkRange 3 none, .classLink RX1 179 "java/lang/IllegalArgumentException", .initialized "java/lang/IllegalArgumentException", .instanceMethod yX0_signLastingAt, .initialized RX0, .selects RX0 yX0_signLastingAt yX0_signLastingAt, .code yX0_signLastingAt cX0_signLastingAt 3 (some .int), .fieldLink RX0 45 "ChoirNotes$Voice" "count" "I", .fieldLink RX0 29 "ChoirNotes$Voice" "begins" "[I"] ++ wsX10 ++ wsX00 ++ (vx_atS RX1 176 "java/lang/IndexOutOfBoundsException" ["java/lang/RuntimeException", "java/lang/Exception"]).filter goodWord ++ (vx_atS RX1 183 "java/lang/IllegalArgumentException" ["java/lang/RuntimeException", "java/lang/Exception"]).filter goodWord)
def wsX1_clefOf : List Cond := .code yX1_clefOf cX1_clefOf 2 (some .int) :: ([.methodLink RX1 34 yX1_knownVoice, .instanceMethod yX1_knownVoice, .selects RX1 yX1_knownVoice yX1_knownVoice, .initialized RX1, .code yX1_knownVoice cX1_knownVoice 2 (some (.object "ChoirNotes$Voice")), .classLink RX1 172 "java/lang/IndexOutOfBoundsException", .initialized "java/lang/IndexOutOfBoundsException", .fieldLink RX1 20 "ChoirNotes" "voiceCount" "I", .fieldLink RX1 11 "ChoirNotes" "book" "[LChoirNotes$Voice;"] ++ wsX00 ++ wsX10 ++ (vx_atS RX1 176 "java/lang/IndexOutOfBoundsException" ["java/lang/RuntimeException", "java/lang/Exception"]).filter goodWord)
def wsX1_checkHasClef : List Cond := .code yX1_checkHasClef cX1_checkHasClef 1 none :: ([.classLink RX1 24 "java/lang/IllegalStateException", .initialized "java/lang/IllegalStateException"] ++ wsX00 ++ (vx_atS RX1 28 "java/lang/IllegalStateException" ["java/lang/RuntimeException", "java/lang/Exception"]).filter goodWord)
def wsX1_pitchOf : List Cond := .code yX1_pitchOf cX1_pitchOf 4 (some .int) :: ([.methodLink RX1 73 yX1_voiceWithSign, .instanceMethod yX1_voiceWithSign, .selects RX1 yX1_voiceWithSign yX1_voiceWithSign, .initialized RX1, .code yX1_voiceWithSign cX1_voiceWithSign 4 (some (.object "ChoirNotes$Voice")), .classLink RX1 172 "java/lang/IndexOutOfBoundsException", .initialized "java/lang/IndexOutOfBoundsException", .methodLink RX1 34 yX1_knownVoice, .instanceMethod yX1_knownVoice, .selects RX1 yX1_knownVoice yX1_knownVoice, .code yX1_knownVoice cX1_knownVoice 2 (some (.object "ChoirNotes$Voice")), .fieldLink RX1 20 "ChoirNotes" "voiceCount" "I", .fieldLink RX1 11 "ChoirNotes" "book" "[LChoirNotes$Voice;", .methodLink RX1 130 yX1_checkHasClef, .static yX1_checkHasClef, .code yX1_checkHasClef cX1_checkHasClef 1 none, .classLink RX1 24 "java/lang/IllegalStateException", .initialized "java/lang/IllegalStateException", .instanceMethod yX0_isRest, .initialized RX0, .selects RX0 yX0_isRest yX0_isRest, .code yX0_isRest cX0_isRest 2 (some .boolean), .fieldLink RX0 19 "ChoirNotes$Voice" "places" "[I"] ++ wsX00 ++ wsX10 ++ (vx_atS RX1 176 "java/lang/IndexOutOfBoundsException" ["java/lang/RuntimeException", "java/lang/Exception"]).filter goodWord ++ (vx_atS RX1 28 "java/lang/IllegalStateException" ["java/lang/RuntimeException", "java/lang/Exception"]).filter goodWord)
def wsX1_fits : List Cond := .code yX1_fits cX1_fits 4 (some .boolean) :: ([.methodLink RX1 34 yX1_knownVoice, .instanceMethod yX1_knownVoice, .selects RX1 yX1_knownVoice yX1_knownVoice, .initialized RX1, .code yX1_knownVoice cX1_knownVoice 2 (some (.object "ChoirNotes$Voice")), .classLink RX1 172 "java/lang/IndexOutOfBoundsException", .initialized "java/lang/IndexOutOfBoundsException", .fieldLink RX1 20 "ChoirNotes" "voiceCount" "I", .fieldLink RX1 11 "ChoirNotes" "book" "[LChoirNotes$Voice;", .methodLink RX1 38 yX1_checkRange, .static yX1_checkRange, .code yX1_checkRange cX1_checkRange 3 none, .classLink RX1 179 "java/lang/IllegalArgumentException", .initialized "java/lang/IllegalArgumentException", .instanceMethod yX0_wouldFit, .initialized RX0, .selects RX0 yX0_wouldFit yX0_wouldFit, .code yX0_wouldFit cX0_wouldFit 4 (some .boolean), .fieldLink RX0 45 "ChoirNotes$Voice" "count" "I", .fieldLink RX0 19 "ChoirNotes$Voice" "places" "[I", .methodLink RX0 52 yX0_isRest, .instanceMethod yX0_isRest, .selects RX0 yX0_isRest yX0_isRest, .code yX0_isRest cX0_isRest 2 (some .boolean)] ++ wsX10 ++ wsX00 ++ (vx_atS RX1 176 "java/lang/IndexOutOfBoundsException" ["java/lang/RuntimeException", "java/lang/Exception"]).filter goodWord ++ (vx_atS RX1 183 "java/lang/IllegalArgumentException" ["java/lang/RuntimeException", "java/lang/Exception"]).filter goodWord)
def wsX1_clefsThatFit : List Cond := .code yX1_clefsThatFit cX1_clefsThatFit 2 (some .int) :: ([.methodLink RX1 34 yX1_knownVoice, .instanceMethod yX1_knownVoice, .selects RX1 yX1_knownVoice yX1_knownVoice, .initialized RX1, .code yX1_knownVoice cX1_knownVoice 2 (some (.object "ChoirNotes$Voice")), .classLink RX1 172 "java/lang/IndexOutOfBoundsException", .initialized "java/lang/IndexOutOfBoundsException", .fieldLink RX1 20 "ChoirNotes" "voiceCount" "I", .fieldLink RX1 11 "ChoirNotes" "book" "[LChoirNotes$Voice;", .instanceMethod yX0_countFittingClefs, .initialized RX0, .selects RX0 yX0_countFittingClefs yX0_countFittingClefs, .code yX0_countFittingClefs cX0_countFittingClefs 3 (some .int), .methodLink RX0 56 yX0_wouldFit, .instanceMethod yX0_wouldFit, .selects RX0 yX0_wouldFit yX0_wouldFit, .code yX0_wouldFit cX0_wouldFit 4 (some .boolean), .fieldLink RX0 45 "ChoirNotes$Voice" "count" "I", .fieldLink RX0 19 "ChoirNotes$Voice" "places" "[I", .methodLink RX0 52 yX0_isRest, .instanceMethod yX0_isRest, .selects RX0 yX0_isRest yX0_isRest, .code yX0_isRest cX0_isRest 2 (some .boolean)] ++ wsX10 ++ wsX00 ++ (vx_atS RX1 176 "java/lang/IndexOutOfBoundsException" ["java/lang/RuntimeException", "java/lang/Exception"]).filter goodWord)
def wsX1_signsClash : List Cond := .code yX1_signsClash cX1_signsClash 6 (some .boolean) :: ([.methodLink RX1 197 Lib.Math.abs.name, .static Lib.Math.abs.name, .initialized "java/lang/Math", .code Lib.Math.abs.name Lib.Math.abs.code 1 (some .int), .instanceMethod yX0_isRest, .initialized RX0, .selects RX0 yX0_isRest yX0_isRest, .code yX0_isRest cX0_isRest 2 (some .boolean), .fieldLink RX0 19 "ChoirNotes$Voice" "places" "[I"] ++ wsX00)
def wsX1_clashingMinims : List Cond := .code yX1_clashingMinims cX1_clashingMinims 11 (some .int) :: ([.methodLink RX1 119 Lib.Math.max.name, .static Lib.Math.max.name, .initialized "java/lang/Math", .code Lib.Math.max.name Lib.Math.max.code 2 (some .int), .methodLink RX1 190 Lib.Math.min.name, .static Lib.Math.min.name, .code Lib.Math.min.name Lib.Math.min.code 2 (some .int), .methodLink RX1 193 yX1_signsClash, .static yX1_signsClash, .initialized RX1, .code yX1_signsClash cX1_signsClash 6 (some .boolean), .methodLink RX1 197 Lib.Math.abs.name, .static Lib.Math.abs.name, .code Lib.Math.abs.name Lib.Math.abs.code 1 (some .int), .instanceMethod yX0_isRest, .initialized RX0, .selects RX0 yX0_isRest yX0_isRest, .code yX0_isRest cX0_isRest 2 (some .boolean), .fieldLink RX0 19 "ChoirNotes$Voice" "places" "[I"] ++ wsX00)
def wsX1_clashes_r1 : List Cond := [Cond.methodLink RX1 34 yX1_knownVoice, Cond.instanceMethod yX1_knownVoice, Cond.selects RX1 yX1_knownVoice yX1_knownVoice, Cond.initialized RX1, Cond.code yX1_knownVoice cX1_knownVoice 2 (some (.object "ChoirNotes$Voice")), Cond.classLink RX1 172 "java/lang/IndexOutOfBoundsException", Cond.initialized "java/lang/IndexOutOfBoundsException", Cond.fieldLink RX1 20 "ChoirNotes" "voiceCount" "I", Cond.fieldLink RX1 11 "ChoirNotes" "book" "[LChoirNotes$Voice;", Cond.methodLink RX1 130 yX1_checkHasClef, Cond.static yX1_checkHasClef, Cond.code yX1_checkHasClef cX1_checkHasClef 1 none, Cond.classLink RX1 24 "java/lang/IllegalStateException", Cond.initialized "java/lang/IllegalStateException", Cond.methodLink RX1 140 yX1_clashingMinims, Cond.static yX1_clashingMinims, Cond.code yX1_clashingMinims cX1_clashingMinims 11 (some .int), Cond.methodLink RX1 119 Lib.Math.max.name, Cond.static Lib.Math.max.name, Cond.initialized "java/lang/Math", Cond.code Lib.Math.max.name Lib.Math.max.code 2 (some .int), Cond.methodLink RX1 190 Lib.Math.min.name, Cond.static Lib.Math.min.name, Cond.code Lib.Math.min.name Lib.Math.min.code 2 (some .int)]
def wsX1_clashes_r2 : List Cond := [Cond.methodLink RX1 193 yX1_signsClash, Cond.static yX1_signsClash, Cond.code yX1_signsClash cX1_signsClash 6 (some .boolean), Cond.methodLink RX1 197 Lib.Math.abs.name, Cond.static Lib.Math.abs.name, Cond.code Lib.Math.abs.name Lib.Math.abs.code 1 (some .int), Cond.instanceMethod yX0_isRest, Cond.initialized RX0, Cond.selects RX0 yX0_isRest yX0_isRest, Cond.code yX0_isRest cX0_isRest 2 (some .boolean), Cond.fieldLink RX0 19 "ChoirNotes$Voice" "places" "[I"]
def wsX1_clashes : List Cond := .code yX1_clashes cX1_clashes 5 (some .int) :: ((wsX1_clashes_r1 ++ wsX1_clashes_r2) ++ wsX00 ++ wsX10 ++ (vx_atS RX1 176 "java/lang/IndexOutOfBoundsException" ["java/lang/RuntimeException", "java/lang/Exception"]).filter goodWord ++ (vx_atS RX1 28 "java/lang/IllegalStateException" ["java/lang/RuntimeException", "java/lang/Exception"]).filter goodWord)
def wsX1_firstClashingMinim : List Cond := .code yX1_firstClashingMinim cX1_firstClashingMinim 9 (some .int) :: ([.methodLink RX1 119 Lib.Math.max.name, .static Lib.Math.max.name, .initialized "java/lang/Math", .code Lib.Math.max.name Lib.Math.max.code 2 (some .int), .methodLink RX1 190 Lib.Math.min.name, .static Lib.Math.min.name, .code Lib.Math.min.name Lib.Math.min.code 2 (some .int), .methodLink RX1 193 yX1_signsClash, .static yX1_signsClash, .initialized RX1, .code yX1_signsClash cX1_signsClash 6 (some .boolean), .methodLink RX1 197 Lib.Math.abs.name, .static Lib.Math.abs.name, .code Lib.Math.abs.name Lib.Math.abs.code 1 (some .int), .instanceMethod yX0_isRest, .initialized RX0, .selects RX0 yX0_isRest yX0_isRest, .code yX0_isRest cX0_isRest 2 (some .boolean), .fieldLink RX0 19 "ChoirNotes$Voice" "places" "[I"] ++ wsX00)
def wsX1_firstClash_r1 : List Cond := [Cond.methodLink RX1 34 yX1_knownVoice, Cond.instanceMethod yX1_knownVoice, Cond.selects RX1 yX1_knownVoice yX1_knownVoice, Cond.initialized RX1, Cond.code yX1_knownVoice cX1_knownVoice 2 (some (.object "ChoirNotes$Voice")), Cond.classLink RX1 172 "java/lang/IndexOutOfBoundsException", Cond.initialized "java/lang/IndexOutOfBoundsException", Cond.fieldLink RX1 20 "ChoirNotes" "voiceCount" "I", Cond.fieldLink RX1 11 "ChoirNotes" "book" "[LChoirNotes$Voice;", Cond.methodLink RX1 130 yX1_checkHasClef, Cond.static yX1_checkHasClef, Cond.code yX1_checkHasClef cX1_checkHasClef 1 none, Cond.classLink RX1 24 "java/lang/IllegalStateException", Cond.initialized "java/lang/IllegalStateException", Cond.methodLink RX1 144 yX1_firstClashingMinim, Cond.static yX1_firstClashingMinim, Cond.code yX1_firstClashingMinim cX1_firstClashingMinim 9 (some .int), Cond.methodLink RX1 119 Lib.Math.max.name, Cond.static Lib.Math.max.name, Cond.initialized "java/lang/Math", Cond.code Lib.Math.max.name Lib.Math.max.code 2 (some .int), Cond.methodLink RX1 190 Lib.Math.min.name, Cond.static Lib.Math.min.name, Cond.code Lib.Math.min.name Lib.Math.min.code 2 (some .int)]
def wsX1_firstClash_r2 : List Cond := [Cond.methodLink RX1 193 yX1_signsClash, Cond.static yX1_signsClash, Cond.code yX1_signsClash cX1_signsClash 6 (some .boolean), Cond.methodLink RX1 197 Lib.Math.abs.name, Cond.static Lib.Math.abs.name, Cond.code Lib.Math.abs.name Lib.Math.abs.code 1 (some .int), Cond.instanceMethod yX0_isRest, Cond.initialized RX0, Cond.selects RX0 yX0_isRest yX0_isRest, Cond.code yX0_isRest cX0_isRest 2 (some .boolean), Cond.fieldLink RX0 19 "ChoirNotes$Voice" "places" "[I"]
def wsX1_firstClash : List Cond := .code yX1_firstClash cX1_firstClash 5 (some .int) :: ((wsX1_firstClash_r1 ++ wsX1_firstClash_r2) ++ wsX00 ++ wsX10 ++ (vx_atS RX1 176 "java/lang/IndexOutOfBoundsException" ["java/lang/RuntimeException", "java/lang/Exception"]).filter goodWord ++ (vx_atS RX1 28 "java/lang/IllegalStateException" ["java/lang/RuntimeException", "java/lang/Exception"]).filter goodWord)
def wsX1_clashesIfClef : List Cond := .code yX1_clashesIfClef cX1_clashesIfClef 6 (some .int) :: ([.fieldLink RX1 20 "ChoirNotes" "voiceCount" "I", .fieldLink RX1 11 "ChoirNotes" "book" "[LChoirNotes$Voice;", .methodLink RX1 140 yX1_clashingMinims, .static yX1_clashingMinims, .initialized RX1, .code yX1_clashingMinims cX1_clashingMinims 11 (some .int), .methodLink RX1 119 Lib.Math.max.name, .static Lib.Math.max.name, .initialized "java/lang/Math", .code Lib.Math.max.name Lib.Math.max.code 2 (some .int), .methodLink RX1 190 Lib.Math.min.name, .static Lib.Math.min.name, .code Lib.Math.min.name Lib.Math.min.code 2 (some .int), .methodLink RX1 193 yX1_signsClash, .static yX1_signsClash, .code yX1_signsClash cX1_signsClash 6 (some .boolean), .methodLink RX1 197 Lib.Math.abs.name, .static Lib.Math.abs.name, .code Lib.Math.abs.name Lib.Math.abs.code 1 (some .int), .instanceMethod yX0_isRest, .initialized RX0, .selects RX0 yX0_isRest yX0_isRest, .code yX0_isRest cX0_isRest 2 (some .boolean), .fieldLink RX0 19 "ChoirNotes$Voice" "places" "[I"] ++ wsX10 ++ wsX00)
def wsX1_clashesWith_r1 : List Cond := [Cond.methodLink RX1 34 yX1_knownVoice, Cond.instanceMethod yX1_knownVoice, Cond.selects RX1 yX1_knownVoice yX1_knownVoice, Cond.initialized RX1, Cond.code yX1_knownVoice cX1_knownVoice 2 (some (.object "ChoirNotes$Voice")), Cond.classLink RX1 172 "java/lang/IndexOutOfBoundsException", Cond.initialized "java/lang/IndexOutOfBoundsException", Cond.fieldLink RX1 20 "ChoirNotes" "voiceCount" "I", Cond.fieldLink RX1 11 "ChoirNotes" "book" "[LChoirNotes$Voice;", Cond.methodLink RX1 38 yX1_checkRange, Cond.static yX1_checkRange, Cond.code yX1_checkRange cX1_checkRange 3 none, Cond.classLink RX1 179 "java/lang/IllegalArgumentException", Cond.initialized "java/lang/IllegalArgumentException", Cond.methodLink RX1 148 yX1_clashesIfClef, Cond.instanceMethod yX1_clashesIfClef, Cond.selects RX1 yX1_clashesIfClef yX1_clashesIfClef, Cond.code yX1_clashesIfClef cX1_clashesIfClef 6 (some .int), Cond.methodLink RX1 140 yX1_clashingMinims, Cond.static yX1_clashingMinims, Cond.code yX1_clashingMinims cX1_clashingMinims 11 (some .int), Cond.methodLink RX1 119 Lib.Math.max.name, Cond.static Lib.Math.max.name, Cond.initialized "java/lang/Math"]
def wsX1_clashesWith_r2 : List Cond := [Cond.code Lib.Math.max.name Lib.Math.max.code 2 (some .int), Cond.methodLink RX1 190 Lib.Math.min.name, Cond.static Lib.Math.min.name, Cond.code Lib.Math.min.name Lib.Math.min.code 2 (some .int), Cond.methodLink RX1 193 yX1_signsClash, Cond.static yX1_signsClash, Cond.code yX1_signsClash cX1_signsClash 6 (some .boolean), Cond.methodLink RX1 197 Lib.Math.abs.name, Cond.static Lib.Math.abs.name, Cond.code Lib.Math.abs.name Lib.Math.abs.code 1 (some .int), Cond.instanceMethod yX0_isRest, Cond.initialized RX0, Cond.selects RX0 yX0_isRest yX0_isRest, Cond.code yX0_isRest cX0_isRest 2 (some .boolean), Cond.fieldLink RX0 19 "ChoirNotes$Voice" "places" "[I"]
def wsX1_clashesWith : List Cond := .code yX1_clashesWith cX1_clashesWith 4 (some .int) :: ((wsX1_clashesWith_r1 ++ wsX1_clashesWith_r2) ++ wsX10 ++ wsX00 ++ (vx_atS RX1 176 "java/lang/IndexOutOfBoundsException" ["java/lang/RuntimeException", "java/lang/Exception"]).filter goodWord ++ (vx_atS RX1 183 "java/lang/IllegalArgumentException" ["java/lang/RuntimeException", "java/lang/Exception"]).filter goodWord)
def wsX1_clefWithFewestClashes_r1 : List Cond := [Cond.constant RX1 126 (2147483647), Cond.instanceMethod yX0_wouldFit, Cond.initialized RX0, Cond.selects RX0 yX0_wouldFit yX0_wouldFit, Cond.code yX0_wouldFit cX0_wouldFit 4 (some .boolean), Cond.fieldLink RX0 45 "ChoirNotes$Voice" "count" "I", Cond.fieldLink RX0 19 "ChoirNotes$Voice" "places" "[I", Cond.methodLink RX0 52 yX0_isRest, Cond.instanceMethod yX0_isRest, Cond.selects RX0 yX0_isRest yX0_isRest, Cond.code yX0_isRest cX0_isRest 2 (some .boolean), Cond.methodLink RX1 148 yX1_clashesIfClef, Cond.instanceMethod yX1_clashesIfClef, Cond.selects RX1 yX1_clashesIfClef yX1_clashesIfClef, Cond.initialized RX1, Cond.code yX1_clashesIfClef cX1_clashesIfClef 6 (some .int), Cond.fieldLink RX1 20 "ChoirNotes" "voiceCount" "I", Cond.fieldLink RX1 11 "ChoirNotes" "book" "[LChoirNotes$Voice;", Cond.methodLink RX1 140 yX1_clashingMinims, Cond.static yX1_clashingMinims, Cond.code yX1_clashingMinims cX1_clashingMinims 11 (some .int), Cond.methodLink RX1 119 Lib.Math.max.name, Cond.static Lib.Math.max.name, Cond.initialized "java/lang/Math"]
def wsX1_clefWithFewestClashes_r2 : List Cond := [Cond.code Lib.Math.max.name Lib.Math.max.code 2 (some .int), Cond.methodLink RX1 190 Lib.Math.min.name, Cond.static Lib.Math.min.name, Cond.code Lib.Math.min.name Lib.Math.min.code 2 (some .int), Cond.methodLink RX1 193 yX1_signsClash, Cond.static yX1_signsClash, Cond.code yX1_signsClash cX1_signsClash 6 (some .boolean), Cond.methodLink RX1 197 Lib.Math.abs.name, Cond.static Lib.Math.abs.name, Cond.code Lib.Math.abs.name Lib.Math.abs.code 1 (some .int)]
def wsX1_clefWithFewestClashes : List Cond := .code yX1_clefWithFewestClashes cX1_clefWithFewestClashes 6 (some .int) :: ((wsX1_clefWithFewestClashes_r1 ++ wsX1_clefWithFewestClashes_r2) ++ wsX00 ++ wsX10)
def wsX1_bestClef_r1 : List Cond := [Cond.methodLink RX1 34 yX1_knownVoice, Cond.instanceMethod yX1_knownVoice, Cond.selects RX1 yX1_knownVoice yX1_knownVoice, Cond.initialized RX1, Cond.code yX1_knownVoice cX1_knownVoice 2 (some (.object "ChoirNotes$Voice")), Cond.classLink RX1 172 "java/lang/IndexOutOfBoundsException", Cond.initialized "java/lang/IndexOutOfBoundsException", Cond.fieldLink RX1 20 "ChoirNotes" "voiceCount" "I", Cond.fieldLink RX1 11 "ChoirNotes" "book" "[LChoirNotes$Voice;", Cond.methodLink RX1 152 yX1_clefWithFewestClashes, Cond.instanceMethod yX1_clefWithFewestClashes, Cond.selects RX1 yX1_clefWithFewestClashes yX1_clefWithFewestClashes, Cond.code yX1_clefWithFewestClashes cX1_clefWithFewestClashes 6 (some .int), Cond.constant RX1 126 (2147483647), Cond.instanceMethod yX0_wouldFit, Cond.initialized RX0, Cond.selects RX0 yX0_wouldFit yX0_wouldFit, Cond.code yX0_wouldFit cX0_wouldFit 4 (some .boolean), Cond.fieldLink RX0 45 "ChoirNotes$Voice" "count" "I", Cond.fieldLink RX0 19 "ChoirNotes$Voice" "places" "[I", Cond.methodLink RX0 52 yX0_isRest, Cond.instanceMethod yX0_isRest, Cond.selects RX0 yX0_isRest yX0_isRest, Cond.code yX0_isRest cX0_isRest 2 (some .boolean)]
def wsX1_bestClef_r2 : List Cond := [Cond.methodLink RX1 148 yX1_clashesIfClef, Cond.instanceMethod yX1_clashesIfClef, Cond.selects RX1 yX1_clashesIfClef yX1_clashesIfClef, Cond.code yX1_clashesIfClef cX1_clashesIfClef 6 (some .int), Cond.methodLink RX1 140 yX1_clashingMinims, Cond.static yX1_clashingMinims, Cond.code yX1_clashingMinims cX1_clashingMinims 11 (some .int), Cond.methodLink RX1 119 Lib.Math.max.name, Cond.static Lib.Math.max.name, Cond.initialized "java/lang/Math", Cond.code Lib.Math.max.name Lib.Math.max.code 2 (some .int), Cond.methodLink RX1 190 Lib.Math.min.name, Cond.static Lib.Math.min.name, Cond.code Lib.Math.min.name Lib.Math.min.code 2 (some .int), Cond.methodLink RX1 193 yX1_signsClash, Cond.static yX1_signsClash, Cond.code yX1_signsClash cX1_signsClash 6 (some .boolean), Cond.methodLink RX1 197 Lib.Math.abs.name, Cond.static Lib.Math.abs.name, Cond.code Lib.Math.abs.name Lib.Math.abs.code 1 (some .int)]
def wsX1_bestClef : List Cond := .code yX1_bestClef cX1_bestClef 2 (some .int) :: ((wsX1_bestClef_r1 ++ wsX1_bestClef_r2) ++ wsX10 ++ wsX00 ++ (vx_atS RX1 176 "java/lang/IndexOutOfBoundsException" ["java/lang/RuntimeException", "java/lang/Exception"]).filter goodWord)
def wsX1_canonClashes_r1 : List Cond := [Cond.methodLink RX1 34 yX1_knownVoice, Cond.instanceMethod yX1_knownVoice, Cond.selects RX1 yX1_knownVoice yX1_knownVoice, Cond.initialized RX1, Cond.code yX1_knownVoice cX1_knownVoice 2 (some (.object "ChoirNotes$Voice")), Cond.classLink RX1 172 "java/lang/IndexOutOfBoundsException", Cond.initialized "java/lang/IndexOutOfBoundsException", Cond.fieldLink RX1 20 "ChoirNotes" "voiceCount" "I", Cond.fieldLink RX1 11 "ChoirNotes" "book" "[LChoirNotes$Voice;", Cond.methodLink RX1 38 yX1_checkRange, Cond.static yX1_checkRange, Cond.code yX1_checkRange cX1_checkRange 3 none, Cond.classLink RX1 179 "java/lang/IllegalArgumentException", Cond.initialized "java/lang/IllegalArgumentException", Cond.methodLink RX1 140 yX1_clashingMinims, Cond.static yX1_clashingMinims, Cond.code yX1_clashingMinims cX1_clashingMinims 11 (some .int), Cond.methodLink RX1 119 Lib.Math.max.name, Cond.static Lib.Math.max.name, Cond.initialized "java/lang/Math", Cond.code Lib.Math.max.name Lib.Math.max.code 2 (some .int), Cond.methodLink RX1 190 Lib.Math.min.name, Cond.static Lib.Math.min.name, Cond.code Lib.Math.min.name Lib.Math.min.code 2 (some .int)]
def wsX1_canonClashes_r2 : List Cond := [Cond.methodLink RX1 193 yX1_signsClash, Cond.static yX1_signsClash, Cond.code yX1_signsClash cX1_signsClash 6 (some .boolean), Cond.methodLink RX1 197 Lib.Math.abs.name, Cond.static Lib.Math.abs.name, Cond.code Lib.Math.abs.name Lib.Math.abs.code 1 (some .int), Cond.instanceMethod yX0_isRest, Cond.initialized RX0, Cond.selects RX0 yX0_isRest yX0_isRest, Cond.code yX0_isRest cX0_isRest 2 (some .boolean), Cond.fieldLink RX0 19 "ChoirNotes$Voice" "places" "[I"]
def wsX1_canonClashes : List Cond := .code yX1_canonClashes cX1_canonClashes 5 (some .int) :: ((wsX1_canonClashes_r1 ++ wsX1_canonClashes_r2) ++ wsX10 ++ wsX00 ++ (vx_atS RX1 176 "java/lang/IndexOutOfBoundsException" ["java/lang/RuntimeException", "java/lang/Exception"]).filter goodWord ++ (vx_atS RX1 183 "java/lang/IllegalArgumentException" ["java/lang/RuntimeException", "java/lang/Exception"]).filter goodWord)
def wsX1_delayWithFewestClashes : List Cond := .code yX1_delayWithFewestClashes cX1_delayWithFewestClashes 6 (some .int) :: ([.constant RX1 126 (2147483647), .methodLink RX1 140 yX1_clashingMinims, .static yX1_clashingMinims, .initialized RX1, .code yX1_clashingMinims cX1_clashingMinims 11 (some .int), .methodLink RX1 119 Lib.Math.max.name, .static Lib.Math.max.name, .initialized "java/lang/Math", .code Lib.Math.max.name Lib.Math.max.code 2 (some .int), .methodLink RX1 190 Lib.Math.min.name, .static Lib.Math.min.name, .code Lib.Math.min.name Lib.Math.min.code 2 (some .int), .methodLink RX1 193 yX1_signsClash, .static yX1_signsClash, .code yX1_signsClash cX1_signsClash 6 (some .boolean), .methodLink RX1 197 Lib.Math.abs.name, .static Lib.Math.abs.name, .code Lib.Math.abs.name Lib.Math.abs.code 1 (some .int), .instanceMethod yX0_isRest, .initialized RX0, .selects RX0 yX0_isRest yX0_isRest, .code yX0_isRest cX0_isRest 2 (some .boolean), .fieldLink RX0 19 "ChoirNotes$Voice" "places" "[I"] ++ wsX00)
def wsX1_bestDelay_r1 : List Cond := [Cond.methodLink RX1 34 yX1_knownVoice, Cond.instanceMethod yX1_knownVoice, Cond.selects RX1 yX1_knownVoice yX1_knownVoice, Cond.initialized RX1, Cond.code yX1_knownVoice cX1_knownVoice 2 (some (.object "ChoirNotes$Voice")), Cond.classLink RX1 172 "java/lang/IndexOutOfBoundsException", Cond.initialized "java/lang/IndexOutOfBoundsException", Cond.fieldLink RX1 20 "ChoirNotes" "voiceCount" "I", Cond.fieldLink RX1 11 "ChoirNotes" "book" "[LChoirNotes$Voice;", Cond.methodLink RX1 38 yX1_checkRange, Cond.static yX1_checkRange, Cond.code yX1_checkRange cX1_checkRange 3 none, Cond.classLink RX1 179 "java/lang/IllegalArgumentException", Cond.initialized "java/lang/IllegalArgumentException", Cond.methodLink RX1 156 yX1_delayWithFewestClashes, Cond.static yX1_delayWithFewestClashes, Cond.code yX1_delayWithFewestClashes cX1_delayWithFewestClashes 6 (some .int), Cond.constant RX1 126 (2147483647), Cond.methodLink RX1 140 yX1_clashingMinims, Cond.static yX1_clashingMinims, Cond.code yX1_clashingMinims cX1_clashingMinims 11 (some .int), Cond.methodLink RX1 119 Lib.Math.max.name, Cond.static Lib.Math.max.name, Cond.initialized "java/lang/Math"]
def wsX1_bestDelay_r2 : List Cond := [Cond.code Lib.Math.max.name Lib.Math.max.code 2 (some .int), Cond.methodLink RX1 190 Lib.Math.min.name, Cond.static Lib.Math.min.name, Cond.code Lib.Math.min.name Lib.Math.min.code 2 (some .int), Cond.methodLink RX1 193 yX1_signsClash, Cond.static yX1_signsClash, Cond.code yX1_signsClash cX1_signsClash 6 (some .boolean), Cond.methodLink RX1 197 Lib.Math.abs.name, Cond.static Lib.Math.abs.name, Cond.code Lib.Math.abs.name Lib.Math.abs.code 1 (some .int), Cond.instanceMethod yX0_isRest, Cond.initialized RX0, Cond.selects RX0 yX0_isRest yX0_isRest, Cond.code yX0_isRest cX0_isRest 2 (some .boolean), Cond.fieldLink RX0 19 "ChoirNotes$Voice" "places" "[I"]
def wsX1_bestDelay : List Cond := .code yX1_bestDelay cX1_bestDelay 4 (some .int) :: ((wsX1_bestDelay_r1 ++ wsX1_bestDelay_r2) ++ wsX10 ++ wsX00 ++ (vx_atS RX1 176 "java/lang/IndexOutOfBoundsException" ["java/lang/RuntimeException", "java/lang/Exception"]).filter goodWord ++ (vx_atS RX1 183 "java/lang/IllegalArgumentException" ["java/lang/RuntimeException", "java/lang/Exception"]).filter goodWord)
def wsX1_meanLength : List Cond := .code yX1_meanLength cX1_meanLength 3 (some .double) :: ([.fieldLink RX1 20 "ChoirNotes" "voiceCount" "I", .fieldLink RX1 11 "ChoirNotes" "book" "[LChoirNotes$Voice;", .instanceMethod yX0_end, .initialized RX0, .selects RX0 yX0_end yX0_end, .code yX0_end cX0_end 1 (some .int), .fieldLink RX0 29 "ChoirNotes$Voice" "begins" "[I", .fieldLink RX0 45 "ChoirNotes$Voice" "count" "I"] ++ wsX10 ++ wsX00)
def wsX1_mix : List Cond := .code yX1_mix cX1_mix 3 (some .long) :: ([.constantLong RX1 200 (31)])
def wsX1_mixSign : List Cond := .code yX1_mixSign cX1_mixSign 6 (some .long) :: ([.methodLink RX1 161 yX1_mix, .static yX1_mix, .initialized RX1, .code yX1_mix cX1_mix 3 (some .long), .constantLong RX1 200 (31), .instanceMethod yX0_minimsOf, .initialized RX0, .selects RX0 yX0_minimsOf yX0_minimsOf, .code yX0_minimsOf cX0_minimsOf 2 (some .int), .fieldLink RX0 29 "ChoirNotes$Voice" "begins" "[I"] ++ wsX00)
def wsX1_mixVoice_r1 : List Cond := [Cond.methodLink RX1 161 yX1_mix, Cond.static yX1_mix, Cond.initialized RX1, Cond.code yX1_mix cX1_mix 3 (some .long), Cond.constantLong RX1 200 (31), Cond.instanceMethod yX0_countNotes, Cond.initialized RX0, Cond.selects RX0 yX0_countNotes yX0_countNotes, Cond.code yX0_countNotes cX0_countNotes 3 (some .int), Cond.fieldLink RX0 45 "ChoirNotes$Voice" "count" "I", Cond.methodLink RX0 52 yX0_isRest, Cond.instanceMethod yX0_isRest, Cond.selects RX0 yX0_isRest yX0_isRest, Cond.code yX0_isRest cX0_isRest 2 (some .boolean), Cond.fieldLink RX0 19 "ChoirNotes$Voice" "places" "[I", Cond.instanceMethod yX0_countLigatures, Cond.selects RX0 yX0_countLigatures yX0_countLigatures, Cond.code yX0_countLigatures cX0_countLigatures 3 (some .int), Cond.fieldLink RX0 26 "ChoirNotes$Voice" "ranks" "[I", Cond.instanceMethod yX0_end, Cond.selects RX0 yX0_end yX0_end, Cond.code yX0_end cX0_end 1 (some .int), Cond.fieldLink RX0 29 "ChoirNotes$Voice" "begins" "[I", Cond.instanceMethod yX0_countFittingClefs]
def wsX1_mixVoice_r2 : List Cond := [Cond.selects RX0 yX0_countFittingClefs yX0_countFittingClefs, Cond.code yX0_countFittingClefs cX0_countFittingClefs 3 (some .int), Cond.methodLink RX0 56 yX0_wouldFit, Cond.instanceMethod yX0_wouldFit, Cond.selects RX0 yX0_wouldFit yX0_wouldFit, Cond.code yX0_wouldFit cX0_wouldFit 4 (some .boolean), Cond.methodLink RX1 152 yX1_clefWithFewestClashes, Cond.instanceMethod yX1_clefWithFewestClashes, Cond.selects RX1 yX1_clefWithFewestClashes yX1_clefWithFewestClashes, Cond.code yX1_clefWithFewestClashes cX1_clefWithFewestClashes 6 (some .int), Cond.constant RX1 126 (2147483647), Cond.methodLink RX1 148 yX1_clashesIfClef, Cond.instanceMethod yX1_clashesIfClef, Cond.selects RX1 yX1_clashesIfClef yX1_clashesIfClef, Cond.code yX1_clashesIfClef cX1_clashesIfClef 6 (some .int), Cond.fieldLink RX1 20 "ChoirNotes" "voiceCount" "I", Cond.fieldLink RX1 11 "ChoirNotes" "book" "[LChoirNotes$Voice;", Cond.methodLink RX1 140 yX1_clashingMinims, Cond.static yX1_clashingMinims, Cond.code yX1_clashingMinims cX1_clashingMinims 11 (some .int), Cond.methodLink RX1 119 Lib.Math.max.name, Cond.static Lib.Math.max.name, Cond.initialized "java/lang/Math", Cond.code Lib.Math.max.name Lib.Math.max.code 2 (some .int)]
def wsX1_mixVoice_r3 : List Cond := [Cond.methodLink RX1 190 Lib.Math.min.name, Cond.static Lib.Math.min.name, Cond.code Lib.Math.min.name Lib.Math.min.code 2 (some .int), Cond.methodLink RX1 193 yX1_signsClash, Cond.static yX1_signsClash, Cond.code yX1_signsClash cX1_signsClash 6 (some .boolean), Cond.methodLink RX1 197 Lib.Math.abs.name, Cond.static Lib.Math.abs.name, Cond.code Lib.Math.abs.name Lib.Math.abs.code 1 (some .int), Cond.methodLink RX1 156 yX1_delayWithFewestClashes, Cond.static yX1_delayWithFewestClashes, Cond.code yX1_delayWithFewestClashes cX1_delayWithFewestClashes 6 (some .int), Cond.methodLink RX1 202 yX1_mixSign, Cond.static yX1_mixSign, Cond.code yX1_mixSign cX1_mixSign 6 (some .long), Cond.instanceMethod yX0_minimsOf, Cond.selects RX0 yX0_minimsOf yX0_minimsOf, Cond.code yX0_minimsOf cX0_minimsOf 2 (some .int)]
def wsX1_mixVoice : List Cond := .code yX1_mixVoice cX1_mixVoice 7 (some .long) :: ((wsX1_mixVoice_r1 ++ (wsX1_mixVoice_r2 ++ wsX1_mixVoice_r3)) ++ wsX00 ++ wsX10)
def wsX1_digest_r1 : List Cond := [Cond.constantLong RX1 159 (2311), Cond.fieldLink RX1 20 "ChoirNotes" "voiceCount" "I", Cond.fieldLink RX1 11 "ChoirNotes" "book" "[LChoirNotes$Voice;", Cond.methodLink RX1 161 yX1_mix, Cond.static yX1_mix, Cond.initialized RX1, Cond.code yX1_mix cX1_mix 3 (some .long), Cond.constantLong RX1 200 (31), Cond.methodLink RX1 165 yX1_longest, Cond.instanceMethod yX1_longest, Cond.selects RX1 yX1_longest yX1_longest, Cond.code yX1_longest cX1_longest 3 (some .int), Cond.methodLink RX1 119 Lib.Math.max.name, Cond.static Lib.Math.max.name, Cond.initialized "java/lang/Math", Cond.code Lib.Math.max.name Lib.Math.max.code 2 (some .int), Cond.instanceMethod yX0_end, Cond.initialized RX0, Cond.selects RX0 yX0_end yX0_end, Cond.code yX0_end cX0_end 1 (some .int), Cond.fieldLink RX0 29 "ChoirNotes$Voice" "begins" "[I", Cond.fieldLink RX0 45 "ChoirNotes$Voice" "count" "I", Cond.methodLink RX1 168 yX1_mixVoice, Cond.instanceMethod yX1_mixVoice]
def wsX1_digest_r2 : List Cond := [Cond.selects RX1 yX1_mixVoice yX1_mixVoice, Cond.code yX1_mixVoice cX1_mixVoice 7 (some .long), Cond.instanceMethod yX0_countNotes, Cond.selects RX0 yX0_countNotes yX0_countNotes, Cond.code yX0_countNotes cX0_countNotes 3 (some .int), Cond.methodLink RX0 52 yX0_isRest, Cond.instanceMethod yX0_isRest, Cond.selects RX0 yX0_isRest yX0_isRest, Cond.code yX0_isRest cX0_isRest 2 (some .boolean), Cond.fieldLink RX0 19 "ChoirNotes$Voice" "places" "[I", Cond.instanceMethod yX0_countLigatures, Cond.selects RX0 yX0_countLigatures yX0_countLigatures, Cond.code yX0_countLigatures cX0_countLigatures 3 (some .int), Cond.fieldLink RX0 26 "ChoirNotes$Voice" "ranks" "[I", Cond.instanceMethod yX0_countFittingClefs, Cond.selects RX0 yX0_countFittingClefs yX0_countFittingClefs, Cond.code yX0_countFittingClefs cX0_countFittingClefs 3 (some .int), Cond.methodLink RX0 56 yX0_wouldFit, Cond.instanceMethod yX0_wouldFit, Cond.selects RX0 yX0_wouldFit yX0_wouldFit, Cond.code yX0_wouldFit cX0_wouldFit 4 (some .boolean), Cond.methodLink RX1 152 yX1_clefWithFewestClashes, Cond.instanceMethod yX1_clefWithFewestClashes, Cond.selects RX1 yX1_clefWithFewestClashes yX1_clefWithFewestClashes]
def wsX1_digest_r3 : List Cond := [Cond.code yX1_clefWithFewestClashes cX1_clefWithFewestClashes 6 (some .int), Cond.constant RX1 126 (2147483647), Cond.methodLink RX1 148 yX1_clashesIfClef, Cond.instanceMethod yX1_clashesIfClef, Cond.selects RX1 yX1_clashesIfClef yX1_clashesIfClef, Cond.code yX1_clashesIfClef cX1_clashesIfClef 6 (some .int), Cond.methodLink RX1 140 yX1_clashingMinims, Cond.static yX1_clashingMinims, Cond.code yX1_clashingMinims cX1_clashingMinims 11 (some .int), Cond.methodLink RX1 190 Lib.Math.min.name, Cond.static Lib.Math.min.name, Cond.code Lib.Math.min.name Lib.Math.min.code 2 (some .int), Cond.methodLink RX1 193 yX1_signsClash, Cond.static yX1_signsClash, Cond.code yX1_signsClash cX1_signsClash 6 (some .boolean), Cond.methodLink RX1 197 Lib.Math.abs.name, Cond.static Lib.Math.abs.name, Cond.code Lib.Math.abs.name Lib.Math.abs.code 1 (some .int), Cond.methodLink RX1 156 yX1_delayWithFewestClashes, Cond.static yX1_delayWithFewestClashes, Cond.code yX1_delayWithFewestClashes cX1_delayWithFewestClashes 6 (some .int), Cond.methodLink RX1 202 yX1_mixSign, Cond.static yX1_mixSign, Cond.code yX1_mixSign cX1_mixSign 6 (some .long)]
def wsX1_digest_r4 : List Cond := [Cond.instanceMethod yX0_minimsOf, Cond.selects RX0 yX0_minimsOf yX0_minimsOf, Cond.code yX0_minimsOf cX0_minimsOf 2 (some .int)]
def wsX1_digest : List Cond := .code yX1_digest cX1_digest 4 (some .long) :: ((wsX1_digest_r1 ++ (wsX1_digest_r2 ++ (wsX1_digest_r3 ++ wsX1_digest_r4))) ++ wsX10 ++ wsX00)
def wsX2_init : List Cond := .code yX2_init cX2_init 1 none :: ([.methodLink RX2 1 objectInit, .instanceMethod objectInit, .code objectInit ⟨#[0xb1]⟩ 1 none, .arrayClass .int, .fieldLink RX2 9 "ChoirNotesModel" "many" "[I", .fieldLink RX2 13 "ChoirNotesModel" "clef" "[I", .fieldLink RX2 16 "ChoirNotesModel" "measure" "[I", .fieldLink RX2 19 "ChoirNotesModel" "kind" "[I", .fieldLink RX2 22 "ChoirNotesModel" "place" "[I", .arrayClass .boolean, .fieldLink RX2 25 "ChoirNotesModel" "isRed" "[Z", .fieldLink RX2 29 "ChoirNotesModel" "tied" "[I", .fieldLink RX2 32 "ChoirNotesModel" "mine" "[I", .fieldLink RX2 35 "ChoirNotesModel" "theirs" "[I"] ++ wsX20)
def wsX2_thrown : List Cond := .code yX2_thrown cX2_thrown 1 (some .int) :: ([.fieldLink RX2 38 "ChoirNotesModel" "thrown" "I"] ++ wsX20)
def wsX2_fail : List Cond := .code yX2_fail cX2_fail 2 (some .int) :: ([.fieldLink RX2 38 "ChoirNotesModel" "thrown" "I"] ++ wsX20)
def wsX2_told : List Cond := .code yX2_told cX2_told 2 (some .int) :: ([.fieldLink RX2 38 "ChoirNotesModel" "thrown" "I"] ++ wsX20)
def wsX2_isIn : List Cond := .code yX2_isIn cX2_isIn 3 (some .boolean) :: ([])
def wsX2_isVoice : List Cond := .code yX2_isVoice cX2_isVoice 2 (some .boolean) :: ([.fieldLink RX2 42 "ChoirNotesModel" "voices" "I", .methodLink RX2 45 yX2_isIn, .static yX2_isIn, .initialized RX2, .code yX2_isIn cX2_isIn 3 (some .boolean)] ++ wsX20)
def wsX2_isSign : List Cond := .code yX2_isSign cX2_isSign 3 (some .boolean) :: ([.fieldLink RX2 9 "ChoirNotesModel" "many" "[I", .methodLink RX2 49 yX2_isVoice, .instanceMethod yX2_isVoice, .selects RX2 yX2_isVoice yX2_isVoice, .initialized RX2, .code yX2_isVoice cX2_isVoice 2 (some .boolean), .fieldLink RX2 42 "ChoirNotesModel" "voices" "I", .methodLink RX2 45 yX2_isIn, .static yX2_isIn, .code yX2_isIn cX2_isIn 3 (some .boolean)] ++ wsX20)
def wsX2_isMeasure : List Cond := .code yX2_isMeasure cX2_isMeasure 3 (some .boolean) :: ([.methodLink RX2 45 yX2_isIn, .static yX2_isIn, .initialized RX2, .code yX2_isIn cX2_isIn 3 (some .boolean)])
def wsX2_set : List Cond := .code yX2_set cX2_set 5 none :: ([.fieldLink RX2 16 "ChoirNotesModel" "measure" "[I"] ++ wsX20)
def wsX2_put : List Cond := .code yX2_put cX2_put 7 none :: ([.fieldLink RX2 9 "ChoirNotesModel" "many" "[I", .fieldLink RX2 19 "ChoirNotesModel" "kind" "[I", .fieldLink RX2 22 "ChoirNotesModel" "place" "[I", .fieldLink RX2 25 "ChoirNotesModel" "isRed" "[Z", .fieldLink RX2 29 "ChoirNotesModel" "tied" "[I"] ++ wsX20)
def wsX2_lasts : List Cond := .code yX2_lasts cX2_lasts 6 (some .int) :: ([.fieldLink RX2 19 "ChoirNotesModel" "kind" "[I", .fieldLink RX2 25 "ChoirNotesModel" "isRed" "[Z", .fieldLink RX2 16 "ChoirNotesModel" "measure" "[I"] ++ wsX20)
def wsX2_all : List Cond := .code yX2_all cX2_all 4 (some .int) :: ([.fieldLink RX2 9 "ChoirNotesModel" "many" "[I", .methodLink RX2 53 yX2_lasts, .instanceMethod yX2_lasts, .selects RX2 yX2_lasts yX2_lasts, .initialized RX2, .code yX2_lasts cX2_lasts 6 (some .int), .fieldLink RX2 19 "ChoirNotesModel" "kind" "[I", .fieldLink RX2 25 "ChoirNotesModel" "isRed" "[Z", .fieldLink RX2 16 "ChoirNotesModel" "measure" "[I"] ++ wsX20)
def wsX2_lay : List Cond := .code yX2_lay cX2_lay 6 (some .int) :: ([.fieldLink RX2 9 "ChoirNotesModel" "many" "[I", .fieldLink RX2 22 "ChoirNotesModel" "place" "[I", .methodLink RX2 53 yX2_lasts, .instanceMethod yX2_lasts, .selects RX2 yX2_lasts yX2_lasts, .initialized RX2, .code yX2_lasts cX2_lasts 6 (some .int), .fieldLink RX2 19 "ChoirNotesModel" "kind" "[I", .fieldLink RX2 25 "ChoirNotesModel" "isRed" "[Z", .fieldLink RX2 16 "ChoirNotesModel" "measure" "[I"] ++ wsX20)
def wsX2_isClash : List Cond := .code yX2_isClash cX2_isClash 2 (some .boolean) :: ([.methodLink RX2 57 Lib.Math.abs.name, .static Lib.Math.abs.name, .initialized "java/lang/Math", .code Lib.Math.abs.name Lib.Math.abs.code 1 (some .int)])
def wsX2_clash_r1 : List Cond := [Cond.fieldLink RX2 32 "ChoirNotesModel" "mine" "[I", Cond.fieldLink RX2 35 "ChoirNotesModel" "theirs" "[I", Cond.methodLink RX2 67 Lib.Math.min.name, Cond.static Lib.Math.min.name, Cond.initialized "java/lang/Math", Cond.code Lib.Math.min.name Lib.Math.min.code 2 (some .int), Cond.methodLink RX2 63 yX2_lay, Cond.instanceMethod yX2_lay, Cond.selects RX2 yX2_lay yX2_lay, Cond.initialized RX2, Cond.code yX2_lay cX2_lay 6 (some .int), Cond.fieldLink RX2 9 "ChoirNotesModel" "many" "[I", Cond.fieldLink RX2 22 "ChoirNotesModel" "place" "[I", Cond.methodLink RX2 53 yX2_lasts, Cond.instanceMethod yX2_lasts, Cond.selects RX2 yX2_lasts yX2_lasts, Cond.code yX2_lasts cX2_lasts 6 (some .int), Cond.fieldLink RX2 19 "ChoirNotesModel" "kind" "[I", Cond.fieldLink RX2 25 "ChoirNotesModel" "isRed" "[Z", Cond.fieldLink RX2 16 "ChoirNotesModel" "measure" "[I", Cond.methodLink RX2 70 yX2_isClash, Cond.static yX2_isClash, Cond.code yX2_isClash cX2_isClash 2 (some .boolean), Cond.methodLink RX2 57 Lib.Math.abs.name]
def wsX2_clash_r2 : List Cond := [Cond.static Lib.Math.abs.name, Cond.code Lib.Math.abs.name Lib.Math.abs.code 1 (some .int)]
def wsX2_clash : List Cond := .code yX2_clash cX2_clash 9 (some .int) :: ((wsX2_clash_r1 ++ wsX2_clash_r2) ++ wsX20)
def wsX2_addVoice : List Cond := .code yX2_addVoice cX2_addVoice 4 (some .int) :: ([.fieldLink RX2 38 "ChoirNotesModel" "thrown" "I", .fieldLink RX2 42 "ChoirNotesModel" "voices" "I", .fieldLink RX2 13 "ChoirNotesModel" "clef" "[I", .methodLink RX2 73 yX2_isMeasure, .static yX2_isMeasure, .initialized RX2, .code yX2_isMeasure cX2_isMeasure 3 (some .boolean), .methodLink RX2 45 yX2_isIn, .static yX2_isIn, .code yX2_isIn cX2_isIn 3 (some .boolean), .methodLink RX2 76 yX2_fail, .instanceMethod yX2_fail, .selects RX2 yX2_fail yX2_fail, .code yX2_fail cX2_fail 2 (some .int), .methodLink RX2 79 yX2_set, .instanceMethod yX2_set, .selects RX2 yX2_set yX2_set, .code yX2_set cX2_set 5 none, .fieldLink RX2 16 "ChoirNotesModel" "measure" "[I"] ++ wsX20)
def wsX2_addNote : List Cond := .code yX2_addNote cX2_addNote 5 (some .int) :: ([.fieldLink RX2 38 "ChoirNotesModel" "thrown" "I", .fieldLink RX2 9 "ChoirNotesModel" "many" "[I", .methodLink RX2 49 yX2_isVoice, .instanceMethod yX2_isVoice, .selects RX2 yX2_isVoice yX2_isVoice, .initialized RX2, .code yX2_isVoice cX2_isVoice 2 (some .boolean), .fieldLink RX2 42 "ChoirNotesModel" "voices" "I", .methodLink RX2 45 yX2_isIn, .static yX2_isIn, .code yX2_isIn cX2_isIn 3 (some .boolean), .methodLink RX2 76 yX2_fail, .instanceMethod yX2_fail, .selects RX2 yX2_fail yX2_fail, .code yX2_fail cX2_fail 2 (some .int), .methodLink RX2 83 yX2_put, .instanceMethod yX2_put, .selects RX2 yX2_put yX2_put, .code yX2_put cX2_put 7 none, .fieldLink RX2 19 "ChoirNotesModel" "kind" "[I", .fieldLink RX2 22 "ChoirNotesModel" "place" "[I", .fieldLink RX2 25 "ChoirNotesModel" "isRed" "[Z", .fieldLink RX2 29 "ChoirNotesModel" "tied" "[I"] ++ wsX20)
def wsX2_addRest : List Cond := .code yX2_addRest cX2_addRest 3 (some .int) :: ([.fieldLink RX2 38 "ChoirNotesModel" "thrown" "I", .fieldLink RX2 9 "ChoirNotesModel" "many" "[I", .methodLink RX2 49 yX2_isVoice, .instanceMethod yX2_isVoice, .selects RX2 yX2_isVoice yX2_isVoice, .initialized RX2, .code yX2_isVoice cX2_isVoice 2 (some .boolean), .fieldLink RX2 42 "ChoirNotesModel" "voices" "I", .methodLink RX2 45 yX2_isIn, .static yX2_isIn, .code yX2_isIn cX2_isIn 3 (some .boolean), .methodLink RX2 76 yX2_fail, .instanceMethod yX2_fail, .selects RX2 yX2_fail yX2_fail, .code yX2_fail cX2_fail 2 (some .int), .methodLink RX2 83 yX2_put, .instanceMethod yX2_put, .selects RX2 yX2_put yX2_put, .code yX2_put cX2_put 7 none, .fieldLink RX2 19 "ChoirNotesModel" "kind" "[I", .fieldLink RX2 22 "ChoirNotesModel" "place" "[I", .fieldLink RX2 25 "ChoirNotesModel" "isRed" "[Z", .fieldLink RX2 29 "ChoirNotesModel" "tied" "[I"] ++ wsX20)
def wsX2_addLigature : List Cond := .code yX2_addLigature cX2_addLigature 8 (some .int) :: ([.fieldLink RX2 38 "ChoirNotesModel" "thrown" "I", .fieldLink RX2 9 "ChoirNotesModel" "many" "[I", .methodLink RX2 49 yX2_isVoice, .instanceMethod yX2_isVoice, .selects RX2 yX2_isVoice yX2_isVoice, .initialized RX2, .code yX2_isVoice cX2_isVoice 2 (some .boolean), .fieldLink RX2 42 "ChoirNotesModel" "voices" "I", .methodLink RX2 45 yX2_isIn, .static yX2_isIn, .code yX2_isIn cX2_isIn 3 (some .boolean), .methodLink RX2 76 yX2_fail, .instanceMethod yX2_fail, .selects RX2 yX2_fail yX2_fail, .code yX2_fail cX2_fail 2 (some .int), .methodLink RX2 83 yX2_put, .instanceMethod yX2_put, .selects RX2 yX2_put yX2_put, .code yX2_put cX2_put 7 none, .fieldLink RX2 19 "ChoirNotesModel" "kind" "[I", .fieldLink RX2 22 "ChoirNotesModel" "place" "[I", .fieldLink RX2 25 "ChoirNotesModel" "isRed" "[Z", .fieldLink RX2 29 "ChoirNotesModel" "tied" "[I"] ++ wsX20)
def wsX2_erase : List Cond := .code yX2_erase cX2_erase 3 (some .int) :: ([.fieldLink RX2 38 "ChoirNotesModel" "thrown" "I", .fieldLink RX2 9 "ChoirNotesModel" "many" "[I", .fieldLink RX2 29 "ChoirNotesModel" "tied" "[I", .methodLink RX2 87 Lib.Math.max.name, .static Lib.Math.max.name, .initialized "java/lang/Math", .code Lib.Math.max.name Lib.Math.max.code 2 (some .int), .methodLink RX2 49 yX2_isVoice, .instanceMethod yX2_isVoice, .selects RX2 yX2_isVoice yX2_isVoice, .initialized RX2, .code yX2_isVoice cX2_isVoice 2 (some .boolean), .fieldLink RX2 42 "ChoirNotesModel" "voices" "I", .methodLink RX2 45 yX2_isIn, .static yX2_isIn, .code yX2_isIn cX2_isIn 3 (some .boolean), .methodLink RX2 76 yX2_fail, .instanceMethod yX2_fail, .selects RX2 yX2_fail yX2_fail, .code yX2_fail cX2_fail 2 (some .int)] ++ wsX20)
def wsX2_recolour : List Cond := .code yX2_recolour cX2_recolour 4 (some .boolean) :: ([.fieldLink RX2 22 "ChoirNotesModel" "place" "[I", .fieldLink RX2 38 "ChoirNotesModel" "thrown" "I", .fieldLink RX2 25 "ChoirNotesModel" "isRed" "[Z", .methodLink RX2 90 yX2_isSign, .instanceMethod yX2_isSign, .selects RX2 yX2_isSign yX2_isSign, .initialized RX2, .code yX2_isSign cX2_isSign 3 (some .boolean), .fieldLink RX2 9 "ChoirNotesModel" "many" "[I", .methodLink RX2 49 yX2_isVoice, .instanceMethod yX2_isVoice, .selects RX2 yX2_isVoice yX2_isVoice, .code yX2_isVoice cX2_isVoice 2 (some .boolean), .fieldLink RX2 42 "ChoirNotesModel" "voices" "I", .methodLink RX2 45 yX2_isIn, .static yX2_isIn, .code yX2_isIn cX2_isIn 3 (some .boolean)] ++ wsX20)
def wsX2_setClef : List Cond := .code yX2_setClef cX2_setClef 4 (some .int) :: ([.fieldLink RX2 38 "ChoirNotesModel" "thrown" "I", .fieldLink RX2 13 "ChoirNotesModel" "clef" "[I", .methodLink RX2 49 yX2_isVoice, .instanceMethod yX2_isVoice, .selects RX2 yX2_isVoice yX2_isVoice, .initialized RX2, .code yX2_isVoice cX2_isVoice 2 (some .boolean), .fieldLink RX2 42 "ChoirNotesModel" "voices" "I", .methodLink RX2 45 yX2_isIn, .static yX2_isIn, .code yX2_isIn cX2_isIn 3 (some .boolean), .methodLink RX2 76 yX2_fail, .instanceMethod yX2_fail, .selects RX2 yX2_fail yX2_fail, .code yX2_fail cX2_fail 2 (some .int)] ++ wsX20)
def wsX2_setMensuration_r1 : List Cond := [Cond.fieldLink RX2 38 "ChoirNotesModel" "thrown" "I", Cond.methodLink RX2 49 yX2_isVoice, Cond.instanceMethod yX2_isVoice, Cond.selects RX2 yX2_isVoice yX2_isVoice, Cond.initialized RX2, Cond.code yX2_isVoice cX2_isVoice 2 (some .boolean), Cond.fieldLink RX2 42 "ChoirNotesModel" "voices" "I", Cond.methodLink RX2 45 yX2_isIn, Cond.static yX2_isIn, Cond.code yX2_isIn cX2_isIn 3 (some .boolean), Cond.methodLink RX2 76 yX2_fail, Cond.instanceMethod yX2_fail, Cond.selects RX2 yX2_fail yX2_fail, Cond.code yX2_fail cX2_fail 2 (some .int), Cond.methodLink RX2 73 yX2_isMeasure, Cond.static yX2_isMeasure, Cond.code yX2_isMeasure cX2_isMeasure 3 (some .boolean), Cond.methodLink RX2 79 yX2_set, Cond.instanceMethod yX2_set, Cond.selects RX2 yX2_set yX2_set, Cond.code yX2_set cX2_set 5 none, Cond.fieldLink RX2 16 "ChoirNotesModel" "measure" "[I", Cond.methodLink RX2 94 yX2_all, Cond.instanceMethod yX2_all]
def wsX2_setMensuration_r2 : List Cond := [Cond.selects RX2 yX2_all yX2_all, Cond.code yX2_all cX2_all 4 (some .int), Cond.fieldLink RX2 9 "ChoirNotesModel" "many" "[I", Cond.methodLink RX2 53 yX2_lasts, Cond.instanceMethod yX2_lasts, Cond.selects RX2 yX2_lasts yX2_lasts, Cond.code yX2_lasts cX2_lasts 6 (some .int), Cond.fieldLink RX2 19 "ChoirNotesModel" "kind" "[I", Cond.fieldLink RX2 25 "ChoirNotesModel" "isRed" "[Z"]
def wsX2_setMensuration : List Cond := .code yX2_setMensuration cX2_setMensuration 5 (some .int) :: ((wsX2_setMensuration_r1 ++ wsX2_setMensuration_r2) ++ wsX20)
def wsX2_voices : List Cond := .code yX2_voices cX2_voices 1 (some .int) :: ([.fieldLink RX2 42 "ChoirNotesModel" "voices" "I", .methodLink RX2 97 yX2_told, .instanceMethod yX2_told, .selects RX2 yX2_told yX2_told, .initialized RX2, .code yX2_told cX2_told 2 (some .int), .fieldLink RX2 38 "ChoirNotesModel" "thrown" "I"] ++ wsX20)
def wsX2_signs : List Cond := .code yX2_signs cX2_signs 2 (some .int) :: ([.fieldLink RX2 38 "ChoirNotesModel" "thrown" "I", .fieldLink RX2 9 "ChoirNotesModel" "many" "[I", .methodLink RX2 49 yX2_isVoice, .instanceMethod yX2_isVoice, .selects RX2 yX2_isVoice yX2_isVoice, .initialized RX2, .code yX2_isVoice cX2_isVoice 2 (some .boolean), .fieldLink RX2 42 "ChoirNotesModel" "voices" "I", .methodLink RX2 45 yX2_isIn, .static yX2_isIn, .code yX2_isIn cX2_isIn 3 (some .boolean), .methodLink RX2 76 yX2_fail, .instanceMethod yX2_fail, .selects RX2 yX2_fail yX2_fail, .code yX2_fail cX2_fail 2 (some .int)] ++ wsX20)
def wsX2_count : List Cond := .code yX2_count cX2_count 5 (some .int) :: ([.fieldLink RX2 9 "ChoirNotesModel" "many" "[I", .fieldLink RX2 22 "ChoirNotesModel" "place" "[I", .fieldLink RX2 29 "ChoirNotesModel" "tied" "[I"] ++ wsX20)
def wsX2_notes : List Cond := .code yX2_notes cX2_notes 2 (some .int) :: ([.fieldLink RX2 38 "ChoirNotesModel" "thrown" "I", .methodLink RX2 49 yX2_isVoice, .instanceMethod yX2_isVoice, .selects RX2 yX2_isVoice yX2_isVoice, .initialized RX2, .code yX2_isVoice cX2_isVoice 2 (some .boolean), .fieldLink RX2 42 "ChoirNotesModel" "voices" "I", .methodLink RX2 45 yX2_isIn, .static yX2_isIn, .code yX2_isIn cX2_isIn 3 (some .boolean), .methodLink RX2 100 yX2_count, .instanceMethod yX2_count, .selects RX2 yX2_count yX2_count, .code yX2_count cX2_count 5 (some .int), .fieldLink RX2 9 "ChoirNotesModel" "many" "[I", .fieldLink RX2 22 "ChoirNotesModel" "place" "[I", .fieldLink RX2 29 "ChoirNotesModel" "tied" "[I", .methodLink RX2 76 yX2_fail, .instanceMethod yX2_fail, .selects RX2 yX2_fail yX2_fail, .code yX2_fail cX2_fail 2 (some .int)] ++ wsX20)
def wsX2_ligatures : List Cond := .code yX2_ligatures cX2_ligatures 2 (some .int) :: ([.fieldLink RX2 38 "ChoirNotesModel" "thrown" "I", .methodLink RX2 49 yX2_isVoice, .instanceMethod yX2_isVoice, .selects RX2 yX2_isVoice yX2_isVoice, .initialized RX2, .code yX2_isVoice cX2_isVoice 2 (some .boolean), .fieldLink RX2 42 "ChoirNotesModel" "voices" "I", .methodLink RX2 45 yX2_isIn, .static yX2_isIn, .code yX2_isIn cX2_isIn 3 (some .boolean), .methodLink RX2 100 yX2_count, .instanceMethod yX2_count, .selects RX2 yX2_count yX2_count, .code yX2_count cX2_count 5 (some .int), .fieldLink RX2 9 "ChoirNotesModel" "many" "[I", .fieldLink RX2 22 "ChoirNotesModel" "place" "[I", .fieldLink RX2 29 "ChoirNotesModel" "tied" "[I", .methodLink RX2 76 yX2_fail, .instanceMethod yX2_fail, .selects RX2 yX2_fail yX2_fail, .code yX2_fail cX2_fail 2 (some .int)] ++ wsX20)
def wsX2_of : List Cond := .code yX2_of cX2_of 4 (some .int) :: ([.fieldLink RX2 38 "ChoirNotesModel" "thrown" "I", .methodLink RX2 90 yX2_isSign, .instanceMethod yX2_isSign, .selects RX2 yX2_isSign yX2_isSign, .initialized RX2, .code yX2_isSign cX2_isSign 3 (some .boolean), .fieldLink RX2 9 "ChoirNotesModel" "many" "[I", .methodLink RX2 49 yX2_isVoice, .instanceMethod yX2_isVoice, .selects RX2 yX2_isVoice yX2_isVoice, .code yX2_isVoice cX2_isVoice 2 (some .boolean), .fieldLink RX2 42 "ChoirNotesModel" "voices" "I", .methodLink RX2 45 yX2_isIn, .static yX2_isIn, .code yX2_isIn cX2_isIn 3 (some .boolean), .methodLink RX2 76 yX2_fail, .instanceMethod yX2_fail, .selects RX2 yX2_fail yX2_fail, .code yX2_fail cX2_fail 2 (some .int)] ++ wsX20)
def wsX2_kindOf : List Cond := .code yX2_kindOf cX2_kindOf 3 (some .int) :: ([.fieldLink RX2 19 "ChoirNotesModel" "kind" "[I", .methodLink RX2 104 yX2_of, .instanceMethod yX2_of, .selects RX2 yX2_of yX2_of, .initialized RX2, .code yX2_of cX2_of 4 (some .int), .fieldLink RX2 38 "ChoirNotesModel" "thrown" "I", .methodLink RX2 90 yX2_isSign, .instanceMethod yX2_isSign, .selects RX2 yX2_isSign yX2_isSign, .code yX2_isSign cX2_isSign 3 (some .boolean), .fieldLink RX2 9 "ChoirNotesModel" "many" "[I", .methodLink RX2 49 yX2_isVoice, .instanceMethod yX2_isVoice, .selects RX2 yX2_isVoice yX2_isVoice, .code yX2_isVoice cX2_isVoice 2 (some .boolean), .fieldLink RX2 42 "ChoirNotesModel" "voices" "I", .methodLink RX2 45 yX2_isIn, .static yX2_isIn, .code yX2_isIn cX2_isIn 3 (some .boolean), .methodLink RX2 76 yX2_fail, .instanceMethod yX2_fail, .selects RX2 yX2_fail yX2_fail, .code yX2_fail cX2_fail 2 (some .int)] ++ wsX20)
def wsX2_placeOf : List Cond := .code yX2_placeOf cX2_placeOf 3 (some .int) :: ([.fieldLink RX2 22 "ChoirNotesModel" "place" "[I", .methodLink RX2 104 yX2_of, .instanceMethod yX2_of, .selects RX2 yX2_of yX2_of, .initialized RX2, .code yX2_of cX2_of 4 (some .int), .fieldLink RX2 38 "ChoirNotesModel" "thrown" "I", .methodLink RX2 90 yX2_isSign, .instanceMethod yX2_isSign, .selects RX2 yX2_isSign yX2_isSign, .code yX2_isSign cX2_isSign 3 (some .boolean), .fieldLink RX2 9 "ChoirNotesModel" "many" "[I", .methodLink RX2 49 yX2_isVoice, .instanceMethod yX2_isVoice, .selects RX2 yX2_isVoice yX2_isVoice, .code yX2_isVoice cX2_isVoice 2 (some .boolean), .fieldLink RX2 42 "ChoirNotesModel" "voices" "I", .methodLink RX2 45 yX2_isIn, .static yX2_isIn, .code yX2_isIn cX2_isIn 3 (some .boolean), .methodLink RX2 76 yX2_fail, .instanceMethod yX2_fail, .selects RX2 yX2_fail yX2_fail, .code yX2_fail cX2_fail 2 (some .int)] ++ wsX20)
def wsX2_isColoured : List Cond := .code yX2_isColoured cX2_isColoured 3 (some .boolean) :: ([.fieldLink RX2 38 "ChoirNotesModel" "thrown" "I", .fieldLink RX2 25 "ChoirNotesModel" "isRed" "[Z", .methodLink RX2 90 yX2_isSign, .instanceMethod yX2_isSign, .selects RX2 yX2_isSign yX2_isSign, .initialized RX2, .code yX2_isSign cX2_isSign 3 (some .boolean), .fieldLink RX2 9 "ChoirNotesModel" "many" "[I", .methodLink RX2 49 yX2_isVoice, .instanceMethod yX2_isVoice, .selects RX2 yX2_isVoice yX2_isVoice, .code yX2_isVoice cX2_isVoice 2 (some .boolean), .fieldLink RX2 42 "ChoirNotesModel" "voices" "I", .methodLink RX2 45 yX2_isIn, .static yX2_isIn, .code yX2_isIn cX2_isIn 3 (some .boolean)] ++ wsX20)
def wsX2_placeInLigature : List Cond := .code yX2_placeInLigature cX2_placeInLigature 3 (some .int) :: ([.fieldLink RX2 29 "ChoirNotesModel" "tied" "[I", .methodLink RX2 104 yX2_of, .instanceMethod yX2_of, .selects RX2 yX2_of yX2_of, .initialized RX2, .code yX2_of cX2_of 4 (some .int), .fieldLink RX2 38 "ChoirNotesModel" "thrown" "I", .methodLink RX2 90 yX2_isSign, .instanceMethod yX2_isSign, .selects RX2 yX2_isSign yX2_isSign, .code yX2_isSign cX2_isSign 3 (some .boolean), .fieldLink RX2 9 "ChoirNotesModel" "many" "[I", .methodLink RX2 49 yX2_isVoice, .instanceMethod yX2_isVoice, .selects RX2 yX2_isVoice yX2_isVoice, .code yX2_isVoice cX2_isVoice 2 (some .boolean), .fieldLink RX2 42 "ChoirNotesModel" "voices" "I", .methodLink RX2 45 yX2_isIn, .static yX2_isIn, .code yX2_isIn cX2_isIn 3 (some .boolean), .methodLink RX2 76 yX2_fail, .instanceMethod yX2_fail, .selects RX2 yX2_fail yX2_fail, .code yX2_fail cX2_fail 2 (some .int)] ++ wsX20)
def wsX2_lengthOf_r1 : List Cond := [Cond.fieldLink RX2 38 "ChoirNotesModel" "thrown" "I", Cond.methodLink RX2 90 yX2_isSign, Cond.instanceMethod yX2_isSign, Cond.selects RX2 yX2_isSign yX2_isSign, Cond.initialized RX2, Cond.code yX2_isSign cX2_isSign 3 (some .boolean), Cond.fieldLink RX2 9 "ChoirNotesModel" "many" "[I", Cond.methodLink RX2 49 yX2_isVoice, Cond.instanceMethod yX2_isVoice, Cond.selects RX2 yX2_isVoice yX2_isVoice, Cond.code yX2_isVoice cX2_isVoice 2 (some .boolean), Cond.fieldLink RX2 42 "ChoirNotesModel" "voices" "I", Cond.methodLink RX2 45 yX2_isIn, Cond.static yX2_isIn, Cond.code yX2_isIn cX2_isIn 3 (some .boolean), Cond.methodLink RX2 53 yX2_lasts, Cond.instanceMethod yX2_lasts, Cond.selects RX2 yX2_lasts yX2_lasts, Cond.code yX2_lasts cX2_lasts 6 (some .int), Cond.fieldLink RX2 19 "ChoirNotesModel" "kind" "[I", Cond.fieldLink RX2 25 "ChoirNotesModel" "isRed" "[Z", Cond.fieldLink RX2 16 "ChoirNotesModel" "measure" "[I", Cond.methodLink RX2 76 yX2_fail, Cond.instanceMethod yX2_fail]
def wsX2_lengthOf_r2 : List Cond := [Cond.selects RX2 yX2_fail yX2_fail, Cond.code yX2_fail cX2_fail 2 (some .int)]
def wsX2_lengthOf : List Cond := .code yX2_lengthOf cX2_lengthOf 3 (some .int) :: ((wsX2_lengthOf_r1 ++ wsX2_lengthOf_r2) ++ wsX20)
def wsX2_begins : List Cond := .code yX2_begins cX2_begins 5 (some .int) :: ([.methodLink RX2 53 yX2_lasts, .instanceMethod yX2_lasts, .selects RX2 yX2_lasts yX2_lasts, .initialized RX2, .code yX2_lasts cX2_lasts 6 (some .int), .fieldLink RX2 19 "ChoirNotesModel" "kind" "[I", .fieldLink RX2 25 "ChoirNotesModel" "isRed" "[Z", .fieldLink RX2 16 "ChoirNotesModel" "measure" "[I"] ++ wsX20)
def wsX2_beginOf_r1 : List Cond := [Cond.fieldLink RX2 38 "ChoirNotesModel" "thrown" "I", Cond.methodLink RX2 90 yX2_isSign, Cond.instanceMethod yX2_isSign, Cond.selects RX2 yX2_isSign yX2_isSign, Cond.initialized RX2, Cond.code yX2_isSign cX2_isSign 3 (some .boolean), Cond.fieldLink RX2 9 "ChoirNotesModel" "many" "[I", Cond.methodLink RX2 49 yX2_isVoice, Cond.instanceMethod yX2_isVoice, Cond.selects RX2 yX2_isVoice yX2_isVoice, Cond.code yX2_isVoice cX2_isVoice 2 (some .boolean), Cond.fieldLink RX2 42 "ChoirNotesModel" "voices" "I", Cond.methodLink RX2 45 yX2_isIn, Cond.static yX2_isIn, Cond.code yX2_isIn cX2_isIn 3 (some .boolean), Cond.methodLink RX2 108 yX2_begins, Cond.instanceMethod yX2_begins, Cond.selects RX2 yX2_begins yX2_begins, Cond.code yX2_begins cX2_begins 5 (some .int), Cond.methodLink RX2 53 yX2_lasts, Cond.instanceMethod yX2_lasts, Cond.selects RX2 yX2_lasts yX2_lasts, Cond.code yX2_lasts cX2_lasts 6 (some .int), Cond.fieldLink RX2 19 "ChoirNotesModel" "kind" "[I"]
def wsX2_beginOf_r2 : List Cond := [Cond.fieldLink RX2 25 "ChoirNotesModel" "isRed" "[Z", Cond.fieldLink RX2 16 "ChoirNotesModel" "measure" "[I", Cond.methodLink RX2 76 yX2_fail, Cond.instanceMethod yX2_fail, Cond.selects RX2 yX2_fail yX2_fail, Cond.code yX2_fail cX2_fail 2 (some .int)]
def wsX2_beginOf : List Cond := .code yX2_beginOf cX2_beginOf 3 (some .int) :: ((wsX2_beginOf_r1 ++ wsX2_beginOf_r2) ++ wsX20)
def wsX2_length_r1 : List Cond := [Cond.fieldLink RX2 38 "ChoirNotesModel" "thrown" "I", Cond.methodLink RX2 49 yX2_isVoice, Cond.instanceMethod yX2_isVoice, Cond.selects RX2 yX2_isVoice yX2_isVoice, Cond.initialized RX2, Cond.code yX2_isVoice cX2_isVoice 2 (some .boolean), Cond.fieldLink RX2 42 "ChoirNotesModel" "voices" "I", Cond.methodLink RX2 45 yX2_isIn, Cond.static yX2_isIn, Cond.code yX2_isIn cX2_isIn 3 (some .boolean), Cond.methodLink RX2 94 yX2_all, Cond.instanceMethod yX2_all, Cond.selects RX2 yX2_all yX2_all, Cond.code yX2_all cX2_all 4 (some .int), Cond.fieldLink RX2 9 "ChoirNotesModel" "many" "[I", Cond.methodLink RX2 53 yX2_lasts, Cond.instanceMethod yX2_lasts, Cond.selects RX2 yX2_lasts yX2_lasts, Cond.code yX2_lasts cX2_lasts 6 (some .int), Cond.fieldLink RX2 19 "ChoirNotesModel" "kind" "[I", Cond.fieldLink RX2 25 "ChoirNotesModel" "isRed" "[Z", Cond.fieldLink RX2 16 "ChoirNotesModel" "measure" "[I", Cond.methodLink RX2 76 yX2_fail, Cond.instanceMethod yX2_fail]
def wsX2_length_r2 : List Cond := [Cond.selects RX2 yX2_fail yX2_fail, Cond.code yX2_fail cX2_fail 2 (some .int)]
def wsX2_length : List Cond := .code yX2_length cX2_length 2 (some .int) :: ((wsX2_length_r1 ++ wsX2_length_r2) ++ wsX20)
def wsX2_most : List Cond := .code yX2_most cX2_most 3 (some .int) :: ([.fieldLink RX2 42 "ChoirNotesModel" "voices" "I", .methodLink RX2 87 Lib.Math.max.name, .static Lib.Math.max.name, .initialized "java/lang/Math", .code Lib.Math.max.name Lib.Math.max.code 2 (some .int), .methodLink RX2 94 yX2_all, .instanceMethod yX2_all, .selects RX2 yX2_all yX2_all, .initialized RX2, .code yX2_all cX2_all 4 (some .int), .fieldLink RX2 9 "ChoirNotesModel" "many" "[I", .methodLink RX2 53 yX2_lasts, .instanceMethod yX2_lasts, .selects RX2 yX2_lasts yX2_lasts, .code yX2_lasts cX2_lasts 6 (some .int), .fieldLink RX2 19 "ChoirNotesModel" "kind" "[I", .fieldLink RX2 25 "ChoirNotesModel" "isRed" "[Z", .fieldLink RX2 16 "ChoirNotesModel" "measure" "[I"] ++ wsX20)
def wsX2_longest_r1 : List Cond := [Cond.methodLink RX2 111 yX2_most, Cond.instanceMethod yX2_most, Cond.selects RX2 yX2_most yX2_most, Cond.initialized RX2, Cond.code yX2_most cX2_most 3 (some .int), Cond.fieldLink RX2 42 "ChoirNotesModel" "voices" "I", Cond.methodLink RX2 87 Lib.Math.max.name, Cond.static Lib.Math.max.name, Cond.initialized "java/lang/Math", Cond.code Lib.Math.max.name Lib.Math.max.code 2 (some .int), Cond.methodLink RX2 94 yX2_all, Cond.instanceMethod yX2_all, Cond.selects RX2 yX2_all yX2_all, Cond.code yX2_all cX2_all 4 (some .int), Cond.fieldLink RX2 9 "ChoirNotesModel" "many" "[I", Cond.methodLink RX2 53 yX2_lasts, Cond.instanceMethod yX2_lasts, Cond.selects RX2 yX2_lasts yX2_lasts, Cond.code yX2_lasts cX2_lasts 6 (some .int), Cond.fieldLink RX2 19 "ChoirNotesModel" "kind" "[I", Cond.fieldLink RX2 25 "ChoirNotesModel" "isRed" "[Z", Cond.fieldLink RX2 16 "ChoirNotesModel" "measure" "[I", Cond.methodLink RX2 97 yX2_told, Cond.instanceMethod yX2_told]
def wsX2_longest_r2 : List Cond := [Cond.selects RX2 yX2_told yX2_told, Cond.code yX2_told cX2_told 2 (some .int), Cond.fieldLink RX2 38 "ChoirNotesModel" "thrown" "I"]
def wsX2_longest : List Cond := .code yX2_longest cX2_longest 1 (some .int) :: ((wsX2_longest_r1 ++ wsX2_longest_r2) ++ wsX20)
def wsX2_signAt : List Cond := .code yX2_signAt cX2_signAt 5 (some .int) :: ([.fieldLink RX2 38 "ChoirNotesModel" "thrown" "I", .fieldLink RX2 9 "ChoirNotesModel" "many" "[I", .methodLink RX2 49 yX2_isVoice, .instanceMethod yX2_isVoice, .selects RX2 yX2_isVoice yX2_isVoice, .initialized RX2, .code yX2_isVoice cX2_isVoice 2 (some .boolean), .fieldLink RX2 42 "ChoirNotesModel" "voices" "I", .methodLink RX2 45 yX2_isIn, .static yX2_isIn, .code yX2_isIn cX2_isIn 3 (some .boolean), .methodLink RX2 76 yX2_fail, .instanceMethod yX2_fail, .selects RX2 yX2_fail yX2_fail, .code yX2_fail cX2_fail 2 (some .int), .methodLink RX2 53 yX2_lasts, .instanceMethod yX2_lasts, .selects RX2 yX2_lasts yX2_lasts, .code yX2_lasts cX2_lasts 6 (some .int), .fieldLink RX2 19 "ChoirNotesModel" "kind" "[I", .fieldLink RX2 25 "ChoirNotesModel" "isRed" "[Z", .fieldLink RX2 16 "ChoirNotesModel" "measure" "[I"] ++ wsX20)
def wsX2_clefOf : List Cond := .code yX2_clefOf cX2_clefOf 2 (some .int) :: ([.fieldLink RX2 38 "ChoirNotesModel" "thrown" "I", .fieldLink RX2 13 "ChoirNotesModel" "clef" "[I", .methodLink RX2 49 yX2_isVoice, .instanceMethod yX2_isVoice, .selects RX2 yX2_isVoice yX2_isVoice, .initialized RX2, .code yX2_isVoice cX2_isVoice 2 (some .boolean), .fieldLink RX2 42 "ChoirNotesModel" "voices" "I", .methodLink RX2 45 yX2_isIn, .static yX2_isIn, .code yX2_isIn cX2_isIn 3 (some .boolean), .methodLink RX2 76 yX2_fail, .instanceMethod yX2_fail, .selects RX2 yX2_fail yX2_fail, .code yX2_fail cX2_fail 2 (some .int)] ++ wsX20)
def wsX2_pitchOf : List Cond := .code yX2_pitchOf cX2_pitchOf 4 (some .int) :: ([.fieldLink RX2 38 "ChoirNotesModel" "thrown" "I", .fieldLink RX2 13 "ChoirNotesModel" "clef" "[I", .fieldLink RX2 22 "ChoirNotesModel" "place" "[I", .methodLink RX2 90 yX2_isSign, .instanceMethod yX2_isSign, .selects RX2 yX2_isSign yX2_isSign, .initialized RX2, .code yX2_isSign cX2_isSign 3 (some .boolean), .fieldLink RX2 9 "ChoirNotesModel" "many" "[I", .methodLink RX2 49 yX2_isVoice, .instanceMethod yX2_isVoice, .selects RX2 yX2_isVoice yX2_isVoice, .code yX2_isVoice cX2_isVoice 2 (some .boolean), .fieldLink RX2 42 "ChoirNotesModel" "voices" "I", .methodLink RX2 45 yX2_isIn, .static yX2_isIn, .code yX2_isIn cX2_isIn 3 (some .boolean), .methodLink RX2 76 yX2_fail, .instanceMethod yX2_fail, .selects RX2 yX2_fail yX2_fail, .code yX2_fail cX2_fail 2 (some .int)] ++ wsX20)
def wsX2_fit : List Cond := .code yX2_fit cX2_fit 4 (some .boolean) :: ([.fieldLink RX2 9 "ChoirNotesModel" "many" "[I", .fieldLink RX2 22 "ChoirNotesModel" "place" "[I", .methodLink RX2 45 yX2_isIn, .static yX2_isIn, .initialized RX2, .code yX2_isIn cX2_isIn 3 (some .boolean)] ++ wsX20)
def wsX2_fits : List Cond := .code yX2_fits cX2_fits 3 (some .boolean) :: ([.fieldLink RX2 38 "ChoirNotesModel" "thrown" "I", .methodLink RX2 49 yX2_isVoice, .instanceMethod yX2_isVoice, .selects RX2 yX2_isVoice yX2_isVoice, .initialized RX2, .code yX2_isVoice cX2_isVoice 2 (some .boolean), .fieldLink RX2 42 "ChoirNotesModel" "voices" "I", .methodLink RX2 45 yX2_isIn, .static yX2_isIn, .code yX2_isIn cX2_isIn 3 (some .boolean), .methodLink RX2 115 yX2_fit, .instanceMethod yX2_fit, .selects RX2 yX2_fit yX2_fit, .code yX2_fit cX2_fit 4 (some .boolean), .fieldLink RX2 9 "ChoirNotesModel" "many" "[I", .fieldLink RX2 22 "ChoirNotesModel" "place" "[I"] ++ wsX20)
def wsX2_fitting : List Cond := .code yX2_fitting cX2_fitting 4 (some .int) :: ([.methodLink RX2 115 yX2_fit, .instanceMethod yX2_fit, .selects RX2 yX2_fit yX2_fit, .initialized RX2, .code yX2_fit cX2_fit 4 (some .boolean), .fieldLink RX2 9 "ChoirNotesModel" "many" "[I", .fieldLink RX2 22 "ChoirNotesModel" "place" "[I", .methodLink RX2 45 yX2_isIn, .static yX2_isIn, .code yX2_isIn cX2_isIn 3 (some .boolean)] ++ wsX20)
def wsX2_clefsThatFit : List Cond := .code yX2_clefsThatFit cX2_clefsThatFit 2 (some .int) :: ([.fieldLink RX2 38 "ChoirNotesModel" "thrown" "I", .methodLink RX2 49 yX2_isVoice, .instanceMethod yX2_isVoice, .selects RX2 yX2_isVoice yX2_isVoice, .initialized RX2, .code yX2_isVoice cX2_isVoice 2 (some .boolean), .fieldLink RX2 42 "ChoirNotesModel" "voices" "I", .methodLink RX2 45 yX2_isIn, .static yX2_isIn, .code yX2_isIn cX2_isIn 3 (some .boolean), .methodLink RX2 118 yX2_fitting, .instanceMethod yX2_fitting, .selects RX2 yX2_fitting yX2_fitting, .code yX2_fitting cX2_fitting 4 (some .int), .methodLink RX2 115 yX2_fit, .instanceMethod yX2_fit, .selects RX2 yX2_fit yX2_fit, .code yX2_fit cX2_fit 4 (some .boolean), .fieldLink RX2 9 "ChoirNotesModel" "many" "[I", .fieldLink RX2 22 "ChoirNotesModel" "place" "[I", .methodLink RX2 76 yX2_fail, .instanceMethod yX2_fail, .selects RX2 yX2_fail yX2_fail, .code yX2_fail cX2_fail 2 (some .int)] ++ wsX20)
def wsX2_both_r1 : List Cond := [Cond.fieldLink RX2 38 "ChoirNotesModel" "thrown" "I", Cond.fieldLink RX2 13 "ChoirNotesModel" "clef" "[I", Cond.methodLink RX2 49 yX2_isVoice, Cond.instanceMethod yX2_isVoice, Cond.selects RX2 yX2_isVoice yX2_isVoice, Cond.initialized RX2, Cond.code yX2_isVoice cX2_isVoice 2 (some .boolean), Cond.fieldLink RX2 42 "ChoirNotesModel" "voices" "I", Cond.methodLink RX2 45 yX2_isIn, Cond.static yX2_isIn, Cond.code yX2_isIn cX2_isIn 3 (some .boolean), Cond.methodLink RX2 76 yX2_fail, Cond.instanceMethod yX2_fail, Cond.selects RX2 yX2_fail yX2_fail, Cond.code yX2_fail cX2_fail 2 (some .int), Cond.methodLink RX2 121 yX2_clash, Cond.instanceMethod yX2_clash, Cond.selects RX2 yX2_clash yX2_clash, Cond.code yX2_clash cX2_clash 9 (some .int), Cond.fieldLink RX2 32 "ChoirNotesModel" "mine" "[I", Cond.fieldLink RX2 35 "ChoirNotesModel" "theirs" "[I", Cond.methodLink RX2 67 Lib.Math.min.name, Cond.static Lib.Math.min.name, Cond.initialized "java/lang/Math"]
def wsX2_both_r2 : List Cond := [Cond.code Lib.Math.min.name Lib.Math.min.code 2 (some .int), Cond.methodLink RX2 63 yX2_lay, Cond.instanceMethod yX2_lay, Cond.selects RX2 yX2_lay yX2_lay, Cond.code yX2_lay cX2_lay 6 (some .int), Cond.fieldLink RX2 9 "ChoirNotesModel" "many" "[I", Cond.fieldLink RX2 22 "ChoirNotesModel" "place" "[I", Cond.methodLink RX2 53 yX2_lasts, Cond.instanceMethod yX2_lasts, Cond.selects RX2 yX2_lasts yX2_lasts, Cond.code yX2_lasts cX2_lasts 6 (some .int), Cond.fieldLink RX2 19 "ChoirNotesModel" "kind" "[I", Cond.fieldLink RX2 25 "ChoirNotesModel" "isRed" "[Z", Cond.fieldLink RX2 16 "ChoirNotesModel" "measure" "[I", Cond.methodLink RX2 70 yX2_isClash, Cond.static yX2_isClash, Cond.code yX2_isClash cX2_isClash 2 (some .boolean), Cond.methodLink RX2 57 Lib.Math.abs.name, Cond.static Lib.Math.abs.name, Cond.code Lib.Math.abs.name Lib.Math.abs.code 1 (some .int)]
def wsX2_both : List Cond := .code yX2_both cX2_both 4 (some .int) :: ((wsX2_both_r1 ++ wsX2_both_r2) ++ wsX20)
def wsX2_clashes_r1 : List Cond := [Cond.methodLink RX2 125 yX2_both, Cond.instanceMethod yX2_both, Cond.selects RX2 yX2_both yX2_both, Cond.initialized RX2, Cond.code yX2_both cX2_both 4 (some .int), Cond.fieldLink RX2 38 "ChoirNotesModel" "thrown" "I", Cond.fieldLink RX2 13 "ChoirNotesModel" "clef" "[I", Cond.methodLink RX2 49 yX2_isVoice, Cond.instanceMethod yX2_isVoice, Cond.selects RX2 yX2_isVoice yX2_isVoice, Cond.code yX2_isVoice cX2_isVoice 2 (some .boolean), Cond.fieldLink RX2 42 "ChoirNotesModel" "voices" "I", Cond.methodLink RX2 45 yX2_isIn, Cond.static yX2_isIn, Cond.code yX2_isIn cX2_isIn 3 (some .boolean), Cond.methodLink RX2 76 yX2_fail, Cond.instanceMethod yX2_fail, Cond.selects RX2 yX2_fail yX2_fail, Cond.code yX2_fail cX2_fail 2 (some .int), Cond.methodLink RX2 121 yX2_clash, Cond.instanceMethod yX2_clash, Cond.selects RX2 yX2_clash yX2_clash, Cond.code yX2_clash cX2_clash 9 (some .int), Cond.fieldLink RX2 32 "ChoirNotesModel" "mine" "[I"]
def wsX2_clashes_r2 : List Cond := [Cond.fieldLink RX2 35 "ChoirNotesModel" "theirs" "[I", Cond.methodLink RX2 67 Lib.Math.min.name, Cond.static Lib.Math.min.name, Cond.initialized "java/lang/Math", Cond.code Lib.Math.min.name Lib.Math.min.code 2 (some .int), Cond.methodLink RX2 63 yX2_lay, Cond.instanceMethod yX2_lay, Cond.selects RX2 yX2_lay yX2_lay, Cond.code yX2_lay cX2_lay 6 (some .int), Cond.fieldLink RX2 9 "ChoirNotesModel" "many" "[I", Cond.fieldLink RX2 22 "ChoirNotesModel" "place" "[I", Cond.methodLink RX2 53 yX2_lasts, Cond.instanceMethod yX2_lasts, Cond.selects RX2 yX2_lasts yX2_lasts, Cond.code yX2_lasts cX2_lasts 6 (some .int), Cond.fieldLink RX2 19 "ChoirNotesModel" "kind" "[I", Cond.fieldLink RX2 25 "ChoirNotesModel" "isRed" "[Z", Cond.fieldLink RX2 16 "ChoirNotesModel" "measure" "[I", Cond.methodLink RX2 70 yX2_isClash, Cond.static yX2_isClash, Cond.code yX2_isClash cX2_isClash 2 (some .boolean), Cond.methodLink RX2 57 Lib.Math.abs.name, Cond.static Lib.Math.abs.name, Cond.code Lib.Math.abs.name Lib.Math.abs.code 1 (some .int)]
def wsX2_clashes : List Cond := .code yX2_clashes cX2_clashes 3 (some .int) :: ((wsX2_clashes_r1 ++ wsX2_clashes_r2) ++ wsX20)
def wsX2_firstClash_r1 : List Cond := [Cond.methodLink RX2 125 yX2_both, Cond.instanceMethod yX2_both, Cond.selects RX2 yX2_both yX2_both, Cond.initialized RX2, Cond.code yX2_both cX2_both 4 (some .int), Cond.fieldLink RX2 38 "ChoirNotesModel" "thrown" "I", Cond.fieldLink RX2 13 "ChoirNotesModel" "clef" "[I", Cond.methodLink RX2 49 yX2_isVoice, Cond.instanceMethod yX2_isVoice, Cond.selects RX2 yX2_isVoice yX2_isVoice, Cond.code yX2_isVoice cX2_isVoice 2 (some .boolean), Cond.fieldLink RX2 42 "ChoirNotesModel" "voices" "I", Cond.methodLink RX2 45 yX2_isIn, Cond.static yX2_isIn, Cond.code yX2_isIn cX2_isIn 3 (some .boolean), Cond.methodLink RX2 76 yX2_fail, Cond.instanceMethod yX2_fail, Cond.selects RX2 yX2_fail yX2_fail, Cond.code yX2_fail cX2_fail 2 (some .int), Cond.methodLink RX2 121 yX2_clash, Cond.instanceMethod yX2_clash, Cond.selects RX2 yX2_clash yX2_clash, Cond.code yX2_clash cX2_clash 9 (some .int), Cond.fieldLink RX2 32 "ChoirNotesModel" "mine" "[I"]
def wsX2_firstClash_r2 : List Cond := [Cond.fieldLink RX2 35 "ChoirNotesModel" "theirs" "[I", Cond.methodLink RX2 67 Lib.Math.min.name, Cond.static Lib.Math.min.name, Cond.initialized "java/lang/Math", Cond.code Lib.Math.min.name Lib.Math.min.code 2 (some .int), Cond.methodLink RX2 63 yX2_lay, Cond.instanceMethod yX2_lay, Cond.selects RX2 yX2_lay yX2_lay, Cond.code yX2_lay cX2_lay 6 (some .int), Cond.fieldLink RX2 9 "ChoirNotesModel" "many" "[I", Cond.fieldLink RX2 22 "ChoirNotesModel" "place" "[I", Cond.methodLink RX2 53 yX2_lasts, Cond.instanceMethod yX2_lasts, Cond.selects RX2 yX2_lasts yX2_lasts, Cond.code yX2_lasts cX2_lasts 6 (some .int), Cond.fieldLink RX2 19 "ChoirNotesModel" "kind" "[I", Cond.fieldLink RX2 25 "ChoirNotesModel" "isRed" "[Z", Cond.fieldLink RX2 16 "ChoirNotesModel" "measure" "[I", Cond.methodLink RX2 70 yX2_isClash, Cond.static yX2_isClash, Cond.code yX2_isClash cX2_isClash 2 (some .boolean), Cond.methodLink RX2 57 Lib.Math.abs.name, Cond.static Lib.Math.abs.name, Cond.code Lib.Math.abs.name Lib.Math.abs.code 1 (some .int)]
def wsX2_firstClash : List Cond := .code yX2_firstClash cX2_firstClash 3 (some .int) :: ((wsX2_firstClash_r1 ++ wsX2_firstClash_r2) ++ wsX20)
def wsX2_withAll_r1 : List Cond := [Cond.fieldLink RX2 42 "ChoirNotesModel" "voices" "I", Cond.fieldLink RX2 13 "ChoirNotesModel" "clef" "[I", Cond.methodLink RX2 121 yX2_clash, Cond.instanceMethod yX2_clash, Cond.selects RX2 yX2_clash yX2_clash, Cond.initialized RX2, Cond.code yX2_clash cX2_clash 9 (some .int), Cond.fieldLink RX2 32 "ChoirNotesModel" "mine" "[I", Cond.fieldLink RX2 35 "ChoirNotesModel" "theirs" "[I", Cond.methodLink RX2 67 Lib.Math.min.name, Cond.static Lib.Math.min.name, Cond.initialized "java/lang/Math", Cond.code Lib.Math.min.name Lib.Math.min.code 2 (some .int), Cond.methodLink RX2 63 yX2_lay, Cond.instanceMethod yX2_lay, Cond.selects RX2 yX2_lay yX2_lay, Cond.code yX2_lay cX2_lay 6 (some .int), Cond.fieldLink RX2 9 "ChoirNotesModel" "many" "[I", Cond.fieldLink RX2 22 "ChoirNotesModel" "place" "[I", Cond.methodLink RX2 53 yX2_lasts, Cond.instanceMethod yX2_lasts, Cond.selects RX2 yX2_lasts yX2_lasts, Cond.code yX2_lasts cX2_lasts 6 (some .int), Cond.fieldLink RX2 19 "ChoirNotesModel" "kind" "[I"]
def wsX2_withAll_r2 : List Cond := [Cond.fieldLink RX2 25 "ChoirNotesModel" "isRed" "[Z", Cond.fieldLink RX2 16 "ChoirNotesModel" "measure" "[I", Cond.methodLink RX2 70 yX2_isClash, Cond.static yX2_isClash, Cond.code yX2_isClash cX2_isClash 2 (some .boolean), Cond.methodLink RX2 57 Lib.Math.abs.name, Cond.static Lib.Math.abs.name, Cond.code Lib.Math.abs.name Lib.Math.abs.code 1 (some .int)]
def wsX2_withAll : List Cond := .code yX2_withAll cX2_withAll 5 (some .int) :: ((wsX2_withAll_r1 ++ wsX2_withAll_r2) ++ wsX20)
def wsX2_clashesWith_r1 : List Cond := [Cond.fieldLink RX2 38 "ChoirNotesModel" "thrown" "I", Cond.methodLink RX2 49 yX2_isVoice, Cond.instanceMethod yX2_isVoice, Cond.selects RX2 yX2_isVoice yX2_isVoice, Cond.initialized RX2, Cond.code yX2_isVoice cX2_isVoice 2 (some .boolean), Cond.fieldLink RX2 42 "ChoirNotesModel" "voices" "I", Cond.methodLink RX2 45 yX2_isIn, Cond.static yX2_isIn, Cond.code yX2_isIn cX2_isIn 3 (some .boolean), Cond.methodLink RX2 76 yX2_fail, Cond.instanceMethod yX2_fail, Cond.selects RX2 yX2_fail yX2_fail, Cond.code yX2_fail cX2_fail 2 (some .int), Cond.methodLink RX2 129 yX2_withAll, Cond.instanceMethod yX2_withAll, Cond.selects RX2 yX2_withAll yX2_withAll, Cond.code yX2_withAll cX2_withAll 5 (some .int), Cond.fieldLink RX2 13 "ChoirNotesModel" "clef" "[I", Cond.methodLink RX2 121 yX2_clash, Cond.instanceMethod yX2_clash, Cond.selects RX2 yX2_clash yX2_clash, Cond.code yX2_clash cX2_clash 9 (some .int), Cond.fieldLink RX2 32 "ChoirNotesModel" "mine" "[I"]
def wsX2_clashesWith_r2 : List Cond := [Cond.fieldLink RX2 35 "ChoirNotesModel" "theirs" "[I", Cond.methodLink RX2 67 Lib.Math.min.name, Cond.static Lib.Math.min.name, Cond.initialized "java/lang/Math", Cond.code Lib.Math.min.name Lib.Math.min.code 2 (some .int), Cond.methodLink RX2 63 yX2_lay, Cond.instanceMethod yX2_lay, Cond.selects RX2 yX2_lay yX2_lay, Cond.code yX2_lay cX2_lay 6 (some .int), Cond.fieldLink RX2 9 "ChoirNotesModel" "many" "[I", Cond.fieldLink RX2 22 "ChoirNotesModel" "place" "[I", Cond.methodLink RX2 53 yX2_lasts, Cond.instanceMethod yX2_lasts, Cond.selects RX2 yX2_lasts yX2_lasts, Cond.code yX2_lasts cX2_lasts 6 (some .int), Cond.fieldLink RX2 19 "ChoirNotesModel" "kind" "[I", Cond.fieldLink RX2 25 "ChoirNotesModel" "isRed" "[Z", Cond.fieldLink RX2 16 "ChoirNotesModel" "measure" "[I", Cond.methodLink RX2 70 yX2_isClash, Cond.static yX2_isClash, Cond.code yX2_isClash cX2_isClash 2 (some .boolean), Cond.methodLink RX2 57 Lib.Math.abs.name, Cond.static Lib.Math.abs.name, Cond.code Lib.Math.abs.name Lib.Math.abs.code 1 (some .int)]
def wsX2_clashesWith : List Cond := .code yX2_clashesWith cX2_clashesWith 3 (some .int) :: ((wsX2_clashesWith_r1 ++ wsX2_clashesWith_r2) ++ wsX20)
def wsX2_best_r1 : List Cond := [Cond.methodLink RX2 115 yX2_fit, Cond.instanceMethod yX2_fit, Cond.selects RX2 yX2_fit yX2_fit, Cond.initialized RX2, Cond.code yX2_fit cX2_fit 4 (some .boolean), Cond.fieldLink RX2 9 "ChoirNotesModel" "many" "[I", Cond.fieldLink RX2 22 "ChoirNotesModel" "place" "[I", Cond.methodLink RX2 45 yX2_isIn, Cond.static yX2_isIn, Cond.code yX2_isIn cX2_isIn 3 (some .boolean), Cond.methodLink RX2 129 yX2_withAll, Cond.instanceMethod yX2_withAll, Cond.selects RX2 yX2_withAll yX2_withAll, Cond.code yX2_withAll cX2_withAll 5 (some .int), Cond.fieldLink RX2 42 "ChoirNotesModel" "voices" "I", Cond.fieldLink RX2 13 "ChoirNotesModel" "clef" "[I", Cond.methodLink RX2 121 yX2_clash, Cond.instanceMethod yX2_clash, Cond.selects RX2 yX2_clash yX2_clash, Cond.code yX2_clash cX2_clash 9 (some .int), Cond.fieldLink RX2 32 "ChoirNotesModel" "mine" "[I", Cond.fieldLink RX2 35 "ChoirNotesModel" "theirs" "[I", Cond.methodLink RX2 67 Lib.Math.min.name, Cond.static Lib.Math.min.name]
def wsX2_best_r2 : List Cond := [Cond.initialized "java/lang/Math", Cond.code Lib.Math.min.name Lib.Math.min.code 2 (some .int), Cond.methodLink RX2 63 yX2_lay, Cond.instanceMethod yX2_lay, Cond.selects RX2 yX2_lay yX2_lay, Cond.code yX2_lay cX2_lay 6 (some .int), Cond.methodLink RX2 53 yX2_lasts, Cond.instanceMethod yX2_lasts, Cond.selects RX2 yX2_lasts yX2_lasts, Cond.code yX2_lasts cX2_lasts 6 (some .int), Cond.fieldLink RX2 19 "ChoirNotesModel" "kind" "[I", Cond.fieldLink RX2 25 "ChoirNotesModel" "isRed" "[Z", Cond.fieldLink RX2 16 "ChoirNotesModel" "measure" "[I", Cond.methodLink RX2 70 yX2_isClash, Cond.static yX2_isClash, Cond.code yX2_isClash cX2_isClash 2 (some .boolean), Cond.methodLink RX2 57 Lib.Math.abs.name, Cond.static Lib.Math.abs.name, Cond.code Lib.Math.abs.name Lib.Math.abs.code 1 (some .int)]
def wsX2_best : List Cond := .code yX2_best cX2_best 6 (some .int) :: ((wsX2_best_r1 ++ wsX2_best_r2) ++ wsX20)
def wsX2_bestClef_r1 : List Cond := [Cond.fieldLink RX2 38 "ChoirNotesModel" "thrown" "I", Cond.methodLink RX2 49 yX2_isVoice, Cond.instanceMethod yX2_isVoice, Cond.selects RX2 yX2_isVoice yX2_isVoice, Cond.initialized RX2, Cond.code yX2_isVoice cX2_isVoice 2 (some .boolean), Cond.fieldLink RX2 42 "ChoirNotesModel" "voices" "I", Cond.methodLink RX2 45 yX2_isIn, Cond.static yX2_isIn, Cond.code yX2_isIn cX2_isIn 3 (some .boolean), Cond.methodLink RX2 132 yX2_best, Cond.instanceMethod yX2_best, Cond.selects RX2 yX2_best yX2_best, Cond.code yX2_best cX2_best 6 (some .int), Cond.methodLink RX2 115 yX2_fit, Cond.instanceMethod yX2_fit, Cond.selects RX2 yX2_fit yX2_fit, Cond.code yX2_fit cX2_fit 4 (some .boolean), Cond.fieldLink RX2 9 "ChoirNotesModel" "many" "[I", Cond.fieldLink RX2 22 "ChoirNotesModel" "place" "[I", Cond.methodLink RX2 129 yX2_withAll, Cond.instanceMethod yX2_withAll, Cond.selects RX2 yX2_withAll yX2_withAll, Cond.code yX2_withAll cX2_withAll 5 (some .int)]
def wsX2_bestClef_r2 : List Cond := [Cond.fieldLink RX2 13 "ChoirNotesModel" "clef" "[I", Cond.methodLink RX2 121 yX2_clash, Cond.instanceMethod yX2_clash, Cond.selects RX2 yX2_clash yX2_clash, Cond.code yX2_clash cX2_clash 9 (some .int), Cond.fieldLink RX2 32 "ChoirNotesModel" "mine" "[I", Cond.fieldLink RX2 35 "ChoirNotesModel" "theirs" "[I", Cond.methodLink RX2 67 Lib.Math.min.name, Cond.static Lib.Math.min.name, Cond.initialized "java/lang/Math", Cond.code Lib.Math.min.name Lib.Math.min.code 2 (some .int), Cond.methodLink RX2 63 yX2_lay, Cond.instanceMethod yX2_lay, Cond.selects RX2 yX2_lay yX2_lay, Cond.code yX2_lay cX2_lay 6 (some .int), Cond.methodLink RX2 53 yX2_lasts, Cond.instanceMethod yX2_lasts, Cond.selects RX2 yX2_lasts yX2_lasts, Cond.code yX2_lasts cX2_lasts 6 (some .int), Cond.fieldLink RX2 19 "ChoirNotesModel" "kind" "[I", Cond.fieldLink RX2 25 "ChoirNotesModel" "isRed" "[Z", Cond.fieldLink RX2 16 "ChoirNotesModel" "measure" "[I", Cond.methodLink RX2 70 yX2_isClash, Cond.static yX2_isClash]
def wsX2_bestClef_r3 : List Cond := [Cond.code yX2_isClash cX2_isClash 2 (some .boolean), Cond.methodLink RX2 57 Lib.Math.abs.name, Cond.static Lib.Math.abs.name, Cond.code Lib.Math.abs.name Lib.Math.abs.code 1 (some .int), Cond.methodLink RX2 76 yX2_fail, Cond.instanceMethod yX2_fail, Cond.selects RX2 yX2_fail yX2_fail, Cond.code yX2_fail cX2_fail 2 (some .int)]
def wsX2_bestClef : List Cond := .code yX2_bestClef cX2_bestClef 2 (some .int) :: ((wsX2_bestClef_r1 ++ (wsX2_bestClef_r2 ++ wsX2_bestClef_r3)) ++ wsX20)
def wsX2_canon : List Cond := .code yX2_canon cX2_canon 6 (some .int) :: ([.fieldLink RX2 32 "ChoirNotesModel" "mine" "[I", .methodLink RX2 70 yX2_isClash, .static yX2_isClash, .initialized RX2, .code yX2_isClash cX2_isClash 2 (some .boolean), .methodLink RX2 57 Lib.Math.abs.name, .static Lib.Math.abs.name, .initialized "java/lang/Math", .code Lib.Math.abs.name Lib.Math.abs.code 1 (some .int)] ++ wsX20)
def wsX2_canonClashes_r1 : List Cond := [Cond.fieldLink RX2 38 "ChoirNotesModel" "thrown" "I", Cond.fieldLink RX2 32 "ChoirNotesModel" "mine" "[I", Cond.methodLink RX2 49 yX2_isVoice, Cond.instanceMethod yX2_isVoice, Cond.selects RX2 yX2_isVoice yX2_isVoice, Cond.initialized RX2, Cond.code yX2_isVoice cX2_isVoice 2 (some .boolean), Cond.fieldLink RX2 42 "ChoirNotesModel" "voices" "I", Cond.methodLink RX2 45 yX2_isIn, Cond.static yX2_isIn, Cond.code yX2_isIn cX2_isIn 3 (some .boolean), Cond.methodLink RX2 76 yX2_fail, Cond.instanceMethod yX2_fail, Cond.selects RX2 yX2_fail yX2_fail, Cond.code yX2_fail cX2_fail 2 (some .int), Cond.methodLink RX2 63 yX2_lay, Cond.instanceMethod yX2_lay, Cond.selects RX2 yX2_lay yX2_lay, Cond.code yX2_lay cX2_lay 6 (some .int), Cond.fieldLink RX2 9 "ChoirNotesModel" "many" "[I", Cond.fieldLink RX2 22 "ChoirNotesModel" "place" "[I", Cond.methodLink RX2 53 yX2_lasts, Cond.instanceMethod yX2_lasts, Cond.selects RX2 yX2_lasts yX2_lasts]
def wsX2_canonClashes_r2 : List Cond := [Cond.code yX2_lasts cX2_lasts 6 (some .int), Cond.fieldLink RX2 19 "ChoirNotesModel" "kind" "[I", Cond.fieldLink RX2 25 "ChoirNotesModel" "isRed" "[Z", Cond.fieldLink RX2 16 "ChoirNotesModel" "measure" "[I", Cond.methodLink RX2 135 yX2_canon, Cond.instanceMethod yX2_canon, Cond.selects RX2 yX2_canon yX2_canon, Cond.code yX2_canon cX2_canon 6 (some .int), Cond.methodLink RX2 70 yX2_isClash, Cond.static yX2_isClash, Cond.code yX2_isClash cX2_isClash 2 (some .boolean), Cond.methodLink RX2 57 Lib.Math.abs.name, Cond.static Lib.Math.abs.name, Cond.initialized "java/lang/Math", Cond.code Lib.Math.abs.name Lib.Math.abs.code 1 (some .int)]
def wsX2_canonClashes : List Cond := .code yX2_canonClashes cX2_canonClashes 4 (some .int) :: ((wsX2_canonClashes_r1 ++ wsX2_canonClashes_r2) ++ wsX20)
def wsX2_delay_r1 : List Cond := [Cond.fieldLink RX2 32 "ChoirNotesModel" "mine" "[I", Cond.methodLink RX2 63 yX2_lay, Cond.instanceMethod yX2_lay, Cond.selects RX2 yX2_lay yX2_lay, Cond.initialized RX2, Cond.code yX2_lay cX2_lay 6 (some .int), Cond.fieldLink RX2 9 "ChoirNotesModel" "many" "[I", Cond.fieldLink RX2 22 "ChoirNotesModel" "place" "[I", Cond.methodLink RX2 53 yX2_lasts, Cond.instanceMethod yX2_lasts, Cond.selects RX2 yX2_lasts yX2_lasts, Cond.code yX2_lasts cX2_lasts 6 (some .int), Cond.fieldLink RX2 19 "ChoirNotesModel" "kind" "[I", Cond.fieldLink RX2 25 "ChoirNotesModel" "isRed" "[Z", Cond.fieldLink RX2 16 "ChoirNotesModel" "measure" "[I", Cond.methodLink RX2 135 yX2_canon, Cond.instanceMethod yX2_canon, Cond.selects RX2 yX2_canon yX2_canon, Cond.code yX2_canon cX2_canon 6 (some .int), Cond.methodLink RX2 70 yX2_isClash, Cond.static yX2_isClash, Cond.code yX2_isClash cX2_isClash 2 (some .boolean), Cond.methodLink RX2 57 Lib.Math.abs.name, Cond.static Lib.Math.abs.name]
def wsX2_delay_r2 : List Cond := [Cond.initialized "java/lang/Math", Cond.code Lib.Math.abs.name Lib.Math.abs.code 1 (some .int)]
def wsX2_delay : List Cond := .code yX2_delay cX2_delay 8 (some .int) :: ((wsX2_delay_r1 ++ wsX2_delay_r2) ++ wsX20)
def wsX2_bestDelay_r1 : List Cond := [Cond.fieldLink RX2 38 "ChoirNotesModel" "thrown" "I", Cond.methodLink RX2 49 yX2_isVoice, Cond.instanceMethod yX2_isVoice, Cond.selects RX2 yX2_isVoice yX2_isVoice, Cond.initialized RX2, Cond.code yX2_isVoice cX2_isVoice 2 (some .boolean), Cond.fieldLink RX2 42 "ChoirNotesModel" "voices" "I", Cond.methodLink RX2 45 yX2_isIn, Cond.static yX2_isIn, Cond.code yX2_isIn cX2_isIn 3 (some .boolean), Cond.methodLink RX2 76 yX2_fail, Cond.instanceMethod yX2_fail, Cond.selects RX2 yX2_fail yX2_fail, Cond.code yX2_fail cX2_fail 2 (some .int), Cond.methodLink RX2 139 yX2_delay, Cond.instanceMethod yX2_delay, Cond.selects RX2 yX2_delay yX2_delay, Cond.code yX2_delay cX2_delay 8 (some .int), Cond.fieldLink RX2 32 "ChoirNotesModel" "mine" "[I", Cond.methodLink RX2 63 yX2_lay, Cond.instanceMethod yX2_lay, Cond.selects RX2 yX2_lay yX2_lay, Cond.code yX2_lay cX2_lay 6 (some .int), Cond.fieldLink RX2 9 "ChoirNotesModel" "many" "[I"]
def wsX2_bestDelay_r2 : List Cond := [Cond.fieldLink RX2 22 "ChoirNotesModel" "place" "[I", Cond.methodLink RX2 53 yX2_lasts, Cond.instanceMethod yX2_lasts, Cond.selects RX2 yX2_lasts yX2_lasts, Cond.code yX2_lasts cX2_lasts 6 (some .int), Cond.fieldLink RX2 19 "ChoirNotesModel" "kind" "[I", Cond.fieldLink RX2 25 "ChoirNotesModel" "isRed" "[Z", Cond.fieldLink RX2 16 "ChoirNotesModel" "measure" "[I", Cond.methodLink RX2 135 yX2_canon, Cond.instanceMethod yX2_canon, Cond.selects RX2 yX2_canon yX2_canon, Cond.code yX2_canon cX2_canon 6 (some .int), Cond.methodLink RX2 70 yX2_isClash, Cond.static yX2_isClash, Cond.code yX2_isClash cX2_isClash 2 (some .boolean), Cond.methodLink RX2 57 Lib.Math.abs.name, Cond.static Lib.Math.abs.name, Cond.initialized "java/lang/Math", Cond.code Lib.Math.abs.name Lib.Math.abs.code 1 (some .int)]
def wsX2_bestDelay : List Cond := .code yX2_bestDelay cX2_bestDelay 3 (some .int) :: ((wsX2_bestDelay_r1 ++ wsX2_bestDelay_r2) ++ wsX20)
def wsX2_meanLength : List Cond := .code yX2_meanLength cX2_meanLength 3 (some .double) :: ([.fieldLink RX2 38 "ChoirNotesModel" "thrown" "I", .fieldLink RX2 42 "ChoirNotesModel" "voices" "I", .methodLink RX2 94 yX2_all, .instanceMethod yX2_all, .selects RX2 yX2_all yX2_all, .initialized RX2, .code yX2_all cX2_all 4 (some .int), .fieldLink RX2 9 "ChoirNotesModel" "many" "[I", .methodLink RX2 53 yX2_lasts, .instanceMethod yX2_lasts, .selects RX2 yX2_lasts yX2_lasts, .code yX2_lasts cX2_lasts 6 (some .int), .fieldLink RX2 19 "ChoirNotesModel" "kind" "[I", .fieldLink RX2 25 "ChoirNotesModel" "isRed" "[Z", .fieldLink RX2 16 "ChoirNotesModel" "measure" "[I"] ++ wsX20)
def wsX2_digest_r1 : List Cond := [Cond.fieldLink RX2 38 "ChoirNotesModel" "thrown" "I", Cond.constantLong RX2 142 (2311), Cond.constantLong RX2 144 (31), Cond.fieldLink RX2 42 "ChoirNotesModel" "voices" "I", Cond.arrayClass .int, Cond.fieldLink RX2 9 "ChoirNotesModel" "many" "[I", Cond.fieldLink RX2 13 "ChoirNotesModel" "clef" "[I", Cond.fieldLink RX2 32 "ChoirNotesModel" "mine" "[I", Cond.fieldLink RX2 19 "ChoirNotesModel" "kind" "[I", Cond.fieldLink RX2 22 "ChoirNotesModel" "place" "[I", Cond.fieldLink RX2 29 "ChoirNotesModel" "tied" "[I", Cond.methodLink RX2 111 yX2_most, Cond.instanceMethod yX2_most, Cond.selects RX2 yX2_most yX2_most, Cond.initialized RX2, Cond.code yX2_most cX2_most 3 (some .int), Cond.methodLink RX2 87 Lib.Math.max.name, Cond.static Lib.Math.max.name, Cond.initialized "java/lang/Math", Cond.code Lib.Math.max.name Lib.Math.max.code 2 (some .int), Cond.methodLink RX2 94 yX2_all, Cond.instanceMethod yX2_all, Cond.selects RX2 yX2_all yX2_all, Cond.code yX2_all cX2_all 4 (some .int)]
def wsX2_digest_r2 : List Cond := [Cond.methodLink RX2 53 yX2_lasts, Cond.instanceMethod yX2_lasts, Cond.selects RX2 yX2_lasts yX2_lasts, Cond.code yX2_lasts cX2_lasts 6 (some .int), Cond.fieldLink RX2 25 "ChoirNotesModel" "isRed" "[Z", Cond.fieldLink RX2 16 "ChoirNotesModel" "measure" "[I", Cond.methodLink RX2 100 yX2_count, Cond.instanceMethod yX2_count, Cond.selects RX2 yX2_count yX2_count, Cond.code yX2_count cX2_count 5 (some .int), Cond.methodLink RX2 118 yX2_fitting, Cond.instanceMethod yX2_fitting, Cond.selects RX2 yX2_fitting yX2_fitting, Cond.code yX2_fitting cX2_fitting 4 (some .int), Cond.methodLink RX2 115 yX2_fit, Cond.instanceMethod yX2_fit, Cond.selects RX2 yX2_fit yX2_fit, Cond.code yX2_fit cX2_fit 4 (some .boolean), Cond.methodLink RX2 45 yX2_isIn, Cond.static yX2_isIn, Cond.code yX2_isIn cX2_isIn 3 (some .boolean), Cond.methodLink RX2 132 yX2_best, Cond.instanceMethod yX2_best, Cond.selects RX2 yX2_best yX2_best]
def wsX2_digest_r3 : List Cond := [Cond.code yX2_best cX2_best 6 (some .int), Cond.methodLink RX2 129 yX2_withAll, Cond.instanceMethod yX2_withAll, Cond.selects RX2 yX2_withAll yX2_withAll, Cond.code yX2_withAll cX2_withAll 5 (some .int), Cond.methodLink RX2 121 yX2_clash, Cond.instanceMethod yX2_clash, Cond.selects RX2 yX2_clash yX2_clash, Cond.code yX2_clash cX2_clash 9 (some .int), Cond.fieldLink RX2 35 "ChoirNotesModel" "theirs" "[I", Cond.methodLink RX2 67 Lib.Math.min.name, Cond.static Lib.Math.min.name, Cond.code Lib.Math.min.name Lib.Math.min.code 2 (some .int), Cond.methodLink RX2 63 yX2_lay, Cond.instanceMethod yX2_lay, Cond.selects RX2 yX2_lay yX2_lay, Cond.code yX2_lay cX2_lay 6 (some .int), Cond.methodLink RX2 70 yX2_isClash, Cond.static yX2_isClash, Cond.code yX2_isClash cX2_isClash 2 (some .boolean), Cond.methodLink RX2 57 Lib.Math.abs.name, Cond.static Lib.Math.abs.name, Cond.code Lib.Math.abs.name Lib.Math.abs.code 1 (some .int), Cond.methodLink RX2 135 yX2_canon]
def wsX2_digest_r4 : List Cond := [Cond.instanceMethod yX2_canon, Cond.selects RX2 yX2_canon yX2_canon, Cond.code yX2_canon cX2_canon 6 (some .int), Cond.methodLink RX2 139 yX2_delay, Cond.instanceMethod yX2_delay, Cond.selects RX2 yX2_delay yX2_delay, Cond.code yX2_delay cX2_delay 8 (some .int), Cond.methodLink RX2 108 yX2_begins, Cond.instanceMethod yX2_begins, Cond.selects RX2 yX2_begins yX2_begins, Cond.code yX2_begins cX2_begins 5 (some .int)]
def wsX2_digest : List Cond := .code yX2_digest cX2_digest 12 (some .long) :: ((wsX2_digest_r1 ++ (wsX2_digest_r2 ++ (wsX2_digest_r3 ++ wsX2_digest_r4))) ++ wsX20)
def wsJ9_abs_0f7a4 : List Cond := .code yJ9_abs_0f7a4 cJ9_abs_0f7a4 1 (some .int) :: ([])
def wsJ9_max_7cf53 : List Cond := .code yJ9_max_7cf53 cJ9_max_7cf53 2 (some .int) :: ([])
def wsJ9_min_7cf53 : List Cond := .code yJ9_min_7cf53 cJ9_min_7cf53 2 (some .int) :: ([])
theorem inJ9 : ∀ w ∈ wsJ90, w ∈ lw_tbl := by decide +kernel
theorem inJ0 : ∀ w ∈ wsJ00, w ∈ lw_tbl := by decide +kernel
set_option maxRecDepth 20000 in
theorem ggX0_measure_X0_timeFrom : GoodIn wsX0_measure wsX0_timeFrom := goodIn_r _ [8, 9, 10, 11, 12, 13, 14, 15, 7, 16, 1, 2, 3, 17, 18, 19, 20, 21, 22, 23, 24, 25, 26] (by decide +kernel) (by decide +kernel)
set_option maxRecDepth 20000 in
theorem gX0_measure_X0_timeFrom : GoodIn wsX0_measure (wsV RX0 41 RX0 yX0_timeFrom wsX0_timeFrom) := goodIn_app (goodIn_of _ (by decide +kernel)) ggX0_measure_X0_timeFrom
set_option maxRecDepth 20000 in
theorem ggX0_append_X0_timeFrom : GoodIn wsX0_append wsX0_timeFrom := goodIn_r _ [10, 1, 11, 2, 4, 12, 13, 14, 9, 15, 16, 17, 18, 19, 20, 21, 22, 23, 24, 25, 26, 27, 28] (by decide +kernel) (by decide +kernel)
set_option maxRecDepth 20000 in
theorem gX0_append_X0_timeFrom : GoodIn wsX0_append (wsV RX0 41 RX0 yX0_timeFrom wsX0_timeFrom) := goodIn_app (goodIn_of _ (by decide +kernel)) ggX0_append_X0_timeFrom
set_option maxRecDepth 20000 in
theorem ggX0_turnColour_X0_timeFrom : GoodIn wsX0_turnColour wsX0_timeFrom := goodIn_r _ [6, 7, 8, 9, 1, 10, 11, 12, 5, 13, 14, 15, 16, 17, 18, 19, 20, 21, 22, 23, 24, 25, 26] (by decide +kernel) (by decide +kernel)
set_option maxRecDepth 20000 in
theorem gX0_turnColour_X0_timeFrom : GoodIn wsX0_turnColour (wsV RX0 41 RX0 yX0_timeFrom wsX0_timeFrom) := goodIn_app (goodIn_of _ (by decide +kernel)) ggX0_turnColour_X0_timeFrom
set_option maxRecDepth 20000 in
theorem ggX0_timeFrom_X0_minimsByKind : GoodIn wsX0_timeFrom wsX0_minimsByKind := goodIn_r _ [9, 10, 11, 12, 13, 14, 15, 16, 17, 18, 19, 20, 21, 22] (by decide +kernel) (by decide +kernel)
set_option maxRecDepth 20000 in
theorem gX0_timeFrom_X0_minimsByKind : GoodIn wsX0_timeFrom (wsV RX0 48 RX0 yX0_minimsByKind wsX0_minimsByKind) := goodIn_app (goodIn_of _ (by decide +kernel)) ggX0_timeFrom_X0_minimsByKind
set_option maxRecDepth 20000 in
theorem ggX0_countNotes_X0_isRest : GoodIn wsX0_countNotes wsX0_isRest := goodIn_r _ [6, 7, 8, 9, 10, 11, 12, 13, 14, 15, 16, 17] (by decide +kernel) (by decide +kernel)
set_option maxRecDepth 20000 in
theorem gX0_countNotes_X0_isRest : GoodIn wsX0_countNotes (wsV RX0 52 RX0 yX0_isRest wsX0_isRest) := goodIn_app (goodIn_of _ (by decide +kernel)) ggX0_countNotes_X0_isRest
set_option maxRecDepth 20000 in
theorem ggX0_wouldFit_X0_isRest : GoodIn wsX0_wouldFit wsX0_isRest := goodIn_r _ [7, 2, 8, 9, 10, 11, 12, 13, 14, 15, 16, 17] (by decide +kernel) (by decide +kernel)
set_option maxRecDepth 20000 in
theorem gX0_wouldFit_X0_isRest : GoodIn wsX0_wouldFit (wsV RX0 52 RX0 yX0_isRest wsX0_isRest) := goodIn_app (goodIn_of _ (by decide +kernel)) ggX0_wouldFit_X0_isRest
set_option maxRecDepth 20000 in
theorem ggX0_countFittingClefs_X0_wouldFit : GoodIn wsX0_countFittingClefs wsX0_wouldFit := goodIn_r _ [5, 6, 7, 8, 9, 10, 4, 11, 12, 13, 14, 15, 16, 17, 18, 19, 20, 21] (by decide +kernel) (by decide +kernel)
set_option maxRecDepth 20000 in
theorem gX0_countFittingClefs_X0_wouldFit : GoodIn wsX0_countFittingClefs (wsV RX0 56 RX0 yX0_wouldFit wsX0_wouldFit) := goodIn_app (goodIn_of _ (by decide +kernel)) ggX0_countFittingClefs_X0_wouldFit
set_option maxRecDepth 20000 in
theorem ggX1_init_X0_init : GoodIn wsX1_init wsX0_init := goodIn_r _ [9, 10, 2, 3, 11, 12, 13, 14, 15, 16, 17, 18, 21, 22, 23, 24, 25, 26, 27, 28, 29, 30] (by decide +kernel) (by decide +kernel)
set_option maxRecDepth 20000 in
theorem gX1_init_X0_init_n15 : GoodIn wsX1_init (wsX0_init) := ggX1_init_X0_init
set_option maxRecDepth 20000 in
theorem ggX1_addVoice_X1_checkMensuration : GoodIn wsX1_addVoice wsX1_checkMensuration := goodIn_ca (goodIn_r _ [8, 9, 10, 7, 11, 12, 13] (by decide +kernel) (by decide +kernel)) (goodIn_sub (fun _ h => List.mem_cons_of_mem _ (List.mem_append_right _ h)) (by decide +kernel))
set_option maxRecDepth 20000 in
theorem gX1_addVoice_X1_checkMensuration : GoodIn wsX1_addVoice (va_wsS RX1 16 yX1_checkMensuration wsX1_checkMensuration) := goodIn_app (goodIn_of _ (by decide +kernel)) ggX1_addVoice_X1_checkMensuration
set_option maxRecDepth 20000 in
theorem ggX1_addVoice_X0_measure : GoodIn wsX1_addVoice wsX0_measure := goodIn_r _ [17, 18, 19, 20, 21, 22, 23, 15, 24, 25, 26, 27, 28, 29, 30, 31, 32, 35, 36, 37, 38, 39, 40, 41, 42, 43, 44] (by decide +kernel) (by decide +kernel)
set_option maxRecDepth 20000 in
theorem gX1_addVoice_X0_measure_n31 : GoodIn wsX1_addVoice (wsX0_measure) := ggX1_addVoice_X0_measure
set_option maxRecDepth 20000 in
theorem ggX1_addNote_X1_knownVoice : GoodIn wsX1_addNote wsX1_knownVoice := goodIn_ca (goodIn_r _ [5, 6, 7, 8, 9, 41, 42] (by decide +kernel) (by decide +kernel)) (goodIn_sub (fun _ h => List.mem_cons_of_mem _ (List.mem_append_left _ (List.mem_append_left _ (List.mem_append_right _ h)))) (by decide +kernel))
set_option maxRecDepth 20000 in
theorem gX1_addNote_X1_knownVoice : GoodIn wsX1_addNote (wsV RX1 34 RX1 yX1_knownVoice wsX1_knownVoice) := goodIn_app (goodIn_of _ (by decide +kernel)) ggX1_addNote_X1_knownVoice
set_option maxRecDepth 20000 in
theorem ggX1_addNote_X1_checkRange : GoodIn wsX1_addNote wsX1_checkRange := goodIn_ca (goodIn_r _ [12, 13, 14] (by decide +kernel) (by decide +kernel)) (goodIn_sub (fun _ h => List.mem_cons_of_mem _ (List.mem_append_left _ (List.mem_append_right _ h))) (by decide +kernel))
set_option maxRecDepth 20000 in
theorem gX1_addNote_X1_checkRange : GoodIn wsX1_addNote (va_wsS RX1 38 yX1_checkRange wsX1_checkRange) := goodIn_app (goodIn_of _ (by decide +kernel)) ggX1_addNote_X1_checkRange
set_option maxRecDepth 20000 in
theorem ggX1_addNote_X1_checkRoom : GoodIn wsX1_addNote wsX1_checkRoom := goodIn_ca (goodIn_r _ [17, 18, 19, 43, 44, 45, 46, 47, 48, 49, 50, 51, 52] (by decide +kernel) (by decide +kernel)) (goodIn_sub (fun _ h => List.mem_cons_of_mem _ (List.mem_append_right _ h)) (by decide +kernel))
set_option maxRecDepth 20000 in
theorem gX1_addNote_X1_checkRoom : GoodIn wsX1_addNote (va_wsS RX1 41 yX1_checkRoom wsX1_checkRoom) := goodIn_app (goodIn_of _ (by decide +kernel)) ggX1_addNote_X1_checkRoom
set_option maxRecDepth 20000 in
theorem ggX1_addNote_X0_append : GoodIn wsX1_addNote wsX0_append := goodIn_r _ [23, 24, 25, 26, 27, 28, 29, 30, 31, 21, 32, 33, 34, 35, 36, 37, 38, 39, 40, 43, 44, 45, 46, 47, 48, 49, 50, 51, 52] (by decide +kernel) (by decide +kernel)
set_option maxRecDepth 20000 in
theorem gX1_addNote_X0_append_n45 : GoodIn wsX1_addNote (wsX0_append) := ggX1_addNote_X0_append
set_option maxRecDepth 20000 in
theorem ggX1_addRest_X1_knownVoice : GoodIn wsX1_addRest wsX1_knownVoice := goodIn_ca (goodIn_r _ [5, 6, 7, 8, 9, 41, 42] (by decide +kernel) (by decide +kernel)) (goodIn_sub (fun _ h => List.mem_cons_of_mem _ (List.mem_append_left _ (List.mem_append_left _ (List.mem_append_right _ h)))) (by decide +kernel))
set_option maxRecDepth 20000 in
theorem gX1_addRest_X1_knownVoice : GoodIn wsX1_addRest (wsV RX1 34 RX1 yX1_knownVoice wsX1_knownVoice) := goodIn_app (goodIn_of _ (by decide +kernel)) ggX1_addRest_X1_knownVoice
set_option maxRecDepth 20000 in
theorem ggX1_addRest_X1_checkRange : GoodIn wsX1_addRest wsX1_checkRange := goodIn_ca (goodIn_r _ [12, 13, 14] (by decide +kernel) (by decide +kernel)) (goodIn_sub (fun _ h => List.mem_cons_of_mem _ (List.mem_append_left _ (List.mem_append_right _ h))) (by decide +kernel))
set_option maxRecDepth 20000 in
theorem gX1_addRest_X1_checkRange : GoodIn wsX1_addRest (va_wsS RX1 38 yX1_checkRange wsX1_checkRange) := goodIn_app (goodIn_of _ (by decide +kernel)) ggX1_addRest_X1_checkRange
set_option maxRecDepth 20000 in
theorem ggX1_addRest_X1_checkRoom : GoodIn wsX1_addRest wsX1_checkRoom := goodIn_ca (goodIn_r _ [17, 18, 19, 43, 44, 45, 46, 47, 48, 49, 50, 51, 52] (by decide +kernel) (by decide +kernel)) (goodIn_sub (fun _ h => List.mem_cons_of_mem _ (List.mem_append_right _ h)) (by decide +kernel))
set_option maxRecDepth 20000 in
theorem gX1_addRest_X1_checkRoom : GoodIn wsX1_addRest (va_wsS RX1 41 yX1_checkRoom wsX1_checkRoom) := goodIn_app (goodIn_of _ (by decide +kernel)) ggX1_addRest_X1_checkRoom
set_option maxRecDepth 20000 in
theorem ggX1_addRest_X0_append : GoodIn wsX1_addRest wsX0_append := goodIn_r _ [23, 24, 25, 26, 27, 28, 29, 30, 31, 21, 32, 33, 34, 35, 36, 37, 38, 39, 40, 43, 44, 45, 46, 47, 48, 49, 50, 51, 52] (by decide +kernel) (by decide +kernel)
set_option maxRecDepth 20000 in
theorem gX1_addRest_X0_append_n45 : GoodIn wsX1_addRest (wsX0_append) := ggX1_addRest_X0_append
set_option maxRecDepth 20000 in
theorem ggX1_addLigature_X1_knownVoice : GoodIn wsX1_addLigature wsX1_knownVoice := goodIn_ca (goodIn_r _ [5, 6, 7, 8, 9, 53, 54] (by decide +kernel) (by decide +kernel)) (goodIn_sub (fun _ h => List.mem_cons_of_mem _ (List.mem_append_left _ (List.mem_append_left _ (List.mem_append_right _ h)))) (by decide +kernel))
set_option maxRecDepth 20000 in
theorem gX1_addLigature_X1_knownVoice : GoodIn wsX1_addLigature (wsV RX1 34 RX1 yX1_knownVoice wsX1_knownVoice) := goodIn_app (goodIn_of _ (by decide +kernel)) ggX1_addLigature_X1_knownVoice
set_option maxRecDepth 20000 in
theorem ggX1_addLigature_X1_checkLigature : GoodIn wsX1_addLigature wsX1_checkLigature := goodIn_ca (goodIn_r _ [12, 13, 14, 15, 16, 4, 17] (by decide +kernel) (by decide +kernel)) (goodIn_sub (fun _ h => List.mem_cons_of_mem _ (List.mem_append_left _ (List.mem_append_right _ h))) (by decide +kernel))
set_option maxRecDepth 20000 in
theorem gX1_addLigature_X1_checkLigature : GoodIn wsX1_addLigature (va_wsS RX1 49 yX1_checkLigature wsX1_checkLigature) := goodIn_app (goodIn_of _ (by decide +kernel)) ggX1_addLigature_X1_checkLigature
set_option maxRecDepth 20000 in
theorem ggX1_addLigature_X1_checkRoom : GoodIn wsX1_addLigature wsX1_checkRoom := goodIn_ca (goodIn_r _ [20, 21, 22, 55, 56, 57, 58, 59, 60, 61, 62, 63, 64] (by decide +kernel) (by decide +kernel)) (goodIn_sub (fun _ h => List.mem_cons_of_mem _ (List.mem_append_right _ h)) (by decide +kernel))
set_option maxRecDepth 20000 in
theorem gX1_addLigature_X1_checkRoom : GoodIn wsX1_addLigature (va_wsS RX1 41 yX1_checkRoom wsX1_checkRoom) := goodIn_app (goodIn_of _ (by decide +kernel)) ggX1_addLigature_X1_checkRoom
set_option maxRecDepth 20000 in
theorem ggX1_addLigature_X1_firstKind : GoodIn wsX1_addLigature wsX1_firstKind := goodIn_r _ [25, 26, 27, 4, 28] (by decide +kernel) (by decide +kernel)
set_option maxRecDepth 20000 in
theorem gX1_addLigature_X1_firstKind : GoodIn wsX1_addLigature (va_wsS RX1 52 yX1_firstKind wsX1_firstKind) := goodIn_app (goodIn_of _ (by decide +kernel)) ggX1_addLigature_X1_firstKind
set_option maxRecDepth 20000 in
theorem ggX1_addLigature_X0_append : GoodIn wsX1_addLigature wsX0_append := goodIn_r _ [32, 33, 34, 35, 36, 37, 38, 39, 40, 30, 41, 42, 43, 44, 45, 46, 47, 48, 49, 55, 56, 57, 58, 59, 60, 61, 62, 63, 64] (by decide +kernel) (by decide +kernel)
set_option maxRecDepth 20000 in
theorem gX1_addLigature_X0_append_n45 : GoodIn wsX1_addLigature (wsX0_append) := ggX1_addLigature_X0_append
set_option maxRecDepth 20000 in
theorem ggX1_addLigature_X1_secondKind : GoodIn wsX1_addLigature wsX1_secondKind := goodIn_r _ [52, 26, 27, 4, 28] (by decide +kernel) (by decide +kernel)
set_option maxRecDepth 20000 in
theorem gX1_addLigature_X1_secondKind : GoodIn wsX1_addLigature (va_wsS RX1 56 yX1_secondKind wsX1_secondKind) := goodIn_app (goodIn_of _ (by decide +kernel)) ggX1_addLigature_X1_secondKind
set_option maxRecDepth 20000 in
theorem ggX1_addLigature_X1_lastKind : GoodIn wsX1_addLigature wsX1_lastKind := goodIn_r _ [28] (by decide +kernel) (by decide +kernel)
set_option maxRecDepth 20000 in
theorem gX1_addLigature_X1_lastKind : GoodIn wsX1_addLigature (va_wsS RX1 60 yX1_lastKind wsX1_lastKind) := goodIn_app (goodIn_of _ (by decide +kernel)) ggX1_addLigature_X1_lastKind
set_option maxRecDepth 20000 in
theorem ggX1_erase_X1_knownVoice : GoodIn wsX1_erase wsX1_knownVoice := goodIn_ca (goodIn_r _ [7, 8, 9, 10, 11, 28, 29] (by decide +kernel) (by decide +kernel)) (goodIn_sub (fun _ h => List.mem_cons_of_mem _ (List.mem_append_right _ h)) (by decide +kernel))
set_option maxRecDepth 20000 in
theorem gX1_erase_X1_knownVoice : GoodIn wsX1_erase (wsV RX1 34 RX1 yX1_knownVoice wsX1_knownVoice) := goodIn_app (goodIn_of _ (by decide +kernel)) ggX1_erase_X1_knownVoice
set_option maxRecDepth 20000 in
theorem ggX1_erase_X0_dropLast : GoodIn wsX1_erase wsX0_dropLast := goodIn_r _ [15, 16, 17, 18, 19, 20, 21, 22, 23, 24, 25, 26, 27] (by decide +kernel) (by decide +kernel)
set_option maxRecDepth 20000 in
theorem gX1_erase_X0_dropLast_n69 : GoodIn wsX1_erase (wsX0_dropLast) := ggX1_erase_X0_dropLast
set_option maxRecDepth 20000 in
theorem ggX1_recolour_X1_voiceWithSign : GoodIn wsX1_recolour wsX1_voiceWithSign := goodIn_ca (goodIn_r _ [7, 8, 9, 10, 11, 12, 6, 13, 14, 15, 39, 40, 41, 42, 43, 44, 45, 46, 47, 48, 49, 50] (by decide +kernel) (by decide +kernel)) (goodIn_sub (fun _ h => List.mem_cons_of_mem _ (List.mem_append_right _ h)) (by decide +kernel))
set_option maxRecDepth 20000 in
theorem gX1_recolour_X1_voiceWithSign : GoodIn wsX1_recolour (wsV RX1 73 RX1 yX1_voiceWithSign wsX1_voiceWithSign) := goodIn_app (goodIn_of _ (by decide +kernel)) ggX1_recolour_X1_voiceWithSign
set_option maxRecDepth 20000 in
theorem ggX1_recolour_X0_isRest : GoodIn wsX1_recolour wsX0_isRest := goodIn_r _ [19, 20, 39, 40, 41, 42, 43, 44, 45, 46, 47, 48] (by decide +kernel) (by decide +kernel)
set_option maxRecDepth 20000 in
theorem gX1_recolour_X0_isRest_n77 : GoodIn wsX1_recolour (wsX0_isRest) := ggX1_recolour_X0_isRest
set_option maxRecDepth 20000 in
theorem ggX1_recolour_X0_turnColour : GoodIn wsX1_recolour wsX0_turnColour := goodIn_r _ [23, 24, 25, 26, 27, 17, 28, 29, 30, 31, 32, 33, 34, 35, 36, 37, 38, 39, 40, 41, 42, 43, 44, 45, 46, 47, 48] (by decide +kernel) (by decide +kernel)
set_option maxRecDepth 20000 in
theorem gX1_recolour_X0_turnColour_n83 : GoodIn wsX1_recolour (wsX0_turnColour) := ggX1_recolour_X0_turnColour
set_option maxRecDepth 20000 in
theorem ggX1_setClef_X1_knownVoice : GoodIn wsX1_setClef wsX1_knownVoice := goodIn_ca (goodIn_r _ [5, 6, 7, 8, 9, 25, 26] (by decide +kernel) (by decide +kernel)) (goodIn_sub (fun _ h => List.mem_cons_of_mem _ (List.mem_append_left _ (List.mem_append_right _ h))) (by decide +kernel))
set_option maxRecDepth 20000 in
theorem gX1_setClef_X1_knownVoice : GoodIn wsX1_setClef (wsV RX1 34 RX1 yX1_knownVoice wsX1_knownVoice) := goodIn_app (goodIn_of _ (by decide +kernel)) ggX1_setClef_X1_knownVoice
set_option maxRecDepth 20000 in
theorem ggX1_setClef_X1_checkRange : GoodIn wsX1_setClef wsX1_checkRange := goodIn_ca (goodIn_r _ [12, 13, 14] (by decide +kernel) (by decide +kernel)) (goodIn_sub (fun _ h => List.mem_cons_of_mem _ (List.mem_append_right _ h)) (by decide +kernel))
set_option maxRecDepth 20000 in
theorem gX1_setClef_X1_checkRange : GoodIn wsX1_setClef (va_wsS RX1 38 yX1_checkRange wsX1_checkRange) := goodIn_app (goodIn_of _ (by decide +kernel)) ggX1_setClef_X1_checkRange
set_option maxRecDepth 20000 in
theorem ggX1_setMensuration_X1_knownVoice : GoodIn wsX1_setMensuration wsX1_knownVoice := goodIn_ca (goodIn_r _ [5, 6, 7, 8, 9, 40, 41] (by decide +kernel) (by decide +kernel)) (goodIn_sub (fun _ h => List.mem_cons_of_mem _ (List.mem_append_left _ (List.mem_append_right _ h))) (by decide +kernel))
set_option maxRecDepth 20000 in
theorem gX1_setMensuration_X1_knownVoice : GoodIn wsX1_setMensuration (wsV RX1 34 RX1 yX1_knownVoice wsX1_knownVoice) := goodIn_app (goodIn_of _ (by decide +kernel)) ggX1_setMensuration_X1_knownVoice
set_option maxRecDepth 20000 in
theorem ggX1_setMensuration_X1_checkMensuration : GoodIn wsX1_setMensuration wsX1_checkMensuration := goodIn_ca (goodIn_r _ [12, 13, 14, 4, 15, 16, 17] (by decide +kernel) (by decide +kernel)) (goodIn_sub (fun _ h => List.mem_cons_of_mem _ (List.mem_append_right _ h)) (by decide +kernel))
set_option maxRecDepth 20000 in
theorem gX1_setMensuration_X1_checkMensuration : GoodIn wsX1_setMensuration (va_wsS RX1 16 yX1_checkMensuration wsX1_checkMensuration) := goodIn_app (goodIn_of _ (by decide +kernel)) ggX1_setMensuration_X1_checkMensuration
set_option maxRecDepth 20000 in
theorem ggX1_setMensuration_X0_measure : GoodIn wsX1_setMensuration wsX0_measure := goodIn_r _ [21, 22, 23, 24, 25, 26, 27, 19, 28, 29, 30, 31, 32, 33, 34, 35, 36, 42, 43, 44, 45, 46, 47, 48, 49, 50, 51] (by decide +kernel) (by decide +kernel)
set_option maxRecDepth 20000 in
theorem gX1_setMensuration_X0_measure_n31 : GoodIn wsX1_setMensuration (wsX0_measure) := ggX1_setMensuration_X0_measure
set_option maxRecDepth 20000 in
theorem ggX1_setMensuration_X0_end : GoodIn wsX1_setMensuration wsX0_end := goodIn_r _ [39, 30, 29, 42, 43, 44, 45, 46, 47, 48, 49, 50, 51] (by decide +kernel) (by decide +kernel)
set_option maxRecDepth 20000 in
theorem gX1_setMensuration_X0_end_n89 : GoodIn wsX1_setMensuration (wsX0_end) := ggX1_setMensuration_X0_end
set_option maxRecDepth 20000 in
theorem ggX1_signs_X1_knownVoice : GoodIn wsX1_signs wsX1_knownVoice := goodIn_ca (goodIn_r _ [5, 6, 7, 8, 9, 20, 21] (by decide +kernel) (by decide +kernel)) (goodIn_sub (fun _ h => List.mem_cons_of_mem _ (List.mem_append_right _ h)) (by decide +kernel))
set_option maxRecDepth 20000 in
theorem gX1_signs_X1_knownVoice : GoodIn wsX1_signs (wsV RX1 34 RX1 yX1_knownVoice wsX1_knownVoice) := goodIn_app (goodIn_of _ (by decide +kernel)) ggX1_signs_X1_knownVoice
set_option maxRecDepth 20000 in
theorem ggX1_notes_X1_knownVoice : GoodIn wsX1_notes wsX1_knownVoice := goodIn_ca (goodIn_r _ [5, 6, 7, 8, 9, 20, 21] (by decide +kernel) (by decide +kernel)) (goodIn_sub (fun _ h => List.mem_cons_of_mem _ (List.mem_append_right _ h)) (by decide +kernel))
set_option maxRecDepth 20000 in
theorem gX1_notes_X1_knownVoice : GoodIn wsX1_notes (wsV RX1 34 RX1 yX1_knownVoice wsX1_knownVoice) := goodIn_app (goodIn_of _ (by decide +kernel)) ggX1_notes_X1_knownVoice
set_option maxRecDepth 20000 in
theorem ggX1_notes_X0_countNotes : GoodIn wsX1_notes wsX0_countNotes := goodIn_r _ [13, 14, 15, 16, 17, 11, 18, 19, 22, 23, 24, 25, 26, 27, 28, 29, 30, 31] (by decide +kernel) (by decide +kernel)
set_option maxRecDepth 20000 in
theorem gX1_notes_X0_countNotes_n92 : GoodIn wsX1_notes (wsX0_countNotes) := ggX1_notes_X0_countNotes
set_option maxRecDepth 20000 in
theorem ggX1_ligatures_X1_knownVoice : GoodIn wsX1_ligatures wsX1_knownVoice := goodIn_ca (goodIn_r _ [5, 6, 7, 8, 9, 16, 17] (by decide +kernel) (by decide +kernel)) (goodIn_sub (fun _ h => List.mem_cons_of_mem _ (List.mem_append_right _ h)) (by decide +kernel))
set_option maxRecDepth 20000 in
theorem gX1_ligatures_X1_knownVoice : GoodIn wsX1_ligatures (wsV RX1 34 RX1 yX1_knownVoice wsX1_knownVoice) := goodIn_app (goodIn_of _ (by decide +kernel)) ggX1_ligatures_X1_knownVoice
set_option maxRecDepth 20000 in
theorem ggX1_ligatures_X0_countLigatures : GoodIn wsX1_ligatures wsX0_countLigatures := goodIn_r _ [13, 14, 15, 18, 19, 20, 21, 22, 23, 24, 25, 26, 27] (by decide +kernel) (by decide +kernel)
set_option maxRecDepth 20000 in
theorem gX1_ligatures_X0_countLigatures_n95 : GoodIn wsX1_ligatures (wsX0_countLigatures) := ggX1_ligatures_X0_countLigatures
set_option maxRecDepth 20000 in
theorem ggX1_kindOf_X1_voiceWithSign : GoodIn wsX1_kindOf wsX1_voiceWithSign := goodIn_ca (goodIn_r _ [5, 6, 7, 8, 9, 10, 4, 11, 12, 13, 14, 15, 16, 17, 18, 19, 20, 21, 22, 23, 24, 25] (by decide +kernel) (by decide +kernel)) (goodIn_sub (fun _ h => List.mem_cons_of_mem _ (List.mem_append_right _ h)) (by decide +kernel))
set_option maxRecDepth 20000 in
theorem gX1_kindOf_X1_voiceWithSign : GoodIn wsX1_kindOf (wsV RX1 73 RX1 yX1_voiceWithSign wsX1_voiceWithSign) := goodIn_app (goodIn_of _ (by decide +kernel)) ggX1_kindOf_X1_voiceWithSign
set_option maxRecDepth 20000 in
theorem ggX1_placeOf_X1_voiceWithSign : GoodIn wsX1_placeOf wsX1_voiceWithSign := goodIn_ca (goodIn_r _ [5, 6, 7, 8, 9, 10, 4, 11, 12, 13, 14, 15, 16, 17, 18, 19, 20, 21, 22, 23, 24, 25] (by decide +kernel) (by decide +kernel)) (goodIn_sub (fun _ h => List.mem_cons_of_mem _ (List.mem_append_right _ h)) (by decide +kernel))
set_option maxRecDepth 20000 in
theorem gX1_placeOf_X1_voiceWithSign : GoodIn wsX1_placeOf (wsV RX1 73 RX1 yX1_voiceWithSign wsX1_voiceWithSign) := goodIn_app (goodIn_of _ (by decide +kernel)) ggX1_placeOf_X1_voiceWithSign
set_option maxRecDepth 20000 in
theorem ggX1_isColoured_X1_voiceWithSign : GoodIn wsX1_isColoured wsX1_voiceWithSign := goodIn_ca (goodIn_r _ [5, 6, 7, 8, 9, 10, 4, 11, 12, 13, 14, 15, 16, 17, 18, 19, 20, 21, 22, 23, 24, 25] (by decide +kernel) (by decide +kernel)) (goodIn_sub (fun _ h => List.mem_cons_of_mem _ (List.mem_append_right _ h)) (by decide +kernel))
set_option maxRecDepth 20000 in
theorem gX1_isColoured_X1_voiceWithSign : GoodIn wsX1_isColoured (wsV RX1 73 RX1 yX1_voiceWithSign wsX1_voiceWithSign) := goodIn_app (goodIn_of _ (by decide +kernel)) ggX1_isColoured_X1_voiceWithSign
set_option maxRecDepth 20000 in
theorem ggX1_placeInLigature_X1_voiceWithSign : GoodIn wsX1_placeInLigature wsX1_voiceWithSign := goodIn_ca (goodIn_r _ [5, 6, 7, 8, 9, 10, 4, 11, 12, 13, 14, 15, 16, 17, 18, 19, 20, 21, 22, 23, 24, 25] (by decide +kernel) (by decide +kernel)) (goodIn_sub (fun _ h => List.mem_cons_of_mem _ (List.mem_append_right _ h)) (by decide +kernel))
set_option maxRecDepth 20000 in
theorem gX1_placeInLigature_X1_voiceWithSign : GoodIn wsX1_placeInLigature (wsV RX1 73 RX1 yX1_voiceWithSign wsX1_voiceWithSign) := goodIn_app (goodIn_of _ (by decide +kernel)) ggX1_placeInLigature_X1_voiceWithSign
set_option maxRecDepth 20000 in
theorem ggX1_lengthOf_X1_voiceWithSign : GoodIn wsX1_lengthOf wsX1_voiceWithSign := goodIn_ca (goodIn_r _ [5, 6, 7, 8, 9, 10, 4, 11, 12, 13, 19, 20, 21, 22, 23, 24, 25, 26, 27, 28, 29, 30] (by decide +kernel) (by decide +kernel)) (goodIn_sub (fun _ h => List.mem_cons_of_mem _ (List.mem_append_right _ h)) (by decide +kernel))
set_option maxRecDepth 20000 in
theorem gX1_lengthOf_X1_voiceWithSign : GoodIn wsX1_lengthOf (wsV RX1 73 RX1 yX1_voiceWithSign wsX1_voiceWithSign) := goodIn_app (goodIn_of _ (by decide +kernel)) ggX1_lengthOf_X1_voiceWithSign
set_option maxRecDepth 20000 in
theorem ggX1_lengthOf_X0_minimsOf : GoodIn wsX1_lengthOf wsX0_minimsOf := goodIn_r _ [17, 18, 19, 20, 21, 22, 23, 24, 25, 26, 27, 28] (by decide +kernel) (by decide +kernel)
set_option maxRecDepth 20000 in
theorem gX1_lengthOf_X0_minimsOf_n112 : GoodIn wsX1_lengthOf (wsX0_minimsOf) := ggX1_lengthOf_X0_minimsOf
set_option maxRecDepth 20000 in
theorem ggX1_beginOf_X1_voiceWithSign : GoodIn wsX1_beginOf wsX1_voiceWithSign := goodIn_ca (goodIn_r _ [5, 6, 7, 8, 9, 10, 4, 11, 12, 13, 14, 15, 16, 17, 18, 19, 20, 21, 22, 23, 24, 25] (by decide +kernel) (by decide +kernel)) (goodIn_sub (fun _ h => List.mem_cons_of_mem _ (List.mem_append_right _ h)) (by decide +kernel))
set_option maxRecDepth 20000 in
theorem gX1_beginOf_X1_voiceWithSign : GoodIn wsX1_beginOf (wsV RX1 73 RX1 yX1_voiceWithSign wsX1_voiceWithSign) := goodIn_app (goodIn_of _ (by decide +kernel)) ggX1_beginOf_X1_voiceWithSign
set_option maxRecDepth 20000 in
theorem ggX1_length_X1_knownVoice : GoodIn wsX1_length wsX1_knownVoice := goodIn_ca (goodIn_r _ [5, 6, 7, 8, 9, 16, 17] (by decide +kernel) (by decide +kernel)) (goodIn_sub (fun _ h => List.mem_cons_of_mem _ (List.mem_append_right _ h)) (by decide +kernel))
set_option maxRecDepth 20000 in
theorem gX1_length_X1_knownVoice : GoodIn wsX1_length (wsV RX1 34 RX1 yX1_knownVoice wsX1_knownVoice) := goodIn_app (goodIn_of _ (by decide +kernel)) ggX1_length_X1_knownVoice
set_option maxRecDepth 20000 in
theorem ggX1_length_X0_end : GoodIn wsX1_length wsX0_end := goodIn_r _ [13, 14, 15, 18, 19, 20, 21, 22, 23, 24, 25, 26, 27] (by decide +kernel) (by decide +kernel)
set_option maxRecDepth 20000 in
theorem gX1_length_X0_end_n89 : GoodIn wsX1_length (wsX0_end) := ggX1_length_X0_end
set_option maxRecDepth 20000 in
theorem ggX1_longest_X0_end : GoodIn wsX1_longest wsX0_end := goodIn_r _ [10, 11, 12, 15, 16, 17, 18, 19, 20, 21, 22, 23, 24] (by decide +kernel) (by decide +kernel)
set_option maxRecDepth 20000 in
theorem gX1_longest_X0_end_n89 : GoodIn wsX1_longest (wsX0_end) := ggX1_longest_X0_end
set_option maxRecDepth 20000 in
theorem ggX1_signAt_X1_knownVoice : GoodIn wsX1_signAt wsX1_knownVoice := goodIn_ca (goodIn_r _ [6, 7, 8, 9, 10, 22, 23] (by decide +kernel) (by decide +kernel)) (goodIn_sub (fun _ h => List.mem_cons_of_mem _ (List.mem_append_left _ (List.mem_append_right _ h))) (by decide +kernel))
set_option maxRecDepth 20000 in
theorem gX1_signAt_X1_knownVoice : GoodIn wsX1_signAt (wsV RX1 34 RX1 yX1_knownVoice wsX1_knownVoice) := goodIn_app (goodIn_of _ (by decide +kernel)) ggX1_signAt_X1_knownVoice
set_option maxRecDepth 20000 in
theorem ggX1_signAt_X1_checkRange : GoodIn wsX1_signAt wsX1_checkRange := goodIn_ca (goodIn_r _ [13, 14, 15] (by decide +kernel) (by decide +kernel)) (goodIn_sub (fun _ h => List.mem_cons_of_mem _ (List.mem_append_right _ h)) (by decide +kernel))
set_option maxRecDepth 20000 in
theorem gX1_signAt_X1_checkRange : GoodIn wsX1_signAt (va_wsS RX1 38 yX1_checkRange wsX1_checkRange) := goodIn_app (goodIn_of _ (by decide +kernel)) ggX1_signAt_X1_checkRange
set_option maxRecDepth 20000 in
theorem ggX1_signAt_X0_signLastingAt : GoodIn wsX1_signAt wsX0_signLastingAt := goodIn_r _ [19, 20, 21, 24, 25, 26, 27, 28, 29, 30, 31, 32, 33] (by decide +kernel) (by decide +kernel)
set_option maxRecDepth 20000 in
theorem gX1_signAt_X0_signLastingAt_n127 : GoodIn wsX1_signAt (wsX0_signLastingAt) := ggX1_signAt_X0_signLastingAt
set_option maxRecDepth 20000 in
theorem ggX1_clefOf_X1_knownVoice : GoodIn wsX1_clefOf wsX1_knownVoice := goodIn_ca (goodIn_r _ [5, 6, 7, 8, 9, 20, 21] (by decide +kernel) (by decide +kernel)) (goodIn_sub (fun _ h => List.mem_cons_of_mem _ (List.mem_append_right _ h)) (by decide +kernel))
set_option maxRecDepth 20000 in
theorem gX1_clefOf_X1_knownVoice : GoodIn wsX1_clefOf (wsV RX1 34 RX1 yX1_knownVoice wsX1_knownVoice) := goodIn_app (goodIn_of _ (by decide +kernel)) ggX1_clefOf_X1_knownVoice
set_option maxRecDepth 20000 in
theorem ggX1_pitchOf_X1_voiceWithSign : GoodIn wsX1_pitchOf wsX1_voiceWithSign := goodIn_ca (goodIn_r _ [5, 6, 7, 8, 9, 10, 4, 11, 12, 13, 24, 25, 26, 27, 28, 29, 30, 31, 32, 33, 34, 35] (by decide +kernel) (by decide +kernel)) (goodIn_sub (fun _ h => List.mem_cons_of_mem _ (List.mem_append_left _ (List.mem_append_right _ h))) (by decide +kernel))
set_option maxRecDepth 20000 in
theorem gX1_pitchOf_X1_voiceWithSign : GoodIn wsX1_pitchOf (wsV RX1 73 RX1 yX1_voiceWithSign wsX1_voiceWithSign) := goodIn_app (goodIn_of _ (by decide +kernel)) ggX1_pitchOf_X1_voiceWithSign
set_option maxRecDepth 20000 in
theorem ggX1_pitchOf_X1_checkHasClef : GoodIn wsX1_pitchOf wsX1_checkHasClef := goodIn_ca (goodIn_r _ [16, 17, 18, 24, 25, 26, 27, 28, 29, 30, 31, 32, 33] (by decide +kernel) (by decide +kernel)) (goodIn_sub (fun _ h => List.mem_cons_of_mem _ (List.mem_append_right _ h)) (by decide +kernel))
set_option maxRecDepth 20000 in
theorem gX1_pitchOf_X1_checkHasClef : GoodIn wsX1_pitchOf (va_wsS RX1 130 yX1_checkHasClef wsX1_checkHasClef) := goodIn_app (goodIn_of _ (by decide +kernel)) ggX1_pitchOf_X1_checkHasClef
set_option maxRecDepth 20000 in
theorem ggX1_pitchOf_X0_isRest : GoodIn wsX1_pitchOf wsX0_isRest := goodIn_r _ [22, 23, 24, 25, 26, 27, 28, 29, 30, 31, 32, 33] (by decide +kernel) (by decide +kernel)
set_option maxRecDepth 20000 in
theorem gX1_pitchOf_X0_isRest_n77 : GoodIn wsX1_pitchOf (wsX0_isRest) := ggX1_pitchOf_X0_isRest
set_option maxRecDepth 20000 in
theorem ggX1_fits_X1_knownVoice : GoodIn wsX1_fits wsX1_knownVoice := goodIn_ca (goodIn_r _ [5, 6, 7, 8, 9, 25, 26] (by decide +kernel) (by decide +kernel)) (goodIn_sub (fun _ h => List.mem_cons_of_mem _ (List.mem_append_left _ (List.mem_append_right _ h))) (by decide +kernel))
set_option maxRecDepth 20000 in
theorem gX1_fits_X1_knownVoice : GoodIn wsX1_fits (wsV RX1 34 RX1 yX1_knownVoice wsX1_knownVoice) := goodIn_app (goodIn_of _ (by decide +kernel)) ggX1_fits_X1_knownVoice
set_option maxRecDepth 20000 in
theorem ggX1_fits_X1_checkRange : GoodIn wsX1_fits wsX1_checkRange := goodIn_ca (goodIn_r _ [12, 13, 14] (by decide +kernel) (by decide +kernel)) (goodIn_sub (fun _ h => List.mem_cons_of_mem _ (List.mem_append_right _ h)) (by decide +kernel))
set_option maxRecDepth 20000 in
theorem gX1_fits_X1_checkRange : GoodIn wsX1_fits (va_wsS RX1 38 yX1_checkRange wsX1_checkRange) := goodIn_app (goodIn_of _ (by decide +kernel)) ggX1_fits_X1_checkRange
set_option maxRecDepth 20000 in
theorem ggX1_fits_X0_wouldFit : GoodIn wsX1_fits wsX0_wouldFit := goodIn_r _ [18, 19, 20, 21, 22, 23, 16, 24, 27, 28, 29, 30, 31, 32, 33, 34, 35, 36] (by decide +kernel) (by decide +kernel)
set_option maxRecDepth 20000 in
theorem gX1_fits_X0_wouldFit_n134 : GoodIn wsX1_fits (wsX0_wouldFit) := ggX1_fits_X0_wouldFit
set_option maxRecDepth 20000 in
theorem ggX1_clefsThatFit_X1_knownVoice : GoodIn wsX1_clefsThatFit wsX1_knownVoice := goodIn_ca (goodIn_r _ [5, 6, 7, 8, 9, 24, 25] (by decide +kernel) (by decide +kernel)) (goodIn_sub (fun _ h => List.mem_cons_of_mem _ (List.mem_append_right _ h)) (by decide +kernel))
set_option maxRecDepth 20000 in
theorem gX1_clefsThatFit_X1_knownVoice : GoodIn wsX1_clefsThatFit (wsV RX1 34 RX1 yX1_knownVoice wsX1_knownVoice) := goodIn_app (goodIn_of _ (by decide +kernel)) ggX1_clefsThatFit_X1_knownVoice
set_option maxRecDepth 20000 in
theorem ggX1_clefsThatFit_X0_countFittingClefs : GoodIn wsX1_clefsThatFit wsX0_countFittingClefs := goodIn_r _ [13, 14, 15, 16, 11, 17, 18, 19, 20, 21, 22, 23, 26, 27, 28, 29, 30, 31, 32, 33, 34, 35] (by decide +kernel) (by decide +kernel)
set_option maxRecDepth 20000 in
theorem gX1_clefsThatFit_X0_countFittingClefs_n137 : GoodIn wsX1_clefsThatFit (wsX0_countFittingClefs) := ggX1_clefsThatFit_X0_countFittingClefs
set_option maxRecDepth 20000 in
theorem ggX1_clashes_X1_knownVoice : GoodIn wsX1_clashes wsX1_knownVoice := goodIn_ca (goodIn_r _ [5, 6, 7, 8, 9, 46, 47] (by decide +kernel) (by decide +kernel)) (goodIn_sub (fun _ h => List.mem_cons_of_mem _ (List.mem_append_left _ (List.mem_append_right _ h))) (by decide +kernel))
set_option maxRecDepth 20000 in
theorem gX1_clashes_X1_knownVoice : GoodIn wsX1_clashes (wsV RX1 34 RX1 yX1_knownVoice wsX1_knownVoice) := goodIn_app (goodIn_of _ (by decide +kernel)) ggX1_clashes_X1_knownVoice
set_option maxRecDepth 20000 in
theorem ggX1_clashes_X1_checkHasClef : GoodIn wsX1_clashes wsX1_checkHasClef := goodIn_ca (goodIn_r _ [12, 13, 14, 36, 37, 38, 39, 40, 41, 42, 43, 44, 45] (by decide +kernel) (by decide +kernel)) (goodIn_sub (fun _ h => List.mem_cons_of_mem _ (List.mem_append_right _ h)) (by decide +kernel))
set_option maxRecDepth 20000 in
theorem gX1_clashes_X1_checkHasClef : GoodIn wsX1_clashes (va_wsS RX1 130 yX1_checkHasClef wsX1_checkHasClef) := goodIn_app (goodIn_of _ (by decide +kernel)) ggX1_clashes_X1_checkHasClef
set_option maxRecDepth 20000 in
theorem ggX1_clashes_X1_clashingMinims : GoodIn wsX1_clashes wsX1_clashingMinims := goodIn_r _ [17, 18, 19, 20, 21, 22, 23, 24, 25, 26, 4, 27, 28, 29, 30, 31, 32, 33, 34, 35, 36, 37, 38, 39, 40, 41, 42, 43, 44, 45] (by decide +kernel) (by decide +kernel)
set_option maxRecDepth 20000 in
theorem gX1_clashes_X1_clashingMinims : GoodIn wsX1_clashes (va_wsS RX1 140 yX1_clashingMinims wsX1_clashingMinims) := goodIn_app (goodIn_of _ (by decide +kernel)) ggX1_clashes_X1_clashingMinims
set_option maxRecDepth 20000 in
theorem ggX1_firstClash_X1_knownVoice : GoodIn wsX1_firstClash wsX1_knownVoice := goodIn_ca (goodIn_r _ [5, 6, 7, 8, 9, 46, 47] (by decide +kernel) (by decide +kernel)) (goodIn_sub (fun _ h => List.mem_cons_of_mem _ (List.mem_append_left _ (List.mem_append_right _ h))) (by decide +kernel))
set_option maxRecDepth 20000 in
theorem gX1_firstClash_X1_knownVoice : GoodIn wsX1_firstClash (wsV RX1 34 RX1 yX1_knownVoice wsX1_knownVoice) := goodIn_app (goodIn_of _ (by decide +kernel)) ggX1_firstClash_X1_knownVoice
set_option maxRecDepth 20000 in
theorem ggX1_firstClash_X1_checkHasClef : GoodIn wsX1_firstClash wsX1_checkHasClef := goodIn_ca (goodIn_r _ [12, 13, 14, 36, 37, 38, 39, 40, 41, 42, 43, 44, 45] (by decide +kernel) (by decide +kernel)) (goodIn_sub (fun _ h => List.mem_cons_of_mem _ (List.mem_append_right _ h)) (by decide +kernel))
set_option maxRecDepth 20000 in
theorem gX1_firstClash_X1_checkHasClef : GoodIn wsX1_firstClash (va_wsS RX1 130 yX1_checkHasClef wsX1_checkHasClef) := goodIn_app (goodIn_of _ (by decide +kernel)) ggX1_firstClash_X1_checkHasClef
set_option maxRecDepth 20000 in
theorem ggX1_firstClash_X1_firstClashingMinim : GoodIn wsX1_firstClash wsX1_firstClashingMinim := goodIn_r _ [17, 18, 19, 20, 21, 22, 23, 24, 25, 26, 4, 27, 28, 29, 30, 31, 32, 33, 34, 35, 36, 37, 38, 39, 40, 41, 42, 43, 44, 45] (by decide +kernel) (by decide +kernel)
set_option maxRecDepth 20000 in
theorem gX1_firstClash_X1_firstClashingMinim : GoodIn wsX1_firstClash (va_wsS RX1 144 yX1_firstClashingMinim wsX1_firstClashingMinim) := goodIn_app (goodIn_of _ (by decide +kernel)) ggX1_firstClash_X1_firstClashingMinim
set_option maxRecDepth 20000 in
theorem ggX1_clashesWith_X1_knownVoice : GoodIn wsX1_clashesWith wsX1_knownVoice := goodIn_ca (goodIn_r _ [5, 6, 7, 8, 9, 40, 41] (by decide +kernel) (by decide +kernel)) (goodIn_sub (fun _ h => List.mem_cons_of_mem _ (List.mem_append_left _ (List.mem_append_right _ h))) (by decide +kernel))
set_option maxRecDepth 20000 in
theorem gX1_clashesWith_X1_knownVoice : GoodIn wsX1_clashesWith (wsV RX1 34 RX1 yX1_knownVoice wsX1_knownVoice) := goodIn_app (goodIn_of _ (by decide +kernel)) ggX1_clashesWith_X1_knownVoice
set_option maxRecDepth 20000 in
theorem ggX1_clashesWith_X1_checkRange : GoodIn wsX1_clashesWith wsX1_checkRange := goodIn_ca (goodIn_r _ [12, 13, 14] (by decide +kernel) (by decide +kernel)) (goodIn_sub (fun _ h => List.mem_cons_of_mem _ (List.mem_append_right _ h)) (by decide +kernel))
set_option maxRecDepth 20000 in
theorem gX1_clashesWith_X1_checkRange : GoodIn wsX1_clashesWith (va_wsS RX1 38 yX1_checkRange wsX1_checkRange) := goodIn_app (goodIn_of _ (by decide +kernel)) ggX1_clashesWith_X1_checkRange
set_option maxRecDepth 20000 in
theorem ggX1_clashesWith_X1_clashesIfClef : GoodIn wsX1_clashesWith wsX1_clashesIfClef := goodIn_r _ [18, 8, 9, 19, 20, 4, 21, 22, 23, 24, 25, 26, 27, 28, 29, 30, 31, 32, 33, 34, 35, 36, 37, 38, 39, 40, 41, 42, 43, 44, 45, 46, 47, 48, 49, 50, 51] (by decide +kernel) (by decide +kernel)
set_option maxRecDepth 20000 in
theorem gX1_clashesWith_X1_clashesIfClef : GoodIn wsX1_clashesWith (wsV RX1 148 RX1 yX1_clashesIfClef wsX1_clashesIfClef) := goodIn_app (goodIn_of _ (by decide +kernel)) ggX1_clashesWith_X1_clashesIfClef
set_option maxRecDepth 20000 in
theorem ggX1_bestClef_X1_knownVoice : GoodIn wsX1_bestClef wsX1_knownVoice := goodIn_ca (goodIn_r _ [5, 6, 7, 8, 9, 45, 46] (by decide +kernel) (by decide +kernel)) (goodIn_sub (fun _ h => List.mem_cons_of_mem _ (List.mem_append_right _ h)) (by decide +kernel))
set_option maxRecDepth 20000 in
theorem gX1_bestClef_X1_knownVoice : GoodIn wsX1_bestClef (wsV RX1 34 RX1 yX1_knownVoice wsX1_knownVoice) := goodIn_app (goodIn_of _ (by decide +kernel)) ggX1_bestClef_X1_knownVoice
set_option maxRecDepth 20000 in
theorem ggX1_bestClef_X1_clefWithFewestClashes : GoodIn wsX1_bestClef wsX1_clefWithFewestClashes := goodIn_r _ [13, 14, 15, 16, 17, 18, 19, 20, 21, 22, 23, 24, 25, 26, 27, 4, 28, 8, 9, 29, 30, 31, 32, 33, 34, 35, 36, 37, 38, 39, 40, 41, 42, 43, 44, 47, 48, 49, 50, 51, 52, 53, 54, 55, 56, 45, 46] (by decide +kernel) (by decide +kernel)
set_option maxRecDepth 20000 in
theorem gX1_bestClef_X1_clefWithFewestClashes : GoodIn wsX1_bestClef (wsV RX1 152 RX1 yX1_clefWithFewestClashes wsX1_clefWithFewestClashes) := goodIn_app (goodIn_of _ (by decide +kernel)) ggX1_bestClef_X1_clefWithFewestClashes
set_option maxRecDepth 20000 in
theorem ggX1_canonClashes_X1_knownVoice : GoodIn wsX1_canonClashes wsX1_knownVoice := goodIn_ca (goodIn_r _ [5, 6, 7, 8, 9, 36, 37] (by decide +kernel) (by decide +kernel)) (goodIn_sub (fun _ h => List.mem_cons_of_mem _ (List.mem_append_left _ (List.mem_append_right _ h))) (by decide +kernel))
set_option maxRecDepth 20000 in
theorem gX1_canonClashes_X1_knownVoice : GoodIn wsX1_canonClashes (wsV RX1 34 RX1 yX1_knownVoice wsX1_knownVoice) := goodIn_app (goodIn_of _ (by decide +kernel)) ggX1_canonClashes_X1_knownVoice
set_option maxRecDepth 20000 in
theorem ggX1_canonClashes_X1_checkRange : GoodIn wsX1_canonClashes wsX1_checkRange := goodIn_ca (goodIn_r _ [12, 13, 14] (by decide +kernel) (by decide +kernel)) (goodIn_sub (fun _ h => List.mem_cons_of_mem _ (List.mem_append_right _ h)) (by decide +kernel))
set_option maxRecDepth 20000 in
theorem gX1_canonClashes_X1_checkRange : GoodIn wsX1_canonClashes (va_wsS RX1 38 yX1_checkRange wsX1_checkRange) := goodIn_app (goodIn_of _ (by decide +kernel)) ggX1_canonClashes_X1_checkRange
set_option maxRecDepth 20000 in
theorem ggX1_canonClashes_X1_clashingMinims : GoodIn wsX1_canonClashes wsX1_clashingMinims := goodIn_r _ [17, 18, 19, 20, 21, 22, 23, 24, 25, 26, 4, 27, 28, 29, 30, 31, 32, 33, 34, 35, 38, 39, 40, 41, 42, 43, 44, 45, 46, 47] (by decide +kernel) (by decide +kernel)
set_option maxRecDepth 20000 in
theorem gX1_canonClashes_X1_clashingMinims : GoodIn wsX1_canonClashes (va_wsS RX1 140 yX1_clashingMinims wsX1_clashingMinims) := goodIn_app (goodIn_of _ (by decide +kernel)) ggX1_canonClashes_X1_clashingMinims
set_option maxRecDepth 20000 in
theorem ggX1_bestDelay_X1_knownVoice : GoodIn wsX1_bestDelay wsX1_knownVoice := goodIn_ca (goodIn_r _ [5, 6, 7, 8, 9, 40, 41] (by decide +kernel) (by decide +kernel)) (goodIn_sub (fun _ h => List.mem_cons_of_mem _ (List.mem_append_left _ (List.mem_append_right _ h))) (by decide +kernel))
set_option maxRecDepth 20000 in
theorem gX1_bestDelay_X1_knownVoice : GoodIn wsX1_bestDelay (wsV RX1 34 RX1 yX1_knownVoice wsX1_knownVoice) := goodIn_app (goodIn_of _ (by decide +kernel)) ggX1_bestDelay_X1_knownVoice
set_option maxRecDepth 20000 in
theorem ggX1_bestDelay_X1_checkRange : GoodIn wsX1_bestDelay wsX1_checkRange := goodIn_ca (goodIn_r _ [12, 13, 14] (by decide +kernel) (by decide +kernel)) (goodIn_sub (fun _ h => List.mem_cons_of_mem _ (List.mem_append_right _ h)) (by decide +kernel))
set_option maxRecDepth 20000 in
theorem gX1_bestDelay_X1_checkRange : GoodIn wsX1_bestDelay (va_wsS RX1 38 yX1_checkRange wsX1_checkRange) := goodIn_app (goodIn_of _ (by decide +kernel)) ggX1_bestDelay_X1_checkRange
set_option maxRecDepth 20000 in
theorem ggX1_bestDelay_X1_delayWithFewestClashes : GoodIn wsX1_bestDelay wsX1_delayWithFewestClashes := goodIn_r _ [17, 18, 19, 20, 4, 21, 22, 23, 24, 25, 26, 27, 28, 29, 30, 31, 32, 33, 34, 35, 36, 37, 38, 39, 42, 43, 44, 45, 46, 47, 48, 49, 50, 51] (by decide +kernel) (by decide +kernel)
set_option maxRecDepth 20000 in
theorem gX1_bestDelay_X1_delayWithFewestClashes : GoodIn wsX1_bestDelay (va_wsS RX1 156 yX1_delayWithFewestClashes wsX1_delayWithFewestClashes) := goodIn_app (goodIn_of _ (by decide +kernel)) ggX1_bestDelay_X1_delayWithFewestClashes
set_option maxRecDepth 20000 in
theorem ggX1_meanLength_X0_end : GoodIn wsX1_meanLength wsX0_end := goodIn_r _ [6, 7, 8, 11, 12, 13, 14, 15, 16, 17, 18, 19, 20] (by decide +kernel) (by decide +kernel)
set_option maxRecDepth 20000 in
theorem gX1_meanLength_X0_end_n89 : GoodIn wsX1_meanLength (wsX0_end) := ggX1_meanLength_X0_end
set_option maxRecDepth 20000 in
theorem ggX1_digest_X1_mix : GoodIn wsX1_digest wsX1_mix := goodIn_r _ [7, 8] (by decide +kernel) (by decide +kernel)
set_option maxRecDepth 20000 in
theorem gX1_digest_X1_mix : GoodIn wsX1_digest (va_wsS RX1 161 yX1_mix wsX1_mix) := goodIn_app (goodIn_of _ (by decide +kernel)) ggX1_digest_X1_mix
set_option maxRecDepth 20000 in
theorem ggX1_digest_X1_longest : GoodIn wsX1_digest wsX1_longest := goodIn_r _ [12, 2, 3, 13, 14, 15, 16, 17, 18, 19, 20, 21, 22, 76, 77, 78, 79, 80, 81, 82, 83, 84, 85, 86, 87] (by decide +kernel) (by decide +kernel)
set_option maxRecDepth 20000 in
theorem gX1_digest_X1_longest : GoodIn wsX1_digest (wsV RX1 165 RX1 yX1_longest wsX1_longest) := goodIn_app (goodIn_of _ (by decide +kernel)) ggX1_digest_X1_longest
set_option maxRecDepth 20000 in
theorem ggX1_digest_X1_mixVoice : GoodIn wsX1_digest wsX1_mixVoice := goodIn_r _ [26, 4, 5, 6, 7, 8, 27, 18, 28, 29, 22, 30, 31, 32, 33, 34, 35, 36, 37, 38, 17, 19, 20, 21, 39, 40, 41, 42, 43, 44, 45, 46, 47, 48, 49, 50, 51, 52, 53, 54, 2, 3, 55, 56, 57, 13, 14, 15, 16, 58, 59, 60, 61, 62, 63, 64, 65, 66, 67, 68, 69, 70, 71, 72, 73, 74, 75, 78, 79, 80, 81, 82, 83, 84, 85, 86, 87, 76, 77] (by decide +kernel) (by decide +kernel)
set_option maxRecDepth 20000 in
theorem gX1_digest_X1_mixVoice : GoodIn wsX1_digest (wsV RX1 168 RX1 yX1_mixVoice wsX1_mixVoice) := goodIn_app (goodIn_of _ (by decide +kernel)) ggX1_digest_X1_mixVoice
set_option maxRecDepth 20000 in
theorem ggX1_voiceWithSign_X1_knownVoice : GoodIn wsX1_voiceWithSign wsX1_knownVoice := goodIn_ca (goodIn_r _ [7, 1, 2, 8, 9, 20, 21] (by decide +kernel) (by decide +kernel)) (goodIn_sub (fun _ h => List.mem_cons_of_mem _ (List.mem_append_right _ h)) (by decide +kernel))
set_option maxRecDepth 20000 in
theorem gX1_voiceWithSign_X1_knownVoice : GoodIn wsX1_voiceWithSign (wsV RX1 34 RX1 yX1_knownVoice wsX1_knownVoice) := goodIn_app (goodIn_of _ (by decide +kernel)) ggX1_voiceWithSign_X1_knownVoice
set_option maxRecDepth 20000 in
theorem ggX1_checkMensuration_X1_checkRange : GoodIn wsX1_checkMensuration wsX1_checkRange := goodIn_ca (goodIn_r _ [4, 5, 6] (by decide +kernel) (by decide +kernel)) (goodIn_sub (fun _ h => List.mem_cons_of_mem _ (List.mem_append_right _ h)) (by decide +kernel))
set_option maxRecDepth 20000 in
theorem gX1_checkMensuration_X1_checkRange : GoodIn wsX1_checkMensuration (va_wsS RX1 38 yX1_checkRange wsX1_checkRange) := goodIn_app (goodIn_of _ (by decide +kernel)) ggX1_checkMensuration_X1_checkRange
set_option maxRecDepth 20000 in
theorem ggX1_checkLigature_X1_checkRange : GoodIn wsX1_checkLigature wsX1_checkRange := goodIn_ca (goodIn_r _ [6, 1, 2] (by decide +kernel) (by decide +kernel)) (goodIn_sub (fun _ h => List.mem_cons_of_mem _ (List.mem_append_right _ h)) (by decide +kernel))
set_option maxRecDepth 20000 in
theorem gX1_checkLigature_X1_checkRange : GoodIn wsX1_checkLigature (va_wsS RX1 38 yX1_checkRange wsX1_checkRange) := goodIn_app (goodIn_of _ (by decide +kernel)) ggX1_checkLigature_X1_checkRange
set_option maxRecDepth 20000 in
theorem ggX1_firstKind_X1_lastKind : GoodIn wsX1_firstKind wsX1_lastKind := goodIn_r _ [4] (by decide +kernel) (by decide +kernel)
set_option maxRecDepth 20000 in
theorem gX1_firstKind_X1_lastKind : GoodIn wsX1_firstKind (va_wsS RX1 60 yX1_lastKind wsX1_lastKind) := goodIn_app (goodIn_of _ (by decide +kernel)) ggX1_firstKind_X1_lastKind
set_option maxRecDepth 20000 in
theorem ggX1_secondKind_X1_lastKind : GoodIn wsX1_secondKind wsX1_lastKind := goodIn_r _ [4] (by decide +kernel) (by decide +kernel)
set_option maxRecDepth 20000 in
theorem gX1_secondKind_X1_lastKind : GoodIn wsX1_secondKind (va_wsS RX1 60 yX1_lastKind wsX1_lastKind) := goodIn_app (goodIn_of _ (by decide +kernel)) ggX1_secondKind_X1_lastKind
set_option maxRecDepth 20000 in
theorem ggX1_clashingMinims_X1_signsClash : GoodIn wsX1_clashingMinims wsX1_signsClash := goodIn_r _ [11, 12, 13, 3, 14, 15, 16, 17, 18, 19, 20, 21, 22, 23, 24, 25, 26, 27, 28, 29] (by decide +kernel) (by decide +kernel)
set_option maxRecDepth 20000 in
theorem gX1_clashingMinims_X1_signsClash : GoodIn wsX1_clashingMinims (va_wsS RX1 193 yX1_signsClash wsX1_signsClash) := goodIn_app (goodIn_of _ (by decide +kernel)) ggX1_clashingMinims_X1_signsClash
set_option maxRecDepth 20000 in
theorem ggX1_firstClashingMinim_X1_signsClash : GoodIn wsX1_firstClashingMinim wsX1_signsClash := goodIn_r _ [11, 12, 13, 3, 14, 15, 16, 17, 18, 19, 20, 21, 22, 23, 24, 25, 26, 27, 28, 29] (by decide +kernel) (by decide +kernel)
set_option maxRecDepth 20000 in
theorem gX1_firstClashingMinim_X1_signsClash : GoodIn wsX1_firstClashingMinim (va_wsS RX1 193 yX1_signsClash wsX1_signsClash) := goodIn_app (goodIn_of _ (by decide +kernel)) ggX1_firstClashingMinim_X1_signsClash
set_option maxRecDepth 20000 in
theorem ggX1_signsClash_X0_isRest : GoodIn wsX1_signsClash wsX0_isRest := goodIn_r _ [8, 9, 10, 11, 12, 13, 14, 15, 16, 17, 18, 19] (by decide +kernel) (by decide +kernel)
set_option maxRecDepth 20000 in
theorem gX1_signsClash_X0_isRest_n77 : GoodIn wsX1_signsClash (wsX0_isRest) := ggX1_signsClash_X0_isRest
set_option maxRecDepth 20000 in
theorem ggX1_clashesIfClef_X1_clashingMinims : GoodIn wsX1_clashesIfClef wsX1_clashingMinims := goodIn_r _ [6, 7, 8, 9, 10, 11, 12, 13, 14, 15, 5, 16, 17, 18, 19, 20, 21, 22, 23, 24, 27, 28, 29, 30, 31, 32, 33, 34, 35, 36] (by decide +kernel) (by decide +kernel)
set_option maxRecDepth 20000 in
theorem gX1_clashesIfClef_X1_clashingMinims : GoodIn wsX1_clashesIfClef (va_wsS RX1 140 yX1_clashingMinims wsX1_clashingMinims) := goodIn_app (goodIn_of _ (by decide +kernel)) ggX1_clashesIfClef_X1_clashingMinims
set_option maxRecDepth 20000 in
theorem ggX1_clefWithFewestClashes_X0_wouldFit : GoodIn wsX1_clefWithFewestClashes wsX0_wouldFit := goodIn_r _ [5, 6, 7, 8, 9, 10, 3, 11, 35, 36, 37, 38, 39, 40, 41, 42, 43, 44] (by decide +kernel) (by decide +kernel)
set_option maxRecDepth 20000 in
theorem gX1_clefWithFewestClashes_X0_wouldFit_n134 : GoodIn wsX1_clefWithFewestClashes (wsX0_wouldFit) := ggX1_clefWithFewestClashes_X0_wouldFit
set_option maxRecDepth 20000 in
theorem ggX1_clefWithFewestClashes_X1_clashesIfClef : GoodIn wsX1_clefWithFewestClashes wsX1_clashesIfClef := goodIn_r _ [16, 17, 18, 19, 20, 15, 21, 22, 23, 24, 25, 26, 27, 28, 29, 30, 31, 32, 33, 34, 9, 3, 10, 11, 7, 45, 46, 35, 36, 37, 38, 39, 40, 41, 42, 43, 44] (by decide +kernel) (by decide +kernel)
set_option maxRecDepth 20000 in
theorem gX1_clefWithFewestClashes_X1_clashesIfClef : GoodIn wsX1_clefWithFewestClashes (wsV RX1 148 RX1 yX1_clashesIfClef wsX1_clashesIfClef) := goodIn_app (goodIn_of _ (by decide +kernel)) ggX1_clefWithFewestClashes_X1_clashesIfClef
set_option maxRecDepth 20000 in
theorem ggX1_delayWithFewestClashes_X1_clashingMinims : GoodIn wsX1_delayWithFewestClashes wsX1_clashingMinims := goodIn_r _ [5, 6, 7, 8, 9, 10, 11, 12, 13, 14, 4, 15, 16, 17, 18, 19, 20, 21, 22, 23, 24, 25, 26, 27, 28, 29, 30, 31, 32, 33] (by decide +kernel) (by decide +kernel)
set_option maxRecDepth 20000 in
theorem gX1_delayWithFewestClashes_X1_clashingMinims : GoodIn wsX1_delayWithFewestClashes (va_wsS RX1 140 yX1_clashingMinims wsX1_clashingMinims) := goodIn_app (goodIn_of _ (by decide +kernel)) ggX1_delayWithFewestClashes_X1_clashingMinims
set_option maxRecDepth 20000 in
theorem ggX1_mixVoice_X1_mix : GoodIn wsX1_mixVoice wsX1_mix := goodIn_r _ [4, 5] (by decide +kernel) (by decide +kernel)
set_option maxRecDepth 20000 in
theorem gX1_mixVoice_X1_mix : GoodIn wsX1_mixVoice (va_wsS RX1 161 yX1_mix wsX1_mix) := goodIn_app (goodIn_of _ (by decide +kernel)) ggX1_mixVoice_X1_mix
set_option maxRecDepth 20000 in
theorem ggX1_mixVoice_X0_countNotes : GoodIn wsX1_mixVoice wsX0_countNotes := goodIn_r _ [9, 10, 11, 12, 13, 7, 14, 15, 67, 68, 69, 70, 71, 72, 73, 74, 75, 76] (by decide +kernel) (by decide +kernel)
set_option maxRecDepth 20000 in
theorem gX1_mixVoice_X0_countNotes_n92 : GoodIn wsX1_mixVoice (wsX0_countNotes) := ggX1_mixVoice_X0_countNotes
set_option maxRecDepth 20000 in
theorem ggX1_mixVoice_X0_countLigatures : GoodIn wsX1_mixVoice wsX0_countLigatures := goodIn_r _ [18, 10, 19, 67, 68, 69, 70, 71, 72, 73, 74, 75, 76] (by decide +kernel) (by decide +kernel)
set_option maxRecDepth 20000 in
theorem gX1_mixVoice_X0_countLigatures_n95 : GoodIn wsX1_mixVoice (wsX0_countLigatures) := ggX1_mixVoice_X0_countLigatures
set_option maxRecDepth 20000 in
theorem ggX1_mixVoice_X0_end : GoodIn wsX1_mixVoice wsX0_end := goodIn_r _ [22, 23, 10, 67, 68, 69, 70, 71, 72, 73, 74, 75, 76] (by decide +kernel) (by decide +kernel)
set_option maxRecDepth 20000 in
theorem gX1_mixVoice_X0_end_n89 : GoodIn wsX1_mixVoice (wsX0_end) := ggX1_mixVoice_X0_end
set_option maxRecDepth 20000 in
theorem ggX1_mixVoice_X0_countFittingClefs : GoodIn wsX1_mixVoice wsX0_countFittingClefs := goodIn_r _ [26, 27, 28, 29, 7, 30, 10, 15, 11, 12, 13, 14, 67, 68, 69, 70, 71, 72, 73, 74, 75, 76] (by decide +kernel) (by decide +kernel)
set_option maxRecDepth 20000 in
theorem gX1_mixVoice_X0_countFittingClefs_n137 : GoodIn wsX1_mixVoice (wsX0_countFittingClefs) := ggX1_mixVoice_X0_countFittingClefs
set_option maxRecDepth 20000 in
theorem ggX1_mixVoice_X1_clefWithFewestClashes : GoodIn wsX1_mixVoice wsX1_clefWithFewestClashes := goodIn_r _ [34, 35, 28, 7, 29, 30, 10, 15, 11, 12, 13, 14, 36, 37, 38, 3, 39, 40, 41, 42, 43, 44, 45, 46, 47, 48, 49, 50, 51, 52, 53, 54, 55, 56, 57, 67, 68, 69, 70, 71, 72, 73, 74, 75, 76, 77, 78] (by decide +kernel) (by decide +kernel)
set_option maxRecDepth 20000 in
theorem gX1_mixVoice_X1_clefWithFewestClashes : GoodIn wsX1_mixVoice (wsV RX1 152 RX1 yX1_clefWithFewestClashes wsX1_clefWithFewestClashes) := goodIn_app (goodIn_of _ (by decide +kernel)) ggX1_mixVoice_X1_clefWithFewestClashes
set_option maxRecDepth 20000 in
theorem ggX1_mixVoice_X1_clashingMinims : GoodIn wsX1_mixVoice wsX1_clashingMinims := goodIn_r _ [44, 45, 46, 47, 48, 49, 50, 51, 52, 53, 3, 54, 55, 56, 57, 12, 7, 13, 14, 15, 67, 68, 69, 70, 71, 72, 73, 74, 75, 76] (by decide +kernel) (by decide +kernel)
set_option maxRecDepth 20000 in
theorem gX1_mixVoice_X1_clashingMinims : GoodIn wsX1_mixVoice (va_wsS RX1 140 yX1_clashingMinims wsX1_clashingMinims) := goodIn_app (goodIn_of _ (by decide +kernel)) ggX1_mixVoice_X1_clashingMinims
set_option maxRecDepth 20000 in
theorem ggX1_mixVoice_X1_delayWithFewestClashes : GoodIn wsX1_mixVoice wsX1_delayWithFewestClashes := goodIn_r _ [60, 35, 42, 43, 3, 44, 45, 46, 47, 48, 49, 50, 51, 52, 53, 54, 55, 56, 57, 12, 7, 13, 14, 15, 67, 68, 69, 70, 71, 72, 73, 74, 75, 76] (by decide +kernel) (by decide +kernel)
set_option maxRecDepth 20000 in
theorem gX1_mixVoice_X1_delayWithFewestClashes : GoodIn wsX1_mixVoice (va_wsS RX1 156 yX1_delayWithFewestClashes wsX1_delayWithFewestClashes) := goodIn_app (goodIn_of _ (by decide +kernel)) ggX1_mixVoice_X1_delayWithFewestClashes
set_option maxRecDepth 20000 in
theorem ggX1_mixVoice_X1_mixSign : GoodIn wsX1_mixVoice wsX1_mixSign := goodIn_r _ [63, 1, 2, 3, 4, 5, 64, 7, 65, 66, 23, 67, 68, 69, 70, 71, 72, 73, 74, 75, 76] (by decide +kernel) (by decide +kernel)
set_option maxRecDepth 20000 in
theorem gX1_mixVoice_X1_mixSign : GoodIn wsX1_mixVoice (va_wsS RX1 202 yX1_mixSign wsX1_mixSign) := goodIn_app (goodIn_of _ (by decide +kernel)) ggX1_mixVoice_X1_mixSign
set_option maxRecDepth 20000 in
theorem ggX1_mixSign_X1_mix : GoodIn wsX1_mixSign wsX1_mix := goodIn_r _ [4, 5] (by decide +kernel) (by decide +kernel)
set_option maxRecDepth 20000 in
theorem gX1_mixSign_X1_mix : GoodIn wsX1_mixSign (va_wsS RX1 161 yX1_mix wsX1_mix) := goodIn_app (goodIn_of _ (by decide +kernel)) ggX1_mixSign_X1_mix
set_option maxRecDepth 20000 in
theorem ggX1_mixSign_X0_minimsOf : GoodIn wsX1_mixSign wsX0_minimsOf := goodIn_r _ [9, 10, 11, 12, 13, 14, 15, 16, 17, 18, 19, 20] (by decide +kernel) (by decide +kernel)
set_option maxRecDepth 20000 in
theorem gX1_mixSign_X0_minimsOf_n112 : GoodIn wsX1_mixSign (wsX0_minimsOf) := ggX1_mixSign_X0_minimsOf
set_option maxRecDepth 20000 in
theorem ggX2_isVoice_X2_isIn : GoodIn wsX2_isVoice wsX2_isIn := goodIn_r _ [5] (by decide +kernel) (by decide +kernel)
set_option maxRecDepth 20000 in
theorem gX2_isVoice_X2_isIn : GoodIn wsX2_isVoice (va_wsS RX2 45 yX2_isIn wsX2_isIn) := goodIn_app (goodIn_of _ (by decide +kernel)) ggX2_isVoice_X2_isIn
set_option maxRecDepth 20000 in
theorem ggX2_isSign_X2_isVoice : GoodIn wsX2_isSign wsX2_isVoice := goodIn_r _ [6, 7, 8, 9, 5, 10, 11, 12, 13, 14, 15, 16, 17, 18, 19, 20, 21] (by decide +kernel) (by decide +kernel)
set_option maxRecDepth 20000 in
theorem gX2_isSign_X2_isVoice : GoodIn wsX2_isSign (wsV RX2 49 RX2 yX2_isVoice wsX2_isVoice) := goodIn_app (goodIn_of _ (by decide +kernel)) ggX2_isSign_X2_isVoice
set_option maxRecDepth 20000 in
theorem ggX2_isSign_X2_isIn : GoodIn wsX2_isSign wsX2_isIn := goodIn_r _ [10] (by decide +kernel) (by decide +kernel)
set_option maxRecDepth 20000 in
theorem gX2_isSign_X2_isIn : GoodIn wsX2_isSign (va_wsS RX2 45 yX2_isIn wsX2_isIn) := goodIn_app (goodIn_of _ (by decide +kernel)) ggX2_isSign_X2_isIn
set_option maxRecDepth 20000 in
theorem ggX2_isMeasure_X2_isIn : GoodIn wsX2_isMeasure wsX2_isIn := goodIn_r _ [4] (by decide +kernel) (by decide +kernel)
set_option maxRecDepth 20000 in
theorem gX2_isMeasure_X2_isIn : GoodIn wsX2_isMeasure (va_wsS RX2 45 yX2_isIn wsX2_isIn) := goodIn_app (goodIn_of _ (by decide +kernel)) ggX2_isMeasure_X2_isIn
set_option maxRecDepth 20000 in
theorem ggX2_all_X2_lasts : GoodIn wsX2_all wsX2_lasts := goodIn_r _ [6, 7, 8, 9, 10, 11, 12, 13, 14, 15, 16, 17, 18, 19, 20] (by decide +kernel) (by decide +kernel)
set_option maxRecDepth 20000 in
theorem gX2_all_X2_lasts : GoodIn wsX2_all (wsV RX2 53 RX2 yX2_lasts wsX2_lasts) := goodIn_app (goodIn_of _ (by decide +kernel)) ggX2_all_X2_lasts
set_option maxRecDepth 20000 in
theorem ggX2_lay_X2_lasts : GoodIn wsX2_lay wsX2_lasts := goodIn_r _ [7, 8, 9, 10, 11, 12, 13, 14, 15, 16, 17, 18, 19, 20, 21] (by decide +kernel) (by decide +kernel)
set_option maxRecDepth 20000 in
theorem gX2_lay_X2_lasts : GoodIn wsX2_lay (wsV RX2 53 RX2 yX2_lasts wsX2_lasts) := goodIn_app (goodIn_of _ (by decide +kernel)) ggX2_lay_X2_lasts
set_option maxRecDepth 20000 in
theorem ggX2_clash_X2_lay : GoodIn wsX2_clash wsX2_lay := goodIn_r _ [11, 12, 13, 14, 15, 16, 10, 17, 18, 19, 20, 27, 28, 29, 30, 31, 32, 33, 34, 35, 36, 37] (by decide +kernel) (by decide +kernel)
set_option maxRecDepth 20000 in
theorem gX2_clash_X2_lay : GoodIn wsX2_clash (wsV RX2 63 RX2 yX2_lay wsX2_lay) := goodIn_app (goodIn_of _ (by decide +kernel)) ggX2_clash_X2_lay
set_option maxRecDepth 20000 in
theorem ggX2_clash_X2_isClash : GoodIn wsX2_clash wsX2_isClash := goodIn_r _ [23, 24, 25, 5, 26] (by decide +kernel) (by decide +kernel)
set_option maxRecDepth 20000 in
theorem gX2_clash_X2_isClash : GoodIn wsX2_clash (va_wsS RX2 70 yX2_isClash wsX2_isClash) := goodIn_app (goodIn_of _ (by decide +kernel)) ggX2_clash_X2_isClash
set_option maxRecDepth 20000 in
theorem ggX2_addVoice_X2_isMeasure : GoodIn wsX2_addVoice wsX2_isMeasure := goodIn_r _ [7, 8, 9, 6, 10] (by decide +kernel) (by decide +kernel)
set_option maxRecDepth 20000 in
theorem gX2_addVoice_X2_isMeasure : GoodIn wsX2_addVoice (va_wsS RX2 73 yX2_isMeasure wsX2_isMeasure) := goodIn_app (goodIn_of _ (by decide +kernel)) ggX2_addVoice_X2_isMeasure
set_option maxRecDepth 20000 in
theorem ggX2_addVoice_X2_fail : GoodIn wsX2_addVoice wsX2_fail := goodIn_r _ [14, 1, 20, 21, 22, 23, 24, 25, 26, 27, 28, 29, 30] (by decide +kernel) (by decide +kernel)
set_option maxRecDepth 20000 in
theorem gX2_addVoice_X2_fail : GoodIn wsX2_addVoice (wsV RX2 76 RX2 yX2_fail wsX2_fail) := goodIn_app (goodIn_of _ (by decide +kernel)) ggX2_addVoice_X2_fail
set_option maxRecDepth 20000 in
theorem ggX2_addVoice_X2_set : GoodIn wsX2_addVoice wsX2_set := goodIn_r _ [18, 19, 20, 21, 22, 23, 24, 25, 26, 27, 28, 29, 30] (by decide +kernel) (by decide +kernel)
set_option maxRecDepth 20000 in
theorem gX2_addVoice_X2_set : GoodIn wsX2_addVoice (wsV RX2 79 RX2 yX2_set wsX2_set) := goodIn_app (goodIn_of _ (by decide +kernel)) ggX2_addVoice_X2_set
set_option maxRecDepth 20000 in
theorem ggX2_addNote_X2_isVoice : GoodIn wsX2_addNote wsX2_isVoice := goodIn_r _ [7, 8, 9, 10, 6, 11, 24, 25, 26, 27, 28, 29, 30, 31, 32, 33, 34] (by decide +kernel) (by decide +kernel)
set_option maxRecDepth 20000 in
theorem gX2_addNote_X2_isVoice : GoodIn wsX2_addNote (wsV RX2 49 RX2 yX2_isVoice wsX2_isVoice) := goodIn_app (goodIn_of _ (by decide +kernel)) ggX2_addNote_X2_isVoice
set_option maxRecDepth 20000 in
theorem ggX2_addNote_X2_fail : GoodIn wsX2_addNote wsX2_fail := goodIn_r _ [15, 1, 24, 25, 26, 27, 28, 29, 30, 31, 32, 33, 34] (by decide +kernel) (by decide +kernel)
set_option maxRecDepth 20000 in
theorem gX2_addNote_X2_fail : GoodIn wsX2_addNote (wsV RX2 76 RX2 yX2_fail wsX2_fail) := goodIn_app (goodIn_of _ (by decide +kernel)) ggX2_addNote_X2_fail
set_option maxRecDepth 20000 in
theorem ggX2_addNote_X2_isIn : GoodIn wsX2_addNote wsX2_isIn := goodIn_r _ [11] (by decide +kernel) (by decide +kernel)
set_option maxRecDepth 20000 in
theorem gX2_addNote_X2_isIn : GoodIn wsX2_addNote (va_wsS RX2 45 yX2_isIn wsX2_isIn) := goodIn_app (goodIn_of _ (by decide +kernel)) ggX2_addNote_X2_isIn
set_option maxRecDepth 20000 in
theorem ggX2_addNote_X2_put : GoodIn wsX2_addNote wsX2_put := goodIn_r _ [19, 2, 20, 21, 22, 23, 24, 25, 26, 27, 28, 29, 30, 31, 32, 33, 34] (by decide +kernel) (by decide +kernel)
set_option maxRecDepth 20000 in
theorem gX2_addNote_X2_put : GoodIn wsX2_addNote (wsV RX2 83 RX2 yX2_put wsX2_put) := goodIn_app (goodIn_of _ (by decide +kernel)) ggX2_addNote_X2_put
set_option maxRecDepth 20000 in
theorem ggX2_addRest_X2_isVoice : GoodIn wsX2_addRest wsX2_isVoice := goodIn_r _ [7, 8, 9, 10, 6, 11, 24, 25, 26, 27, 28, 29, 30, 31, 32, 33, 34] (by decide +kernel) (by decide +kernel)
set_option maxRecDepth 20000 in
theorem gX2_addRest_X2_isVoice : GoodIn wsX2_addRest (wsV RX2 49 RX2 yX2_isVoice wsX2_isVoice) := goodIn_app (goodIn_of _ (by decide +kernel)) ggX2_addRest_X2_isVoice
set_option maxRecDepth 20000 in
theorem ggX2_addRest_X2_fail : GoodIn wsX2_addRest wsX2_fail := goodIn_r _ [15, 1, 24, 25, 26, 27, 28, 29, 30, 31, 32, 33, 34] (by decide +kernel) (by decide +kernel)
set_option maxRecDepth 20000 in
theorem gX2_addRest_X2_fail : GoodIn wsX2_addRest (wsV RX2 76 RX2 yX2_fail wsX2_fail) := goodIn_app (goodIn_of _ (by decide +kernel)) ggX2_addRest_X2_fail
set_option maxRecDepth 20000 in
theorem ggX2_addRest_X2_isIn : GoodIn wsX2_addRest wsX2_isIn := goodIn_r _ [11] (by decide +kernel) (by decide +kernel)
set_option maxRecDepth 20000 in
theorem gX2_addRest_X2_isIn : GoodIn wsX2_addRest (va_wsS RX2 45 yX2_isIn wsX2_isIn) := goodIn_app (goodIn_of _ (by decide +kernel)) ggX2_addRest_X2_isIn
set_option maxRecDepth 20000 in
theorem ggX2_addRest_X2_put : GoodIn wsX2_addRest wsX2_put := goodIn_r _ [19, 2, 20, 21, 22, 23, 24, 25, 26, 27, 28, 29, 30, 31, 32, 33, 34] (by decide +kernel) (by decide +kernel)
set_option maxRecDepth 20000 in
theorem gX2_addRest_X2_put : GoodIn wsX2_addRest (wsV RX2 83 RX2 yX2_put wsX2_put) := goodIn_app (goodIn_of _ (by decide +kernel)) ggX2_addRest_X2_put
set_option maxRecDepth 20000 in
theorem ggX2_addLigature_X2_isVoice : GoodIn wsX2_addLigature wsX2_isVoice := goodIn_r _ [7, 8, 9, 10, 6, 11, 24, 25, 26, 27, 28, 29, 30, 31, 32, 33, 34] (by decide +kernel) (by decide +kernel)
set_option maxRecDepth 20000 in
theorem gX2_addLigature_X2_isVoice : GoodIn wsX2_addLigature (wsV RX2 49 RX2 yX2_isVoice wsX2_isVoice) := goodIn_app (goodIn_of _ (by decide +kernel)) ggX2_addLigature_X2_isVoice
set_option maxRecDepth 20000 in
theorem ggX2_addLigature_X2_fail : GoodIn wsX2_addLigature wsX2_fail := goodIn_r _ [15, 1, 24, 25, 26, 27, 28, 29, 30, 31, 32, 33, 34] (by decide +kernel) (by decide +kernel)
set_option maxRecDepth 20000 in
theorem gX2_addLigature_X2_fail : GoodIn wsX2_addLigature (wsV RX2 76 RX2 yX2_fail wsX2_fail) := goodIn_app (goodIn_of _ (by decide +kernel)) ggX2_addLigature_X2_fail
set_option maxRecDepth 20000 in
theorem ggX2_addLigature_X2_isIn : GoodIn wsX2_addLigature wsX2_isIn := goodIn_r _ [11] (by decide +kernel) (by decide +kernel)
set_option maxRecDepth 20000 in
theorem gX2_addLigature_X2_isIn : GoodIn wsX2_addLigature (va_wsS RX2 45 yX2_isIn wsX2_isIn) := goodIn_app (goodIn_of _ (by decide +kernel)) ggX2_addLigature_X2_isIn
set_option maxRecDepth 20000 in
theorem ggX2_addLigature_X2_put : GoodIn wsX2_addLigature wsX2_put := goodIn_r _ [19, 2, 20, 21, 22, 23, 24, 25, 26, 27, 28, 29, 30, 31, 32, 33, 34] (by decide +kernel) (by decide +kernel)
set_option maxRecDepth 20000 in
theorem gX2_addLigature_X2_put : GoodIn wsX2_addLigature (wsV RX2 83 RX2 yX2_put wsX2_put) := goodIn_app (goodIn_of _ (by decide +kernel)) ggX2_addLigature_X2_put
set_option maxRecDepth 20000 in
theorem ggX2_erase_X2_isVoice : GoodIn wsX2_erase wsX2_isVoice := goodIn_r _ [12, 13, 14, 15, 11, 16, 21, 22, 23, 24, 25, 26, 27, 28, 29, 30, 31] (by decide +kernel) (by decide +kernel)
set_option maxRecDepth 20000 in
theorem gX2_erase_X2_isVoice : GoodIn wsX2_erase (wsV RX2 49 RX2 yX2_isVoice wsX2_isVoice) := goodIn_app (goodIn_of _ (by decide +kernel)) ggX2_erase_X2_isVoice
set_option maxRecDepth 20000 in
theorem ggX2_erase_X2_fail : GoodIn wsX2_erase wsX2_fail := goodIn_r _ [20, 1, 21, 22, 23, 24, 25, 26, 27, 28, 29, 30, 31] (by decide +kernel) (by decide +kernel)
set_option maxRecDepth 20000 in
theorem gX2_erase_X2_fail : GoodIn wsX2_erase (wsV RX2 76 RX2 yX2_fail wsX2_fail) := goodIn_app (goodIn_of _ (by decide +kernel)) ggX2_erase_X2_fail
set_option maxRecDepth 20000 in
theorem ggX2_recolour_X2_isSign : GoodIn wsX2_recolour wsX2_isSign := goodIn_r _ [8, 9, 10, 11, 12, 7, 13, 14, 15, 16, 17, 18, 19, 20, 21, 22, 23, 24, 25, 26, 27, 28] (by decide +kernel) (by decide +kernel)
set_option maxRecDepth 20000 in
theorem gX2_recolour_X2_isSign : GoodIn wsX2_recolour (wsV RX2 90 RX2 yX2_isSign wsX2_isSign) := goodIn_app (goodIn_of _ (by decide +kernel)) ggX2_recolour_X2_isSign
set_option maxRecDepth 20000 in
theorem ggX2_setClef_X2_isVoice : GoodIn wsX2_setClef wsX2_isVoice := goodIn_r _ [7, 8, 9, 10, 6, 11, 16, 17, 18, 19, 20, 21, 22, 23, 24, 25, 26] (by decide +kernel) (by decide +kernel)
set_option maxRecDepth 20000 in
theorem gX2_setClef_X2_isVoice : GoodIn wsX2_setClef (wsV RX2 49 RX2 yX2_isVoice wsX2_isVoice) := goodIn_app (goodIn_of _ (by decide +kernel)) ggX2_setClef_X2_isVoice
set_option maxRecDepth 20000 in
theorem ggX2_setClef_X2_fail : GoodIn wsX2_setClef wsX2_fail := goodIn_r _ [15, 1, 16, 17, 18, 19, 20, 21, 22, 23, 24, 25, 26] (by decide +kernel) (by decide +kernel)
set_option maxRecDepth 20000 in
theorem gX2_setClef_X2_fail : GoodIn wsX2_setClef (wsV RX2 76 RX2 yX2_fail wsX2_fail) := goodIn_app (goodIn_of _ (by decide +kernel)) ggX2_setClef_X2_fail
set_option maxRecDepth 20000 in
theorem ggX2_setClef_X2_isIn : GoodIn wsX2_setClef wsX2_isIn := goodIn_r _ [11] (by decide +kernel) (by decide +kernel)
set_option maxRecDepth 20000 in
theorem gX2_setClef_X2_isIn : GoodIn wsX2_setClef (va_wsS RX2 45 yX2_isIn wsX2_isIn) := goodIn_app (goodIn_of _ (by decide +kernel)) ggX2_setClef_X2_isIn
set_option maxRecDepth 20000 in
theorem ggX2_setMensuration_X2_isVoice : GoodIn wsX2_setMensuration wsX2_isVoice := goodIn_r _ [6, 7, 8, 9, 5, 10, 34, 35, 36, 37, 38, 39, 40, 41, 42, 43, 44] (by decide +kernel) (by decide +kernel)
set_option maxRecDepth 20000 in
theorem gX2_setMensuration_X2_isVoice : GoodIn wsX2_setMensuration (wsV RX2 49 RX2 yX2_isVoice wsX2_isVoice) := goodIn_app (goodIn_of _ (by decide +kernel)) ggX2_setMensuration_X2_isVoice
set_option maxRecDepth 20000 in
theorem ggX2_setMensuration_X2_fail : GoodIn wsX2_setMensuration wsX2_fail := goodIn_r _ [14, 1, 34, 35, 36, 37, 38, 39, 40, 41, 42, 43, 44] (by decide +kernel) (by decide +kernel)
set_option maxRecDepth 20000 in
theorem gX2_setMensuration_X2_fail : GoodIn wsX2_setMensuration (wsV RX2 76 RX2 yX2_fail wsX2_fail) := goodIn_app (goodIn_of _ (by decide +kernel)) ggX2_setMensuration_X2_fail
set_option maxRecDepth 20000 in
theorem ggX2_setMensuration_X2_isMeasure : GoodIn wsX2_setMensuration wsX2_isMeasure := goodIn_r _ [17, 8, 9, 5, 10] (by decide +kernel) (by decide +kernel)
set_option maxRecDepth 20000 in
theorem gX2_setMensuration_X2_isMeasure : GoodIn wsX2_setMensuration (va_wsS RX2 73 yX2_isMeasure wsX2_isMeasure) := goodIn_app (goodIn_of _ (by decide +kernel)) ggX2_setMensuration_X2_isMeasure
set_option maxRecDepth 20000 in
theorem ggX2_setMensuration_X2_set : GoodIn wsX2_setMensuration wsX2_set := goodIn_r _ [21, 22, 34, 35, 36, 37, 38, 39, 40, 41, 42, 43, 44] (by decide +kernel) (by decide +kernel)
set_option maxRecDepth 20000 in
theorem gX2_setMensuration_X2_set : GoodIn wsX2_setMensuration (wsV RX2 79 RX2 yX2_set wsX2_set) := goodIn_app (goodIn_of _ (by decide +kernel)) ggX2_setMensuration_X2_set
set_option maxRecDepth 20000 in
theorem ggX2_setMensuration_X2_all : GoodIn wsX2_setMensuration wsX2_all := goodIn_r _ [26, 27, 28, 29, 30, 5, 31, 32, 33, 22, 34, 35, 36, 37, 38, 39, 40, 41, 42, 43, 44] (by decide +kernel) (by decide +kernel)
set_option maxRecDepth 20000 in
theorem gX2_setMensuration_X2_all : GoodIn wsX2_setMensuration (wsV RX2 94 RX2 yX2_all wsX2_all) := goodIn_app (goodIn_of _ (by decide +kernel)) ggX2_setMensuration_X2_all
set_option maxRecDepth 20000 in
theorem ggX2_voices_X2_told : GoodIn wsX2_voices wsX2_told := goodIn_r _ [6, 7, 8, 9, 10, 11, 12, 13, 14, 15, 16, 17, 18] (by decide +kernel) (by decide +kernel)
set_option maxRecDepth 20000 in
theorem gX2_voices_X2_told : GoodIn wsX2_voices (wsV RX2 97 RX2 yX2_told wsX2_told) := goodIn_app (goodIn_of _ (by decide +kernel)) ggX2_voices_X2_told
set_option maxRecDepth 20000 in
theorem ggX2_signs_X2_isVoice : GoodIn wsX2_signs wsX2_isVoice := goodIn_r _ [7, 8, 9, 10, 6, 11, 16, 17, 18, 19, 20, 21, 22, 23, 24, 25, 26] (by decide +kernel) (by decide +kernel)
set_option maxRecDepth 20000 in
theorem gX2_signs_X2_isVoice : GoodIn wsX2_signs (wsV RX2 49 RX2 yX2_isVoice wsX2_isVoice) := goodIn_app (goodIn_of _ (by decide +kernel)) ggX2_signs_X2_isVoice
set_option maxRecDepth 20000 in
theorem ggX2_signs_X2_fail : GoodIn wsX2_signs wsX2_fail := goodIn_r _ [15, 1, 16, 17, 18, 19, 20, 21, 22, 23, 24, 25, 26] (by decide +kernel) (by decide +kernel)
set_option maxRecDepth 20000 in
theorem gX2_signs_X2_fail : GoodIn wsX2_signs (wsV RX2 76 RX2 yX2_fail wsX2_fail) := goodIn_app (goodIn_of _ (by decide +kernel)) ggX2_signs_X2_fail
set_option maxRecDepth 20000 in
theorem ggX2_notes_X2_isVoice : GoodIn wsX2_notes wsX2_isVoice := goodIn_r _ [6, 7, 8, 9, 5, 10, 22, 23, 24, 25, 26, 27, 28, 29, 30, 31, 32] (by decide +kernel) (by decide +kernel)
set_option maxRecDepth 20000 in
theorem gX2_notes_X2_isVoice : GoodIn wsX2_notes (wsV RX2 49 RX2 yX2_isVoice wsX2_isVoice) := goodIn_app (goodIn_of _ (by decide +kernel)) ggX2_notes_X2_isVoice
set_option maxRecDepth 20000 in
theorem ggX2_notes_X2_count : GoodIn wsX2_notes wsX2_count := goodIn_r _ [14, 15, 16, 17, 22, 23, 24, 25, 26, 27, 28, 29, 30, 31, 32] (by decide +kernel) (by decide +kernel)
set_option maxRecDepth 20000 in
theorem gX2_notes_X2_count : GoodIn wsX2_notes (wsV RX2 100 RX2 yX2_count wsX2_count) := goodIn_app (goodIn_of _ (by decide +kernel)) ggX2_notes_X2_count
set_option maxRecDepth 20000 in
theorem ggX2_notes_X2_fail : GoodIn wsX2_notes wsX2_fail := goodIn_r _ [21, 1, 22, 23, 24, 25, 26, 27, 28, 29, 30, 31, 32] (by decide +kernel) (by decide +kernel)
set_option maxRecDepth 20000 in
theorem gX2_notes_X2_fail : GoodIn wsX2_notes (wsV RX2 76 RX2 yX2_fail wsX2_fail) := goodIn_app (goodIn_of _ (by decide +kernel)) ggX2_notes_X2_fail
set_option maxRecDepth 20000 in
theorem ggX2_ligatures_X2_isVoice : GoodIn wsX2_ligatures wsX2_isVoice := goodIn_r _ [6, 7, 8, 9, 5, 10, 22, 23, 24, 25, 26, 27, 28, 29, 30, 31, 32] (by decide +kernel) (by decide +kernel)
set_option maxRecDepth 20000 in
theorem gX2_ligatures_X2_isVoice : GoodIn wsX2_ligatures (wsV RX2 49 RX2 yX2_isVoice wsX2_isVoice) := goodIn_app (goodIn_of _ (by decide +kernel)) ggX2_ligatures_X2_isVoice
set_option maxRecDepth 20000 in
theorem ggX2_ligatures_X2_count : GoodIn wsX2_ligatures wsX2_count := goodIn_r _ [14, 15, 16, 17, 22, 23, 24, 25, 26, 27, 28, 29, 30, 31, 32] (by decide +kernel) (by decide +kernel)
set_option maxRecDepth 20000 in
theorem gX2_ligatures_X2_count : GoodIn wsX2_ligatures (wsV RX2 100 RX2 yX2_count wsX2_count) := goodIn_app (goodIn_of _ (by decide +kernel)) ggX2_ligatures_X2_count
set_option maxRecDepth 20000 in
theorem ggX2_ligatures_X2_fail : GoodIn wsX2_ligatures wsX2_fail := goodIn_r _ [21, 1, 22, 23, 24, 25, 26, 27, 28, 29, 30, 31, 32] (by decide +kernel) (by decide +kernel)
set_option maxRecDepth 20000 in
theorem gX2_ligatures_X2_fail : GoodIn wsX2_ligatures (wsV RX2 76 RX2 yX2_fail wsX2_fail) := goodIn_app (goodIn_of _ (by decide +kernel)) ggX2_ligatures_X2_fail
set_option maxRecDepth 20000 in
theorem ggX2_of_X2_isSign : GoodIn wsX2_of wsX2_isSign := goodIn_r _ [6, 7, 8, 9, 10, 5, 11, 12, 13, 14, 15, 20, 21, 22, 23, 24, 25, 26, 27, 28, 29, 30] (by decide +kernel) (by decide +kernel)
set_option maxRecDepth 20000 in
theorem gX2_of_X2_isSign : GoodIn wsX2_of (wsV RX2 90 RX2 yX2_isSign wsX2_isSign) := goodIn_app (goodIn_of _ (by decide +kernel)) ggX2_of_X2_isSign
set_option maxRecDepth 20000 in
theorem ggX2_of_X2_fail : GoodIn wsX2_of wsX2_fail := goodIn_r _ [19, 1, 20, 21, 22, 23, 24, 25, 26, 27, 28, 29, 30] (by decide +kernel) (by decide +kernel)
set_option maxRecDepth 20000 in
theorem gX2_of_X2_fail : GoodIn wsX2_of (wsV RX2 76 RX2 yX2_fail wsX2_fail) := goodIn_app (goodIn_of _ (by decide +kernel)) ggX2_of_X2_fail
set_option maxRecDepth 20000 in
theorem ggX2_kindOf_X2_of : GoodIn wsX2_kindOf wsX2_of := goodIn_r _ [6, 7, 8, 9, 10, 5, 11, 12, 13, 14, 15, 16, 17, 18, 19, 20, 21, 22, 23, 24, 25, 26, 27, 28, 29, 30, 31, 32, 33, 34, 35] (by decide +kernel) (by decide +kernel)
set_option maxRecDepth 20000 in
theorem gX2_kindOf_X2_of : GoodIn wsX2_kindOf (wsV RX2 104 RX2 yX2_of wsX2_of) := goodIn_app (goodIn_of _ (by decide +kernel)) ggX2_kindOf_X2_of
set_option maxRecDepth 20000 in
theorem ggX2_placeOf_X2_of : GoodIn wsX2_placeOf wsX2_of := goodIn_r _ [6, 7, 8, 9, 10, 5, 11, 12, 13, 14, 15, 16, 17, 18, 19, 20, 21, 22, 23, 24, 25, 26, 27, 28, 29, 30, 31, 32, 33, 34, 35] (by decide +kernel) (by decide +kernel)
set_option maxRecDepth 20000 in
theorem gX2_placeOf_X2_of : GoodIn wsX2_placeOf (wsV RX2 104 RX2 yX2_of wsX2_of) := goodIn_app (goodIn_of _ (by decide +kernel)) ggX2_placeOf_X2_of
set_option maxRecDepth 20000 in
theorem ggX2_isColoured_X2_isSign : GoodIn wsX2_isColoured wsX2_isSign := goodIn_r _ [7, 8, 9, 10, 11, 6, 12, 13, 14, 15, 16, 17, 18, 19, 20, 21, 22, 23, 24, 25, 26, 27] (by decide +kernel) (by decide +kernel)
set_option maxRecDepth 20000 in
theorem gX2_isColoured_X2_isSign : GoodIn wsX2_isColoured (wsV RX2 90 RX2 yX2_isSign wsX2_isSign) := goodIn_app (goodIn_of _ (by decide +kernel)) ggX2_isColoured_X2_isSign
set_option maxRecDepth 20000 in
theorem ggX2_placeInLigature_X2_of : GoodIn wsX2_placeInLigature wsX2_of := goodIn_r _ [6, 7, 8, 9, 10, 5, 11, 12, 13, 14, 15, 16, 17, 18, 19, 20, 21, 22, 23, 24, 25, 26, 27, 28, 29, 30, 31, 32, 33, 34, 35] (by decide +kernel) (by decide +kernel)
set_option maxRecDepth 20000 in
theorem gX2_placeInLigature_X2_of : GoodIn wsX2_placeInLigature (wsV RX2 104 RX2 yX2_of wsX2_of) := goodIn_app (goodIn_of _ (by decide +kernel)) ggX2_placeInLigature_X2_of
set_option maxRecDepth 20000 in
theorem ggX2_lengthOf_X2_isSign : GoodIn wsX2_lengthOf wsX2_isSign := goodIn_r _ [6, 7, 8, 9, 10, 5, 11, 12, 13, 14, 15, 27, 28, 29, 30, 31, 32, 33, 34, 35, 36, 37] (by decide +kernel) (by decide +kernel)
set_option maxRecDepth 20000 in
theorem gX2_lengthOf_X2_isSign : GoodIn wsX2_lengthOf (wsV RX2 90 RX2 yX2_isSign wsX2_isSign) := goodIn_app (goodIn_of _ (by decide +kernel)) ggX2_lengthOf_X2_isSign
set_option maxRecDepth 20000 in
theorem ggX2_lengthOf_X2_lasts : GoodIn wsX2_lengthOf wsX2_lasts := goodIn_r _ [19, 20, 21, 22, 27, 28, 29, 30, 31, 32, 33, 34, 35, 36, 37] (by decide +kernel) (by decide +kernel)
set_option maxRecDepth 20000 in
theorem gX2_lengthOf_X2_lasts : GoodIn wsX2_lengthOf (wsV RX2 53 RX2 yX2_lasts wsX2_lasts) := goodIn_app (goodIn_of _ (by decide +kernel)) ggX2_lengthOf_X2_lasts
set_option maxRecDepth 20000 in
theorem ggX2_lengthOf_X2_fail : GoodIn wsX2_lengthOf wsX2_fail := goodIn_r _ [26, 1, 27, 28, 29, 30, 31, 32, 33, 34, 35, 36, 37] (by decide +kernel) (by decide +kernel)
set_option maxRecDepth 20000 in
theorem gX2_lengthOf_X2_fail : GoodIn wsX2_lengthOf (wsV RX2 76 RX2 yX2_fail wsX2_fail) := goodIn_app (goodIn_of _ (by decide +kernel)) ggX2_lengthOf_X2_fail
set_option maxRecDepth 20000 in
theorem ggX2_begins_X2_lasts : GoodIn wsX2_begins wsX2_lasts := goodIn_r _ [5, 6, 7, 8, 9, 10, 11, 12, 13, 14, 15, 16, 17, 18, 19] (by decide +kernel) (by decide +kernel)
set_option maxRecDepth 20000 in
theorem gX2_begins_X2_lasts : GoodIn wsX2_begins (wsV RX2 53 RX2 yX2_lasts wsX2_lasts) := goodIn_app (goodIn_of _ (by decide +kernel)) ggX2_begins_X2_lasts
set_option maxRecDepth 20000 in
theorem ggX2_beginOf_X2_isSign : GoodIn wsX2_beginOf wsX2_isSign := goodIn_r _ [6, 7, 8, 9, 10, 5, 11, 12, 13, 14, 15, 31, 32, 33, 34, 35, 36, 37, 38, 39, 40, 41] (by decide +kernel) (by decide +kernel)
set_option maxRecDepth 20000 in
theorem gX2_beginOf_X2_isSign : GoodIn wsX2_beginOf (wsV RX2 90 RX2 yX2_isSign wsX2_isSign) := goodIn_app (goodIn_of _ (by decide +kernel)) ggX2_beginOf_X2_isSign
set_option maxRecDepth 20000 in
theorem ggX2_beginOf_X2_begins : GoodIn wsX2_beginOf wsX2_begins := goodIn_r _ [19, 20, 21, 22, 5, 23, 24, 25, 26, 31, 32, 33, 34, 35, 36, 37, 38, 39, 40, 41] (by decide +kernel) (by decide +kernel)
set_option maxRecDepth 20000 in
theorem gX2_beginOf_X2_begins : GoodIn wsX2_beginOf (wsV RX2 108 RX2 yX2_begins wsX2_begins) := goodIn_app (goodIn_of _ (by decide +kernel)) ggX2_beginOf_X2_begins
set_option maxRecDepth 20000 in
theorem ggX2_beginOf_X2_fail : GoodIn wsX2_beginOf wsX2_fail := goodIn_r _ [30, 1, 31, 32, 33, 34, 35, 36, 37, 38, 39, 40, 41] (by decide +kernel) (by decide +kernel)
set_option maxRecDepth 20000 in
theorem gX2_beginOf_X2_fail : GoodIn wsX2_beginOf (wsV RX2 76 RX2 yX2_fail wsX2_fail) := goodIn_app (goodIn_of _ (by decide +kernel)) ggX2_beginOf_X2_fail
set_option maxRecDepth 20000 in
theorem ggX2_length_X2_isVoice : GoodIn wsX2_length wsX2_isVoice := goodIn_r _ [6, 7, 8, 9, 5, 10, 27, 28, 29, 30, 31, 32, 33, 34, 35, 36, 37] (by decide +kernel) (by decide +kernel)
set_option maxRecDepth 20000 in
theorem gX2_length_X2_isVoice : GoodIn wsX2_length (wsV RX2 49 RX2 yX2_isVoice wsX2_isVoice) := goodIn_app (goodIn_of _ (by decide +kernel)) ggX2_length_X2_isVoice
set_option maxRecDepth 20000 in
theorem ggX2_length_X2_all : GoodIn wsX2_length wsX2_all := goodIn_r _ [14, 15, 16, 17, 18, 5, 19, 20, 21, 22, 27, 28, 29, 30, 31, 32, 33, 34, 35, 36, 37] (by decide +kernel) (by decide +kernel)
set_option maxRecDepth 20000 in
theorem gX2_length_X2_all : GoodIn wsX2_length (wsV RX2 94 RX2 yX2_all wsX2_all) := goodIn_app (goodIn_of _ (by decide +kernel)) ggX2_length_X2_all
set_option maxRecDepth 20000 in
theorem ggX2_length_X2_fail : GoodIn wsX2_length wsX2_fail := goodIn_r _ [26, 1, 27, 28, 29, 30, 31, 32, 33, 34, 35, 36, 37] (by decide +kernel) (by decide +kernel)
set_option maxRecDepth 20000 in
theorem gX2_length_X2_fail : GoodIn wsX2_length (wsV RX2 76 RX2 yX2_fail wsX2_fail) := goodIn_app (goodIn_of _ (by decide +kernel)) ggX2_length_X2_fail
set_option maxRecDepth 20000 in
theorem ggX2_most_X2_all : GoodIn wsX2_most wsX2_all := goodIn_r _ [10, 11, 12, 13, 14, 9, 15, 16, 17, 18, 19, 20, 21, 22, 23, 24, 25, 26, 27, 28, 29] (by decide +kernel) (by decide +kernel)
set_option maxRecDepth 20000 in
theorem gX2_most_X2_all : GoodIn wsX2_most (wsV RX2 94 RX2 yX2_all wsX2_all) := goodIn_app (goodIn_of _ (by decide +kernel)) ggX2_most_X2_all
set_option maxRecDepth 20000 in
theorem ggX2_longest_X2_most : GoodIn wsX2_longest wsX2_most := goodIn_r _ [5, 6, 7, 8, 9, 10, 11, 12, 13, 4, 14, 15, 16, 17, 18, 19, 20, 21, 22, 28, 29, 30, 31, 32, 33, 34, 35, 36, 37, 38] (by decide +kernel) (by decide +kernel)
set_option maxRecDepth 20000 in
theorem gX2_longest_X2_most : GoodIn wsX2_longest (wsV RX2 111 RX2 yX2_most wsX2_most) := goodIn_app (goodIn_of _ (by decide +kernel)) ggX2_longest_X2_most
set_option maxRecDepth 20000 in
theorem ggX2_longest_X2_told : GoodIn wsX2_longest wsX2_told := goodIn_r _ [26, 27, 28, 29, 30, 31, 32, 33, 34, 35, 36, 37, 38] (by decide +kernel) (by decide +kernel)
set_option maxRecDepth 20000 in
theorem gX2_longest_X2_told : GoodIn wsX2_longest (wsV RX2 97 RX2 yX2_told wsX2_told) := goodIn_app (goodIn_of _ (by decide +kernel)) ggX2_longest_X2_told
set_option maxRecDepth 20000 in
theorem ggX2_signAt_X2_isVoice : GoodIn wsX2_signAt wsX2_isVoice := goodIn_r _ [7, 8, 9, 10, 6, 11, 23, 24, 25, 26, 27, 28, 29, 30, 31, 32, 33] (by decide +kernel) (by decide +kernel)
set_option maxRecDepth 20000 in
theorem gX2_signAt_X2_isVoice : GoodIn wsX2_signAt (wsV RX2 49 RX2 yX2_isVoice wsX2_isVoice) := goodIn_app (goodIn_of _ (by decide +kernel)) ggX2_signAt_X2_isVoice
set_option maxRecDepth 20000 in
theorem ggX2_signAt_X2_fail : GoodIn wsX2_signAt wsX2_fail := goodIn_r _ [15, 1, 23, 24, 25, 26, 27, 28, 29, 30, 31, 32, 33] (by decide +kernel) (by decide +kernel)
set_option maxRecDepth 20000 in
theorem gX2_signAt_X2_fail : GoodIn wsX2_signAt (wsV RX2 76 RX2 yX2_fail wsX2_fail) := goodIn_app (goodIn_of _ (by decide +kernel)) ggX2_signAt_X2_fail
set_option maxRecDepth 20000 in
theorem ggX2_signAt_X2_lasts : GoodIn wsX2_signAt wsX2_lasts := goodIn_r _ [19, 20, 21, 22, 23, 24, 25, 26, 27, 28, 29, 30, 31, 32, 33] (by decide +kernel) (by decide +kernel)
set_option maxRecDepth 20000 in
theorem gX2_signAt_X2_lasts : GoodIn wsX2_signAt (wsV RX2 53 RX2 yX2_lasts wsX2_lasts) := goodIn_app (goodIn_of _ (by decide +kernel)) ggX2_signAt_X2_lasts
set_option maxRecDepth 20000 in
theorem ggX2_clefOf_X2_isVoice : GoodIn wsX2_clefOf wsX2_isVoice := goodIn_r _ [7, 8, 9, 10, 6, 11, 16, 17, 18, 19, 20, 21, 22, 23, 24, 25, 26] (by decide +kernel) (by decide +kernel)
set_option maxRecDepth 20000 in
theorem gX2_clefOf_X2_isVoice : GoodIn wsX2_clefOf (wsV RX2 49 RX2 yX2_isVoice wsX2_isVoice) := goodIn_app (goodIn_of _ (by decide +kernel)) ggX2_clefOf_X2_isVoice
set_option maxRecDepth 20000 in
theorem ggX2_clefOf_X2_fail : GoodIn wsX2_clefOf wsX2_fail := goodIn_r _ [15, 1, 16, 17, 18, 19, 20, 21, 22, 23, 24, 25, 26] (by decide +kernel) (by decide +kernel)
set_option maxRecDepth 20000 in
theorem gX2_clefOf_X2_fail : GoodIn wsX2_clefOf (wsV RX2 76 RX2 yX2_fail wsX2_fail) := goodIn_app (goodIn_of _ (by decide +kernel)) ggX2_clefOf_X2_fail
set_option maxRecDepth 20000 in
theorem ggX2_pitchOf_X2_isSign : GoodIn wsX2_pitchOf wsX2_isSign := goodIn_r _ [8, 9, 10, 11, 12, 7, 13, 14, 15, 16, 17, 22, 23, 24, 25, 26, 27, 28, 29, 30, 31, 32] (by decide +kernel) (by decide +kernel)
set_option maxRecDepth 20000 in
theorem gX2_pitchOf_X2_isSign : GoodIn wsX2_pitchOf (wsV RX2 90 RX2 yX2_isSign wsX2_isSign) := goodIn_app (goodIn_of _ (by decide +kernel)) ggX2_pitchOf_X2_isSign
set_option maxRecDepth 20000 in
theorem ggX2_pitchOf_X2_fail : GoodIn wsX2_pitchOf wsX2_fail := goodIn_r _ [21, 1, 22, 23, 24, 25, 26, 27, 28, 29, 30, 31, 32] (by decide +kernel) (by decide +kernel)
set_option maxRecDepth 20000 in
theorem gX2_pitchOf_X2_fail : GoodIn wsX2_pitchOf (wsV RX2 76 RX2 yX2_fail wsX2_fail) := goodIn_app (goodIn_of _ (by decide +kernel)) ggX2_pitchOf_X2_fail
set_option maxRecDepth 20000 in
theorem ggX2_fit_X2_isIn : GoodIn wsX2_fit wsX2_isIn := goodIn_r _ [6] (by decide +kernel) (by decide +kernel)
set_option maxRecDepth 20000 in
theorem gX2_fit_X2_isIn : GoodIn wsX2_fit (va_wsS RX2 45 yX2_isIn wsX2_isIn) := goodIn_app (goodIn_of _ (by decide +kernel)) ggX2_fit_X2_isIn
set_option maxRecDepth 20000 in
theorem ggX2_fits_X2_isVoice : GoodIn wsX2_fits wsX2_isVoice := goodIn_r _ [6, 7, 8, 9, 5, 10, 17, 18, 19, 20, 21, 22, 23, 24, 25, 26, 27] (by decide +kernel) (by decide +kernel)
set_option maxRecDepth 20000 in
theorem gX2_fits_X2_isVoice : GoodIn wsX2_fits (wsV RX2 49 RX2 yX2_isVoice wsX2_isVoice) := goodIn_app (goodIn_of _ (by decide +kernel)) ggX2_fits_X2_isVoice
set_option maxRecDepth 20000 in
theorem ggX2_fits_X2_isIn : GoodIn wsX2_fits wsX2_isIn := goodIn_r _ [10] (by decide +kernel) (by decide +kernel)
set_option maxRecDepth 20000 in
theorem gX2_fits_X2_isIn : GoodIn wsX2_fits (va_wsS RX2 45 yX2_isIn wsX2_isIn) := goodIn_app (goodIn_of _ (by decide +kernel)) ggX2_fits_X2_isIn
set_option maxRecDepth 20000 in
theorem ggX2_fits_X2_fit : GoodIn wsX2_fits wsX2_fit := goodIn_r _ [14, 15, 16, 8, 9, 5, 10, 17, 18, 19, 20, 21, 22, 23, 24, 25, 26, 27] (by decide +kernel) (by decide +kernel)
set_option maxRecDepth 20000 in
theorem gX2_fits_X2_fit : GoodIn wsX2_fits (wsV RX2 115 RX2 yX2_fit wsX2_fit) := goodIn_app (goodIn_of _ (by decide +kernel)) ggX2_fits_X2_fit
set_option maxRecDepth 20000 in
theorem ggX2_fitting_X2_fit : GoodIn wsX2_fitting wsX2_fit := goodIn_r _ [5, 6, 7, 8, 9, 4, 10, 11, 12, 13, 14, 15, 16, 17, 18, 19, 20, 21] (by decide +kernel) (by decide +kernel)
set_option maxRecDepth 20000 in
theorem gX2_fitting_X2_fit : GoodIn wsX2_fitting (wsV RX2 115 RX2 yX2_fit wsX2_fit) := goodIn_app (goodIn_of _ (by decide +kernel)) ggX2_fitting_X2_fit
set_option maxRecDepth 20000 in
theorem ggX2_clefsThatFit_X2_isVoice : GoodIn wsX2_clefsThatFit wsX2_isVoice := goodIn_r _ [6, 7, 8, 9, 5, 10, 25, 26, 27, 28, 29, 30, 31, 32, 33, 34, 35] (by decide +kernel) (by decide +kernel)
set_option maxRecDepth 20000 in
theorem gX2_clefsThatFit_X2_isVoice : GoodIn wsX2_clefsThatFit (wsV RX2 49 RX2 yX2_isVoice wsX2_isVoice) := goodIn_app (goodIn_of _ (by decide +kernel)) ggX2_clefsThatFit_X2_isVoice
set_option maxRecDepth 20000 in
theorem ggX2_clefsThatFit_X2_fitting : GoodIn wsX2_clefsThatFit wsX2_fitting := goodIn_r _ [14, 15, 16, 17, 5, 18, 19, 20, 8, 9, 10, 25, 26, 27, 28, 29, 30, 31, 32, 33, 34, 35] (by decide +kernel) (by decide +kernel)
set_option maxRecDepth 20000 in
theorem gX2_clefsThatFit_X2_fitting : GoodIn wsX2_clefsThatFit (wsV RX2 118 RX2 yX2_fitting wsX2_fitting) := goodIn_app (goodIn_of _ (by decide +kernel)) ggX2_clefsThatFit_X2_fitting
set_option maxRecDepth 20000 in
theorem ggX2_clefsThatFit_X2_fail : GoodIn wsX2_clefsThatFit wsX2_fail := goodIn_r _ [24, 1, 25, 26, 27, 28, 29, 30, 31, 32, 33, 34, 35] (by decide +kernel) (by decide +kernel)
set_option maxRecDepth 20000 in
theorem gX2_clefsThatFit_X2_fail : GoodIn wsX2_clefsThatFit (wsV RX2 76 RX2 yX2_fail wsX2_fail) := goodIn_app (goodIn_of _ (by decide +kernel)) ggX2_clefsThatFit_X2_fail
set_option maxRecDepth 20000 in
theorem ggX2_both_X2_isVoice : GoodIn wsX2_both wsX2_isVoice := goodIn_r _ [7, 8, 9, 10, 6, 11, 45, 46, 47, 48, 49, 50, 51, 52, 53, 54, 55] (by decide +kernel) (by decide +kernel)
set_option maxRecDepth 20000 in
theorem gX2_both_X2_isVoice : GoodIn wsX2_both (wsV RX2 49 RX2 yX2_isVoice wsX2_isVoice) := goodIn_app (goodIn_of _ (by decide +kernel)) ggX2_both_X2_isVoice
set_option maxRecDepth 20000 in
theorem ggX2_both_X2_fail : GoodIn wsX2_both wsX2_fail := goodIn_r _ [15, 1, 45, 46, 47, 48, 49, 50, 51, 52, 53, 54, 55] (by decide +kernel) (by decide +kernel)
set_option maxRecDepth 20000 in
theorem gX2_both_X2_fail : GoodIn wsX2_both (wsV RX2 76 RX2 yX2_fail wsX2_fail) := goodIn_app (goodIn_of _ (by decide +kernel)) ggX2_both_X2_fail
set_option maxRecDepth 20000 in
theorem ggX2_both_X2_clash : GoodIn wsX2_both wsX2_clash := goodIn_r _ [19, 20, 21, 22, 23, 24, 25, 26, 27, 28, 6, 29, 30, 31, 32, 33, 34, 35, 36, 37, 38, 39, 40, 41, 42, 43, 44, 45, 46, 47, 48, 49, 50, 51, 52, 53, 54, 55] (by decide +kernel) (by decide +kernel)
set_option maxRecDepth 20000 in
theorem gX2_both_X2_clash : GoodIn wsX2_both (wsV RX2 121 RX2 yX2_clash wsX2_clash) := goodIn_app (goodIn_of _ (by decide +kernel)) ggX2_both_X2_clash
set_option maxRecDepth 20000 in
theorem ggX2_clashes_X2_both : GoodIn wsX2_clashes wsX2_both := goodIn_r _ [5, 6, 7, 8, 9, 10, 4, 11, 12, 13, 14, 15, 16, 17, 18, 19, 20, 21, 22, 23, 24, 25, 26, 27, 28, 29, 30, 31, 32, 33, 34, 35, 36, 37, 38, 39, 40, 41, 42, 43, 44, 45, 46, 47, 48, 49, 50, 51, 52, 53, 54, 55, 56, 57, 58, 59] (by decide +kernel) (by decide +kernel)
set_option maxRecDepth 20000 in
theorem gX2_clashes_X2_both : GoodIn wsX2_clashes (wsV RX2 125 RX2 yX2_both wsX2_both) := goodIn_app (goodIn_of _ (by decide +kernel)) ggX2_clashes_X2_both
set_option maxRecDepth 20000 in
theorem ggX2_firstClash_X2_both : GoodIn wsX2_firstClash wsX2_both := goodIn_r _ [5, 6, 7, 8, 9, 10, 4, 11, 12, 13, 14, 15, 16, 17, 18, 19, 20, 21, 22, 23, 24, 25, 26, 27, 28, 29, 30, 31, 32, 33, 34, 35, 36, 37, 38, 39, 40, 41, 42, 43, 44, 45, 46, 47, 48, 49, 50, 51, 52, 53, 54, 55, 56, 57, 58, 59] (by decide +kernel) (by decide +kernel)
set_option maxRecDepth 20000 in
theorem gX2_firstClash_X2_both : GoodIn wsX2_firstClash (wsV RX2 125 RX2 yX2_both wsX2_both) := goodIn_app (goodIn_of _ (by decide +kernel)) ggX2_firstClash_X2_both
set_option maxRecDepth 20000 in
theorem ggX2_withAll_X2_clash : GoodIn wsX2_withAll wsX2_clash := goodIn_r _ [7, 8, 9, 10, 11, 12, 13, 14, 15, 16, 6, 17, 18, 19, 20, 21, 22, 23, 24, 25, 26, 27, 28, 29, 30, 31, 32, 33, 34, 35, 36, 37, 38, 39, 40, 41, 42, 43] (by decide +kernel) (by decide +kernel)
set_option maxRecDepth 20000 in
theorem gX2_withAll_X2_clash : GoodIn wsX2_withAll (wsV RX2 121 RX2 yX2_clash wsX2_clash) := goodIn_app (goodIn_of _ (by decide +kernel)) ggX2_withAll_X2_clash
set_option maxRecDepth 20000 in
theorem ggX2_clashesWith_X2_isVoice : GoodIn wsX2_clashesWith wsX2_isVoice := goodIn_r _ [6, 7, 8, 9, 5, 10, 49, 50, 51, 52, 53, 54, 55, 56, 57, 58, 59] (by decide +kernel) (by decide +kernel)
set_option maxRecDepth 20000 in
theorem gX2_clashesWith_X2_isVoice : GoodIn wsX2_clashesWith (wsV RX2 49 RX2 yX2_isVoice wsX2_isVoice) := goodIn_app (goodIn_of _ (by decide +kernel)) ggX2_clashesWith_X2_isVoice
set_option maxRecDepth 20000 in
theorem ggX2_clashesWith_X2_fail : GoodIn wsX2_clashesWith wsX2_fail := goodIn_r _ [14, 1, 49, 50, 51, 52, 53, 54, 55, 56, 57, 58, 59] (by decide +kernel) (by decide +kernel)
set_option maxRecDepth 20000 in
theorem gX2_clashesWith_X2_fail : GoodIn wsX2_clashesWith (wsV RX2 76 RX2 yX2_fail wsX2_fail) := goodIn_app (goodIn_of _ (by decide +kernel)) ggX2_clashesWith_X2_fail
set_option maxRecDepth 20000 in
theorem ggX2_clashesWith_X2_isIn : GoodIn wsX2_clashesWith wsX2_isIn := goodIn_r _ [10] (by decide +kernel) (by decide +kernel)
set_option maxRecDepth 20000 in
theorem gX2_clashesWith_X2_isIn : GoodIn wsX2_clashesWith (va_wsS RX2 45 yX2_isIn wsX2_isIn) := goodIn_app (goodIn_of _ (by decide +kernel)) ggX2_clashesWith_X2_isIn
set_option maxRecDepth 20000 in
theorem ggX2_clashesWith_X2_withAll : GoodIn wsX2_clashesWith wsX2_withAll := goodIn_r _ [18, 7, 19, 20, 21, 22, 5, 23, 24, 25, 26, 27, 28, 29, 30, 31, 32, 33, 34, 35, 36, 37, 38, 39, 40, 41, 42, 43, 44, 45, 46, 47, 48, 49, 50, 51, 52, 53, 54, 55, 56, 57, 58, 59] (by decide +kernel) (by decide +kernel)
set_option maxRecDepth 20000 in
theorem gX2_clashesWith_X2_withAll : GoodIn wsX2_clashesWith (wsV RX2 129 RX2 yX2_withAll wsX2_withAll) := goodIn_app (goodIn_of _ (by decide +kernel)) ggX2_clashesWith_X2_withAll
set_option maxRecDepth 20000 in
theorem ggX2_best_X2_fit : GoodIn wsX2_best wsX2_fit := goodIn_r _ [5, 6, 7, 8, 9, 4, 10, 44, 45, 46, 47, 48, 49, 50, 51, 52, 53, 54] (by decide +kernel) (by decide +kernel)
set_option maxRecDepth 20000 in
theorem gX2_best_X2_fit : GoodIn wsX2_best (wsV RX2 115 RX2 yX2_fit wsX2_fit) := goodIn_app (goodIn_of _ (by decide +kernel)) ggX2_best_X2_fit
set_option maxRecDepth 20000 in
theorem ggX2_best_X2_withAll : GoodIn wsX2_best wsX2_withAll := goodIn_r _ [14, 15, 16, 17, 18, 19, 4, 20, 21, 22, 23, 24, 25, 26, 27, 28, 29, 30, 6, 7, 31, 32, 33, 34, 35, 36, 37, 38, 39, 40, 41, 42, 43, 44, 45, 46, 47, 48, 49, 50, 51, 52, 53, 54] (by decide +kernel) (by decide +kernel)
set_option maxRecDepth 20000 in
theorem gX2_best_X2_withAll : GoodIn wsX2_best (wsV RX2 129 RX2 yX2_withAll wsX2_withAll) := goodIn_app (goodIn_of _ (by decide +kernel)) ggX2_best_X2_withAll
set_option maxRecDepth 20000 in
theorem ggX2_bestClef_X2_isVoice : GoodIn wsX2_bestClef wsX2_isVoice := goodIn_r _ [6, 7, 8, 9, 5, 10, 57, 58, 59, 60, 61, 62, 63, 64, 65, 66, 67] (by decide +kernel) (by decide +kernel)
set_option maxRecDepth 20000 in
theorem gX2_bestClef_X2_isVoice : GoodIn wsX2_bestClef (wsV RX2 49 RX2 yX2_isVoice wsX2_isVoice) := goodIn_app (goodIn_of _ (by decide +kernel)) ggX2_bestClef_X2_isVoice
set_option maxRecDepth 20000 in
theorem ggX2_bestClef_X2_best : GoodIn wsX2_bestClef wsX2_best := goodIn_r _ [14, 15, 16, 17, 5, 18, 19, 20, 8, 9, 10, 21, 22, 23, 24, 7, 25, 26, 27, 28, 29, 30, 31, 32, 33, 34, 35, 36, 37, 38, 39, 40, 41, 42, 43, 44, 45, 46, 47, 48, 49, 50, 51, 52, 57, 58, 59, 60, 61, 62, 63, 64, 65, 66, 67] (by decide +kernel) (by decide +kernel)
set_option maxRecDepth 20000 in
theorem gX2_bestClef_X2_best : GoodIn wsX2_bestClef (wsV RX2 132 RX2 yX2_best wsX2_best) := goodIn_app (goodIn_of _ (by decide +kernel)) ggX2_bestClef_X2_best
set_option maxRecDepth 20000 in
theorem ggX2_bestClef_X2_fail : GoodIn wsX2_bestClef wsX2_fail := goodIn_r _ [56, 1, 57, 58, 59, 60, 61, 62, 63, 64, 65, 66, 67] (by decide +kernel) (by decide +kernel)
set_option maxRecDepth 20000 in
theorem gX2_bestClef_X2_fail : GoodIn wsX2_bestClef (wsV RX2 76 RX2 yX2_fail wsX2_fail) := goodIn_app (goodIn_of _ (by decide +kernel)) ggX2_bestClef_X2_fail
set_option maxRecDepth 20000 in
theorem ggX2_canon_X2_isClash : GoodIn wsX2_canon wsX2_isClash := goodIn_r _ [5, 6, 7, 8, 9] (by decide +kernel) (by decide +kernel)
set_option maxRecDepth 20000 in
theorem gX2_canon_X2_isClash : GoodIn wsX2_canon (va_wsS RX2 70 yX2_isClash wsX2_isClash) := goodIn_app (goodIn_of _ (by decide +kernel)) ggX2_canon_X2_isClash
set_option maxRecDepth 20000 in
theorem ggX2_canonClashes_X2_isVoice : GoodIn wsX2_canonClashes wsX2_isVoice := goodIn_r _ [7, 8, 9, 10, 6, 11, 40, 41, 42, 43, 44, 45, 46, 47, 48, 49, 50] (by decide +kernel) (by decide +kernel)
set_option maxRecDepth 20000 in
theorem gX2_canonClashes_X2_isVoice : GoodIn wsX2_canonClashes (wsV RX2 49 RX2 yX2_isVoice wsX2_isVoice) := goodIn_app (goodIn_of _ (by decide +kernel)) ggX2_canonClashes_X2_isVoice
set_option maxRecDepth 20000 in
theorem ggX2_canonClashes_X2_fail : GoodIn wsX2_canonClashes wsX2_fail := goodIn_r _ [15, 1, 40, 41, 42, 43, 44, 45, 46, 47, 48, 49, 50] (by decide +kernel) (by decide +kernel)
set_option maxRecDepth 20000 in
theorem gX2_canonClashes_X2_fail : GoodIn wsX2_canonClashes (wsV RX2 76 RX2 yX2_fail wsX2_fail) := goodIn_app (goodIn_of _ (by decide +kernel)) ggX2_canonClashes_X2_fail
set_option maxRecDepth 20000 in
theorem ggX2_canonClashes_X2_isIn : GoodIn wsX2_canonClashes wsX2_isIn := goodIn_r _ [11] (by decide +kernel) (by decide +kernel)
set_option maxRecDepth 20000 in
theorem gX2_canonClashes_X2_isIn : GoodIn wsX2_canonClashes (va_wsS RX2 45 yX2_isIn wsX2_isIn) := goodIn_app (goodIn_of _ (by decide +kernel)) ggX2_canonClashes_X2_isIn
set_option maxRecDepth 20000 in
theorem ggX2_canonClashes_X2_lay : GoodIn wsX2_canonClashes wsX2_lay := goodIn_r _ [19, 20, 21, 22, 23, 24, 6, 25, 26, 27, 28, 40, 41, 42, 43, 44, 45, 46, 47, 48, 49, 50] (by decide +kernel) (by decide +kernel)
set_option maxRecDepth 20000 in
theorem gX2_canonClashes_X2_lay : GoodIn wsX2_canonClashes (wsV RX2 63 RX2 yX2_lay wsX2_lay) := goodIn_app (goodIn_of _ (by decide +kernel)) ggX2_canonClashes_X2_lay
set_option maxRecDepth 20000 in
theorem ggX2_canonClashes_X2_canon : GoodIn wsX2_canonClashes wsX2_canon := goodIn_r _ [32, 2, 33, 34, 6, 35, 36, 37, 38, 39, 40, 41, 42, 43, 44, 45, 46, 47, 48, 49, 50] (by decide +kernel) (by decide +kernel)
set_option maxRecDepth 20000 in
theorem gX2_canonClashes_X2_canon : GoodIn wsX2_canonClashes (wsV RX2 135 RX2 yX2_canon wsX2_canon) := goodIn_app (goodIn_of _ (by decide +kernel)) ggX2_canonClashes_X2_canon
set_option maxRecDepth 20000 in
theorem ggX2_delay_X2_lay : GoodIn wsX2_delay wsX2_lay := goodIn_r _ [6, 7, 8, 9, 10, 11, 5, 12, 13, 14, 15, 27, 28, 29, 30, 31, 32, 33, 34, 35, 36, 37] (by decide +kernel) (by decide +kernel)
set_option maxRecDepth 20000 in
theorem gX2_delay_X2_lay : GoodIn wsX2_delay (wsV RX2 63 RX2 yX2_lay wsX2_lay) := goodIn_app (goodIn_of _ (by decide +kernel)) ggX2_delay_X2_lay
set_option maxRecDepth 20000 in
theorem ggX2_delay_X2_canon : GoodIn wsX2_delay wsX2_canon := goodIn_r _ [19, 1, 20, 21, 5, 22, 23, 24, 25, 26, 27, 28, 29, 30, 31, 32, 33, 34, 35, 36, 37] (by decide +kernel) (by decide +kernel)
set_option maxRecDepth 20000 in
theorem gX2_delay_X2_canon : GoodIn wsX2_delay (wsV RX2 135 RX2 yX2_canon wsX2_canon) := goodIn_app (goodIn_of _ (by decide +kernel)) ggX2_delay_X2_canon
set_option maxRecDepth 20000 in
theorem ggX2_bestDelay_X2_isVoice : GoodIn wsX2_bestDelay wsX2_isVoice := goodIn_r _ [6, 7, 8, 9, 5, 10, 44, 45, 46, 47, 48, 49, 50, 51, 52, 53, 54] (by decide +kernel) (by decide +kernel)
set_option maxRecDepth 20000 in
theorem gX2_bestDelay_X2_isVoice : GoodIn wsX2_bestDelay (wsV RX2 49 RX2 yX2_isVoice wsX2_isVoice) := goodIn_app (goodIn_of _ (by decide +kernel)) ggX2_bestDelay_X2_isVoice
set_option maxRecDepth 20000 in
theorem ggX2_bestDelay_X2_fail : GoodIn wsX2_bestDelay wsX2_fail := goodIn_r _ [14, 1, 44, 45, 46, 47, 48, 49, 50, 51, 52, 53, 54] (by decide +kernel) (by decide +kernel)
set_option maxRecDepth 20000 in
theorem gX2_bestDelay_X2_fail : GoodIn wsX2_bestDelay (wsV RX2 76 RX2 yX2_fail wsX2_fail) := goodIn_app (goodIn_of _ (by decide +kernel)) ggX2_bestDelay_X2_fail
set_option maxRecDepth 20000 in
theorem ggX2_bestDelay_X2_isIn : GoodIn wsX2_bestDelay wsX2_isIn := goodIn_r _ [10] (by decide +kernel) (by decide +kernel)
set_option maxRecDepth 20000 in
theorem gX2_bestDelay_X2_isIn : GoodIn wsX2_bestDelay (va_wsS RX2 45 yX2_isIn wsX2_isIn) := goodIn_app (goodIn_of _ (by decide +kernel)) ggX2_bestDelay_X2_isIn
set_option maxRecDepth 20000 in
theorem ggX2_bestDelay_X2_delay : GoodIn wsX2_bestDelay wsX2_delay := goodIn_r _ [18, 19, 20, 21, 22, 5, 23, 24, 25, 26, 27, 28, 29, 30, 31, 32, 33, 34, 35, 36, 37, 38, 39, 40, 41, 42, 43, 44, 45, 46, 47, 48, 49, 50, 51, 52, 53, 54] (by decide +kernel) (by decide +kernel)
set_option maxRecDepth 20000 in
theorem gX2_bestDelay_X2_delay : GoodIn wsX2_bestDelay (wsV RX2 139 RX2 yX2_delay wsX2_delay) := goodIn_app (goodIn_of _ (by decide +kernel)) ggX2_bestDelay_X2_delay
set_option maxRecDepth 20000 in
theorem ggX2_meanLength_X2_all : GoodIn wsX2_meanLength wsX2_all := goodIn_r _ [7, 8, 9, 10, 11, 6, 12, 13, 14, 15, 16, 17, 18, 19, 20, 21, 22, 23, 24, 25, 26] (by decide +kernel) (by decide +kernel)
set_option maxRecDepth 20000 in
theorem gX2_meanLength_X2_all : GoodIn wsX2_meanLength (wsV RX2 94 RX2 yX2_all wsX2_all) := goodIn_app (goodIn_of _ (by decide +kernel)) ggX2_meanLength_X2_all
set_option maxRecDepth 20000 in
theorem ggX2_digest_X2_most : GoodIn wsX2_digest wsX2_most := goodIn_r _ [16, 4, 17, 18, 19, 20, 21, 22, 23, 15, 24, 6, 25, 26, 27, 28, 9, 29, 30, 84, 85, 86, 87, 88, 89, 90, 91, 92, 93, 94] (by decide +kernel) (by decide +kernel)
set_option maxRecDepth 20000 in
theorem gX2_digest_X2_most : GoodIn wsX2_digest (wsV RX2 111 RX2 yX2_most wsX2_most) := goodIn_app (goodIn_of _ (by decide +kernel)) ggX2_digest_X2_most
set_option maxRecDepth 20000 in
theorem ggX2_digest_X2_count : GoodIn wsX2_digest wsX2_count := goodIn_r _ [34, 6, 10, 11, 84, 85, 86, 87, 88, 89, 90, 91, 92, 93, 94] (by decide +kernel) (by decide +kernel)
set_option maxRecDepth 20000 in
theorem gX2_digest_X2_count : GoodIn wsX2_digest (wsV RX2 100 RX2 yX2_count wsX2_count) := goodIn_app (goodIn_of _ (by decide +kernel)) ggX2_digest_X2_count
set_option maxRecDepth 20000 in
theorem ggX2_digest_X2_all : GoodIn wsX2_digest wsX2_all := goodIn_r _ [24, 6, 25, 26, 27, 15, 28, 9, 29, 30, 84, 85, 86, 87, 88, 89, 90, 91, 92, 93, 94] (by decide +kernel) (by decide +kernel)
set_option maxRecDepth 20000 in
theorem gX2_digest_X2_all : GoodIn wsX2_digest (wsV RX2 94 RX2 yX2_all wsX2_all) := goodIn_app (goodIn_of _ (by decide +kernel)) ggX2_digest_X2_all
set_option maxRecDepth 20000 in
theorem ggX2_digest_X2_fitting : GoodIn wsX2_digest wsX2_fitting := goodIn_r _ [38, 39, 40, 41, 15, 42, 6, 10, 43, 44, 45, 84, 85, 86, 87, 88, 89, 90, 91, 92, 93, 94] (by decide +kernel) (by decide +kernel)
set_option maxRecDepth 20000 in
theorem gX2_digest_X2_fitting : GoodIn wsX2_digest (wsV RX2 118 RX2 yX2_fitting wsX2_fitting) := goodIn_app (goodIn_of _ (by decide +kernel)) ggX2_digest_X2_fitting
set_option maxRecDepth 20000 in
theorem ggX2_digest_X2_best : GoodIn wsX2_digest wsX2_best := goodIn_r _ [49, 39, 40, 41, 15, 42, 6, 10, 43, 44, 45, 50, 51, 52, 53, 4, 7, 54, 55, 56, 57, 8, 58, 59, 60, 19, 61, 62, 63, 64, 65, 25, 26, 27, 28, 9, 29, 30, 66, 67, 68, 69, 70, 71, 84, 85, 86, 87, 88, 89, 90, 91, 92, 93, 94] (by decide +kernel) (by decide +kernel)
set_option maxRecDepth 20000 in
theorem gX2_digest_X2_best : GoodIn wsX2_digest (wsV RX2 132 RX2 yX2_best wsX2_best) := goodIn_app (goodIn_of _ (by decide +kernel)) ggX2_digest_X2_best
set_option maxRecDepth 20000 in
theorem ggX2_digest_X2_lay : GoodIn wsX2_digest wsX2_lay := goodIn_r _ [65, 6, 10, 25, 26, 27, 15, 28, 9, 29, 30, 84, 85, 86, 87, 88, 89, 90, 91, 92, 93, 94] (by decide +kernel) (by decide +kernel)
set_option maxRecDepth 20000 in
theorem gX2_digest_X2_lay : GoodIn wsX2_digest (wsV RX2 63 RX2 yX2_lay wsX2_lay) := goodIn_app (goodIn_of _ (by decide +kernel)) ggX2_digest_X2_lay
set_option maxRecDepth 20000 in
theorem ggX2_digest_X2_canon : GoodIn wsX2_digest wsX2_canon := goodIn_r _ [75, 8, 66, 67, 15, 68, 69, 70, 19, 71, 84, 85, 86, 87, 88, 89, 90, 91, 92, 93, 94] (by decide +kernel) (by decide +kernel)
set_option maxRecDepth 20000 in
theorem gX2_digest_X2_canon : GoodIn wsX2_digest (wsV RX2 135 RX2 yX2_canon wsX2_canon) := goodIn_app (goodIn_of _ (by decide +kernel)) ggX2_digest_X2_canon
set_option maxRecDepth 20000 in
theorem ggX2_digest_X2_delay : GoodIn wsX2_digest wsX2_delay := goodIn_r _ [79, 8, 62, 63, 64, 15, 65, 6, 10, 25, 26, 27, 28, 9, 29, 30, 72, 73, 74, 75, 66, 67, 68, 69, 70, 19, 71, 84, 85, 86, 87, 88, 89, 90, 91, 92, 93, 94] (by decide +kernel) (by decide +kernel)
set_option maxRecDepth 20000 in
theorem gX2_digest_X2_delay : GoodIn wsX2_digest (wsV RX2 139 RX2 yX2_delay wsX2_delay) := goodIn_app (goodIn_of _ (by decide +kernel)) ggX2_digest_X2_delay
set_option maxRecDepth 20000 in
theorem ggX2_digest_X2_lasts : GoodIn wsX2_digest wsX2_lasts := goodIn_r _ [28, 9, 29, 30, 84, 85, 86, 87, 88, 89, 90, 91, 92, 93, 94] (by decide +kernel) (by decide +kernel)
set_option maxRecDepth 20000 in
theorem gX2_digest_X2_lasts : GoodIn wsX2_digest (wsV RX2 53 RX2 yX2_lasts wsX2_lasts) := goodIn_app (goodIn_of _ (by decide +kernel)) ggX2_digest_X2_lasts
set_option maxRecDepth 20000 in
theorem ggX2_digest_X2_begins : GoodIn wsX2_digest wsX2_begins := goodIn_r _ [83, 25, 26, 27, 15, 28, 9, 29, 30, 84, 85, 86, 87, 88, 89, 90, 91, 92, 93, 94] (by decide +kernel) (by decide +kernel)
set_option maxRecDepth 20000 in
theorem gX2_digest_X2_begins : GoodIn wsX2_digest (wsV RX2 108 RX2 yX2_begins wsX2_begins) := goodIn_app (goodIn_of _ (by decide +kernel)) ggX2_digest_X2_begins
theorem dJ9_abs_0f7a4_0 : decode cJ9_abs_0f7a4 0 = .ok (.iload_n 0, 1) := by decide +kernel
theorem dJ9_abs_0f7a4_1 : decode cJ9_abs_0f7a4 1 = .ok (.ifCond .ge 8, 3) := by decide +kernel
theorem dJ9_abs_0f7a4_4 : decode cJ9_abs_0f7a4 4 = .ok (.iload_n 0, 1) := by decide +kernel
theorem dJ9_abs_0f7a4_5 : decode cJ9_abs_0f7a4 5 = .ok (.ineg, 1) := by decide +kernel
theorem dJ9_abs_0f7a4_6 : decode cJ9_abs_0f7a4 6 = .ok (.goto 4, 3) := by decide +kernel
theorem dJ9_abs_0f7a4_9 : decode cJ9_abs_0f7a4 9 = .ok (.iload_n 0, 1) := by decide +kernel
theorem dJ9_abs_0f7a4_10 : decode cJ9_abs_0f7a4 10 = .ok (.ireturn, 1) := by decide +kernel
theorem dJ9_max_7cf53_0 : decode cJ9_max_7cf53 0 = .ok (.iload_n 0, 1) := by decide +kernel
theorem dJ9_max_7cf53_1 : decode cJ9_max_7cf53 1 = .ok (.iload_n 1, 1) := by decide +kernel
theorem dJ9_max_7cf53_2 : decode cJ9_max_7cf53 2 = .ok (.if_icmp .lt 7, 3) := by decide +kernel
theorem dJ9_max_7cf53_5 : decode cJ9_max_7cf53 5 = .ok (.iload_n 0, 1) := by decide +kernel
theorem dJ9_max_7cf53_6 : decode cJ9_max_7cf53 6 = .ok (.goto 4, 3) := by decide +kernel
theorem dJ9_max_7cf53_9 : decode cJ9_max_7cf53 9 = .ok (.iload_n 1, 1) := by decide +kernel
theorem dJ9_max_7cf53_10 : decode cJ9_max_7cf53 10 = .ok (.ireturn, 1) := by decide +kernel
theorem dJ9_min_7cf53_0 : decode cJ9_min_7cf53 0 = .ok (.iload_n 0, 1) := by decide +kernel
theorem dJ9_min_7cf53_1 : decode cJ9_min_7cf53 1 = .ok (.iload_n 1, 1) := by decide +kernel
theorem dJ9_min_7cf53_2 : decode cJ9_min_7cf53 2 = .ok (.if_icmp .gt 7, 3) := by decide +kernel
theorem dJ9_min_7cf53_5 : decode cJ9_min_7cf53 5 = .ok (.iload_n 0, 1) := by decide +kernel
theorem dJ9_min_7cf53_6 : decode cJ9_min_7cf53 6 = .ok (.goto 4, 3) := by decide +kernel
theorem dJ9_min_7cf53_9 : decode cJ9_min_7cf53 9 = .ok (.iload_n 1, 1) := by decide +kernel
theorem dJ9_min_7cf53_10 : decode cJ9_min_7cf53 10 = .ok (.ireturn, 1) := by decide +kernel
abbrev vwCl : List vw_C := [(RX0, TX0, 10), (RX1, TX1, 2), (RX2, TX2, 11)]

