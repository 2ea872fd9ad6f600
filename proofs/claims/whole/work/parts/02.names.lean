
/-! ===== BEGIN printed: names, fields, word lists, decode rows ===== -/
def RX0 : String := "ChoirNotes$Voice"
def TX0 : u_T := fun k => match k with
  | 0 => ("ChoirNotes$Voice", "brevesInLonga", "I", false)
  | 1 => ("ChoirNotes$Voice", "semibrevesInBreve", "I", false)
  | 2 => ("ChoirNotes$Voice", "minimsInSemibreve", "I", false)
  | 3 => ("ChoirNotes$Voice", "clef", "I", false)
  | 4 => ("ChoirNotes$Voice", "count", "I", false)
  | 5 => ("ChoirNotes$Voice", "kinds", "[I", true)
  | 6 => ("ChoirNotes$Voice", "places", "[I", true)
  | 7 => ("ChoirNotes$Voice", "colours", "[Z", true)
  | 8 => ("ChoirNotes$Voice", "ranks", "[I", true)
  | _ => ("ChoirNotes$Voice", "begins", "[I", true)
def tyX0 : Nat → FieldType := fun k => match k with
  | 0 => .int
  | 1 => .int
  | 2 => .int
  | 3 => .int
  | 4 => .int
  | 5 => .array .int
  | 6 => .array .int
  | 7 => .array .boolean
  | 8 => .array .int
  | _ => .array .int
abbrev wsX00 : List Cond := u_ws RX0 TX0 10
theorem nmX0 : ∀ a, a < 10 → ∀ b, b < 10 → a ≠ b → (TX0 a).2.1 ≠ (TX0 b).2.1 := by decide +kernel
theorem tyX0_ok : ∀ k, k < 10 → parseFieldDescriptor (TX0 k).2.2.1 = some (tyX0 k) := by decide +kernel
abbrev cX0_init : ByteArray := prog_2_method_1_code
def yX0_init : MethodName := ⟨RX0, "<init>", "()V"⟩
abbrev cX0_measure : ByteArray := prog_2_method_2_code
def yX0_measure : MethodName := ⟨RX0, "measure", "(III)V"⟩
abbrev cX0_append : ByteArray := prog_2_method_3_code
def yX0_append : MethodName := ⟨RX0, "append", "(IIZI)I"⟩
abbrev cX0_dropLast : ByteArray := prog_2_method_4_code
def yX0_dropLast : MethodName := ⟨RX0, "dropLast", "()I"⟩
abbrev cX0_turnColour : ByteArray := prog_2_method_5_code
def yX0_turnColour : MethodName := ⟨RX0, "turnColour", "(I)Z"⟩
abbrev cX0_timeFrom : ByteArray := prog_2_method_6_code
def yX0_timeFrom : MethodName := ⟨RX0, "timeFrom", "(I)V"⟩
abbrev cX0_minimsByKind : ByteArray := prog_2_method_7_code
def yX0_minimsByKind : MethodName := ⟨RX0, "minimsByKind", "(IZ)I"⟩
abbrev cX0_minimsOf : ByteArray := prog_2_method_8_code
def yX0_minimsOf : MethodName := ⟨RX0, "minimsOf", "(I)I"⟩
abbrev cX0_end : ByteArray := prog_2_method_9_code
def yX0_end : MethodName := ⟨RX0, "end", "()I"⟩
abbrev cX0_signLastingAt : ByteArray := prog_2_method_10_code
def yX0_signLastingAt : MethodName := ⟨RX0, "signLastingAt", "(I)I"⟩
abbrev cX0_isRest : ByteArray := prog_2_method_11_code
def yX0_isRest : MethodName := ⟨RX0, "isRest", "(I)Z"⟩
abbrev cX0_countNotes : ByteArray := prog_2_method_12_code
def yX0_countNotes : MethodName := ⟨RX0, "countNotes", "()I"⟩
abbrev cX0_countLigatures : ByteArray := prog_2_method_13_code
def yX0_countLigatures : MethodName := ⟨RX0, "countLigatures", "()I"⟩
abbrev cX0_wouldFit : ByteArray := prog_2_method_14_code
def yX0_wouldFit : MethodName := ⟨RX0, "wouldFit", "(I)Z"⟩
abbrev cX0_countFittingClefs : ByteArray := prog_2_method_15_code
def yX0_countFittingClefs : MethodName := ⟨RX0, "countFittingClefs", "()I"⟩
def RX1 : String := "ChoirNotes"
def TX1 : u_T := fun k => match k with
  | 0 => ("ChoirNotes", "book", "[LChoirNotes$Voice;", true)
  | _ => ("ChoirNotes", "voiceCount", "I", false)
def tyX1 : Nat → FieldType := fun k => match k with
  | 0 => .array (.object "ChoirNotes$Voice")
  | _ => .int
abbrev wsX10 : List Cond := u_ws RX1 TX1 2
theorem nmX1 : ∀ a, a < 2 → ∀ b, b < 2 → a ≠ b → (TX1 a).2.1 ≠ (TX1 b).2.1 := by decide +kernel
theorem tyX1_ok : ∀ k, k < 2 → parseFieldDescriptor (TX1 k).2.2.1 = some (tyX1 k) := by decide +kernel
abbrev cX1_init : ByteArray := prog_1_method_1_code
def yX1_init : MethodName := ⟨RX1, "<init>", "()V"⟩
abbrev cX1_addVoice : ByteArray := prog_1_method_2_code
def yX1_addVoice : MethodName := ⟨RX1, "addVoice", "(III)I"⟩
abbrev cX1_addNote : ByteArray := prog_1_method_3_code
def yX1_addNote : MethodName := ⟨RX1, "addNote", "(IIIZ)I"⟩
abbrev cX1_addRest : ByteArray := prog_1_method_4_code
def yX1_addRest : MethodName := ⟨RX1, "addRest", "(II)I"⟩
abbrev cX1_addLigature : ByteArray := prog_1_method_5_code
def yX1_addLigature : MethodName := ⟨RX1, "addLigature", "(IIIIZ)I"⟩
abbrev cX1_erase : ByteArray := prog_1_method_6_code
def yX1_erase : MethodName := ⟨RX1, "erase", "(I)I"⟩
abbrev cX1_recolour : ByteArray := prog_1_method_7_code
def yX1_recolour : MethodName := ⟨RX1, "recolour", "(II)Z"⟩
abbrev cX1_setClef : ByteArray := prog_1_method_8_code
def yX1_setClef : MethodName := ⟨RX1, "setClef", "(II)I"⟩
abbrev cX1_setMensuration : ByteArray := prog_1_method_9_code
def yX1_setMensuration : MethodName := ⟨RX1, "setMensuration", "(IIII)I"⟩
abbrev cX1_voices : ByteArray := prog_1_method_10_code
def yX1_voices : MethodName := ⟨RX1, "voices", "()I"⟩
abbrev cX1_signs : ByteArray := prog_1_method_11_code
def yX1_signs : MethodName := ⟨RX1, "signs", "(I)I"⟩
abbrev cX1_notes : ByteArray := prog_1_method_12_code
def yX1_notes : MethodName := ⟨RX1, "notes", "(I)I"⟩
abbrev cX1_ligatures : ByteArray := prog_1_method_13_code
def yX1_ligatures : MethodName := ⟨RX1, "ligatures", "(I)I"⟩
abbrev cX1_kindOf : ByteArray := prog_1_method_14_code
def yX1_kindOf : MethodName := ⟨RX1, "kindOf", "(II)I"⟩
abbrev cX1_placeOf : ByteArray := prog_1_method_15_code
def yX1_placeOf : MethodName := ⟨RX1, "placeOf", "(II)I"⟩
abbrev cX1_isColoured : ByteArray := prog_1_method_16_code
def yX1_isColoured : MethodName := ⟨RX1, "isColoured", "(II)Z"⟩
abbrev cX1_placeInLigature : ByteArray := prog_1_method_17_code
def yX1_placeInLigature : MethodName := ⟨RX1, "placeInLigature", "(II)I"⟩
abbrev cX1_lengthOf : ByteArray := prog_1_method_18_code
def yX1_lengthOf : MethodName := ⟨RX1, "lengthOf", "(II)I"⟩
abbrev cX1_beginOf : ByteArray := prog_1_method_19_code
def yX1_beginOf : MethodName := ⟨RX1, "beginOf", "(II)I"⟩
abbrev cX1_length : ByteArray := prog_1_method_20_code
def yX1_length : MethodName := ⟨RX1, "length", "(I)I"⟩
abbrev cX1_longest : ByteArray := prog_1_method_21_code
def yX1_longest : MethodName := ⟨RX1, "longest", "()I"⟩
abbrev cX1_signAt : ByteArray := prog_1_method_22_code
def yX1_signAt : MethodName := ⟨RX1, "signAt", "(II)I"⟩
abbrev cX1_clefOf : ByteArray := prog_1_method_23_code
def yX1_clefOf : MethodName := ⟨RX1, "clefOf", "(I)I"⟩
abbrev cX1_pitchOf : ByteArray := prog_1_method_24_code
def yX1_pitchOf : MethodName := ⟨RX1, "pitchOf", "(II)I"⟩
abbrev cX1_fits : ByteArray := prog_1_method_25_code
def yX1_fits : MethodName := ⟨RX1, "fits", "(II)Z"⟩
abbrev cX1_clefsThatFit : ByteArray := prog_1_method_26_code
def yX1_clefsThatFit : MethodName := ⟨RX1, "clefsThatFit", "(I)I"⟩
abbrev cX1_clashes : ByteArray := prog_1_method_27_code
def yX1_clashes : MethodName := ⟨RX1, "clashes", "(II)I"⟩
abbrev cX1_firstClash : ByteArray := prog_1_method_28_code
def yX1_firstClash : MethodName := ⟨RX1, "firstClash", "(II)I"⟩
abbrev cX1_clashesWith : ByteArray := prog_1_method_29_code
def yX1_clashesWith : MethodName := ⟨RX1, "clashesWith", "(II)I"⟩
abbrev cX1_bestClef : ByteArray := prog_1_method_30_code
def yX1_bestClef : MethodName := ⟨RX1, "bestClef", "(I)I"⟩
abbrev cX1_canonClashes : ByteArray := prog_1_method_31_code
def yX1_canonClashes : MethodName := ⟨RX1, "canonClashes", "(III)I"⟩
abbrev cX1_bestDelay : ByteArray := prog_1_method_32_code
def yX1_bestDelay : MethodName := ⟨RX1, "bestDelay", "(II)I"⟩
abbrev cX1_meanLength : ByteArray := prog_1_method_33_code
def yX1_meanLength : MethodName := ⟨RX1, "meanLength", "()D"⟩
abbrev cX1_digest : ByteArray := prog_1_method_34_code
def yX1_digest : MethodName := ⟨RX1, "digest", "()J"⟩
abbrev cX1_knownVoice : ByteArray := prog_1_method_35_code
def yX1_knownVoice : MethodName := ⟨RX1, "knownVoice", "(I)LChoirNotes$Voice;"⟩
abbrev cX1_voiceWithSign : ByteArray := prog_1_method_36_code
def yX1_voiceWithSign : MethodName := ⟨RX1, "voiceWithSign", "(II)LChoirNotes$Voice;"⟩
abbrev cX1_checkRange : ByteArray := prog_1_method_37_code
def yX1_checkRange : MethodName := ⟨RX1, "checkRange", "(III)V"⟩
abbrev cX1_checkMensuration : ByteArray := prog_1_method_38_code
def yX1_checkMensuration : MethodName := ⟨RX1, "checkMensuration", "(III)V"⟩
abbrev cX1_checkLigature : ByteArray := prog_1_method_39_code
def yX1_checkLigature : MethodName := ⟨RX1, "checkLigature", "(III)V"⟩
abbrev cX1_checkRoom : ByteArray := prog_1_method_40_code
def yX1_checkRoom : MethodName := ⟨RX1, "checkRoom", "(LChoirNotes$Voice;I)V"⟩
abbrev cX1_checkHasClef : ByteArray := prog_1_method_41_code
def yX1_checkHasClef : MethodName := ⟨RX1, "checkHasClef", "(LChoirNotes$Voice;)V"⟩
abbrev cX1_firstKind : ByteArray := prog_1_method_42_code
def yX1_firstKind : MethodName := ⟨RX1, "firstKind", "(IIZ)I"⟩
abbrev cX1_secondKind : ByteArray := prog_1_method_43_code
def yX1_secondKind : MethodName := ⟨RX1, "secondKind", "(IIZZ)I"⟩
abbrev cX1_lastKind : ByteArray := prog_1_method_44_code
def yX1_lastKind : MethodName := ⟨RX1, "lastKind", "(II)I"⟩
abbrev cX1_clashingMinims : ByteArray := prog_1_method_45_code
def yX1_clashingMinims : MethodName := ⟨RX1, "clashingMinims", "(LChoirNotes$Voice;LChoirNotes$Voice;II)I"⟩
abbrev cX1_firstClashingMinim : ByteArray := prog_1_method_46_code
def yX1_firstClashingMinim : MethodName := ⟨RX1, "firstClashingMinim", "(LChoirNotes$Voice;LChoirNotes$Voice;I)I"⟩
abbrev cX1_signsClash : ByteArray := prog_1_method_47_code
def yX1_signsClash : MethodName := ⟨RX1, "signsClash", "(LChoirNotes$Voice;ILChoirNotes$Voice;II)Z"⟩
abbrev cX1_clashesIfClef : ByteArray := prog_1_method_48_code
def yX1_clashesIfClef : MethodName := ⟨RX1, "clashesIfClef", "(LChoirNotes$Voice;I)I"⟩
abbrev cX1_clefWithFewestClashes : ByteArray := prog_1_method_49_code
def yX1_clefWithFewestClashes : MethodName := ⟨RX1, "clefWithFewestClashes", "(LChoirNotes$Voice;)I"⟩
abbrev cX1_delayWithFewestClashes : ByteArray := prog_1_method_50_code
def yX1_delayWithFewestClashes : MethodName := ⟨RX1, "delayWithFewestClashes", "(LChoirNotes$Voice;I)I"⟩
abbrev cX1_mix : ByteArray := prog_1_method_51_code
def yX1_mix : MethodName := ⟨RX1, "mix", "(JI)J"⟩
abbrev cX1_mixVoice : ByteArray := prog_1_method_52_code
def yX1_mixVoice : MethodName := ⟨RX1, "mixVoice", "(JLChoirNotes$Voice;)J"⟩
abbrev cX1_mixSign : ByteArray := prog_1_method_53_code
def yX1_mixSign : MethodName := ⟨RX1, "mixSign", "(JLChoirNotes$Voice;I)J"⟩
def RX2 : String := "ChoirNotesModel"
def TX2 : u_T := fun k => match k with
  | 0 => ("ChoirNotesModel", "thrown", "I", false)
  | 1 => ("ChoirNotesModel", "voices", "I", false)
  | 2 => ("ChoirNotesModel", "many", "[I", true)
  | 3 => ("ChoirNotesModel", "clef", "[I", true)
  | 4 => ("ChoirNotesModel", "measure", "[I", true)
  | 5 => ("ChoirNotesModel", "kind", "[I", true)
  | 6 => ("ChoirNotesModel", "place", "[I", true)
  | 7 => ("ChoirNotesModel", "isRed", "[Z", true)
  | 8 => ("ChoirNotesModel", "tied", "[I", true)
  | 9 => ("ChoirNotesModel", "mine", "[I", true)
  | _ => ("ChoirNotesModel", "theirs", "[I", true)
def tyX2 : Nat → FieldType := fun k => match k with
  | 0 => .int
  | 1 => .int
  | 2 => .array .int
  | 3 => .array .int
  | 4 => .array .int
  | 5 => .array .int
  | 6 => .array .int
  | 7 => .array .boolean
  | 8 => .array .int
  | 9 => .array .int
  | _ => .array .int
abbrev wsX20 : List Cond := u_ws RX2 TX2 11
theorem nmX2 : ∀ a, a < 11 → ∀ b, b < 11 → a ≠ b → (TX2 a).2.1 ≠ (TX2 b).2.1 := by decide +kernel
theorem tyX2_ok : ∀ k, k < 11 → parseFieldDescriptor (TX2 k).2.2.1 = some (tyX2 k) := by decide +kernel
abbrev cX2_init : ByteArray := prog_4_method_1_code
def yX2_init : MethodName := ⟨RX2, "<init>", "()V"⟩
abbrev cX2_thrown : ByteArray := prog_4_method_2_code
def yX2_thrown : MethodName := ⟨RX2, "thrown", "()I"⟩
abbrev cX2_fail : ByteArray := prog_4_method_3_code
def yX2_fail : MethodName := ⟨RX2, "fail", "(I)I"⟩
abbrev cX2_told : ByteArray := prog_4_method_4_code
def yX2_told : MethodName := ⟨RX2, "told", "(I)I"⟩
abbrev cX2_isIn : ByteArray := prog_4_method_5_code
def yX2_isIn : MethodName := ⟨RX2, "isIn", "(III)Z"⟩
abbrev cX2_isVoice : ByteArray := prog_4_method_6_code
def yX2_isVoice : MethodName := ⟨RX2, "isVoice", "(I)Z"⟩
abbrev cX2_isSign : ByteArray := prog_4_method_7_code
def yX2_isSign : MethodName := ⟨RX2, "isSign", "(II)Z"⟩
abbrev cX2_isMeasure : ByteArray := prog_4_method_8_code
def yX2_isMeasure : MethodName := ⟨RX2, "isMeasure", "(III)Z"⟩
abbrev cX2_set : ByteArray := prog_4_method_9_code
def yX2_set : MethodName := ⟨RX2, "set", "(IIII)V"⟩
abbrev cX2_put : ByteArray := prog_4_method_10_code
def yX2_put : MethodName := ⟨RX2, "put", "(IIIZI)V"⟩
abbrev cX2_lasts : ByteArray := prog_4_method_11_code
def yX2_lasts : MethodName := ⟨RX2, "lasts", "(II)I"⟩
abbrev cX2_all : ByteArray := prog_4_method_12_code
def yX2_all : MethodName := ⟨RX2, "all", "(I)I"⟩
abbrev cX2_lay : ByteArray := prog_4_method_13_code
def yX2_lay : MethodName := ⟨RX2, "lay", "(I[I)I"⟩
abbrev cX2_isClash : ByteArray := prog_4_method_14_code
def yX2_isClash : MethodName := ⟨RX2, "isClash", "(I)Z"⟩
abbrev cX2_clash : ByteArray := prog_4_method_15_code
def yX2_clash : MethodName := ⟨RX2, "clash", "(IIIIZ)I"⟩
abbrev cX2_addVoice : ByteArray := prog_4_method_16_code
def yX2_addVoice : MethodName := ⟨RX2, "addVoice", "(III)I"⟩
abbrev cX2_addNote : ByteArray := prog_4_method_17_code
def yX2_addNote : MethodName := ⟨RX2, "addNote", "(IIIZ)I"⟩
abbrev cX2_addRest : ByteArray := prog_4_method_18_code
def yX2_addRest : MethodName := ⟨RX2, "addRest", "(II)I"⟩
abbrev cX2_addLigature : ByteArray := prog_4_method_19_code
def yX2_addLigature : MethodName := ⟨RX2, "addLigature", "(IIIIZ)I"⟩
abbrev cX2_erase : ByteArray := prog_4_method_20_code
def yX2_erase : MethodName := ⟨RX2, "erase", "(I)I"⟩
abbrev cX2_recolour : ByteArray := prog_4_method_21_code
def yX2_recolour : MethodName := ⟨RX2, "recolour", "(II)Z"⟩
abbrev cX2_setClef : ByteArray := prog_4_method_22_code
def yX2_setClef : MethodName := ⟨RX2, "setClef", "(II)I"⟩
abbrev cX2_setMensuration : ByteArray := prog_4_method_23_code
def yX2_setMensuration : MethodName := ⟨RX2, "setMensuration", "(IIII)I"⟩
abbrev cX2_voices : ByteArray := prog_4_method_24_code
def yX2_voices : MethodName := ⟨RX2, "voices", "()I"⟩
abbrev cX2_signs : ByteArray := prog_4_method_25_code
def yX2_signs : MethodName := ⟨RX2, "signs", "(I)I"⟩
abbrev cX2_count : ByteArray := prog_4_method_26_code
def yX2_count : MethodName := ⟨RX2, "count", "(IZ)I"⟩
abbrev cX2_notes : ByteArray := prog_4_method_27_code
def yX2_notes : MethodName := ⟨RX2, "notes", "(I)I"⟩
abbrev cX2_ligatures : ByteArray := prog_4_method_28_code
def yX2_ligatures : MethodName := ⟨RX2, "ligatures", "(I)I"⟩
abbrev cX2_of : ByteArray := prog_4_method_29_code
def yX2_of : MethodName := ⟨RX2, "of", "(II[I)I"⟩
abbrev cX2_kindOf : ByteArray := prog_4_method_30_code
def yX2_kindOf : MethodName := ⟨RX2, "kindOf", "(II)I"⟩
abbrev cX2_placeOf : ByteArray := prog_4_method_31_code
def yX2_placeOf : MethodName := ⟨RX2, "placeOf", "(II)I"⟩
abbrev cX2_isColoured : ByteArray := prog_4_method_32_code
def yX2_isColoured : MethodName := ⟨RX2, "isColoured", "(II)Z"⟩
abbrev cX2_placeInLigature : ByteArray := prog_4_method_33_code
def yX2_placeInLigature : MethodName := ⟨RX2, "placeInLigature", "(II)I"⟩
abbrev cX2_lengthOf : ByteArray := prog_4_method_34_code
def yX2_lengthOf : MethodName := ⟨RX2, "lengthOf", "(II)I"⟩
abbrev cX2_begins : ByteArray := prog_4_method_35_code
def yX2_begins : MethodName := ⟨RX2, "begins", "(II)I"⟩
abbrev cX2_beginOf : ByteArray := prog_4_method_36_code
def yX2_beginOf : MethodName := ⟨RX2, "beginOf", "(II)I"⟩
abbrev cX2_length : ByteArray := prog_4_method_37_code
def yX2_length : MethodName := ⟨RX2, "length", "(I)I"⟩
abbrev cX2_most : ByteArray := prog_4_method_38_code
def yX2_most : MethodName := ⟨RX2, "most", "()I"⟩
abbrev cX2_longest : ByteArray := prog_4_method_39_code
def yX2_longest : MethodName := ⟨RX2, "longest", "()I"⟩
abbrev cX2_signAt : ByteArray := prog_4_method_40_code
def yX2_signAt : MethodName := ⟨RX2, "signAt", "(II)I"⟩
abbrev cX2_clefOf : ByteArray := prog_4_method_41_code
def yX2_clefOf : MethodName := ⟨RX2, "clefOf", "(I)I"⟩
abbrev cX2_pitchOf : ByteArray := prog_4_method_42_code
def yX2_pitchOf : MethodName := ⟨RX2, "pitchOf", "(II)I"⟩
abbrev cX2_fit : ByteArray := prog_4_method_43_code
def yX2_fit : MethodName := ⟨RX2, "fit", "(II)Z"⟩
abbrev cX2_fits : ByteArray := prog_4_method_44_code
def yX2_fits : MethodName := ⟨RX2, "fits", "(II)Z"⟩
abbrev cX2_fitting : ByteArray := prog_4_method_45_code
def yX2_fitting : MethodName := ⟨RX2, "fitting", "(I)I"⟩
abbrev cX2_clefsThatFit : ByteArray := prog_4_method_46_code
def yX2_clefsThatFit : MethodName := ⟨RX2, "clefsThatFit", "(I)I"⟩
abbrev cX2_both : ByteArray := prog_4_method_47_code
def yX2_both : MethodName := ⟨RX2, "both", "(IIZ)I"⟩
abbrev cX2_clashes : ByteArray := prog_4_method_48_code
def yX2_clashes : MethodName := ⟨RX2, "clashes", "(II)I"⟩
abbrev cX2_firstClash : ByteArray := prog_4_method_49_code
def yX2_firstClash : MethodName := ⟨RX2, "firstClash", "(II)I"⟩
abbrev cX2_withAll : ByteArray := prog_4_method_50_code
def yX2_withAll : MethodName := ⟨RX2, "withAll", "(II)I"⟩
abbrev cX2_clashesWith : ByteArray := prog_4_method_51_code
def yX2_clashesWith : MethodName := ⟨RX2, "clashesWith", "(II)I"⟩
abbrev cX2_best : ByteArray := prog_4_method_52_code
def yX2_best : MethodName := ⟨RX2, "best", "(I)I"⟩
abbrev cX2_bestClef : ByteArray := prog_4_method_53_code
def yX2_bestClef : MethodName := ⟨RX2, "bestClef", "(I)I"⟩
abbrev cX2_canon : ByteArray := prog_4_method_54_code
def yX2_canon : MethodName := ⟨RX2, "canon", "(III)I"⟩
abbrev cX2_canonClashes : ByteArray := prog_4_method_55_code
def yX2_canonClashes : MethodName := ⟨RX2, "canonClashes", "(III)I"⟩
abbrev cX2_delay : ByteArray := prog_4_method_56_code
def yX2_delay : MethodName := ⟨RX2, "delay", "(II)I"⟩
abbrev cX2_bestDelay : ByteArray := prog_4_method_57_code
def yX2_bestDelay : MethodName := ⟨RX2, "bestDelay", "(II)I"⟩
abbrev cX2_meanLength : ByteArray := prog_4_method_58_code
def yX2_meanLength : MethodName := ⟨RX2, "meanLength", "()D"⟩
abbrev cX2_digest : ByteArray := prog_4_method_59_code
def yX2_digest : MethodName := ⟨RX2, "digest", "()J"⟩
def RJ9 : String := "java/lang/Math"
def TJ9 : u_T := fun k => match k with
  | _ => ("", "", "", false)
def tyJ9 : Nat → FieldType := fun k => match k with
  | _ => .int
abbrev wsJ90 : List Cond := u_ws RJ9 TJ9 0
theorem nmJ9 : ∀ a, a < 0 → ∀ b, b < 0 → a ≠ b → (TJ9 a).2.1 ≠ (TJ9 b).2.1 := by decide +kernel
theorem tyJ9_ok : ∀ k, k < 0 → parseFieldDescriptor (TJ9 k).2.2.1 = some (tyJ9 k) := by decide +kernel
abbrev cJ9_abs_0f7a4 : ByteArray := prog_9_method_59_code
def yJ9_abs_0f7a4 : MethodName := ⟨RJ9, "abs", "(I)I"⟩
abbrev cJ9_max_7cf53 : ByteArray := prog_9_method_65_code
def yJ9_max_7cf53 : MethodName := ⟨RJ9, "max", "(II)I"⟩
abbrev cJ9_min_7cf53 : ByteArray := prog_9_method_69_code
def yJ9_min_7cf53 : MethodName := ⟨RJ9, "min", "(II)I"⟩
def RJ0 : String := "java/lang/String"
def TJ0 : u_T := fun k => match k with
  | _ => ("", "", "", false)
def tyJ0 : Nat → FieldType := fun k => match k with
  | _ => .int
abbrev wsJ00 : List Cond := u_ws RJ0 TJ0 0
theorem nmJ0 : ∀ a, a < 0 → ∀ b, b < 0 → a ≠ b → (TJ0 a).2.1 ≠ (TJ0 b).2.1 := by decide +kernel
theorem tyJ0_ok : ∀ k, k < 0 → parseFieldDescriptor (TJ0 k).2.2.1 = some (tyJ0 k) := by decide +kernel
def RL : String := "ChoirNotesLaw"
abbrev cL_addVoice : ByteArray := method_3_code
def yL_addVoice : MethodName := ⟨RL, "addVoice", "(LChoirNotes;III[J)I"⟩
abbrev cL_addNote : ByteArray := method_4_code
def yL_addNote : MethodName := ⟨RL, "addNote", "(LChoirNotes;IIIZ[J)I"⟩
abbrev cL_addRest : ByteArray := method_5_code
def yL_addRest : MethodName := ⟨RL, "addRest", "(LChoirNotes;II[J)I"⟩
abbrev cL_addLigature : ByteArray := method_6_code
def yL_addLigature : MethodName := ⟨RL, "addLigature", "(LChoirNotes;IIIIZ[J)I"⟩
abbrev cL_erase : ByteArray := method_7_code
def yL_erase : MethodName := ⟨RL, "erase", "(LChoirNotes;I[J)I"⟩
abbrev cL_recolour : ByteArray := method_8_code
def yL_recolour : MethodName := ⟨RL, "recolour", "(LChoirNotes;II[J)I"⟩
abbrev cL_setClef : ByteArray := method_9_code
def yL_setClef : MethodName := ⟨RL, "setClef", "(LChoirNotes;II[J)I"⟩
abbrev cL_setMensuration : ByteArray := method_10_code
def yL_setMensuration : MethodName := ⟨RL, "setMensuration", "(LChoirNotes;IIII[J)I"⟩
abbrev cL_signs : ByteArray := method_11_code
def yL_signs : MethodName := ⟨RL, "signs", "(LChoirNotes;I[J)I"⟩
abbrev cL_notes : ByteArray := method_12_code
def yL_notes : MethodName := ⟨RL, "notes", "(LChoirNotes;I[J)I"⟩
abbrev cL_ligatures : ByteArray := method_13_code
def yL_ligatures : MethodName := ⟨RL, "ligatures", "(LChoirNotes;I[J)I"⟩
abbrev cL_kindOf : ByteArray := method_14_code
def yL_kindOf : MethodName := ⟨RL, "kindOf", "(LChoirNotes;II[J)I"⟩
abbrev cL_placeOf : ByteArray := method_15_code
def yL_placeOf : MethodName := ⟨RL, "placeOf", "(LChoirNotes;II[J)I"⟩
abbrev cL_isColoured : ByteArray := method_16_code
def yL_isColoured : MethodName := ⟨RL, "isColoured", "(LChoirNotes;II[J)I"⟩
abbrev cL_placeInLigature : ByteArray := method_17_code
def yL_placeInLigature : MethodName := ⟨RL, "placeInLigature", "(LChoirNotes;II[J)I"⟩
abbrev cL_lengthOf : ByteArray := method_18_code
def yL_lengthOf : MethodName := ⟨RL, "lengthOf", "(LChoirNotes;II[J)I"⟩
abbrev cL_beginOf : ByteArray := method_19_code
def yL_beginOf : MethodName := ⟨RL, "beginOf", "(LChoirNotes;II[J)I"⟩
abbrev cL_length : ByteArray := method_20_code
def yL_length : MethodName := ⟨RL, "length", "(LChoirNotes;I[J)I"⟩
abbrev cL_signAt : ByteArray := method_21_code
def yL_signAt : MethodName := ⟨RL, "signAt", "(LChoirNotes;II[J)I"⟩
abbrev cL_clefOf : ByteArray := method_22_code
def yL_clefOf : MethodName := ⟨RL, "clefOf", "(LChoirNotes;I[J)I"⟩
abbrev cL_pitchOf : ByteArray := method_23_code
def yL_pitchOf : MethodName := ⟨RL, "pitchOf", "(LChoirNotes;II[J)I"⟩
abbrev cL_fits : ByteArray := method_24_code
def yL_fits : MethodName := ⟨RL, "fits", "(LChoirNotes;II[J)I"⟩
abbrev cL_clefsThatFit : ByteArray := method_25_code
def yL_clefsThatFit : MethodName := ⟨RL, "clefsThatFit", "(LChoirNotes;I[J)I"⟩
abbrev cL_clashes : ByteArray := method_26_code
def yL_clashes : MethodName := ⟨RL, "clashes", "(LChoirNotes;II[J)I"⟩
abbrev cL_firstClash : ByteArray := method_27_code
def yL_firstClash : MethodName := ⟨RL, "firstClash", "(LChoirNotes;II[J)I"⟩
abbrev cL_clashesWith : ByteArray := method_28_code
def yL_clashesWith : MethodName := ⟨RL, "clashesWith", "(LChoirNotes;II[J)I"⟩
abbrev cL_bestClef : ByteArray := method_29_code
def yL_bestClef : MethodName := ⟨RL, "bestClef", "(LChoirNotes;I[J)I"⟩
abbrev cL_canonClashes : ByteArray := method_30_code
def yL_canonClashes : MethodName := ⟨RL, "canonClashes", "(LChoirNotes;III[J)I"⟩
abbrev cL_bestDelay : ByteArray := method_31_code
def yL_bestDelay : MethodName := ⟨RL, "bestDelay", "(LChoirNotes;II[J)I"⟩
abbrev cL_law : ByteArray := code
def yL_law : MethodName := ⟨RL, "law", "([I)Z"⟩
def wsX0_init : List Cond := .code yX0_init cX0_init 1 none :: ([.methodLink RX0 3 objectInit, .instanceMethod objectInit, .code objectInit ⟨#[0xb1]⟩ 1 none, .fieldLink RX0 9 "ChoirNotes$Voice" "clef" "I", .arrayClass .int, .fieldLink RX0 15 "ChoirNotes$Voice" "kinds" "[I", .fieldLink RX0 19 "ChoirNotes$Voice" "places" "[I", .arrayClass .boolean, .fieldLink RX0 22 "ChoirNotes$Voice" "colours" "[Z", .fieldLink RX0 26 "ChoirNotes$Voice" "ranks" "[I", .fieldLink RX0 29 "ChoirNotes$Voice" "begins" "[I"] ++ wsX00)
def wsX0_minimsByKind : List Cond := .code yX0_minimsByKind cX0_minimsByKind 3 (some .int) :: ([.fieldLink RX0 32 "ChoirNotes$Voice" "brevesInLonga" "I", .fieldLink RX0 35 "ChoirNotes$Voice" "semibrevesInBreve" "I", .fieldLink RX0 38 "ChoirNotes$Voice" "minimsInSemibreve" "I"] ++ wsX00)
def wsX0_timeFrom : List Cond := .code yX0_timeFrom cX0_timeFrom 3 none :: ([.fieldLink RX0 45 "ChoirNotes$Voice" "count" "I", .fieldLink RX0 29 "ChoirNotes$Voice" "begins" "[I", .fieldLink RX0 15 "ChoirNotes$Voice" "kinds" "[I", .fieldLink RX0 22 "ChoirNotes$Voice" "colours" "[Z", .methodLink RX0 48 yX0_minimsByKind, .instanceMethod yX0_minimsByKind, .selects RX0 yX0_minimsByKind yX0_minimsByKind, .initialized RX0, .code yX0_minimsByKind cX0_minimsByKind 3 (some .int), .fieldLink RX0 32 "ChoirNotes$Voice" "brevesInLonga" "I", .fieldLink RX0 35 "ChoirNotes$Voice" "semibrevesInBreve" "I", .fieldLink RX0 38 "ChoirNotes$Voice" "minimsInSemibreve" "I"] ++ wsX00)
def wsX0_measure : List Cond := .code yX0_measure cX0_measure 4 none :: ([.fieldLink RX0 32 "ChoirNotes$Voice" "brevesInLonga" "I", .fieldLink RX0 35 "ChoirNotes$Voice" "semibrevesInBreve" "I", .fieldLink RX0 38 "ChoirNotes$Voice" "minimsInSemibreve" "I", .methodLink RX0 41 yX0_timeFrom, .instanceMethod yX0_timeFrom, .selects RX0 yX0_timeFrom yX0_timeFrom, .initialized RX0, .code yX0_timeFrom cX0_timeFrom 3 none, .fieldLink RX0 45 "ChoirNotes$Voice" "count" "I", .fieldLink RX0 29 "ChoirNotes$Voice" "begins" "[I", .fieldLink RX0 15 "ChoirNotes$Voice" "kinds" "[I", .fieldLink RX0 22 "ChoirNotes$Voice" "colours" "[Z", .methodLink RX0 48 yX0_minimsByKind, .instanceMethod yX0_minimsByKind, .selects RX0 yX0_minimsByKind yX0_minimsByKind, .code yX0_minimsByKind cX0_minimsByKind 3 (some .int)] ++ wsX00)
def wsX0_append : List Cond := .code yX0_append cX0_append 6 (some .int) :: ([.fieldLink RX0 45 "ChoirNotes$Voice" "count" "I", .fieldLink RX0 15 "ChoirNotes$Voice" "kinds" "[I", .fieldLink RX0 19 "ChoirNotes$Voice" "places" "[I", .fieldLink RX0 22 "ChoirNotes$Voice" "colours" "[Z", .fieldLink RX0 26 "ChoirNotes$Voice" "ranks" "[I", .methodLink RX0 41 yX0_timeFrom, .instanceMethod yX0_timeFrom, .selects RX0 yX0_timeFrom yX0_timeFrom, .initialized RX0, .code yX0_timeFrom cX0_timeFrom 3 none, .fieldLink RX0 29 "ChoirNotes$Voice" "begins" "[I", .methodLink RX0 48 yX0_minimsByKind, .instanceMethod yX0_minimsByKind, .selects RX0 yX0_minimsByKind yX0_minimsByKind, .code yX0_minimsByKind cX0_minimsByKind 3 (some .int), .fieldLink RX0 32 "ChoirNotes$Voice" "brevesInLonga" "I", .fieldLink RX0 35 "ChoirNotes$Voice" "semibrevesInBreve" "I", .fieldLink RX0 38 "ChoirNotes$Voice" "minimsInSemibreve" "I"] ++ wsX00)
def wsX0_dropLast : List Cond := .code yX0_dropLast cX0_dropLast 3 (some .int) :: ([.fieldLink RX0 26 "ChoirNotes$Voice" "ranks" "[I", .fieldLink RX0 45 "ChoirNotes$Voice" "count" "I"] ++ wsX00)
def wsX0_turnColour : List Cond := .code yX0_turnColour cX0_turnColour 2 (some .boolean) :: ([.fieldLink RX0 22 "ChoirNotes$Voice" "colours" "[Z", .methodLink RX0 41 yX0_timeFrom, .instanceMethod yX0_timeFrom, .selects RX0 yX0_timeFrom yX0_timeFrom, .initialized RX0, .code yX0_timeFrom cX0_timeFrom 3 none, .fieldLink RX0 45 "ChoirNotes$Voice" "count" "I", .fieldLink RX0 29 "ChoirNotes$Voice" "begins" "[I", .fieldLink RX0 15 "ChoirNotes$Voice" "kinds" "[I", .methodLink RX0 48 yX0_minimsByKind, .instanceMethod yX0_minimsByKind, .selects RX0 yX0_minimsByKind yX0_minimsByKind, .code yX0_minimsByKind cX0_minimsByKind 3 (some .int), .fieldLink RX0 32 "ChoirNotes$Voice" "brevesInLonga" "I", .fieldLink RX0 35 "ChoirNotes$Voice" "semibrevesInBreve" "I", .fieldLink RX0 38 "ChoirNotes$Voice" "minimsInSemibreve" "I"] ++ wsX00)
def wsX0_minimsOf : List Cond := .code yX0_minimsOf cX0_minimsOf 2 (some .int) :: ([.fieldLink RX0 29 "ChoirNotes$Voice" "begins" "[I"] ++ wsX00)
def wsX0_end : List Cond := .code yX0_end cX0_end 1 (some .int) :: ([.fieldLink RX0 29 "ChoirNotes$Voice" "begins" "[I", .fieldLink RX0 45 "ChoirNotes$Voice" "count" "I"] ++ wsX00)
def wsX0_signLastingAt : List Cond := .code yX0_signLastingAt cX0_signLastingAt 3 (some .int) :: ([.fieldLink RX0 45 "ChoirNotes$Voice" "count" "I", .fieldLink RX0 29 "ChoirNotes$Voice" "begins" "[I"] ++ wsX00)
def wsX0_isRest : List Cond := .code yX0_isRest cX0_isRest 2 (some .boolean) :: ([.fieldLink RX0 19 "ChoirNotes$Voice" "places" "[I"] ++ wsX00)
def wsX0_countNotes : List Cond := .code yX0_countNotes cX0_countNotes 3 (some .int) :: ([.fieldLink RX0 45 "ChoirNotes$Voice" "count" "I", .methodLink RX0 52 yX0_isRest, .instanceMethod yX0_isRest, .selects RX0 yX0_isRest yX0_isRest, .initialized RX0, .code yX0_isRest cX0_isRest 2 (some .boolean), .fieldLink RX0 19 "ChoirNotes$Voice" "places" "[I"] ++ wsX00)
def wsX0_countLigatures : List Cond := .code yX0_countLigatures cX0_countLigatures 3 (some .int) :: ([.fieldLink RX0 45 "ChoirNotes$Voice" "count" "I", .fieldLink RX0 26 "ChoirNotes$Voice" "ranks" "[I"] ++ wsX00)
def wsX0_wouldFit : List Cond := .code yX0_wouldFit cX0_wouldFit 4 (some .boolean) :: ([.fieldLink RX0 45 "ChoirNotes$Voice" "count" "I", .fieldLink RX0 19 "ChoirNotes$Voice" "places" "[I", .methodLink RX0 52 yX0_isRest, .instanceMethod yX0_isRest, .selects RX0 yX0_isRest yX0_isRest, .initialized RX0, .code yX0_isRest cX0_isRest 2 (some .boolean)] ++ wsX00)
def wsX0_countFittingClefs : List Cond := .code yX0_countFittingClefs cX0_countFittingClefs 3 (some .int) :: ([.methodLink RX0 56 yX0_wouldFit, .instanceMethod yX0_wouldFit, .selects RX0 yX0_wouldFit yX0_wouldFit, .initialized RX0, .code yX0_wouldFit cX0_wouldFit 4 (some .boolean), .fieldLink RX0 45 "ChoirNotes$Voice" "count" "I", .fieldLink RX0 19 "ChoirNotes$Voice" "places" "[I", .methodLink RX0 52 yX0_isRest, .instanceMethod yX0_isRest, .selects RX0 yX0_isRest yX0_isRest, .code yX0_isRest cX0_isRest 2 (some .boolean)] ++ wsX00)
def wsX1_init : List Cond := .code yX1_init cX1_init 2 none :: ([.methodLink RX1 1 objectInit, .instanceMethod objectInit, .code objectInit ⟨#[0xb1]⟩ 1 none, .classLink RX1 9 RX0, .fieldLink RX1 11 "ChoirNotes" "book" "[LChoirNotes$Voice;", .instantiable RX0 10, .initialized RX0, .instanceMethod yX0_init, .code yX0_init cX0_init 1 none, .methodLink RX0 3 objectInit, .fieldLink RX0 9 "ChoirNotes$Voice" "clef" "I", .arrayClass .int, .fieldLink RX0 15 "ChoirNotes$Voice" "kinds" "[I", .fieldLink RX0 19 "ChoirNotes$Voice" "places" "[I", .arrayClass .boolean, .fieldLink RX0 22 "ChoirNotes$Voice" "colours" "[Z", .fieldLink RX0 26 "ChoirNotes$Voice" "ranks" "[I", .fieldLink RX0 29 "ChoirNotes$Voice" "begins" "[I"] ++ wsX10 ++ wsX00)
def wsX1_checkRange : List Cond := .code yX1_checkRange cX1_checkRange 3 none :: ([.classLink RX1 179 "java/lang/IllegalArgumentException", .initialized "java/lang/IllegalArgumentException"] ++ (vx_atS RX1 183 "java/lang/IllegalArgumentException" ["java/lang/RuntimeException", "java/lang/Exception"]).filter goodWord)
def wsX1_checkMensuration : List Cond := .code yX1_checkMensuration cX1_checkMensuration 3 none :: ([.methodLink RX1 38 yX1_checkRange, .static yX1_checkRange, .initialized RX1, .code yX1_checkRange cX1_checkRange 3 none, .classLink RX1 179 "java/lang/IllegalArgumentException", .initialized "java/lang/IllegalArgumentException"] ++ (vx_atS RX1 183 "java/lang/IllegalArgumentException" ["java/lang/RuntimeException", "java/lang/Exception"]).filter goodWord)
def wsX1_addVoice_r1 : List Cond := [Cond.classLink RX1 24 "java/lang/IllegalStateException", Cond.initialized "java/lang/IllegalStateException", Cond.fieldLink RX1 20 "ChoirNotes" "voiceCount" "I", Cond.fieldLink RX1 11 "ChoirNotes" "book" "[LChoirNotes$Voice;", Cond.methodLink RX1 16 yX1_checkMensuration, Cond.static yX1_checkMensuration, Cond.initialized RX1, Cond.code yX1_checkMensuration cX1_checkMensuration 3 none, Cond.methodLink RX1 38 yX1_checkRange, Cond.static yX1_checkRange, Cond.code yX1_checkRange cX1_checkRange 3 none, Cond.classLink RX1 179 "java/lang/IllegalArgumentException", Cond.initialized "java/lang/IllegalArgumentException", Cond.instanceMethod yX0_measure, Cond.initialized RX0, Cond.selects RX0 yX0_measure yX0_measure, Cond.code yX0_measure cX0_measure 4 none, Cond.fieldLink RX0 32 "ChoirNotes$Voice" "brevesInLonga" "I", Cond.fieldLink RX0 35 "ChoirNotes$Voice" "semibrevesInBreve" "I", Cond.fieldLink RX0 38 "ChoirNotes$Voice" "minimsInSemibreve" "I", Cond.methodLink RX0 41 yX0_timeFrom, Cond.instanceMethod yX0_timeFrom, Cond.selects RX0 yX0_timeFrom yX0_timeFrom, Cond.code yX0_timeFrom cX0_timeFrom 3 none]
def wsX1_addVoice_r2 : List Cond := [Cond.fieldLink RX0 45 "ChoirNotes$Voice" "count" "I", Cond.fieldLink RX0 29 "ChoirNotes$Voice" "begins" "[I", Cond.fieldLink RX0 15 "ChoirNotes$Voice" "kinds" "[I", Cond.fieldLink RX0 22 "ChoirNotes$Voice" "colours" "[Z", Cond.methodLink RX0 48 yX0_minimsByKind, Cond.instanceMethod yX0_minimsByKind, Cond.selects RX0 yX0_minimsByKind yX0_minimsByKind, Cond.code yX0_minimsByKind cX0_minimsByKind 3 (some .int)]
def wsX1_addVoice : List Cond := .code yX1_addVoice cX1_addVoice 4 (some .int) :: ((wsX1_addVoice_r1 ++ wsX1_addVoice_r2) ++ wsX10 ++ wsX00 ++ (vx_atS RX1 28 "java/lang/IllegalStateException" ["java/lang/RuntimeException", "java/lang/Exception"]).filter goodWord ++ (vx_atS RX1 183 "java/lang/IllegalArgumentException" ["java/lang/RuntimeException", "java/lang/Exception"]).filter goodWord)
def wsX1_knownVoice : List Cond := .code yX1_knownVoice cX1_knownVoice 2 (some (.object "ChoirNotes$Voice")) :: ([.classLink RX1 172 "java/lang/IndexOutOfBoundsException", .initialized "java/lang/IndexOutOfBoundsException", .fieldLink RX1 20 "ChoirNotes" "voiceCount" "I", .fieldLink RX1 11 "ChoirNotes" "book" "[LChoirNotes$Voice;"] ++ wsX10 ++ (vx_atS RX1 176 "java/lang/IndexOutOfBoundsException" ["java/lang/RuntimeException", "java/lang/Exception"]).filter goodWord)
def wsX1_checkRoom : List Cond := .code yX1_checkRoom cX1_checkRoom 2 none :: ([.classLink RX1 24 "java/lang/IllegalStateException", .initialized "java/lang/IllegalStateException"] ++ wsX00 ++ (vx_atS RX1 28 "java/lang/IllegalStateException" ["java/lang/RuntimeException", "java/lang/Exception"]).filter goodWord)
def wsX1_addNote_r1 : List Cond := [Cond.methodLink RX1 34 yX1_knownVoice, Cond.instanceMethod yX1_knownVoice, Cond.selects RX1 yX1_knownVoice yX1_knownVoice, Cond.initialized RX1, Cond.code yX1_knownVoice cX1_knownVoice 2 (some (.object "ChoirNotes$Voice")), Cond.classLink RX1 172 "java/lang/IndexOutOfBoundsException", Cond.initialized "java/lang/IndexOutOfBoundsException", Cond.fieldLink RX1 20 "ChoirNotes" "voiceCount" "I", Cond.fieldLink RX1 11 "ChoirNotes" "book" "[LChoirNotes$Voice;", Cond.methodLink RX1 38 yX1_checkRange, Cond.static yX1_checkRange, Cond.code yX1_checkRange cX1_checkRange 3 none, Cond.classLink RX1 179 "java/lang/IllegalArgumentException", Cond.initialized "java/lang/IllegalArgumentException", Cond.methodLink RX1 41 yX1_checkRoom, Cond.static yX1_checkRoom, Cond.code yX1_checkRoom cX1_checkRoom 2 none, Cond.classLink RX1 24 "java/lang/IllegalStateException", Cond.initialized "java/lang/IllegalStateException", Cond.instanceMethod yX0_append, Cond.initialized RX0, Cond.selects RX0 yX0_append yX0_append, Cond.code yX0_append cX0_append 6 (some .int), Cond.fieldLink RX0 45 "ChoirNotes$Voice" "count" "I"]
def wsX1_addNote_r2 : List Cond := [Cond.fieldLink RX0 15 "ChoirNotes$Voice" "kinds" "[I", Cond.fieldLink RX0 19 "ChoirNotes$Voice" "places" "[I", Cond.fieldLink RX0 22 "ChoirNotes$Voice" "colours" "[Z", Cond.fieldLink RX0 26 "ChoirNotes$Voice" "ranks" "[I", Cond.methodLink RX0 41 yX0_timeFrom, Cond.instanceMethod yX0_timeFrom, Cond.selects RX0 yX0_timeFrom yX0_timeFrom, Cond.code yX0_timeFrom cX0_timeFrom 3 none, Cond.fieldLink RX0 29 "ChoirNotes$Voice" "begins" "[I", Cond.methodLink RX0 48 yX0_minimsByKind, Cond.instanceMethod yX0_minimsByKind, Cond.selects RX0 yX0_minimsByKind yX0_minimsByKind, Cond.code yX0_minimsByKind cX0_minimsByKind 3 (some .int), Cond.fieldLink RX0 32 "ChoirNotes$Voice" "brevesInLonga" "I", Cond.fieldLink RX0 35 "ChoirNotes$Voice" "semibrevesInBreve" "I", Cond.fieldLink RX0 38 "ChoirNotes$Voice" "minimsInSemibreve" "I"]
def wsX1_addNote : List Cond := .code yX1_addNote cX1_addNote 6 (some .int) :: ((wsX1_addNote_r1 ++ wsX1_addNote_r2) ++ wsX10 ++ wsX00 ++ (vx_atS RX1 176 "java/lang/IndexOutOfBoundsException" ["java/lang/RuntimeException", "java/lang/Exception"]).filter goodWord ++ (vx_atS RX1 183 "java/lang/IllegalArgumentException" ["java/lang/RuntimeException", "java/lang/Exception"]).filter goodWord ++ (vx_atS RX1 28 "java/lang/IllegalStateException" ["java/lang/RuntimeException", "java/lang/Exception"]).filter goodWord)
def wsX1_addRest_r1 : List Cond := [Cond.methodLink RX1 34 yX1_knownVoice, Cond.instanceMethod yX1_knownVoice, Cond.selects RX1 yX1_knownVoice yX1_knownVoice, Cond.initialized RX1, Cond.code yX1_knownVoice cX1_knownVoice 2 (some (.object "ChoirNotes$Voice")), Cond.classLink RX1 172 "java/lang/IndexOutOfBoundsException", Cond.initialized "java/lang/IndexOutOfBoundsException", Cond.fieldLink RX1 20 "ChoirNotes" "voiceCount" "I", Cond.fieldLink RX1 11 "ChoirNotes" "book" "[LChoirNotes$Voice;", Cond.methodLink RX1 38 yX1_checkRange, Cond.static yX1_checkRange, Cond.code yX1_checkRange cX1_checkRange 3 none, Cond.classLink RX1 179 "java/lang/IllegalArgumentException", Cond.initialized "java/lang/IllegalArgumentException", Cond.methodLink RX1 41 yX1_checkRoom, Cond.static yX1_checkRoom, Cond.code yX1_checkRoom cX1_checkRoom 2 none, Cond.classLink RX1 24 "java/lang/IllegalStateException", Cond.initialized "java/lang/IllegalStateException", Cond.instanceMethod yX0_append, Cond.initialized RX0, Cond.selects RX0 yX0_append yX0_append, Cond.code yX0_append cX0_append 6 (some .int), Cond.fieldLink RX0 45 "ChoirNotes$Voice" "count" "I"]
def wsX1_addRest_r2 : List Cond := [Cond.fieldLink RX0 15 "ChoirNotes$Voice" "kinds" "[I", Cond.fieldLink RX0 19 "ChoirNotes$Voice" "places" "[I", Cond.fieldLink RX0 22 "ChoirNotes$Voice" "colours" "[Z", Cond.fieldLink RX0 26 "ChoirNotes$Voice" "ranks" "[I", Cond.methodLink RX0 41 yX0_timeFrom, Cond.instanceMethod yX0_timeFrom, Cond.selects RX0 yX0_timeFrom yX0_timeFrom, Cond.code yX0_timeFrom cX0_timeFrom 3 none, Cond.fieldLink RX0 29 "ChoirNotes$Voice" "begins" "[I", Cond.methodLink RX0 48 yX0_minimsByKind, Cond.instanceMethod yX0_minimsByKind, Cond.selects RX0 yX0_minimsByKind yX0_minimsByKind, Cond.code yX0_minimsByKind cX0_minimsByKind 3 (some .int), Cond.fieldLink RX0 32 "ChoirNotes$Voice" "brevesInLonga" "I", Cond.fieldLink RX0 35 "ChoirNotes$Voice" "semibrevesInBreve" "I", Cond.fieldLink RX0 38 "ChoirNotes$Voice" "minimsInSemibreve" "I"]
def wsX1_addRest : List Cond := .code yX1_addRest cX1_addRest 4 (some .int) :: ((wsX1_addRest_r1 ++ wsX1_addRest_r2) ++ wsX10 ++ wsX00 ++ (vx_atS RX1 176 "java/lang/IndexOutOfBoundsException" ["java/lang/RuntimeException", "java/lang/Exception"]).filter goodWord ++ (vx_atS RX1 183 "java/lang/IllegalArgumentException" ["java/lang/RuntimeException", "java/lang/Exception"]).filter goodWord ++ (vx_atS RX1 28 "java/lang/IllegalStateException" ["java/lang/RuntimeException", "java/lang/Exception"]).filter goodWord)
def wsX1_checkLigature : List Cond := .code yX1_checkLigature cX1_checkLigature 3 none :: ([.classLink RX1 179 "java/lang/IllegalArgumentException", .initialized "java/lang/IllegalArgumentException", .methodLink RX1 38 yX1_checkRange, .static yX1_checkRange, .initialized RX1, .code yX1_checkRange cX1_checkRange 3 none] ++ (vx_atS RX1 183 "java/lang/IllegalArgumentException" ["java/lang/RuntimeException", "java/lang/Exception"]).filter goodWord)
def wsX1_lastKind : List Cond := .code yX1_lastKind cX1_lastKind 2 (some .int) :: ([])
def wsX1_firstKind : List Cond := .code yX1_firstKind cX1_firstKind 3 (some .int) :: ([.methodLink RX1 60 yX1_lastKind, .static yX1_lastKind, .initialized RX1, .code yX1_lastKind cX1_lastKind 2 (some .int)])
def wsX1_secondKind : List Cond := .code yX1_secondKind cX1_secondKind 4 (some .int) :: ([.methodLink RX1 60 yX1_lastKind, .static yX1_lastKind, .initialized RX1, .code yX1_lastKind cX1_lastKind 2 (some .int)])
def wsX1_addLigature_r1 : List Cond := [Cond.methodLink RX1 34 yX1_knownVoice, Cond.instanceMethod yX1_knownVoice, Cond.selects RX1 yX1_knownVoice yX1_knownVoice, Cond.initialized RX1, Cond.code yX1_knownVoice cX1_knownVoice 2 (some (.object "ChoirNotes$Voice")), Cond.classLink RX1 172 "java/lang/IndexOutOfBoundsException", Cond.initialized "java/lang/IndexOutOfBoundsException", Cond.fieldLink RX1 20 "ChoirNotes" "voiceCount" "I", Cond.fieldLink RX1 11 "ChoirNotes" "book" "[LChoirNotes$Voice;", Cond.methodLink RX1 49 yX1_checkLigature, Cond.static yX1_checkLigature, Cond.code yX1_checkLigature cX1_checkLigature 3 none, Cond.classLink RX1 179 "java/lang/IllegalArgumentException", Cond.initialized "java/lang/IllegalArgumentException", Cond.methodLink RX1 38 yX1_checkRange, Cond.static yX1_checkRange, Cond.code yX1_checkRange cX1_checkRange 3 none, Cond.methodLink RX1 41 yX1_checkRoom, Cond.static yX1_checkRoom, Cond.code yX1_checkRoom cX1_checkRoom 2 none, Cond.classLink RX1 24 "java/lang/IllegalStateException", Cond.initialized "java/lang/IllegalStateException", Cond.methodLink RX1 52 yX1_firstKind, Cond.static yX1_firstKind]
def wsX1_addLigature_r2 : List Cond := [Cond.code yX1_firstKind cX1_firstKind 3 (some .int), Cond.methodLink RX1 60 yX1_lastKind, Cond.static yX1_lastKind, Cond.code yX1_lastKind cX1_lastKind 2 (some .int), Cond.instanceMethod yX0_append, Cond.initialized RX0, Cond.selects RX0 yX0_append yX0_append, Cond.code yX0_append cX0_append 6 (some .int), Cond.fieldLink RX0 45 "ChoirNotes$Voice" "count" "I", Cond.fieldLink RX0 15 "ChoirNotes$Voice" "kinds" "[I", Cond.fieldLink RX0 19 "ChoirNotes$Voice" "places" "[I", Cond.fieldLink RX0 22 "ChoirNotes$Voice" "colours" "[Z", Cond.fieldLink RX0 26 "ChoirNotes$Voice" "ranks" "[I", Cond.methodLink RX0 41 yX0_timeFrom, Cond.instanceMethod yX0_timeFrom, Cond.selects RX0 yX0_timeFrom yX0_timeFrom, Cond.code yX0_timeFrom cX0_timeFrom 3 none, Cond.fieldLink RX0 29 "ChoirNotes$Voice" "begins" "[I", Cond.methodLink RX0 48 yX0_minimsByKind, Cond.instanceMethod yX0_minimsByKind, Cond.selects RX0 yX0_minimsByKind yX0_minimsByKind, Cond.code yX0_minimsByKind cX0_minimsByKind 3 (some .int), Cond.fieldLink RX0 32 "ChoirNotes$Voice" "brevesInLonga" "I", Cond.fieldLink RX0 35 "ChoirNotes$Voice" "semibrevesInBreve" "I"]
def wsX1_addLigature_r3 : List Cond := [Cond.fieldLink RX0 38 "ChoirNotes$Voice" "minimsInSemibreve" "I", Cond.methodLink RX1 56 yX1_secondKind, Cond.static yX1_secondKind, Cond.code yX1_secondKind cX1_secondKind 4 (some .int)]
def wsX1_addLigature : List Cond := .code yX1_addLigature cX1_addLigature 9 (some .int) :: ((wsX1_addLigature_r1 ++ (wsX1_addLigature_r2 ++ wsX1_addLigature_r3)) ++ wsX10 ++ wsX00 ++ (vx_atS RX1 176 "java/lang/IndexOutOfBoundsException" ["java/lang/RuntimeException", "java/lang/Exception"]).filter goodWord ++ (vx_atS RX1 183 "java/lang/IllegalArgumentException" ["java/lang/RuntimeException", "java/lang/Exception"]).filter goodWord ++ (vx_atS RX1 28 "java/lang/IllegalStateException" ["java/lang/RuntimeException", "java/lang/Exception"]).filter goodWord)
def wsX1_erase : List Cond := .code yX1_erase cX1_erase 3 (some .int) :: ([.classLink RX1 24 "java/lang/IllegalStateException", .initialized "java/lang/IllegalStateException", .methodLink RX1 34 yX1_knownVoice, .instanceMethod yX1_knownVoice, .selects RX1 yX1_knownVoice yX1_knownVoice, .initialized RX1, .code yX1_knownVoice cX1_knownVoice 2 (some (.object "ChoirNotes$Voice")), .classLink RX1 172 "java/lang/IndexOutOfBoundsException", .initialized "java/lang/IndexOutOfBoundsException", .fieldLink RX1 20 "ChoirNotes" "voiceCount" "I", .fieldLink RX1 11 "ChoirNotes" "book" "[LChoirNotes$Voice;", .instanceMethod yX0_dropLast, .initialized RX0, .selects RX0 yX0_dropLast yX0_dropLast, .code yX0_dropLast cX0_dropLast 3 (some .int), .fieldLink RX0 26 "ChoirNotes$Voice" "ranks" "[I", .fieldLink RX0 45 "ChoirNotes$Voice" "count" "I"] ++ wsX00 ++ wsX10 ++ (vx_atS RX1 28 "java/lang/IllegalStateException" ["java/lang/RuntimeException", "java/lang/Exception"]).filter goodWord ++ (vx_atS RX1 176 "java/lang/IndexOutOfBoundsException" ["java/lang/RuntimeException", "java/lang/Exception"]).filter goodWord)
def wsX1_voiceWithSign : List Cond := .code yX1_voiceWithSign cX1_voiceWithSign 4 (some (.object "ChoirNotes$Voice")) :: ([.classLink RX1 172 "java/lang/IndexOutOfBoundsException", .initialized "java/lang/IndexOutOfBoundsException", .methodLink RX1 34 yX1_knownVoice, .instanceMethod yX1_knownVoice, .selects RX1 yX1_knownVoice yX1_knownVoice, .initialized RX1, .code yX1_knownVoice cX1_knownVoice 2 (some (.object "ChoirNotes$Voice")), .fieldLink RX1 20 "ChoirNotes" "voiceCount" "I", .fieldLink RX1 11 "ChoirNotes" "book" "[LChoirNotes$Voice;"] ++ wsX00 ++ wsX10 ++ (vx_atS RX1 176 "java/lang/IndexOutOfBoundsException" ["java/lang/RuntimeException", "java/lang/Exception"]).filter goodWord)
def wsX1_recolour_r1 : List Cond := [Cond.classLink RX1 24 "java/lang/IllegalStateException", Cond.initialized "java/lang/IllegalStateException", Cond.methodLink RX1 73 yX1_voiceWithSign, Cond.instanceMethod yX1_voiceWithSign, Cond.selects RX1 yX1_voiceWithSign yX1_voiceWithSign, Cond.initialized RX1, Cond.code yX1_voiceWithSign cX1_voiceWithSign 4 (some (.object "ChoirNotes$Voice")), Cond.classLink RX1 172 "java/lang/IndexOutOfBoundsException", Cond.initialized "java/lang/IndexOutOfBoundsException", Cond.methodLink RX1 34 yX1_knownVoice, Cond.instanceMethod yX1_knownVoice, Cond.selects RX1 yX1_knownVoice yX1_knownVoice, Cond.code yX1_knownVoice cX1_knownVoice 2 (some (.object "ChoirNotes$Voice")), Cond.fieldLink RX1 20 "ChoirNotes" "voiceCount" "I", Cond.fieldLink RX1 11 "ChoirNotes" "book" "[LChoirNotes$Voice;", Cond.instanceMethod yX0_isRest, Cond.initialized RX0, Cond.selects RX0 yX0_isRest yX0_isRest, Cond.code yX0_isRest cX0_isRest 2 (some .boolean), Cond.fieldLink RX0 19 "ChoirNotes$Voice" "places" "[I", Cond.instanceMethod yX0_turnColour, Cond.selects RX0 yX0_turnColour yX0_turnColour, Cond.code yX0_turnColour cX0_turnColour 2 (some .boolean), Cond.fieldLink RX0 22 "ChoirNotes$Voice" "colours" "[Z"]
def wsX1_recolour_r2 : List Cond := [Cond.methodLink RX0 41 yX0_timeFrom, Cond.instanceMethod yX0_timeFrom, Cond.selects RX0 yX0_timeFrom yX0_timeFrom, Cond.code yX0_timeFrom cX0_timeFrom 3 none, Cond.fieldLink RX0 45 "ChoirNotes$Voice" "count" "I", Cond.fieldLink RX0 29 "ChoirNotes$Voice" "begins" "[I", Cond.fieldLink RX0 15 "ChoirNotes$Voice" "kinds" "[I", Cond.methodLink RX0 48 yX0_minimsByKind, Cond.instanceMethod yX0_minimsByKind, Cond.selects RX0 yX0_minimsByKind yX0_minimsByKind, Cond.code yX0_minimsByKind cX0_minimsByKind 3 (some .int), Cond.fieldLink RX0 32 "ChoirNotes$Voice" "brevesInLonga" "I", Cond.fieldLink RX0 35 "ChoirNotes$Voice" "semibrevesInBreve" "I", Cond.fieldLink RX0 38 "ChoirNotes$Voice" "minimsInSemibreve" "I"]
def wsX1_recolour : List Cond := .code yX1_recolour cX1_recolour 4 (some .boolean) :: ((wsX1_recolour_r1 ++ wsX1_recolour_r2) ++ wsX00 ++ wsX10 ++ (vx_atS RX1 28 "java/lang/IllegalStateException" ["java/lang/RuntimeException", "java/lang/Exception"]).filter goodWord ++ (vx_atS RX1 176 "java/lang/IndexOutOfBoundsException" ["java/lang/RuntimeException", "java/lang/Exception"]).filter goodWord)
def wsX1_setClef : List Cond := .code yX1_setClef cX1_setClef 5 (some .int) :: ([.methodLink RX1 34 yX1_knownVoice, .instanceMethod yX1_knownVoice, .selects RX1 yX1_knownVoice yX1_knownVoice, .initialized RX1, .code yX1_knownVoice cX1_knownVoice 2 (some (.object "ChoirNotes$Voice")), .classLink RX1 172 "java/lang/IndexOutOfBoundsException", .initialized "java/lang/IndexOutOfBoundsException", .fieldLink RX1 20 "ChoirNotes" "voiceCount" "I", .fieldLink RX1 11 "ChoirNotes" "book" "[LChoirNotes$Voice;", .methodLink RX1 38 yX1_checkRange, .static yX1_checkRange, .code yX1_checkRange cX1_checkRange 3 none, .classLink RX1 179 "java/lang/IllegalArgumentException", .initialized "java/lang/IllegalArgumentException"] ++ wsX00 ++ wsX10 ++ (vx_atS RX1 176 "java/lang/IndexOutOfBoundsException" ["java/lang/RuntimeException", "java/lang/Exception"]).filter goodWord ++ (vx_atS RX1 183 "java/lang/IllegalArgumentException" ["java/lang/RuntimeException", "java/lang/Exception"]).filter goodWord)
def wsX1_setMensuration_r1 : List Cond := [Cond.methodLink RX1 34 yX1_knownVoice, Cond.instanceMethod yX1_knownVoice, Cond.selects RX1 yX1_knownVoice yX1_knownVoice, Cond.initialized RX1, Cond.code yX1_knownVoice cX1_knownVoice 2 (some (.object "ChoirNotes$Voice")), Cond.classLink RX1 172 "java/lang/IndexOutOfBoundsException", Cond.initialized "java/lang/IndexOutOfBoundsException", Cond.fieldLink RX1 20 "ChoirNotes" "voiceCount" "I", Cond.fieldLink RX1 11 "ChoirNotes" "book" "[LChoirNotes$Voice;", Cond.methodLink RX1 16 yX1_checkMensuration, Cond.static yX1_checkMensuration, Cond.code yX1_checkMensuration cX1_checkMensuration 3 none, Cond.methodLink RX1 38 yX1_checkRange, Cond.static yX1_checkRange, Cond.code yX1_checkRange cX1_checkRange 3 none, Cond.classLink RX1 179 "java/lang/IllegalArgumentException", Cond.initialized "java/lang/IllegalArgumentException", Cond.instanceMethod yX0_measure, Cond.initialized RX0, Cond.selects RX0 yX0_measure yX0_measure, Cond.code yX0_measure cX0_measure 4 none, Cond.fieldLink RX0 32 "ChoirNotes$Voice" "brevesInLonga" "I", Cond.fieldLink RX0 35 "ChoirNotes$Voice" "semibrevesInBreve" "I", Cond.fieldLink RX0 38 "ChoirNotes$Voice" "minimsInSemibreve" "I"]
def wsX1_setMensuration_r2 : List Cond := [Cond.methodLink RX0 41 yX0_timeFrom, Cond.instanceMethod yX0_timeFrom, Cond.selects RX0 yX0_timeFrom yX0_timeFrom, Cond.code yX0_timeFrom cX0_timeFrom 3 none, Cond.fieldLink RX0 45 "ChoirNotes$Voice" "count" "I", Cond.fieldLink RX0 29 "ChoirNotes$Voice" "begins" "[I", Cond.fieldLink RX0 15 "ChoirNotes$Voice" "kinds" "[I", Cond.fieldLink RX0 22 "ChoirNotes$Voice" "colours" "[Z", Cond.methodLink RX0 48 yX0_minimsByKind, Cond.instanceMethod yX0_minimsByKind, Cond.selects RX0 yX0_minimsByKind yX0_minimsByKind, Cond.code yX0_minimsByKind cX0_minimsByKind 3 (some .int), Cond.instanceMethod yX0_end, Cond.selects RX0 yX0_end yX0_end, Cond.code yX0_end cX0_end 1 (some .int)]
def wsX1_setMensuration : List Cond := .code yX1_setMensuration cX1_setMensuration 6 (some .int) :: ((wsX1_setMensuration_r1 ++ wsX1_setMensuration_r2) ++ wsX10 ++ wsX00 ++ (vx_atS RX1 176 "java/lang/IndexOutOfBoundsException" ["java/lang/RuntimeException", "java/lang/Exception"]).filter goodWord ++ (vx_atS RX1 183 "java/lang/IllegalArgumentException" ["java/lang/RuntimeException", "java/lang/Exception"]).filter goodWord)
def wsX1_voices : List Cond := .code yX1_voices cX1_voices 1 (some .int) :: ([.fieldLink RX1 20 "ChoirNotes" "voiceCount" "I"] ++ wsX10)
def wsX1_signs : List Cond := .code yX1_signs cX1_signs 2 (some .int) :: ([.methodLink RX1 34 yX1_knownVoice, .instanceMethod yX1_knownVoice, .selects RX1 yX1_knownVoice yX1_knownVoice, .initialized RX1, .code yX1_knownVoice cX1_knownVoice 2 (some (.object "ChoirNotes$Voice")), .classLink RX1 172 "java/lang/IndexOutOfBoundsException", .initialized "java/lang/IndexOutOfBoundsException", .fieldLink RX1 20 "ChoirNotes" "voiceCount" "I", .fieldLink RX1 11 "ChoirNotes" "book" "[LChoirNotes$Voice;"] ++ wsX00 ++ wsX10 ++ (vx_atS RX1 176 "java/lang/IndexOutOfBoundsException" ["java/lang/RuntimeException", "java/lang/Exception"]).filter goodWord)
def wsX1_notes : List Cond := .code yX1_notes cX1_notes 2 (some .int) :: ([.methodLink RX1 34 yX1_knownVoice, .instanceMethod yX1_knownVoice, .selects RX1 yX1_knownVoice yX1_knownVoice, .initialized RX1, .code yX1_knownVoice cX1_knownVoice 2 (some (.object "ChoirNotes$Voice")), .classLink RX1 172 "java/lang/IndexOutOfBoundsException", .initialized "java/lang/IndexOutOfBoundsException", .fieldLink RX1 20 "ChoirNotes" "voiceCount" "I", .fieldLink RX1 11 "ChoirNotes" "book" "[LChoirNotes$Voice;", .instanceMethod yX0_countNotes, .initialized RX0, .selects RX0 yX0_countNotes yX0_countNotes, .code yX0_countNotes cX0_countNotes 3 (some .int), .fieldLink RX0 45 "ChoirNotes$Voice" "count" "I", .methodLink RX0 52 yX0_isRest, .instanceMethod yX0_isRest, .selects RX0 yX0_isRest yX0_isRest, .code yX0_isRest cX0_isRest 2 (some .boolean), .fieldLink RX0 19 "ChoirNotes$Voice" "places" "[I"] ++ wsX10 ++ wsX00 ++ (vx_atS RX1 176 "java/lang/IndexOutOfBoundsException" ["java/lang/RuntimeException", "java/lang/Exception"]).filter goodWord)
def wsX1_ligatures : List Cond := .code yX1_ligatures cX1_ligatures 2 (some .int) :: ([.methodLink RX1 34 yX1_knownVoice, .instanceMethod yX1_knownVoice, .selects RX1 yX1_knownVoice yX1_knownVoice, .initialized RX1, .code yX1_knownVoice cX1_knownVoice 2 (some (.object "ChoirNotes$Voice")), .classLink RX1 172 "java/lang/IndexOutOfBoundsException", .initialized "java/lang/IndexOutOfBoundsException", .fieldLink RX1 20 "ChoirNotes" "voiceCount" "I", .fieldLink RX1 11 "ChoirNotes" "book" "[LChoirNotes$Voice;", .instanceMethod yX0_countLigatures, .initialized RX0, .selects RX0 yX0_countLigatures yX0_countLigatures, .code yX0_countLigatures cX0_countLigatures 3 (some .int), .fieldLink RX0 45 "ChoirNotes$Voice" "count" "I", .fieldLink RX0 26 "ChoirNotes$Voice" "ranks" "[I"] ++ wsX10 ++ wsX00 ++ (vx_atS RX1 176 "java/lang/IndexOutOfBoundsException" ["java/lang/RuntimeException", "java/lang/Exception"]).filter goodWord)
def wsX1_kindOf : List Cond := .code yX1_kindOf cX1_kindOf 3 (some .int) :: ([.methodLink RX1 73 yX1_voiceWithSign, .instanceMethod yX1_voiceWithSign, .selects RX1 yX1_voiceWithSign yX1_voiceWithSign, .initialized RX1, .code yX1_voiceWithSign cX1_voiceWithSign 4 (some (.object "ChoirNotes$Voice")), .classLink RX1 172 "java/lang/IndexOutOfBoundsException", .initialized "java/lang/IndexOutOfBoundsException", .methodLink RX1 34 yX1_knownVoice, .instanceMethod yX1_knownVoice, .selects RX1 yX1_knownVoice yX1_knownVoice, .code yX1_knownVoice cX1_knownVoice 2 (some (.object "ChoirNotes$Voice")), .fieldLink RX1 20 "ChoirNotes" "voiceCount" "I", .fieldLink RX1 11 "ChoirNotes" "book" "[LChoirNotes$Voice;"] ++ wsX00 ++ wsX10 ++ (vx_atS RX1 176 "java/lang/IndexOutOfBoundsException" ["java/lang/RuntimeException", "java/lang/Exception"]).filter goodWord)
def wsX1_placeOf : List Cond := .code yX1_placeOf cX1_placeOf 3 (some .int) :: ([.methodLink RX1 73 yX1_voiceWithSign, .instanceMethod yX1_voiceWithSign, .selects RX1 yX1_voiceWithSign yX1_voiceWithSign, .initialized RX1, .code yX1_voiceWithSign cX1_voiceWithSign 4 (some (.object "ChoirNotes$Voice")), .classLink RX1 172 "java/lang/IndexOutOfBoundsException", .initialized "java/lang/IndexOutOfBoundsException", .methodLink RX1 34 yX1_knownVoice, .instanceMethod yX1_knownVoice, .selects RX1 yX1_knownVoice yX1_knownVoice, .code yX1_knownVoice cX1_knownVoice 2 (some (.object "ChoirNotes$Voice")), .fieldLink RX1 20 "ChoirNotes" "voiceCount" "I", .fieldLink RX1 11 "ChoirNotes" "book" "[LChoirNotes$Voice;"] ++ wsX00 ++ wsX10 ++ (vx_atS RX1 176 "java/lang/IndexOutOfBoundsException" ["java/lang/RuntimeException", "java/lang/Exception"]).filter goodWord)
def wsX1_isColoured : List Cond := .code yX1_isColoured cX1_isColoured 3 (some .boolean) :: ([.methodLink RX1 73 yX1_voiceWithSign, .instanceMethod yX1_voiceWithSign, .selects RX1 yX1_voiceWithSign yX1_voiceWithSign, .initialized RX1, .code yX1_voiceWithSign cX1_voiceWithSign 4 (some (.object "ChoirNotes$Voice")), .classLink RX1 172 "java/lang/IndexOutOfBoundsException", .initialized "java/lang/IndexOutOfBoundsException", .methodLink RX1 34 yX1_knownVoice, .instanceMethod yX1_knownVoice, .selects RX1 yX1_knownVoice yX1_knownVoice, .code yX1_knownVoice cX1_knownVoice 2 (some (.object "ChoirNotes$Voice")), .fieldLink RX1 20 "ChoirNotes" "voiceCount" "I", .fieldLink RX1 11 "ChoirNotes" "book" "[LChoirNotes$Voice;"] ++ wsX00 ++ wsX10 ++ (vx_atS RX1 176 "java/lang/IndexOutOfBoundsException" ["java/lang/RuntimeException", "java/lang/Exception"]).filter goodWord)
def wsX1_placeInLigature : List Cond := .code yX1_placeInLigature cX1_placeInLigature 3 (some .int) :: ([.methodLink RX1 73 yX1_voiceWithSign, .instanceMethod yX1_voiceWithSign, .selects RX1 yX1_voiceWithSign yX1_voiceWithSign, .initialized RX1, .code yX1_voiceWithSign cX1_voiceWithSign 4 (some (.object "ChoirNotes$Voice")), .classLink RX1 172 "java/lang/IndexOutOfBoundsException", .initialized "java/lang/IndexOutOfBoundsException", .methodLink RX1 34 yX1_knownVoice, .instanceMethod yX1_knownVoice, .selects RX1 yX1_knownVoice yX1_knownVoice, .code yX1_knownVoice cX1_knownVoice 2 (some (.object "ChoirNotes$Voice")), .fieldLink RX1 20 "ChoirNotes" "voiceCount" "I", .fieldLink RX1 11 "ChoirNotes" "book" "[LChoirNotes$Voice;"] ++ wsX00 ++ wsX10 ++ (vx_atS RX1 176 "java/lang/IndexOutOfBoundsException" ["java/lang/RuntimeException", "java/lang/Exception"]).filter goodWord)
def wsX1_lengthOf : List Cond := .code yX1_lengthOf cX1_lengthOf 3 (some .int) :: ([.methodLink RX1 73 yX1_voiceWithSign, .instanceMethod yX1_voiceWithSign, .selects RX1 yX1_voiceWithSign yX1_voiceWithSign, .initialized RX1, .code yX1_voiceWithSign cX1_voiceWithSign 4 (some (.object "ChoirNotes$Voice")), .classLink RX1 172 "java/lang/IndexOutOfBoundsException", .initialized "java/lang/IndexOutOfBoundsException", .methodLink RX1 34 yX1_knownVoice, .instanceMethod yX1_knownVoice, .selects RX1 yX1_knownVoice yX1_knownVoice, .code yX1_knownVoice cX1_knownVoice 2 (some (.object "ChoirNotes$Voice")), .fieldLink RX1 20 "ChoirNotes" "voiceCount" "I", .fieldLink RX1 11 "ChoirNotes" "book" "[LChoirNotes$Voice;", .instanceMethod yX0_minimsOf, .initialized RX0, .selects RX0 yX0_minimsOf yX0_minimsOf, .code yX0_minimsOf cX0_minimsOf 2 (some .int), .fieldLink RX0 29 "ChoirNotes$Voice" "begins" "[I"] ++ wsX00 ++ wsX10 ++ (vx_atS RX1 176 "java/lang/IndexOutOfBoundsException" ["java/lang/RuntimeException", "java/lang/Exception"]).filter goodWord)
def wsX1_beginOf : List Cond := .code yX1_beginOf cX1_beginOf 3 (some .int) :: ([.methodLink RX1 73 yX1_voiceWithSign, .instanceMethod yX1_voiceWithSign, .selects RX1 yX1_voiceWithSign yX1_voiceWithSign, .initialized RX1, .code yX1_voiceWithSign cX1_voiceWithSign 4 (some (.object "ChoirNotes$Voice")), .classLink RX1 172 "java/lang/IndexOutOfBoundsException", .initialized "java/lang/IndexOutOfBoundsException", .methodLink RX1 34 yX1_knownVoice, .instanceMethod yX1_knownVoice, .selects RX1 yX1_knownVoice yX1_knownVoice, .code yX1_knownVoice cX1_knownVoice 2 (some (.object "ChoirNotes$Voice")), .fieldLink RX1 20 "ChoirNotes" "voiceCount" "I", .fieldLink RX1 11 "ChoirNotes" "book" "[LChoirNotes$Voice;"] ++ wsX00 ++ wsX10 ++ (vx_atS RX1 176 "java/lang/IndexOutOfBoundsException" ["java/lang/RuntimeException", "java/lang/Exception"]).filter goodWord)
def wsX1_length : List Cond := .code yX1_length cX1_length 2 (some .int) :: ([.methodLink RX1 34 yX1_knownVoice, .instanceMethod yX1_knownVoice, .selects RX1 yX1_knownVoice yX1_knownVoice, .initialized RX1, .code yX1_knownVoice cX1_knownVoice 2 (some (.object "ChoirNotes$Voice")), .classLink RX1 172 "java/lang/IndexOutOfBoundsException", .initialized "java/lang/IndexOutOfBoundsException", .fieldLink RX1 20 "ChoirNotes" "voiceCount" "I", .fieldLink RX1 11 "ChoirNotes" "book" "[LChoirNotes$Voice;", .instanceMethod yX0_end, .initialized RX0, .selects RX0 yX0_end yX0_end, .code yX0_end cX0_end 1 (some .int), .fieldLink RX0 29 "ChoirNotes$Voice" "begins" "[I", .fieldLink RX0 45 "ChoirNotes$Voice" "count" "I"] ++ wsX10 ++ wsX00 ++ (vx_atS RX1 176 "java/lang/IndexOutOfBoundsException" ["java/lang/RuntimeException", "java/lang/Exception"]).filter goodWord)
def wsX1_longest : List Cond := .code yX1_longest cX1_longest 3 (some .int) :: ([.fieldLink RX1 20 "ChoirNotes" "voiceCount" "I", .fieldLink RX1 11 "ChoirNotes" "book" "[LChoirNotes$Voice;", .methodLink RX1 119 Lib.Math.max.name, .static Lib.Math.max.name, .initialized "java/lang/Math", .code Lib.Math.max.name Lib.Math.max.code 2 (some .int), .instanceMethod yX0_end, .initialized RX0, .selects RX0 yX0_end yX0_end, .code yX0_end cX0_end 1 (some .int), .fieldLink RX0 29 "ChoirNotes$Voice" "begins" "[I", .fieldLink RX0 45 "ChoirNotes$Voice" "count" "I"] ++ wsX10 ++ wsX00)
def wsX1_signAt : List Cond := .code yX1_signAt cX1_signAt 4 (some .int) :: ([.constant RX1 126 (2147483647), .methodLink RX1 34 yX1_knownVoice, .instanceMethod yX1_knownVoice, .selects RX1 yX1_knownVoice yX1_knownVoice, .initialized RX1, .code yX1_knownVoice cX1_knownVoice 2 (some (.object "ChoirNotes$Voice")), .classLink RX1 172 "java/lang/IndexOutOfBoundsException", .initialized "java/lang/IndexOutOfBoundsException", .fieldLink RX1 20 "ChoirNotes" "voiceCount" "I", .fieldLink RX1 11 "ChoirNotes" "book" "[LChoirNotes$Voice;", .methodLink RX1 38 yX1_checkRange, .static yX1_checkRange, .code yX1_checkRange cX1_checkRange 3 none, .classLink RX1 179 "java/lang/IllegalArgumentException", .initialized "java/lang/IllegalArgumentException", .instanceMethod yX0_signLastingAt, .initialized RX0, .selects RX0 yX0_signLastingAt yX0_signLastingAt, .code yX0_signLastingAt cX0_signLastingAt 3 (some .int), .fieldLink RX0 45 "ChoirNotes$Voice" "count" "I", .fieldLink RX0 29 "ChoirNotes$Voice" "begins" "[I"] ++ wsX10 ++ wsX00 ++ (vx_atS RX1 176 "java/lang/IndexOutOfBoundsException" ["java/lang/RuntimeException", "java/lang/Exception"]).filter goodWord ++ (vx_atS RX1 183 "java/lang/IllegalArgumentException" ["java/lang/RuntimeException", "java/lang/Exception"]).filter goodWord)
def wsX1_clefOf : List Cond := .code yX1_clefOf cX1_clefOf 2 (some .int) :: ([.methodLink RX1 34 yX1_knownVoice, .instanceMethod yX1_knownVoice, .selects RX1 yX1_knownVoice yX1_knownVoice, .initialized RX1, .code yX1_knownVoice cX1_knownVoice 2 (some (.object "ChoirNotes$Voice")), .classLink RX1 172 "java/lang/IndexOutOfBoundsException", .initialized "java/lang/IndexOutOfBoundsException", .fieldLink RX1 20 "ChoirNotes" "voiceCount" "I", .fieldLink RX1 11 "ChoirNotes" "book" "[LChoirNotes$Voice;"] ++ wsX00 ++ wsX10 ++ (vx_atS RX1 176 "java/lang/IndexOutOfBoundsException" ["java/lang/RuntimeException", "java/lang/Exception"]).filter goodWord)
def wsX1_checkHasClef : List Cond := .code yX1_checkHasClef cX1_checkHasClef 1 none :: ([.classLink RX1 24 "java/lang/IllegalStateException", .initialized "java/lang/IllegalStateException"] ++ wsX00 ++ (vx_atS RX1 28 "java/lang/IllegalStateException" ["java/lang/RuntimeException", "java/lang/Exception"]).filter goodWord)
def wsX1_pitchOf : List Cond := .code yX1_pitchOf cX1_pitchOf 4 (some .int) :: ([.methodLink RX1 73 yX1_voiceWithSign, .instanceMethod yX1_voiceWithSign, .selects RX1 yX1_voiceWithSign yX1_voiceWithSign, .initialized RX1, .code yX1_voiceWithSign cX1_voiceWithSign 4 (some (.object "ChoirNotes$Voice")), .classLink RX1 172 "java/lang/IndexOutOfBoundsException", .initialized "java/lang/IndexOutOfBoundsException", .methodLink RX1 34 yX1_knownVoice, .instanceMethod yX1_knownVoice, .selects RX1 yX1_knownVoice yX1_knownVoice, .code yX1_knownVoice cX1_knownVoice 2 (some (.object "ChoirNotes$Voice")), .fieldLink RX1 20 "ChoirNotes" "voiceCount" "I", .fieldLink RX1 11 "ChoirNotes" "book" "[LChoirNotes$Voice;", .methodLink RX1 130 yX1_checkHasClef, .static yX1_checkHasClef, .code yX1_checkHasClef cX1_checkHasClef 1 none, .classLink RX1 24 "java/lang/IllegalStateException", .initialized "java/lang/IllegalStateException", .instanceMethod yX0_isRest, .initialized RX0, .selects RX0 yX0_isRest yX0_isRest, .code yX0_isRest cX0_isRest 2 (some .boolean), .fieldLink RX0 19 "ChoirNotes$Voice" "places" "[I"] ++ wsX00 ++ wsX10 ++ (vx_atS RX1 176 "java/lang/IndexOutOfBoundsException" ["java/lang/RuntimeException", "java/lang/Exception"]).filter goodWord ++ (vx_atS RX1 28 "java/lang/IllegalStateException" ["java/lang/RuntimeException", "java/lang/Exception"]).filter goodWord)
def wsX1_fits : List Cond := .code yX1_fits cX1_fits 4 (some .boolean) :: ([.methodLink RX1 34 yX1_knownVoice, .instanceMethod yX1_knownVoice, .selects RX1 yX1_knownVoice yX1_knownVoice, .initialized RX1, .code yX1_knownVoice cX1_knownVoice 2 (some (.object "ChoirNotes$Voice")), .classLink RX1 172 "java/lang/IndexOutOfBoundsException", .initialized "java/lang/IndexOutOfBoundsException", .fieldLink RX1 20 "ChoirNotes" "voiceCount" "I", .fieldLink RX1 11 "ChoirNotes" "book" "[LChoirNotes$Voice;", .methodLink RX1 38 yX1_checkRange, .static yX1_checkRange, .code yX1_checkRange cX1_checkRange 3 none, .classLink RX1 179 "java/lang/IllegalArgumentException", .initialized "java/lang/IllegalArgumentException", .instanceMethod yX0_wouldFit, .initialized RX0, .selects RX0 yX0_wouldFit yX0_wouldFit, .code yX0_wouldFit cX0_wouldFit 4 (some .boolean), .fieldLink RX0 45 "ChoirNotes$Voice" "count" "I", .fieldLink RX0 19 "ChoirNotes$Voice" "places" "[I", .methodLink RX0 52 yX0_isRest, .instanceMethod yX0_isRest, .selects RX0 yX0_isRest yX0_isRest, .code yX0_isRest cX0_isRest 2 (some .boolean)] ++ wsX10 ++ wsX00 ++ (vx_atS RX1 176 "java/lang/IndexOutOfBoundsException" ["java/lang/RuntimeException", "java/lang/Exception"]).filter goodWord ++ (vx_atS RX1 183 "java/lang/IllegalArgumentException" ["java/lang/RuntimeException", "java/lang/Exception"]).filter goodWord)
def wsX1_clefsThatFit : List Cond := .code yX1_clefsThatFit cX1_clefsThatFit 2 (some .int) :: ([.methodLink RX1 34 yX1_knownVoice, .instanceMethod yX1_knownVoice, .selects RX1 yX1_knownVoice yX1_knownVoice, .initialized RX1, .code yX1_knownVoice cX1_knownVoice 2 (some (.object "ChoirNotes$Voice")), .classLink RX1 172 "java/lang/IndexOutOfBoundsException", .initialized "java/lang/IndexOutOfBoundsException", .fieldLink RX1 20 "ChoirNotes" "voiceCount" "I", .fieldLink RX1 11 "ChoirNotes" "book" "[LChoirNotes$Voice;", .instanceMethod yX0_countFittingClefs, .initialized RX0, .selects RX0 yX0_countFittingClefs yX0_countFittingClefs, .code yX0_countFittingClefs cX0_countFittingClefs 3 (some .int), .methodLink RX0 56 yX0_wouldFit, .instanceMethod yX0_wouldFit, .selects RX0 yX0_wouldFit yX0_wouldFit, .code yX0_wouldFit cX0_wouldFit 4 (some .boolean), .fieldLink RX0 45 "ChoirNotes$Voice" "count" "I", .fieldLink RX0 19 "ChoirNotes$Voice" "places" "[I", .methodLink RX0 52 yX0_isRest, .instanceMethod yX0_isRest, .selects RX0 yX0_isRest yX0_isRest, .code yX0_isRest cX0_isRest 2 (some .boolean)] ++ wsX10 ++ wsX00 ++ (vx_atS RX1 176 "java/lang/IndexOutOfBoundsException" ["java/lang/RuntimeException", "java/lang/Exception"]).filter goodWord)
def wsX1_signsClash : List Cond := .code yX1_signsClash cX1_signsClash 6 (some .boolean) :: ([.methodLink RX1 197 Lib.Math.abs.name, .static Lib.Math.abs.name, .initialized "java/lang/Math", .code Lib.Math.abs.name Lib.Math.abs.code 1 (some .int), .instanceMethod yX0_isRest, .initialized RX0, .selects RX0 yX0_isRest yX0_isRest, .code yX0_isRest cX0_isRest 2 (some .boolean), .fieldLink RX0 19 "ChoirNotes$Voice" "places" "[I"] ++ wsX00)
def wsX1_clashingMinims : List Cond := .code yX1_clashingMinims cX1_clashingMinims 11 (some .int) :: ([.methodLink RX1 119 Lib.Math.max.name, .static Lib.Math.max.name, .initialized "java/lang/Math", .code Lib.Math.max.name Lib.Math.max.code 2 (some .int), .methodLink RX1 190 Lib.Math.min.name, .static Lib.Math.min.name, .code Lib.Math.min.name Lib.Math.min.code 2 (some .int), .methodLink RX1 193 yX1_signsClash, .static yX1_signsClash, .initialized RX1, .code yX1_signsClash cX1_signsClash 6 (some .boolean), .methodLink RX1 197 Lib.Math.abs.name, .static Lib.Math.abs.name, .code Lib.Math.abs.name Lib.Math.abs.code 1 (some .int), .instanceMethod yX0_isRest, .initialized RX0, .selects RX0 yX0_isRest yX0_isRest, .code yX0_isRest cX0_isRest 2 (some .boolean), .fieldLink RX0 19 "ChoirNotes$Voice" "places" "[I"] ++ wsX00)
def wsX1_clashes_r1 : List Cond := [Cond.methodLink RX1 34 yX1_knownVoice, Cond.instanceMethod yX1_knownVoice, Cond.selects RX1 yX1_knownVoice yX1_knownVoice, Cond.initialized RX1, Cond.code yX1_knownVoice cX1_knownVoice 2 (some (.object "ChoirNotes$Voice")), Cond.classLink RX1 172 "java/lang/IndexOutOfBoundsException", Cond.initialized "java/lang/IndexOutOfBoundsException", Cond.fieldLink RX1 20 "ChoirNotes" "voiceCount" "I", Cond.fieldLink RX1 11 "ChoirNotes" "book" "[LChoirNotes$Voice;", Cond.methodLink RX1 130 yX1_checkHasClef, Cond.static yX1_checkHasClef, Cond.code yX1_checkHasClef cX1_checkHasClef 1 none, Cond.classLink RX1 24 "java/lang/IllegalStateException", Cond.initialized "java/lang/IllegalStateException", Cond.methodLink RX1 140 yX1_clashingMinims, Cond.static yX1_clashingMinims, Cond.code yX1_clashingMinims cX1_clashingMinims 11 (some .int), Cond.methodLink RX1 119 Lib.Math.max.name, Cond.static Lib.Math.max.name, Cond.initialized "java/lang/Math", Cond.code Lib.Math.max.name Lib.Math.max.code 2 (some .int), Cond.methodLink RX1 190 Lib.Math.min.name, Cond.static Lib.Math.min.name, Cond.code Lib.Math.min.name Lib.Math.min.code 2 (some .int)]
def wsX1_clashes_r2 : List Cond := [Cond.methodLink RX1 193 yX1_signsClash, Cond.static yX1_signsClash, Cond.code yX1_signsClash cX1_signsClash 6 (some .boolean), Cond.methodLink RX1 197 Lib.Math.abs.name, Cond.static Lib.Math.abs.name, Cond.code Lib.Math.abs.name Lib.Math.abs.code 1 (some .int), Cond.instanceMethod yX0_isRest, Cond.initialized RX0, Cond.selects RX0 yX0_isRest yX0_isRest, Cond.code yX0_isRest cX0_isRest 2 (some .boolean), Cond.fieldLink RX0 19 "ChoirNotes$Voice" "places" "[I"]
def wsX1_clashes : List Cond := .code yX1_clashes cX1_clashes 5 (some .int) :: ((wsX1_clashes_r1 ++ wsX1_clashes_r2) ++ wsX00 ++ wsX10 ++ (vx_atS RX1 176 "java/lang/IndexOutOfBoundsException" ["java/lang/RuntimeException", "java/lang/Exception"]).filter goodWord ++ (vx_atS RX1 28 "java/lang/IllegalStateException" ["java/lang/RuntimeException", "java/lang/Exception"]).filter goodWord)
def wsX1_firstClashingMinim : List Cond := .code yX1_firstClashingMinim cX1_firstClashingMinim 9 (some .int) :: ([.methodLink RX1 119 Lib.Math.max.name, .static Lib.Math.max.name, .initialized "java/lang/Math", .code Lib.Math.max.name Lib.Math.max.code 2 (some .int), .methodLink RX1 190 Lib.Math.min.name, .static Lib.Math.min.name, .code Lib.Math.min.name Lib.Math.min.code 2 (some .int), .methodLink RX1 193 yX1_signsClash, .static yX1_signsClash, .initialized RX1, .code yX1_signsClash cX1_signsClash 6 (some .boolean), .methodLink RX1 197 Lib.Math.abs.name, .static Lib.Math.abs.name, .code Lib.Math.abs.name Lib.Math.abs.code 1 (some .int), .instanceMethod yX0_isRest, .initialized RX0, .selects RX0 yX0_isRest yX0_isRest, .code yX0_isRest cX0_isRest 2 (some .boolean), .fieldLink RX0 19 "ChoirNotes$Voice" "places" "[I"] ++ wsX00)
def wsX1_firstClash_r1 : List Cond := [Cond.methodLink RX1 34 yX1_knownVoice, Cond.instanceMethod yX1_knownVoice, Cond.selects RX1 yX1_knownVoice yX1_knownVoice, Cond.initialized RX1, Cond.code yX1_knownVoice cX1_knownVoice 2 (some (.object "ChoirNotes$Voice")), Cond.classLink RX1 172 "java/lang/IndexOutOfBoundsException", Cond.initialized "java/lang/IndexOutOfBoundsException", Cond.fieldLink RX1 20 "ChoirNotes" "voiceCount" "I", Cond.fieldLink RX1 11 "ChoirNotes" "book" "[LChoirNotes$Voice;", Cond.methodLink RX1 130 yX1_checkHasClef, Cond.static yX1_checkHasClef, Cond.code yX1_checkHasClef cX1_checkHasClef 1 none, Cond.classLink RX1 24 "java/lang/IllegalStateException", Cond.initialized "java/lang/IllegalStateException", Cond.methodLink RX1 144 yX1_firstClashingMinim, Cond.static yX1_firstClashingMinim, Cond.code yX1_firstClashingMinim cX1_firstClashingMinim 9 (some .int), Cond.methodLink RX1 119 Lib.Math.max.name, Cond.static Lib.Math.max.name, Cond.initialized "java/lang/Math", Cond.code Lib.Math.max.name Lib.Math.max.code 2 (some .int), Cond.methodLink RX1 190 Lib.Math.min.name, Cond.static Lib.Math.min.name, Cond.code Lib.Math.min.name Lib.Math.min.code 2 (some .int)]
def wsX1_firstClash_r2 : List Cond := [Cond.methodLink RX1 193 yX1_signsClash, Cond.static yX1_signsClash, Cond.code yX1_signsClash cX1_signsClash 6 (some .boolean), Cond.methodLink RX1 197 Lib.Math.abs.name, Cond.static Lib.Math.abs.name, Cond.code Lib.Math.abs.name Lib.Math.abs.code 1 (some .int), Cond.instanceMethod yX0_isRest, Cond.initialized RX0, Cond.selects RX0 yX0_isRest yX0_isRest, Cond.code yX0_isRest cX0_isRest 2 (some .boolean), Cond.fieldLink RX0 19 "ChoirNotes$Voice" "places" "[I"]
def wsX1_firstClash : List Cond := .code yX1_firstClash cX1_firstClash 5 (some .int) :: ((wsX1_firstClash_r1 ++ wsX1_firstClash_r2) ++ wsX00 ++ wsX10 ++ (vx_atS RX1 176 "java/lang/IndexOutOfBoundsException" ["java/lang/RuntimeException", "java/lang/Exception"]).filter goodWord ++ (vx_atS RX1 28 "java/lang/IllegalStateException" ["java/lang/RuntimeException", "java/lang/Exception"]).filter goodWord)
def wsX1_clashesIfClef : List Cond := .code yX1_clashesIfClef cX1_clashesIfClef 6 (some .int) :: ([.fieldLink RX1 20 "ChoirNotes" "voiceCount" "I", .fieldLink RX1 11 "ChoirNotes" "book" "[LChoirNotes$Voice;", .methodLink RX1 140 yX1_clashingMinims, .static yX1_clashingMinims, .initialized RX1, .code yX1_clashingMinims cX1_clashingMinims 11 (some .int), .methodLink RX1 119 Lib.Math.max.name, .static Lib.Math.max.name, .initialized "java/lang/Math", .code Lib.Math.max.name Lib.Math.max.code 2 (some .int), .methodLink RX1 190 Lib.Math.min.name, .static Lib.Math.min.name, .code Lib.Math.min.name Lib.Math.min.code 2 (some .int), .methodLink RX1 193 yX1_signsClash, .static yX1_signsClash, .code yX1_signsClash cX1_signsClash 6 (some .boolean), .methodLink RX1 197 Lib.Math.abs.name, .static Lib.Math.abs.name, .code Lib.Math.abs.name Lib.Math.abs.code 1 (some .int), .instanceMethod yX0_isRest, .initialized RX0, .selects RX0 yX0_isRest yX0_isRest, .code yX0_isRest cX0_isRest 2 (some .boolean), .fieldLink RX0 19 "ChoirNotes$Voice" "places" "[I"] ++ wsX10 ++ wsX00)
def wsX1_clashesWith_r1 : List Cond := [Cond.methodLink RX1 34 yX1_knownVoice, Cond.instanceMethod yX1_knownVoice, Cond.selects RX1 yX1_knownVoice yX1_knownVoice, Cond.initialized RX1, Cond.code yX1_knownVoice cX1_knownVoice 2 (some (.object "ChoirNotes$Voice")), Cond.classLink RX1 172 "java/lang/IndexOutOfBoundsException", Cond.initialized "java/lang/IndexOutOfBoundsException", Cond.fieldLink RX1 20 "ChoirNotes" "voiceCount" "I", Cond.fieldLink RX1 11 "ChoirNotes" "book" "[LChoirNotes$Voice;", Cond.methodLink RX1 38 yX1_checkRange, Cond.static yX1_checkRange, Cond.code yX1_checkRange cX1_checkRange 3 none, Cond.classLink RX1 179 "java/lang/IllegalArgumentException", Cond.initialized "java/lang/IllegalArgumentException", Cond.methodLink RX1 148 yX1_clashesIfClef, Cond.instanceMethod yX1_clashesIfClef, Cond.selects RX1 yX1_clashesIfClef yX1_clashesIfClef, Cond.code yX1_clashesIfClef cX1_clashesIfClef 6 (some .int), Cond.methodLink RX1 140 yX1_clashingMinims, Cond.static yX1_clashingMinims, Cond.code yX1_clashingMinims cX1_clashingMinims 11 (some .int), Cond.methodLink RX1 119 Lib.Math.max.name, Cond.static Lib.Math.max.name, Cond.initialized "java/lang/Math"]
def wsX1_clashesWith_r2 : List Cond := [Cond.code Lib.Math.max.name Lib.Math.max.code 2 (some .int), Cond.methodLink RX1 190 Lib.Math.min.name, Cond.static Lib.Math.min.name, Cond.code Lib.Math.min.name Lib.Math.min.code 2 (some .int), Cond.methodLink RX1 193 yX1_signsClash, Cond.static yX1_signsClash, Cond.code yX1_signsClash cX1_signsClash 6 (some .boolean), Cond.methodLink RX1 197 Lib.Math.abs.name, Cond.static Lib.Math.abs.name, Cond.code Lib.Math.abs.name Lib.Math.abs.code 1 (some .int), Cond.instanceMethod yX0_isRest, Cond.initialized RX0, Cond.selects RX0 yX0_isRest yX0_isRest, Cond.code yX0_isRest cX0_isRest 2 (some .boolean), Cond.fieldLink RX0 19 "ChoirNotes$Voice" "places" "[I"]
def wsX1_clashesWith : List Cond := .code yX1_clashesWith cX1_clashesWith 4 (some .int) :: ((wsX1_clashesWith_r1 ++ wsX1_clashesWith_r2) ++ wsX10 ++ wsX00 ++ (vx_atS RX1 176 "java/lang/IndexOutOfBoundsException" ["java/lang/RuntimeException", "java/lang/Exception"]).filter goodWord ++ (vx_atS RX1 183 "java/lang/IllegalArgumentException" ["java/lang/RuntimeException", "java/lang/Exception"]).filter goodWord)
def wsX1_clefWithFewestClashes_r1 : List Cond := [Cond.constant RX1 126 (2147483647), Cond.instanceMethod yX0_wouldFit, Cond.initialized RX0, Cond.selects RX0 yX0_wouldFit yX0_wouldFit, Cond.code yX0_wouldFit cX0_wouldFit 4 (some .boolean), Cond.fieldLink RX0 45 "ChoirNotes$Voice" "count" "I", Cond.fieldLink RX0 19 "ChoirNotes$Voice" "places" "[I", Cond.methodLink RX0 52 yX0_isRest, Cond.instanceMethod yX0_isRest, Cond.selects RX0 yX0_isRest yX0_isRest, Cond.code yX0_isRest cX0_isRest 2 (some .boolean), Cond.methodLink RX1 148 yX1_clashesIfClef, Cond.instanceMethod yX1_clashesIfClef, Cond.selects RX1 yX1_clashesIfClef yX1_clashesIfClef, Cond.initialized RX1, Cond.code yX1_clashesIfClef cX1_clashesIfClef 6 (some .int), Cond.fieldLink RX1 20 "ChoirNotes" "voiceCount" "I", Cond.fieldLink RX1 11 "ChoirNotes" "book" "[LChoirNotes$Voice;", Cond.methodLink RX1 140 yX1_clashingMinims, Cond.static yX1_clashingMinims, Cond.code yX1_clashingMinims cX1_clashingMinims 11 (some .int), Cond.methodLink RX1 119 Lib.Math.max.name, Cond.static Lib.Math.max.name, Cond.initialized "java/lang/Math"]
def wsX1_clefWithFewestClashes_r2 : List Cond := [Cond.code Lib.Math.max.name Lib.Math.max.code 2 (some .int), Cond.methodLink RX1 190 Lib.Math.min.name, Cond.static Lib.Math.min.name, Cond.code Lib.Math.min.name Lib.Math.min.code 2 (some .int), Cond.methodLink RX1 193 yX1_signsClash, Cond.static yX1_signsClash, Cond.code yX1_signsClash cX1_signsClash 6 (some .boolean), Cond.methodLink RX1 197 Lib.Math.abs.name, Cond.static Lib.Math.abs.name, Cond.code Lib.Math.abs.name Lib.Math.abs.code 1 (some .int)]
def wsX1_clefWithFewestClashes : List Cond := .code yX1_clefWithFewestClashes cX1_clefWithFewestClashes 6 (some .int) :: ((wsX1_clefWithFewestClashes_r1 ++ wsX1_clefWithFewestClashes_r2) ++ wsX00 ++ wsX10)
def wsX1_bestClef_r1 : List Cond := [Cond.methodLink RX1 34 yX1_knownVoice, Cond.instanceMethod yX1_knownVoice, Cond.selects RX1 yX1_knownVoice yX1_knownVoice, Cond.initialized RX1, Cond.code yX1_knownVoice cX1_knownVoice 2 (some (.object "ChoirNotes$Voice")), Cond.classLink RX1 172 "java/lang/IndexOutOfBoundsException", Cond.initialized "java/lang/IndexOutOfBoundsException", Cond.fieldLink RX1 20 "ChoirNotes" "voiceCount" "I", Cond.fieldLink RX1 11 "ChoirNotes" "book" "[LChoirNotes$Voice;", Cond.methodLink RX1 152 yX1_clefWithFewestClashes, Cond.instanceMethod yX1_clefWithFewestClashes, Cond.selects RX1 yX1_clefWithFewestClashes yX1_clefWithFewestClashes, Cond.code yX1_clefWithFewestClashes cX1_clefWithFewestClashes 6 (some .int), Cond.constant RX1 126 (2147483647), Cond.instanceMethod yX0_wouldFit, Cond.initialized RX0, Cond.selects RX0 yX0_wouldFit yX0_wouldFit, Cond.code yX0_wouldFit cX0_wouldFit 4 (some .boolean), Cond.fieldLink RX0 45 "ChoirNotes$Voice" "count" "I", Cond.fieldLink RX0 19 "ChoirNotes$Voice" "places" "[I", Cond.methodLink RX0 52 yX0_isRest, Cond.instanceMethod yX0_isRest, Cond.selects RX0 yX0_isRest yX0_isRest, Cond.code yX0_isRest cX0_isRest 2 (some .boolean)]
def wsX1_bestClef_r2 : List Cond := [Cond.methodLink RX1 148 yX1_clashesIfClef, Cond.instanceMethod yX1_clashesIfClef, Cond.selects RX1 yX1_clashesIfClef yX1_clashesIfClef, Cond.code yX1_clashesIfClef cX1_clashesIfClef 6 (some .int), Cond.methodLink RX1 140 yX1_clashingMinims, Cond.static yX1_clashingMinims, Cond.code yX1_clashingMinims cX1_clashingMinims 11 (some .int), Cond.methodLink RX1 119 Lib.Math.max.name, Cond.static Lib.Math.max.name, Cond.initialized "java/lang/Math", Cond.code Lib.Math.max.name Lib.Math.max.code 2 (some .int), Cond.methodLink RX1 190 Lib.Math.min.name, Cond.static Lib.Math.min.name, Cond.code Lib.Math.min.name Lib.Math.min.code 2 (some .int), Cond.methodLink RX1 193 yX1_signsClash, Cond.static yX1_signsClash, Cond.code yX1_signsClash cX1_signsClash 6 (some .boolean), Cond.methodLink RX1 197 Lib.Math.abs.name, Cond.static Lib.Math.abs.name, Cond.code Lib.Math.abs.name Lib.Math.abs.code 1 (some .int)]
def wsX1_bestClef : List Cond := .code yX1_bestClef cX1_bestClef 2 (some .int) :: ((wsX1_bestClef_r1 ++ wsX1_bestClef_r2) ++ wsX10 ++ wsX00 ++ (vx_atS RX1 176 "java/lang/IndexOutOfBoundsException" ["java/lang/RuntimeException", "java/lang/Exception"]).filter goodWord)
def wsX1_canonClashes_r1 : List Cond := [Cond.methodLink RX1 34 yX1_knownVoice, Cond.instanceMethod yX1_knownVoice, Cond.selects RX1 yX1_knownVoice yX1_knownVoice, Cond.initialized RX1, Cond.code yX1_knownVoice cX1_knownVoice 2 (some (.object "ChoirNotes$Voice")), Cond.classLink RX1 172 "java/lang/IndexOutOfBoundsException", Cond.initialized "java/lang/IndexOutOfBoundsException", Cond.fieldLink RX1 20 "ChoirNotes" "voiceCount" "I", Cond.fieldLink RX1 11 "ChoirNotes" "book" "[LChoirNotes$Voice;", Cond.methodLink RX1 38 yX1_checkRange, Cond.static yX1_checkRange, Cond.code yX1_checkRange cX1_checkRange 3 none, Cond.classLink RX1 179 "java/lang/IllegalArgumentException", Cond.initialized "java/lang/IllegalArgumentException", Cond.methodLink RX1 140 yX1_clashingMinims, Cond.static yX1_clashingMinims, Cond.code yX1_clashingMinims cX1_clashingMinims 11 (some .int), Cond.methodLink RX1 119 Lib.Math.max.name, Cond.static Lib.Math.max.name, Cond.initialized "java/lang/Math", Cond.code Lib.Math.max.name Lib.Math.max.code 2 (some .int), Cond.methodLink RX1 190 Lib.Math.min.name, Cond.static Lib.Math.min.name, Cond.code Lib.Math.min.name Lib.Math.min.code 2 (some .int)]
def wsX1_canonClashes_r2 : List Cond := [Cond.methodLink RX1 193 yX1_signsClash, Cond.static yX1_signsClash, Cond.code yX1_signsClash cX1_signsClash 6 (some .boolean), Cond.methodLink RX1 197 Lib.Math.abs.name, Cond.static Lib.Math.abs.name, Cond.code Lib.Math.abs.name Lib.Math.abs.code 1 (some .int), Cond.instanceMethod yX0_isRest, Cond.initialized RX0, Cond.selects RX0 yX0_isRest yX0_isRest, Cond.code yX0_isRest cX0_isRest 2 (some .boolean), Cond.fieldLink RX0 19 "ChoirNotes$Voice" "places" "[I"]
def wsX1_canonClashes : List Cond := .code yX1_canonClashes cX1_canonClashes 5 (some .int) :: ((wsX1_canonClashes_r1 ++ wsX1_canonClashes_r2) ++ wsX10 ++ wsX00 ++ (vx_atS RX1 176 "java/lang/IndexOutOfBoundsException" ["java/lang/RuntimeException", "java/lang/Exception"]).filter goodWord ++ (vx_atS RX1 183 "java/lang/IllegalArgumentException" ["java/lang/RuntimeException", "java/lang/Exception"]).filter goodWord)
def wsX1_delayWithFewestClashes : List Cond := .code yX1_delayWithFewestClashes cX1_delayWithFewestClashes 6 (some .int) :: ([.constant RX1 126 (2147483647), .methodLink RX1 140 yX1_clashingMinims, .static yX1_clashingMinims, .initialized RX1, .code yX1_clashingMinims cX1_clashingMinims 11 (some .int), .methodLink RX1 119 Lib.Math.max.name, .static Lib.Math.max.name, .initialized "java/lang/Math", .code Lib.Math.max.name Lib.Math.max.code 2 (some .int), .methodLink RX1 190 Lib.Math.min.name, .static Lib.Math.min.name, .code Lib.Math.min.name Lib.Math.min.code 2 (some .int), .methodLink RX1 193 yX1_signsClash, .static yX1_signsClash, .code yX1_signsClash cX1_signsClash 6 (some .boolean), .methodLink RX1 197 Lib.Math.abs.name, .static Lib.Math.abs.name, .code Lib.Math.abs.name Lib.Math.abs.code 1 (some .int), .instanceMethod yX0_isRest, .initialized RX0, .selects RX0 yX0_isRest yX0_isRest, .code yX0_isRest cX0_isRest 2 (some .boolean), .fieldLink RX0 19 "ChoirNotes$Voice" "places" "[I"] ++ wsX00)
def wsX1_bestDelay_r1 : List Cond := [Cond.methodLink RX1 34 yX1_knownVoice, Cond.instanceMethod yX1_knownVoice, Cond.selects RX1 yX1_knownVoice yX1_knownVoice, Cond.initialized RX1, Cond.code yX1_knownVoice cX1_knownVoice 2 (some (.object "ChoirNotes$Voice")), Cond.classLink RX1 172 "java/lang/IndexOutOfBoundsException", Cond.initialized "java/lang/IndexOutOfBoundsException", Cond.fieldLink RX1 20 "ChoirNotes" "voiceCount" "I", Cond.fieldLink RX1 11 "ChoirNotes" "book" "[LChoirNotes$Voice;", Cond.methodLink RX1 38 yX1_checkRange, Cond.static yX1_checkRange, Cond.code yX1_checkRange cX1_checkRange 3 none, Cond.classLink RX1 179 "java/lang/IllegalArgumentException", Cond.initialized "java/lang/IllegalArgumentException", Cond.methodLink RX1 156 yX1_delayWithFewestClashes, Cond.static yX1_delayWithFewestClashes, Cond.code yX1_delayWithFewestClashes cX1_delayWithFewestClashes 6 (some .int), Cond.constant RX1 126 (2147483647), Cond.methodLink RX1 140 yX1_clashingMinims, Cond.static yX1_clashingMinims, Cond.code yX1_clashingMinims cX1_clashingMinims 11 (some .int), Cond.methodLink RX1 119 Lib.Math.max.name, Cond.static Lib.Math.max.name, Cond.initialized "java/lang/Math"]
def wsX1_bestDelay_r2 : List Cond := [Cond.code Lib.Math.max.name Lib.Math.max.code 2 (some .int), Cond.methodLink RX1 190 Lib.Math.min.name, Cond.static Lib.Math.min.name, Cond.code Lib.Math.min.name Lib.Math.min.code 2 (some .int), Cond.methodLink RX1 193 yX1_signsClash, Cond.static yX1_signsClash, Cond.code yX1_signsClash cX1_signsClash 6 (some .boolean), Cond.methodLink RX1 197 Lib.Math.abs.name, Cond.static Lib.Math.abs.name, Cond.code Lib.Math.abs.name Lib.Math.abs.code 1 (some .int), Cond.instanceMethod yX0_isRest, Cond.initialized RX0, Cond.selects RX0 yX0_isRest yX0_isRest, Cond.code yX0_isRest cX0_isRest 2 (some .boolean), Cond.fieldLink RX0 19 "ChoirNotes$Voice" "places" "[I"]
def wsX1_bestDelay : List Cond := .code yX1_bestDelay cX1_bestDelay 4 (some .int) :: ((wsX1_bestDelay_r1 ++ wsX1_bestDelay_r2) ++ wsX10 ++ wsX00 ++ (vx_atS RX1 176 "java/lang/IndexOutOfBoundsException" ["java/lang/RuntimeException", "java/lang/Exception"]).filter goodWord ++ (vx_atS RX1 183 "java/lang/IllegalArgumentException" ["java/lang/RuntimeException", "java/lang/Exception"]).filter goodWord)
def wsX1_meanLength : List Cond := .code yX1_meanLength cX1_meanLength 3 (some .double) :: ([.fieldLink RX1 20 "ChoirNotes" "voiceCount" "I", .fieldLink RX1 11 "ChoirNotes" "book" "[LChoirNotes$Voice;", .instanceMethod yX0_end, .initialized RX0, .selects RX0 yX0_end yX0_end, .code yX0_end cX0_end 1 (some .int), .fieldLink RX0 29 "ChoirNotes$Voice" "begins" "[I", .fieldLink RX0 45 "ChoirNotes$Voice" "count" "I"] ++ wsX10 ++ wsX00)
def wsX1_mix : List Cond := .code yX1_mix cX1_mix 3 (some .long) :: ([.constantLong RX1 200 (31)])
def wsX1_mixSign : List Cond := .code yX1_mixSign cX1_mixSign 6 (some .long) :: ([.methodLink RX1 161 yX1_mix, .static yX1_mix, .initialized RX1, .code yX1_mix cX1_mix 3 (some .long), .constantLong RX1 200 (31), .instanceMethod yX0_minimsOf, .initialized RX0, .selects RX0 yX0_minimsOf yX0_minimsOf, .code yX0_minimsOf cX0_minimsOf 2 (some .int), .fieldLink RX0 29 "ChoirNotes$Voice" "begins" "[I"] ++ wsX00)
def wsX1_mixVoice_r1 : List Cond := [Cond.methodLink RX1 161 yX1_mix, Cond.static yX1_mix, Cond.initialized RX1, Cond.code yX1_mix cX1_mix 3 (some .long), Cond.constantLong RX1 200 (31), Cond.instanceMethod yX0_countNotes, Cond.initialized RX0, Cond.selects RX0 yX0_countNotes yX0_countNotes, Cond.code yX0_countNotes cX0_countNotes 3 (some .int), Cond.fieldLink RX0 45 "ChoirNotes$Voice" "count" "I", Cond.methodLink RX0 52 yX0_isRest, Cond.instanceMethod yX0_isRest, Cond.selects RX0 yX0_isRest yX0_isRest, Cond.code yX0_isRest cX0_isRest 2 (some .boolean), Cond.fieldLink RX0 19 "ChoirNotes$Voice" "places" "[I", Cond.instanceMethod yX0_countLigatures, Cond.selects RX0 yX0_countLigatures yX0_countLigatures, Cond.code yX0_countLigatures cX0_countLigatures 3 (some .int), Cond.fieldLink RX0 26 "ChoirNotes$Voice" "ranks" "[I", Cond.instanceMethod yX0_end, Cond.selects RX0 yX0_end yX0_end, Cond.code yX0_end cX0_end 1 (some .int), Cond.fieldLink RX0 29 "ChoirNotes$Voice" "begins" "[I", Cond.instanceMethod yX0_countFittingClefs]
def wsX1_mixVoice_r2 : List Cond := [Cond.selects RX0 yX0_countFittingClefs yX0_countFittingClefs, Cond.code yX0_countFittingClefs cX0_countFittingClefs 3 (some .int), Cond.methodLink RX0 56 yX0_wouldFit, Cond.instanceMethod yX0_wouldFit, Cond.selects RX0 yX0_wouldFit yX0_wouldFit, Cond.code yX0_wouldFit cX0_wouldFit 4 (some .boolean), Cond.methodLink RX1 152 yX1_clefWithFewestClashes, Cond.instanceMethod yX1_clefWithFewestClashes, Cond.selects RX1 yX1_clefWithFewestClashes yX1_clefWithFewestClashes, Cond.code yX1_clefWithFewestClashes cX1_clefWithFewestClashes 6 (some .int), Cond.constant RX1 126 (2147483647), Cond.methodLink RX1 148 yX1_clashesIfClef, Cond.instanceMethod yX1_clashesIfClef, Cond.selects RX1 yX1_clashesIfClef yX1_clashesIfClef, Cond.code yX1_clashesIfClef cX1_clashesIfClef 6 (some .int), Cond.fieldLink RX1 20 "ChoirNotes" "voiceCount" "I", Cond.fieldLink RX1 11 "ChoirNotes" "book" "[LChoirNotes$Voice;", Cond.methodLink RX1 140 yX1_clashingMinims, Cond.static yX1_clashingMinims, Cond.code yX1_clashingMinims cX1_clashingMinims 11 (some .int), Cond.methodLink RX1 119 Lib.Math.max.name, Cond.static Lib.Math.max.name, Cond.initialized "java/lang/Math", Cond.code Lib.Math.max.name Lib.Math.max.code 2 (some .int)]
def wsX1_mixVoice_r3 : List Cond := [Cond.methodLink RX1 190 Lib.Math.min.name, Cond.static Lib.Math.min.name, Cond.code Lib.Math.min.name Lib.Math.min.code 2 (some .int), Cond.methodLink RX1 193 yX1_signsClash, Cond.static yX1_signsClash, Cond.code yX1_signsClash cX1_signsClash 6 (some .boolean), Cond.methodLink RX1 197 Lib.Math.abs.name, Cond.static Lib.Math.abs.name, Cond.code Lib.Math.abs.name Lib.Math.abs.code 1 (some .int), Cond.methodLink RX1 156 yX1_delayWithFewestClashes, Cond.static yX1_delayWithFewestClashes, Cond.code yX1_delayWithFewestClashes cX1_delayWithFewestClashes 6 (some .int), Cond.methodLink RX1 202 yX1_mixSign, Cond.static yX1_mixSign, Cond.code yX1_mixSign cX1_mixSign 6 (some .long), Cond.instanceMethod yX0_minimsOf, Cond.selects RX0 yX0_minimsOf yX0_minimsOf, Cond.code yX0_minimsOf cX0_minimsOf 2 (some .int)]
def wsX1_mixVoice : List Cond := .code yX1_mixVoice cX1_mixVoice 7 (some .long) :: ((wsX1_mixVoice_r1 ++ (wsX1_mixVoice_r2 ++ wsX1_mixVoice_r3)) ++ wsX00 ++ wsX10)
def wsX1_digest_r1 : List Cond := [Cond.constantLong RX1 159 (2311), Cond.fieldLink RX1 20 "ChoirNotes" "voiceCount" "I", Cond.fieldLink RX1 11 "ChoirNotes" "book" "[LChoirNotes$Voice;", Cond.methodLink RX1 161 yX1_mix, Cond.static yX1_mix, Cond.initialized RX1, Cond.code yX1_mix cX1_mix 3 (some .long), Cond.constantLong RX1 200 (31), Cond.methodLink RX1 165 yX1_longest, Cond.instanceMethod yX1_longest, Cond.selects RX1 yX1_longest yX1_longest, Cond.code yX1_longest cX1_longest 3 (some .int), Cond.methodLink RX1 119 Lib.Math.max.name, Cond.static Lib.Math.max.name, Cond.initialized "java/lang/Math", Cond.code Lib.Math.max.name Lib.Math.max.code 2 (some .int), Cond.instanceMethod yX0_end, Cond.initialized RX0, Cond.selects RX0 yX0_end yX0_end, Cond.code yX0_end cX0_end 1 (some .int), Cond.fieldLink RX0 29 "ChoirNotes$Voice" "begins" "[I", Cond.fieldLink RX0 45 "ChoirNotes$Voice" "count" "I", Cond.methodLink RX1 168 yX1_mixVoice, Cond.instanceMethod yX1_mixVoice]
def wsX1_digest_r2 : List Cond := [Cond.selects RX1 yX1_mixVoice yX1_mixVoice, Cond.code yX1_mixVoice cX1_mixVoice 7 (some .long), Cond.instanceMethod yX0_countNotes, Cond.selects RX0 yX0_countNotes yX0_countNotes, Cond.code yX0_countNotes cX0_countNotes 3 (some .int), Cond.methodLink RX0 52 yX0_isRest, Cond.instanceMethod yX0_isRest, Cond.selects RX0 yX0_isRest yX0_isRest, Cond.code yX0_isRest cX0_isRest 2 (some .boolean), Cond.fieldLink RX0 19 "ChoirNotes$Voice" "places" "[I", Cond.instanceMethod yX0_countLigatures, Cond.selects RX0 yX0_countLigatures yX0_countLigatures, Cond.code yX0_countLigatures cX0_countLigatures 3 (some .int), Cond.fieldLink RX0 26 "ChoirNotes$Voice" "ranks" "[I", Cond.instanceMethod yX0_countFittingClefs, Cond.selects RX0 yX0_countFittingClefs yX0_countFittingClefs, Cond.code yX0_countFittingClefs cX0_countFittingClefs 3 (some .int), Cond.methodLink RX0 56 yX0_wouldFit, Cond.instanceMethod yX0_wouldFit, Cond.selects RX0 yX0_wouldFit yX0_wouldFit, Cond.code yX0_wouldFit cX0_wouldFit 4 (some .boolean), Cond.methodLink RX1 152 yX1_clefWithFewestClashes, Cond.instanceMethod yX1_clefWithFewestClashes, Cond.selects RX1 yX1_clefWithFewestClashes yX1_clefWithFewestClashes]
def wsX1_digest_r3 : List Cond := [Cond.code yX1_clefWithFewestClashes cX1_clefWithFewestClashes 6 (some .int), Cond.constant RX1 126 (2147483647), Cond.methodLink RX1 148 yX1_clashesIfClef, Cond.instanceMethod yX1_clashesIfClef, Cond.selects RX1 yX1_clashesIfClef yX1_clashesIfClef, Cond.code yX1_clashesIfClef cX1_clashesIfClef 6 (some .int), Cond.methodLink RX1 140 yX1_clashingMinims, Cond.static yX1_clashingMinims, Cond.code yX1_clashingMinims cX1_clashingMinims 11 (some .int), Cond.methodLink RX1 190 Lib.Math.min.name, Cond.static Lib.Math.min.name, Cond.code Lib.Math.min.name Lib.Math.min.code 2 (some .int), Cond.methodLink RX1 193 yX1_signsClash, Cond.static yX1_signsClash, Cond.code yX1_signsClash cX1_signsClash 6 (some .boolean), Cond.methodLink RX1 197 Lib.Math.abs.name, Cond.static Lib.Math.abs.name, Cond.code Lib.Math.abs.name Lib.Math.abs.code 1 (some .int), Cond.methodLink RX1 156 yX1_delayWithFewestClashes, Cond.static yX1_delayWithFewestClashes, Cond.code yX1_delayWithFewestClashes cX1_delayWithFewestClashes 6 (some .int), Cond.methodLink RX1 202 yX1_mixSign, Cond.static yX1_mixSign, Cond.code yX1_mixSign cX1_mixSign 6 (some .long)]
def wsX1_digest_r4 : List Cond := [Cond.instanceMethod yX0_minimsOf, Cond.selects RX0 yX0_minimsOf yX0_minimsOf, Cond.code yX0_minimsOf cX0_minimsOf 2 (some .int)]
def wsX1_digest : List Cond := .code yX1_digest cX1_digest 4 (some .long) :: ((wsX1_digest_r1 ++ (wsX1_digest_r2 ++ (wsX1_digest_r3 ++ wsX1_digest_r4))) ++ wsX10 ++ wsX00)
def wsX2_init : List Cond := .code yX2_init cX2_init 1 none :: ([.methodLink RX2 1 objectInit, .instanceMethod objectInit, .code objectInit ⟨#[0xb1]⟩ 1 none, .arrayClass .int, .fieldLink RX2 9 "ChoirNotesModel" "many" "[I", .fieldLink RX2 13 "ChoirNotesModel" "clef" "[I", .fieldLink RX2 16 "ChoirNotesModel" "measure" "[I", .fieldLink RX2 19 "ChoirNotesModel" "kind" "[I", .fieldLink RX2 22 "ChoirNotesModel" "place" "[I", .arrayClass .boolean, .fieldLink RX2 25 "ChoirNotesModel" "isRed" "[Z", .fieldLink RX2 29 "ChoirNotesModel" "tied" "[I", .fieldLink RX2 32 "ChoirNotesModel" "mine" "[I", .fieldLink RX2 35 "ChoirNotesModel" "theirs" "[I"] ++ wsX20)
def wsX2_thrown : List Cond := .code yX2_thrown cX2_thrown 1 (some .int) :: ([.fieldLink RX2 38 "ChoirNotesModel" "thrown" "I"] ++ wsX20)
def wsX2_fail : List Cond := .code yX2_fail cX2_fail 2 (some .int) :: ([.fieldLink RX2 38 "ChoirNotesModel" "thrown" "I"] ++ wsX20)
def wsX2_told : List Cond := .code yX2_told cX2_told 2 (some .int) :: ([.fieldLink RX2 38 "ChoirNotesModel" "thrown" "I"] ++ wsX20)
def wsX2_isIn : List Cond := .code yX2_isIn cX2_isIn 3 (some .boolean) :: ([])
def wsX2_isVoice : List Cond := .code yX2_isVoice cX2_isVoice 2 (some .boolean) :: ([.fieldLink RX2 42 "ChoirNotesModel" "voices" "I", .methodLink RX2 45 yX2_isIn, .static yX2_isIn, .initialized RX2, .code yX2_isIn cX2_isIn 3 (some .boolean)] ++ wsX20)
def wsX2_isSign : List Cond := .code yX2_isSign cX2_isSign 3 (some .boolean) :: ([.fieldLink RX2 9 "ChoirNotesModel" "many" "[I", .methodLink RX2 49 yX2_isVoice, .instanceMethod yX2_isVoice, .selects RX2 yX2_isVoice yX2_isVoice, .initialized RX2, .code yX2_isVoice cX2_isVoice 2 (some .boolean), .fieldLink RX2 42 "ChoirNotesModel" "voices" "I", .methodLink RX2 45 yX2_isIn, .static yX2_isIn, .code yX2_isIn cX2_isIn 3 (some .boolean)] ++ wsX20)
def wsX2_isMeasure : List Cond := .code yX2_isMeasure cX2_isMeasure 3 (some .boolean) :: ([.methodLink RX2 45 yX2_isIn, .static yX2_isIn, .initialized RX2, .code yX2_isIn cX2_isIn 3 (some .boolean)])
def wsX2_set : List Cond := .code yX2_set cX2_set 5 none :: ([.fieldLink RX2 16 "ChoirNotesModel" "measure" "[I"] ++ wsX20)
def wsX2_put : List Cond := .code yX2_put cX2_put 7 none :: ([.fieldLink RX2 9 "ChoirNotesModel" "many" "[I", .fieldLink RX2 19 "ChoirNotesModel" "kind" "[I", .fieldLink RX2 22 "ChoirNotesModel" "place" "[I", .fieldLink RX2 25 "ChoirNotesModel" "isRed" "[Z", .fieldLink RX2 29 "ChoirNotesModel" "tied" "[I"] ++ wsX20)
def wsX2_lasts : List Cond := .code yX2_lasts cX2_lasts 6 (some .int) :: ([.fieldLink RX2 19 "ChoirNotesModel" "kind" "[I", .fieldLink RX2 25 "ChoirNotesModel" "isRed" "[Z", .fieldLink RX2 16 "ChoirNotesModel" "measure" "[I"] ++ wsX20)
def wsX2_all : List Cond := .code yX2_all cX2_all 4 (some .int) :: ([.fieldLink RX2 9 "ChoirNotesModel" "many" "[I", .methodLink RX2 53 yX2_lasts, .instanceMethod yX2_lasts, .selects RX2 yX2_lasts yX2_lasts, .initialized RX2, .code yX2_lasts cX2_lasts 6 (some .int), .fieldLink RX2 19 "ChoirNotesModel" "kind" "[I", .fieldLink RX2 25 "ChoirNotesModel" "isRed" "[Z", .fieldLink RX2 16 "ChoirNotesModel" "measure" "[I"] ++ wsX20)
def wsX2_lay : List Cond := .code yX2_lay cX2_lay 6 (some .int) :: ([.fieldLink RX2 9 "ChoirNotesModel" "many" "[I", .fieldLink RX2 22 "ChoirNotesModel" "place" "[I", .methodLink RX2 53 yX2_lasts, .instanceMethod yX2_lasts, .selects RX2 yX2_lasts yX2_lasts, .initialized RX2, .code yX2_lasts cX2_lasts 6 (some .int), .fieldLink RX2 19 "ChoirNotesModel" "kind" "[I", .fieldLink RX2 25 "ChoirNotesModel" "isRed" "[Z", .fieldLink RX2 16 "ChoirNotesModel" "measure" "[I"] ++ wsX20)
def wsX2_isClash : List Cond := .code yX2_isClash cX2_isClash 2 (some .boolean) :: ([.methodLink RX2 57 Lib.Math.abs.name, .static Lib.Math.abs.name, .initialized "java/lang/Math", .code Lib.Math.abs.name Lib.Math.abs.code 1 (some .int)])
def wsX2_clash_r1 : List Cond := [Cond.fieldLink RX2 32 "ChoirNotesModel" "mine" "[I", Cond.fieldLink RX2 35 "ChoirNotesModel" "theirs" "[I", Cond.methodLink RX2 67 Lib.Math.min.name, Cond.static Lib.Math.min.name, Cond.initialized "java/lang/Math", Cond.code Lib.Math.min.name Lib.Math.min.code 2 (some .int), Cond.methodLink RX2 63 yX2_lay, Cond.instanceMethod yX2_lay, Cond.selects RX2 yX2_lay yX2_lay, Cond.initialized RX2, Cond.code yX2_lay cX2_lay 6 (some .int), Cond.fieldLink RX2 9 "ChoirNotesModel" "many" "[I", Cond.fieldLink RX2 22 "ChoirNotesModel" "place" "[I", Cond.methodLink RX2 53 yX2_lasts, Cond.instanceMethod yX2_lasts, Cond.selects RX2 yX2_lasts yX2_lasts, Cond.code yX2_lasts cX2_lasts 6 (some .int), Cond.fieldLink RX2 19 "ChoirNotesModel" "kind" "[I", Cond.fieldLink RX2 25 "ChoirNotesModel" "isRed" "[Z", Cond.fieldLink RX2 16 "ChoirNotesModel" "measure" "[I", Cond.methodLink RX2 70 yX2_isClash, Cond.static yX2_isClash, Cond.code yX2_isClash cX2_isClash 2 (some .boolean), Cond.methodLink RX2 57 Lib.Math.abs.name]
def wsX2_clash_r2 : List Cond := [Cond.static Lib.Math.abs.name, Cond.code Lib.Math.abs.name Lib.Math.abs.code 1 (some .int)]
def wsX2_clash : List Cond := .code yX2_clash cX2_clash 9 (some .int) :: ((wsX2_clash_r1 ++ wsX2_clash_r2) ++ wsX20)
def wsX2_addVoice : List Cond := .code yX2_addVoice cX2_addVoice 4 (some .int) :: ([.fieldLink RX2 38 "ChoirNotesModel" "thrown" "I", .fieldLink RX2 42 "ChoirNotesModel" "voices" "I", .fieldLink RX2 13 "ChoirNotesModel" "clef" "[I", .methodLink RX2 73 yX2_isMeasure, .static yX2_isMeasure, .initialized RX2, .code yX2_isMeasure cX2_isMeasure 3 (some .boolean), .methodLink RX2 45 yX2_isIn, .static yX2_isIn, .code yX2_isIn cX2_isIn 3 (some .boolean), .methodLink RX2 76 yX2_fail, .instanceMethod yX2_fail, .selects RX2 yX2_fail yX2_fail, .code yX2_fail cX2_fail 2 (some .int), .methodLink RX2 79 yX2_set, .instanceMethod yX2_set, .selects RX2 yX2_set yX2_set, .code yX2_set cX2_set 5 none, .fieldLink RX2 16 "ChoirNotesModel" "measure" "[I"] ++ wsX20)
def wsX2_addNote : List Cond := .code yX2_addNote cX2_addNote 5 (some .int) :: ([.fieldLink RX2 38 "ChoirNotesModel" "thrown" "I", .fieldLink RX2 9 "ChoirNotesModel" "many" "[I", .methodLink RX2 49 yX2_isVoice, .instanceMethod yX2_isVoice, .selects RX2 yX2_isVoice yX2_isVoice, .initialized RX2, .code yX2_isVoice cX2_isVoice 2 (some .boolean), .fieldLink RX2 42 "ChoirNotesModel" "voices" "I", .methodLink RX2 45 yX2_isIn, .static yX2_isIn, .code yX2_isIn cX2_isIn 3 (some .boolean), .methodLink RX2 76 yX2_fail, .instanceMethod yX2_fail, .selects RX2 yX2_fail yX2_fail, .code yX2_fail cX2_fail 2 (some .int), .methodLink RX2 83 yX2_put, .instanceMethod yX2_put, .selects RX2 yX2_put yX2_put, .code yX2_put cX2_put 7 none, .fieldLink RX2 19 "ChoirNotesModel" "kind" "[I", .fieldLink RX2 22 "ChoirNotesModel" "place" "[I", .fieldLink RX2 25 "ChoirNotesModel" "isRed" "[Z", .fieldLink RX2 29 "ChoirNotesModel" "tied" "[I"] ++ wsX20)
def wsX2_addRest : List Cond := .code yX2_addRest cX2_addRest 3 (some .int) :: ([.fieldLink RX2 38 "ChoirNotesModel" "thrown" "I", .fieldLink RX2 9 "ChoirNotesModel" "many" "[I", .methodLink RX2 49 yX2_isVoice, .instanceMethod yX2_isVoice, .selects RX2 yX2_isVoice yX2_isVoice, .initialized RX2, .code yX2_isVoice cX2_isVoice 2 (some .boolean), .fieldLink RX2 42 "ChoirNotesModel" "voices" "I", .methodLink RX2 45 yX2_isIn, .static yX2_isIn, .code yX2_isIn cX2_isIn 3 (some .boolean), .methodLink RX2 76 yX2_fail, .instanceMethod yX2_fail, .selects RX2 yX2_fail yX2_fail, .code yX2_fail cX2_fail 2 (some .int), .methodLink RX2 83 yX2_put, .instanceMethod yX2_put, .selects RX2 yX2_put yX2_put, .code yX2_put cX2_put 7 none, .fieldLink RX2 19 "ChoirNotesModel" "kind" "[I", .fieldLink RX2 22 "ChoirNotesModel" "place" "[I", .fieldLink RX2 25 "ChoirNotesModel" "isRed" "[Z", .fieldLink RX2 29 "ChoirNotesModel" "tied" "[I"] ++ wsX20)
def wsX2_addLigature : List Cond := .code yX2_addLigature cX2_addLigature 8 (some .int) :: ([.fieldLink RX2 38 "ChoirNotesModel" "thrown" "I", .fieldLink RX2 9 "ChoirNotesModel" "many" "[I", .methodLink RX2 49 yX2_isVoice, .instanceMethod yX2_isVoice, .selects RX2 yX2_isVoice yX2_isVoice, .initialized RX2, .code yX2_isVoice cX2_isVoice 2 (some .boolean), .fieldLink RX2 42 "ChoirNotesModel" "voices" "I", .methodLink RX2 45 yX2_isIn, .static yX2_isIn, .code yX2_isIn cX2_isIn 3 (some .boolean), .methodLink RX2 76 yX2_fail, .instanceMethod yX2_fail, .selects RX2 yX2_fail yX2_fail, .code yX2_fail cX2_fail 2 (some .int), .methodLink RX2 83 yX2_put, .instanceMethod yX2_put, .selects RX2 yX2_put yX2_put, .code yX2_put cX2_put 7 none, .fieldLink RX2 19 "ChoirNotesModel" "kind" "[I", .fieldLink RX2 22 "ChoirNotesModel" "place" "[I", .fieldLink RX2 25 "ChoirNotesModel" "isRed" "[Z", .fieldLink RX2 29 "ChoirNotesModel" "tied" "[I"] ++ wsX20)
def wsX2_erase : List Cond := .code yX2_erase cX2_erase 3 (some .int) :: ([.fieldLink RX2 38 "ChoirNotesModel" "thrown" "I", .fieldLink RX2 9 "ChoirNotesModel" "many" "[I", .fieldLink RX2 29 "ChoirNotesModel" "tied" "[I", .methodLink RX2 87 Lib.Math.max.name, .static Lib.Math.max.name, .initialized "java/lang/Math", .code Lib.Math.max.name Lib.Math.max.code 2 (some .int), .methodLink RX2 49 yX2_isVoice, .instanceMethod yX2_isVoice, .selects RX2 yX2_isVoice yX2_isVoice, .initialized RX2, .code yX2_isVoice cX2_isVoice 2 (some .boolean), .fieldLink RX2 42 "ChoirNotesModel" "voices" "I", .methodLink RX2 45 yX2_isIn, .static yX2_isIn, .code yX2_isIn cX2_isIn 3 (some .boolean), .methodLink RX2 76 yX2_fail, .instanceMethod yX2_fail, .selects RX2 yX2_fail yX2_fail, .code yX2_fail cX2_fail 2 (some .int)] ++ wsX20)
def wsX2_recolour : List Cond := .code yX2_recolour cX2_recolour 4 (some .boolean) :: ([.fieldLink RX2 22 "ChoirNotesModel" "place" "[I", .fieldLink RX2 38 "ChoirNotesModel" "thrown" "I", .fieldLink RX2 25 "ChoirNotesModel" "isRed" "[Z", .methodLink RX2 90 yX2_isSign, .instanceMethod yX2_isSign, .selects RX2 yX2_isSign yX2_isSign, .initialized RX2, .code yX2_isSign cX2_isSign 3 (some .boolean), .fieldLink RX2 9 "ChoirNotesModel" "many" "[I", .methodLink RX2 49 yX2_isVoice, .instanceMethod yX2_isVoice, .selects RX2 yX2_isVoice yX2_isVoice, .code yX2_isVoice cX2_isVoice 2 (some .boolean), .fieldLink RX2 42 "ChoirNotesModel" "voices" "I", .methodLink RX2 45 yX2_isIn, .static yX2_isIn, .code yX2_isIn cX2_isIn 3 (some .boolean)] ++ wsX20)
def wsX2_setClef : List Cond := .code yX2_setClef cX2_setClef 4 (some .int) :: ([.fieldLink RX2 38 "ChoirNotesModel" "thrown" "I", .fieldLink RX2 13 "ChoirNotesModel" "clef" "[I", .methodLink RX2 49 yX2_isVoice, .instanceMethod yX2_isVoice, .selects RX2 yX2_isVoice yX2_isVoice, .initialized RX2, .code yX2_isVoice cX2_isVoice 2 (some .boolean), .fieldLink RX2 42 "ChoirNotesModel" "voices" "I", .methodLink RX2 45 yX2_isIn, .static yX2_isIn, .code yX2_isIn cX2_isIn 3 (some .boolean), .methodLink RX2 76 yX2_fail, .instanceMethod yX2_fail, .selects RX2 yX2_fail yX2_fail, .code yX2_fail cX2_fail 2 (some .int)] ++ wsX20)
def wsX2_setMensuration_r1 : List Cond := [Cond.fieldLink RX2 38 "ChoirNotesModel" "thrown" "I", Cond.methodLink RX2 49 yX2_isVoice, Cond.instanceMethod yX2_isVoice, Cond.selects RX2 yX2_isVoice yX2_isVoice, Cond.initialized RX2, Cond.code yX2_isVoice cX2_isVoice 2 (some .boolean), Cond.fieldLink RX2 42 "ChoirNotesModel" "voices" "I", Cond.methodLink RX2 45 yX2_isIn, Cond.static yX2_isIn, Cond.code yX2_isIn cX2_isIn 3 (some .boolean), Cond.methodLink RX2 76 yX2_fail, Cond.instanceMethod yX2_fail, Cond.selects RX2 yX2_fail yX2_fail, Cond.code yX2_fail cX2_fail 2 (some .int), Cond.methodLink RX2 73 yX2_isMeasure, Cond.static yX2_isMeasure, Cond.code yX2_isMeasure cX2_isMeasure 3 (some .boolean), Cond.methodLink RX2 79 yX2_set, Cond.instanceMethod yX2_set, Cond.selects RX2 yX2_set yX2_set, Cond.code yX2_set cX2_set 5 none, Cond.fieldLink RX2 16 "ChoirNotesModel" "measure" "[I", Cond.methodLink RX2 94 yX2_all, Cond.instanceMethod yX2_all]
def wsX2_setMensuration_r2 : List Cond := [Cond.selects RX2 yX2_all yX2_all, Cond.code yX2_all cX2_all 4 (some .int), Cond.fieldLink RX2 9 "ChoirNotesModel" "many" "[I", Cond.methodLink RX2 53 yX2_lasts, Cond.instanceMethod yX2_lasts, Cond.selects RX2 yX2_lasts yX2_lasts, Cond.code yX2_lasts cX2_lasts 6 (some .int), Cond.fieldLink RX2 19 "ChoirNotesModel" "kind" "[I", Cond.fieldLink RX2 25 "ChoirNotesModel" "isRed" "[Z"]
def wsX2_setMensuration : List Cond := .code yX2_setMensuration cX2_setMensuration 5 (some .int) :: ((wsX2_setMensuration_r1 ++ wsX2_setMensuration_r2) ++ wsX20)
def wsX2_voices : List Cond := .code yX2_voices cX2_voices 1 (some .int) :: ([.fieldLink RX2 42 "ChoirNotesModel" "voices" "I", .methodLink RX2 97 yX2_told, .instanceMethod yX2_told, .selects RX2 yX2_told yX2_told, .initialized RX2, .code yX2_told cX2_told 2 (some .int), .fieldLink RX2 38 "ChoirNotesModel" "thrown" "I"] ++ wsX20)
def wsX2_signs : List Cond := .code yX2_signs cX2_signs 2 (some .int) :: ([.fieldLink RX2 38 "ChoirNotesModel" "thrown" "I", .fieldLink RX2 9 "ChoirNotesModel" "many" "[I", .methodLink RX2 49 yX2_isVoice, .instanceMethod yX2_isVoice, .selects RX2 yX2_isVoice yX2_isVoice, .initialized RX2, .code yX2_isVoice cX2_isVoice 2 (some .boolean), .fieldLink RX2 42 "ChoirNotesModel" "voices" "I", .methodLink RX2 45 yX2_isIn, .static yX2_isIn, .code yX2_isIn cX2_isIn 3 (some .boolean), .methodLink RX2 76 yX2_fail, .instanceMethod yX2_fail, .selects RX2 yX2_fail yX2_fail, .code yX2_fail cX2_fail 2 (some .int)] ++ wsX20)
def wsX2_count : List Cond := .code yX2_count cX2_count 5 (some .int) :: ([.fieldLink RX2 9 "ChoirNotesModel" "many" "[I", .fieldLink RX2 22 "ChoirNotesModel" "place" "[I", .fieldLink RX2 29 "ChoirNotesModel" "tied" "[I"] ++ wsX20)
def wsX2_notes : List Cond := .code yX2_notes cX2_notes 2 (some .int) :: ([.fieldLink RX2 38 "ChoirNotesModel" "thrown" "I", .methodLink RX2 49 yX2_isVoice, .instanceMethod yX2_isVoice, .selects RX2 yX2_isVoice yX2_isVoice, .initialized RX2, .code yX2_isVoice cX2_isVoice 2 (some .boolean), .fieldLink RX2 42 "ChoirNotesModel" "voices" "I", .methodLink RX2 45 yX2_isIn, .static yX2_isIn, .code yX2_isIn cX2_isIn 3 (some .boolean), .methodLink RX2 100 yX2_count, .instanceMethod yX2_count, .selects RX2 yX2_count yX2_count, .code yX2_count cX2_count 5 (some .int), .fieldLink RX2 9 "ChoirNotesModel" "many" "[I", .fieldLink RX2 22 "ChoirNotesModel" "place" "[I", .fieldLink RX2 29 "ChoirNotesModel" "tied" "[I", .methodLink RX2 76 yX2_fail, .instanceMethod yX2_fail, .selects RX2 yX2_fail yX2_fail, .code yX2_fail cX2_fail 2 (some .int)] ++ wsX20)
def wsX2_ligatures : List Cond := .code yX2_ligatures cX2_ligatures 2 (some .int) :: ([.fieldLink RX2 38 "ChoirNotesModel" "thrown" "I", .methodLink RX2 49 yX2_isVoice, .instanceMethod yX2_isVoice, .selects RX2 yX2_isVoice yX2_isVoice, .initialized RX2, .code yX2_isVoice cX2_isVoice 2 (some .boolean), .fieldLink RX2 42 "ChoirNotesModel" "voices" "I", .methodLink RX2 45 yX2_isIn, .static yX2_isIn, .code yX2_isIn cX2_isIn 3 (some .boolean), .methodLink RX2 100 yX2_count, .instanceMethod yX2_count, .selects RX2 yX2_count yX2_count, .code yX2_count cX2_count 5 (some .int), .fieldLink RX2 9 "ChoirNotesModel" "many" "[I", .fieldLink RX2 22 "ChoirNotesModel" "place" "[I", .fieldLink RX2 29 "ChoirNotesModel" "tied" "[I", .methodLink RX2 76 yX2_fail, .instanceMethod yX2_fail, .selects RX2 yX2_fail yX2_fail, .code yX2_fail cX2_fail 2 (some .int)] ++ wsX20)
def wsX2_of : List Cond := .code yX2_of cX2_of 4 (some .int) :: ([.fieldLink RX2 38 "ChoirNotesModel" "thrown" "I", .methodLink RX2 90 yX2_isSign, .instanceMethod yX2_isSign, .selects RX2 yX2_isSign yX2_isSign, .initialized RX2, .code yX2_isSign cX2_isSign 3 (some .boolean), .fieldLink RX2 9 "ChoirNotesModel" "many" "[I", .methodLink RX2 49 yX2_isVoice, .instanceMethod yX2_isVoice, .selects RX2 yX2_isVoice yX2_isVoice, .code yX2_isVoice cX2_isVoice 2 (some .boolean), .fieldLink RX2 42 "ChoirNotesModel" "voices" "I", .methodLink RX2 45 yX2_isIn, .static yX2_isIn, .code yX2_isIn cX2_isIn 3 (some .boolean), .methodLink RX2 76 yX2_fail, .instanceMethod yX2_fail, .selects RX2 yX2_fail yX2_fail, .code yX2_fail cX2_fail 2 (some .int)] ++ wsX20)
def wsX2_kindOf : List Cond := .code yX2_kindOf cX2_kindOf 3 (some .int) :: ([.fieldLink RX2 19 "ChoirNotesModel" "kind" "[I", .methodLink RX2 104 yX2_of, .instanceMethod yX2_of, .selects RX2 yX2_of yX2_of, .initialized RX2, .code yX2_of cX2_of 4 (some .int), .fieldLink RX2 38 "ChoirNotesModel" "thrown" "I", .methodLink RX2 90 yX2_isSign, .instanceMethod yX2_isSign, .selects RX2 yX2_isSign yX2_isSign, .code yX2_isSign cX2_isSign 3 (some .boolean), .fieldLink RX2 9 "ChoirNotesModel" "many" "[I", .methodLink RX2 49 yX2_isVoice, .instanceMethod yX2_isVoice, .selects RX2 yX2_isVoice yX2_isVoice, .code yX2_isVoice cX2_isVoice 2 (some .boolean), .fieldLink RX2 42 "ChoirNotesModel" "voices" "I", .methodLink RX2 45 yX2_isIn, .static yX2_isIn, .code yX2_isIn cX2_isIn 3 (some .boolean), .methodLink RX2 76 yX2_fail, .instanceMethod yX2_fail, .selects RX2 yX2_fail yX2_fail, .code yX2_fail cX2_fail 2 (some .int)] ++ wsX20)
def wsX2_placeOf : List Cond := .code yX2_placeOf cX2_placeOf 3 (some .int) :: ([.fieldLink RX2 22 "ChoirNotesModel" "place" "[I", .methodLink RX2 104 yX2_of, .instanceMethod yX2_of, .selects RX2 yX2_of yX2_of, .initialized RX2, .code yX2_of cX2_of 4 (some .int), .fieldLink RX2 38 "ChoirNotesModel" "thrown" "I", .methodLink RX2 90 yX2_isSign, .instanceMethod yX2_isSign, .selects RX2 yX2_isSign yX2_isSign, .code yX2_isSign cX2_isSign 3 (some .boolean), .fieldLink RX2 9 "ChoirNotesModel" "many" "[I", .methodLink RX2 49 yX2_isVoice, .instanceMethod yX2_isVoice, .selects RX2 yX2_isVoice yX2_isVoice, .code yX2_isVoice cX2_isVoice 2 (some .boolean), .fieldLink RX2 42 "ChoirNotesModel" "voices" "I", .methodLink RX2 45 yX2_isIn, .static yX2_isIn, .code yX2_isIn cX2_isIn 3 (some .boolean), .methodLink RX2 76 yX2_fail, .instanceMethod yX2_fail, .selects RX2 yX2_fail yX2_fail, .code yX2_fail cX2_fail 2 (some .int)] ++ wsX20)
def wsX2_isColoured : List Cond := .code yX2_isColoured cX2_isColoured 3 (some .boolean) :: ([.fieldLink RX2 38 "ChoirNotesModel" "thrown" "I", .fieldLink RX2 25 "ChoirNotesModel" "isRed" "[Z", .methodLink RX2 90 yX2_isSign, .instanceMethod yX2_isSign, .selects RX2 yX2_isSign yX2_isSign, .initialized RX2, .code yX2_isSign cX2_isSign 3 (some .boolean), .fieldLink RX2 9 "ChoirNotesModel" "many" "[I", .methodLink RX2 49 yX2_isVoice, .instanceMethod yX2_isVoice, .selects RX2 yX2_isVoice yX2_isVoice, .code yX2_isVoice cX2_isVoice 2 (some .boolean), .fieldLink RX2 42 "ChoirNotesModel" "voices" "I", .methodLink RX2 45 yX2_isIn, .static yX2_isIn, .code yX2_isIn cX2_isIn 3 (some .boolean)] ++ wsX20)
def wsX2_placeInLigature : List Cond := .code yX2_placeInLigature cX2_placeInLigature 3 (some .int) :: ([.fieldLink RX2 29 "ChoirNotesModel" "tied" "[I", .methodLink RX2 104 yX2_of, .instanceMethod yX2_of, .selects RX2 yX2_of yX2_of, .initialized RX2, .code yX2_of cX2_of 4 (some .int), .fieldLink RX2 38 "ChoirNotesModel" "thrown" "I", .methodLink RX2 90 yX2_isSign, .instanceMethod yX2_isSign, .selects RX2 yX2_isSign yX2_isSign, .code yX2_isSign cX2_isSign 3 (some .boolean), .fieldLink RX2 9 "ChoirNotesModel" "many" "[I", .methodLink RX2 49 yX2_isVoice, .instanceMethod yX2_isVoice, .selects RX2 yX2_isVoice yX2_isVoice, .code yX2_isVoice cX2_isVoice 2 (some .boolean), .fieldLink RX2 42 "ChoirNotesModel" "voices" "I", .methodLink RX2 45 yX2_isIn, .static yX2_isIn, .code yX2_isIn cX2_isIn 3 (some .boolean), .methodLink RX2 76 yX2_fail, .instanceMethod yX2_fail, .selects RX2 yX2_fail yX2_fail, .code yX2_fail cX2_fail 2 (some .int)] ++ wsX20)
def wsX2_lengthOf_r1 : List Cond := [Cond.fieldLink RX2 38 "ChoirNotesModel" "thrown" "I", Cond.methodLink RX2 90 yX2_isSign, Cond.instanceMethod yX2_isSign, Cond.selects RX2 yX2_isSign yX2_isSign, Cond.initialized RX2, Cond.code yX2_isSign cX2_isSign 3 (some .boolean), Cond.fieldLink RX2 9 "ChoirNotesModel" "many" "[I", Cond.methodLink RX2 49 yX2_isVoice, Cond.instanceMethod yX2_isVoice, Cond.selects RX2 yX2_isVoice yX2_isVoice, Cond.code yX2_isVoice cX2_isVoice 2 (some .boolean), Cond.fieldLink RX2 42 "ChoirNotesModel" "voices" "I", Cond.methodLink RX2 45 yX2_isIn, Cond.static yX2_isIn, Cond.code yX2_isIn cX2_isIn 3 (some .boolean), Cond.methodLink RX2 53 yX2_lasts, Cond.instanceMethod yX2_lasts, Cond.selects RX2 yX2_lasts yX2_lasts, Cond.code yX2_lasts cX2_lasts 6 (some .int), Cond.fieldLink RX2 19 "ChoirNotesModel" "kind" "[I", Cond.fieldLink RX2 25 "ChoirNotesModel" "isRed" "[Z", Cond.fieldLink RX2 16 "ChoirNotesModel" "measure" "[I", Cond.methodLink RX2 76 yX2_fail, Cond.instanceMethod yX2_fail]
def wsX2_lengthOf_r2 : List Cond := [Cond.selects RX2 yX2_fail yX2_fail, Cond.code yX2_fail cX2_fail 2 (some .int)]
def wsX2_lengthOf : List Cond := .code yX2_lengthOf cX2_lengthOf 3 (some .int) :: ((wsX2_lengthOf_r1 ++ wsX2_lengthOf_r2) ++ wsX20)
def wsX2_begins : List Cond := .code yX2_begins cX2_begins 5 (some .int) :: ([.methodLink RX2 53 yX2_lasts, .instanceMethod yX2_lasts, .selects RX2 yX2_lasts yX2_lasts, .initialized RX2, .code yX2_lasts cX2_lasts 6 (some .int), .fieldLink RX2 19 "ChoirNotesModel" "kind" "[I", .fieldLink RX2 25 "ChoirNotesModel" "isRed" "[Z", .fieldLink RX2 16 "ChoirNotesModel" "measure" "[I"] ++ wsX20)
def wsX2_beginOf_r1 : List Cond := [Cond.fieldLink RX2 38 "ChoirNotesModel" "thrown" "I", Cond.methodLink RX2 90 yX2_isSign, Cond.instanceMethod yX2_isSign, Cond.selects RX2 yX2_isSign yX2_isSign, Cond.initialized RX2, Cond.code yX2_isSign cX2_isSign 3 (some .boolean), Cond.fieldLink RX2 9 "ChoirNotesModel" "many" "[I", Cond.methodLink RX2 49 yX2_isVoice, Cond.instanceMethod yX2_isVoice, Cond.selects RX2 yX2_isVoice yX2_isVoice, Cond.code yX2_isVoice cX2_isVoice 2 (some .boolean), Cond.fieldLink RX2 42 "ChoirNotesModel" "voices" "I", Cond.methodLink RX2 45 yX2_isIn, Cond.static yX2_isIn, Cond.code yX2_isIn cX2_isIn 3 (some .boolean), Cond.methodLink RX2 108 yX2_begins, Cond.instanceMethod yX2_begins, Cond.selects RX2 yX2_begins yX2_begins, Cond.code yX2_begins cX2_begins 5 (some .int), Cond.methodLink RX2 53 yX2_lasts, Cond.instanceMethod yX2_lasts, Cond.selects RX2 yX2_lasts yX2_lasts, Cond.code yX2_lasts cX2_lasts 6 (some .int), Cond.fieldLink RX2 19 "ChoirNotesModel" "kind" "[I"]
def wsX2_beginOf_r2 : List Cond := [Cond.fieldLink RX2 25 "ChoirNotesModel" "isRed" "[Z", Cond.fieldLink RX2 16 "ChoirNotesModel" "measure" "[I", Cond.methodLink RX2 76 yX2_fail, Cond.instanceMethod yX2_fail, Cond.selects RX2 yX2_fail yX2_fail, Cond.code yX2_fail cX2_fail 2 (some .int)]
def wsX2_beginOf : List Cond := .code yX2_beginOf cX2_beginOf 3 (some .int) :: ((wsX2_beginOf_r1 ++ wsX2_beginOf_r2) ++ wsX20)
def wsX2_length_r1 : List Cond := [Cond.fieldLink RX2 38 "ChoirNotesModel" "thrown" "I", Cond.methodLink RX2 49 yX2_isVoice, Cond.instanceMethod yX2_isVoice, Cond.selects RX2 yX2_isVoice yX2_isVoice, Cond.initialized RX2, Cond.code yX2_isVoice cX2_isVoice 2 (some .boolean), Cond.fieldLink RX2 42 "ChoirNotesModel" "voices" "I", Cond.methodLink RX2 45 yX2_isIn, Cond.static yX2_isIn, Cond.code yX2_isIn cX2_isIn 3 (some .boolean), Cond.methodLink RX2 94 yX2_all, Cond.instanceMethod yX2_all, Cond.selects RX2 yX2_all yX2_all, Cond.code yX2_all cX2_all 4 (some .int), Cond.fieldLink RX2 9 "ChoirNotesModel" "many" "[I", Cond.methodLink RX2 53 yX2_lasts, Cond.instanceMethod yX2_lasts, Cond.selects RX2 yX2_lasts yX2_lasts, Cond.code yX2_lasts cX2_lasts 6 (some .int), Cond.fieldLink RX2 19 "ChoirNotesModel" "kind" "[I", Cond.fieldLink RX2 25 "ChoirNotesModel" "isRed" "[Z", Cond.fieldLink RX2 16 "ChoirNotesModel" "measure" "[I", Cond.methodLink RX2 76 yX2_fail, Cond.instanceMethod yX2_fail]
def wsX2_length_r2 : List Cond := [Cond.selects RX2 yX2_fail yX2_fail, Cond.code yX2_fail cX2_fail 2 (some .int)]
def wsX2_length : List Cond := .code yX2_length cX2_length 2 (some .int) :: ((wsX2_length_r1 ++ wsX2_length_r2) ++ wsX20)
def wsX2_most : List Cond := .code yX2_most cX2_most 3 (some .int) :: ([.fieldLink RX2 42 "ChoirNotesModel" "voices" "I", .methodLink RX2 87 Lib.Math.max.name, .static Lib.Math.max.name, .initialized "java/lang/Math", .code Lib.Math.max.name Lib.Math.max.code 2 (some .int), .methodLink RX2 94 yX2_all, .instanceMethod yX2_all, .selects RX2 yX2_all yX2_all, .initialized RX2, .code yX2_all cX2_all 4 (some .int), .fieldLink RX2 9 "ChoirNotesModel" "many" "[I", .methodLink RX2 53 yX2_lasts, .instanceMethod yX2_lasts, .selects RX2 yX2_lasts yX2_lasts, .code yX2_lasts cX2_lasts 6 (some .int), .fieldLink RX2 19 "ChoirNotesModel" "kind" "[I", .fieldLink RX2 25 "ChoirNotesModel" "isRed" "[Z", .fieldLink RX2 16 "ChoirNotesModel" "measure" "[I"] ++ wsX20)
def wsX2_longest_r1 : List Cond := [Cond.methodLink RX2 111 yX2_most, Cond.instanceMethod yX2_most, Cond.selects RX2 yX2_most yX2_most, Cond.initialized RX2, Cond.code yX2_most cX2_most 3 (some .int), Cond.fieldLink RX2 42 "ChoirNotesModel" "voices" "I", Cond.methodLink RX2 87 Lib.Math.max.name, Cond.static Lib.Math.max.name, Cond.initialized "java/lang/Math", Cond.code Lib.Math.max.name Lib.Math.max.code 2 (some .int), Cond.methodLink RX2 94 yX2_all, Cond.instanceMethod yX2_all, Cond.selects RX2 yX2_all yX2_all, Cond.code yX2_all cX2_all 4 (some .int), Cond.fieldLink RX2 9 "ChoirNotesModel" "many" "[I", Cond.methodLink RX2 53 yX2_lasts, Cond.instanceMethod yX2_lasts, Cond.selects RX2 yX2_lasts yX2_lasts, Cond.code yX2_lasts cX2_lasts 6 (some .int), Cond.fieldLink RX2 19 "ChoirNotesModel" "kind" "[I", Cond.fieldLink RX2 25 "ChoirNotesModel" "isRed" "[Z", Cond.fieldLink RX2 16 "ChoirNotesModel" "measure" "[I", Cond.methodLink RX2 97 yX2_told, Cond.instanceMethod yX2_told]
def wsX2_longest_r2 : List Cond := [Cond.selects RX2 yX2_told yX2_told, Cond.code yX2_told cX2_told 2 (some .int), Cond.fieldLink RX2 38 "ChoirNotesModel" "thrown" "I"]
def wsX2_longest : List Cond := .code yX2_longest cX2_longest 1 (some .int) :: ((wsX2_longest_r1 ++ wsX2_longest_r2) ++ wsX20)
def wsX2_signAt : List Cond := .code yX2_signAt cX2_signAt 5 (some .int) :: ([.fieldLink RX2 38 "ChoirNotesModel" "thrown" "I", .fieldLink RX2 9 "ChoirNotesModel" "many" "[I", .methodLink RX2 49 yX2_isVoice, .instanceMethod yX2_isVoice, .selects RX2 yX2_isVoice yX2_isVoice, .initialized RX2, .code yX2_isVoice cX2_isVoice 2 (some .boolean), .fieldLink RX2 42 "ChoirNotesModel" "voices" "I", .methodLink RX2 45 yX2_isIn, .static yX2_isIn, .code yX2_isIn cX2_isIn 3 (some .boolean), .methodLink RX2 76 yX2_fail, .instanceMethod yX2_fail, .selects RX2 yX2_fail yX2_fail, .code yX2_fail cX2_fail 2 (some .int), .methodLink RX2 53 yX2_lasts, .instanceMethod yX2_lasts, .selects RX2 yX2_lasts yX2_lasts, .code yX2_lasts cX2_lasts 6 (some .int), .fieldLink RX2 19 "ChoirNotesModel" "kind" "[I", .fieldLink RX2 25 "ChoirNotesModel" "isRed" "[Z", .fieldLink RX2 16 "ChoirNotesModel" "measure" "[I"] ++ wsX20)
def wsX2_clefOf : List Cond := .code yX2_clefOf cX2_clefOf 2 (some .int) :: ([.fieldLink RX2 38 "ChoirNotesModel" "thrown" "I", .fieldLink RX2 13 "ChoirNotesModel" "clef" "[I", .methodLink RX2 49 yX2_isVoice, .instanceMethod yX2_isVoice, .selects RX2 yX2_isVoice yX2_isVoice, .initialized RX2, .code yX2_isVoice cX2_isVoice 2 (some .boolean), .fieldLink RX2 42 "ChoirNotesModel" "voices" "I", .methodLink RX2 45 yX2_isIn, .static yX2_isIn, .code yX2_isIn cX2_isIn 3 (some .boolean), .methodLink RX2 76 yX2_fail, .instanceMethod yX2_fail, .selects RX2 yX2_fail yX2_fail, .code yX2_fail cX2_fail 2 (some .int)] ++ wsX20)
def wsX2_pitchOf : List Cond := .code yX2_pitchOf cX2_pitchOf 4 (some .int) :: ([.fieldLink RX2 38 "ChoirNotesModel" "thrown" "I", .fieldLink RX2 13 "ChoirNotesModel" "clef" "[I", .fieldLink RX2 22 "ChoirNotesModel" "place" "[I", .methodLink RX2 90 yX2_isSign, .instanceMethod yX2_isSign, .selects RX2 yX2_isSign yX2_isSign, .initialized RX2, .code yX2_isSign cX2_isSign 3 (some .boolean), .fieldLink RX2 9 "ChoirNotesModel" "many" "[I", .methodLink RX2 49 yX2_isVoice, .instanceMethod yX2_isVoice, .selects RX2 yX2_isVoice yX2_isVoice, .code yX2_isVoice cX2_isVoice 2 (some .boolean), .fieldLink RX2 42 "ChoirNotesModel" "voices" "I", .methodLink RX2 45 yX2_isIn, .static yX2_isIn, .code yX2_isIn cX2_isIn 3 (some .boolean), .methodLink RX2 76 yX2_fail, .instanceMethod yX2_fail, .selects RX2 yX2_fail yX2_fail, .code yX2_fail cX2_fail 2 (some .int)] ++ wsX20)
def wsX2_fit : List Cond := .code yX2_fit cX2_fit 4 (some .boolean) :: ([.fieldLink RX2 9 "ChoirNotesModel" "many" "[I", .fieldLink RX2 22 "ChoirNotesModel" "place" "[I", .methodLink RX2 45 yX2_isIn, .static yX2_isIn, .initialized RX2, .code yX2_isIn cX2_isIn 3 (some .boolean)] ++ wsX20)
def wsX2_fits : List Cond := .code yX2_fits cX2_fits 3 (some .boolean) :: ([.fieldLink RX2 38 "ChoirNotesModel" "thrown" "I", .methodLink RX2 49 yX2_isVoice, .instanceMethod yX2_isVoice, .selects RX2 yX2_isVoice yX2_isVoice, .initialized RX2, .code yX2_isVoice cX2_isVoice 2 (some .boolean), .fieldLink RX2 42 "ChoirNotesModel" "voices" "I", .methodLink RX2 45 yX2_isIn, .static yX2_isIn, .code yX2_isIn cX2_isIn 3 (some .boolean), .methodLink RX2 115 yX2_fit, .instanceMethod yX2_fit, .selects RX2 yX2_fit yX2_fit, .code yX2_fit cX2_fit 4 (some .boolean), .fieldLink RX2 9 "ChoirNotesModel" "many" "[I", .fieldLink RX2 22 "ChoirNotesModel" "place" "[I"] ++ wsX20)
def wsX2_fitting : List Cond := .code yX2_fitting cX2_fitting 4 (some .int) :: ([.methodLink RX2 115 yX2_fit, .instanceMethod yX2_fit, .selects RX2 yX2_fit yX2_fit, .initialized RX2, .code yX2_fit cX2_fit 4 (some .boolean), .fieldLink RX2 9 "ChoirNotesModel" "many" "[I", .fieldLink RX2 22 "ChoirNotesModel" "place" "[I", .methodLink RX2 45 yX2_isIn, .static yX2_isIn, .code yX2_isIn cX2_isIn 3 (some .boolean)] ++ wsX20)
def wsX2_clefsThatFit : List Cond := .code yX2_clefsThatFit cX2_clefsThatFit 2 (some .int) :: ([.fieldLink RX2 38 "ChoirNotesModel" "thrown" "I", .methodLink RX2 49 yX2_isVoice, .instanceMethod yX2_isVoice, .selects RX2 yX2_isVoice yX2_isVoice, .initialized RX2, .code yX2_isVoice cX2_isVoice 2 (some .boolean), .fieldLink RX2 42 "ChoirNotesModel" "voices" "I", .methodLink RX2 45 yX2_isIn, .static yX2_isIn, .code yX2_isIn cX2_isIn 3 (some .boolean), .methodLink RX2 118 yX2_fitting, .instanceMethod yX2_fitting, .selects RX2 yX2_fitting yX2_fitting, .code yX2_fitting cX2_fitting 4 (some .int), .methodLink RX2 115 yX2_fit, .instanceMethod yX2_fit, .selects RX2 yX2_fit yX2_fit, .code yX2_fit cX2_fit 4 (some .boolean), .fieldLink RX2 9 "ChoirNotesModel" "many" "[I", .fieldLink RX2 22 "ChoirNotesModel" "place" "[I", .methodLink RX2 76 yX2_fail, .instanceMethod yX2_fail, .selects RX2 yX2_fail yX2_fail, .code yX2_fail cX2_fail 2 (some .int)] ++ wsX20)
def wsX2_both_r1 : List Cond := [Cond.fieldLink RX2 38 "ChoirNotesModel" "thrown" "I", Cond.fieldLink RX2 13 "ChoirNotesModel" "clef" "[I", Cond.methodLink RX2 49 yX2_isVoice, Cond.instanceMethod yX2_isVoice, Cond.selects RX2 yX2_isVoice yX2_isVoice, Cond.initialized RX2, Cond.code yX2_isVoice cX2_isVoice 2 (some .boolean), Cond.fieldLink RX2 42 "ChoirNotesModel" "voices" "I", Cond.methodLink RX2 45 yX2_isIn, Cond.static yX2_isIn, Cond.code yX2_isIn cX2_isIn 3 (some .boolean), Cond.methodLink RX2 76 yX2_fail, Cond.instanceMethod yX2_fail, Cond.selects RX2 yX2_fail yX2_fail, Cond.code yX2_fail cX2_fail 2 (some .int), Cond.methodLink RX2 121 yX2_clash, Cond.instanceMethod yX2_clash, Cond.selects RX2 yX2_clash yX2_clash, Cond.code yX2_clash cX2_clash 9 (some .int), Cond.fieldLink RX2 32 "ChoirNotesModel" "mine" "[I", Cond.fieldLink RX2 35 "ChoirNotesModel" "theirs" "[I", Cond.methodLink RX2 67 Lib.Math.min.name, Cond.static Lib.Math.min.name, Cond.initialized "java/lang/Math"]
def wsX2_both_r2 : List Cond := [Cond.code Lib.Math.min.name Lib.Math.min.code 2 (some .int), Cond.methodLink RX2 63 yX2_lay, Cond.instanceMethod yX2_lay, Cond.selects RX2 yX2_lay yX2_lay, Cond.code yX2_lay cX2_lay 6 (some .int), Cond.fieldLink RX2 9 "ChoirNotesModel" "many" "[I", Cond.fieldLink RX2 22 "ChoirNotesModel" "place" "[I", Cond.methodLink RX2 53 yX2_lasts, Cond.instanceMethod yX2_lasts, Cond.selects RX2 yX2_lasts yX2_lasts, Cond.code yX2_lasts cX2_lasts 6 (some .int), Cond.fieldLink RX2 19 "ChoirNotesModel" "kind" "[I", Cond.fieldLink RX2 25 "ChoirNotesModel" "isRed" "[Z", Cond.fieldLink RX2 16 "ChoirNotesModel" "measure" "[I", Cond.methodLink RX2 70 yX2_isClash, Cond.static yX2_isClash, Cond.code yX2_isClash cX2_isClash 2 (some .boolean), Cond.methodLink RX2 57 Lib.Math.abs.name, Cond.static Lib.Math.abs.name, Cond.code Lib.Math.abs.name Lib.Math.abs.code 1 (some .int)]
def wsX2_both : List Cond := .code yX2_both cX2_both 4 (some .int) :: ((wsX2_both_r1 ++ wsX2_both_r2) ++ wsX20)
def wsX2_clashes_r1 : List Cond := [Cond.methodLink RX2 125 yX2_both, Cond.instanceMethod yX2_both, Cond.selects RX2 yX2_both yX2_both, Cond.initialized RX2, Cond.code yX2_both cX2_both 4 (some .int), Cond.fieldLink RX2 38 "ChoirNotesModel" "thrown" "I", Cond.fieldLink RX2 13 "ChoirNotesModel" "clef" "[I", Cond.methodLink RX2 49 yX2_isVoice, Cond.instanceMethod yX2_isVoice, Cond.selects RX2 yX2_isVoice yX2_isVoice, Cond.code yX2_isVoice cX2_isVoice 2 (some .boolean), Cond.fieldLink RX2 42 "ChoirNotesModel" "voices" "I", Cond.methodLink RX2 45 yX2_isIn, Cond.static yX2_isIn, Cond.code yX2_isIn cX2_isIn 3 (some .boolean), Cond.methodLink RX2 76 yX2_fail, Cond.instanceMethod yX2_fail, Cond.selects RX2 yX2_fail yX2_fail, Cond.code yX2_fail cX2_fail 2 (some .int), Cond.methodLink RX2 121 yX2_clash, Cond.instanceMethod yX2_clash, Cond.selects RX2 yX2_clash yX2_clash, Cond.code yX2_clash cX2_clash 9 (some .int), Cond.fieldLink RX2 32 "ChoirNotesModel" "mine" "[I"]
def wsX2_clashes_r2 : List Cond := [Cond.fieldLink RX2 35 "ChoirNotesModel" "theirs" "[I", Cond.methodLink RX2 67 Lib.Math.min.name, Cond.static Lib.Math.min.name, Cond.initialized "java/lang/Math", Cond.code Lib.Math.min.name Lib.Math.min.code 2 (some .int), Cond.methodLink RX2 63 yX2_lay, Cond.instanceMethod yX2_lay, Cond.selects RX2 yX2_lay yX2_lay, Cond.code yX2_lay cX2_lay 6 (some .int), Cond.fieldLink RX2 9 "ChoirNotesModel" "many" "[I", Cond.fieldLink RX2 22 "ChoirNotesModel" "place" "[I", Cond.methodLink RX2 53 yX2_lasts, Cond.instanceMethod yX2_lasts, Cond.selects RX2 yX2_lasts yX2_lasts, Cond.code yX2_lasts cX2_lasts 6 (some .int), Cond.fieldLink RX2 19 "ChoirNotesModel" "kind" "[I", Cond.fieldLink RX2 25 "ChoirNotesModel" "isRed" "[Z", Cond.fieldLink RX2 16 "ChoirNotesModel" "measure" "[I", Cond.methodLink RX2 70 yX2_isClash, Cond.static yX2_isClash, Cond.code yX2_isClash cX2_isClash 2 (some .boolean), Cond.methodLink RX2 57 Lib.Math.abs.name, Cond.static Lib.Math.abs.name, Cond.code Lib.Math.abs.name Lib.Math.abs.code 1 (some .int)]
def wsX2_clashes : List Cond := .code yX2_clashes cX2_clashes 3 (some .int) :: ((wsX2_clashes_r1 ++ wsX2_clashes_r2) ++ wsX20)
def wsX2_firstClash_r1 : List Cond := [Cond.methodLink RX2 125 yX2_both, Cond.instanceMethod yX2_both, Cond.selects RX2 yX2_both yX2_both, Cond.initialized RX2, Cond.code yX2_both cX2_both 4 (some .int), Cond.fieldLink RX2 38 "ChoirNotesModel" "thrown" "I", Cond.fieldLink RX2 13 "ChoirNotesModel" "clef" "[I", Cond.methodLink RX2 49 yX2_isVoice, Cond.instanceMethod yX2_isVoice, Cond.selects RX2 yX2_isVoice yX2_isVoice, Cond.code yX2_isVoice cX2_isVoice 2 (some .boolean), Cond.fieldLink RX2 42 "ChoirNotesModel" "voices" "I", Cond.methodLink RX2 45 yX2_isIn, Cond.static yX2_isIn, Cond.code yX2_isIn cX2_isIn 3 (some .boolean), Cond.methodLink RX2 76 yX2_fail, Cond.instanceMethod yX2_fail, Cond.selects RX2 yX2_fail yX2_fail, Cond.code yX2_fail cX2_fail 2 (some .int), Cond.methodLink RX2 121 yX2_clash, Cond.instanceMethod yX2_clash, Cond.selects RX2 yX2_clash yX2_clash, Cond.code yX2_clash cX2_clash 9 (some .int), Cond.fieldLink RX2 32 "ChoirNotesModel" "mine" "[I"]
def wsX2_firstClash_r2 : List Cond := [Cond.fieldLink RX2 35 "ChoirNotesModel" "theirs" "[I", Cond.methodLink RX2 67 Lib.Math.min.name, Cond.static Lib.Math.min.name, Cond.initialized "java/lang/Math", Cond.code Lib.Math.min.name Lib.Math.min.code 2 (some .int), Cond.methodLink RX2 63 yX2_lay, Cond.instanceMethod yX2_lay, Cond.selects RX2 yX2_lay yX2_lay, Cond.code yX2_lay cX2_lay 6 (some .int), Cond.fieldLink RX2 9 "ChoirNotesModel" "many" "[I", Cond.fieldLink RX2 22 "ChoirNotesModel" "place" "[I", Cond.methodLink RX2 53 yX2_lasts, Cond.instanceMethod yX2_lasts, Cond.selects RX2 yX2_lasts yX2_lasts, Cond.code yX2_lasts cX2_lasts 6 (some .int), Cond.fieldLink RX2 19 "ChoirNotesModel" "kind" "[I", Cond.fieldLink RX2 25 "ChoirNotesModel" "isRed" "[Z", Cond.fieldLink RX2 16 "ChoirNotesModel" "measure" "[I", Cond.methodLink RX2 70 yX2_isClash, Cond.static yX2_isClash, Cond.code yX2_isClash cX2_isClash 2 (some .boolean), Cond.methodLink RX2 57 Lib.Math.abs.name, Cond.static Lib.Math.abs.name, Cond.code Lib.Math.abs.name Lib.Math.abs.code 1 (some .int)]
def wsX2_firstClash : List Cond := .code yX2_firstClash cX2_firstClash 3 (some .int) :: ((wsX2_firstClash_r1 ++ wsX2_firstClash_r2) ++ wsX20)
def wsX2_withAll_r1 : List Cond := [Cond.fieldLink RX2 42 "ChoirNotesModel" "voices" "I", Cond.fieldLink RX2 13 "ChoirNotesModel" "clef" "[I", Cond.methodLink RX2 121 yX2_clash, Cond.instanceMethod yX2_clash, Cond.selects RX2 yX2_clash yX2_clash, Cond.initialized RX2, Cond.code yX2_clash cX2_clash 9 (some .int), Cond.fieldLink RX2 32 "ChoirNotesModel" "mine" "[I", Cond.fieldLink RX2 35 "ChoirNotesModel" "theirs" "[I", Cond.methodLink RX2 67 Lib.Math.min.name, Cond.static Lib.Math.min.name, Cond.initialized "java/lang/Math", Cond.code Lib.Math.min.name Lib.Math.min.code 2 (some .int), Cond.methodLink RX2 63 yX2_lay, Cond.instanceMethod yX2_lay, Cond.selects RX2 yX2_lay yX2_lay, Cond.code yX2_lay cX2_lay 6 (some .int), Cond.fieldLink RX2 9 "ChoirNotesModel" "many" "[I", Cond.fieldLink RX2 22 "ChoirNotesModel" "place" "[I", Cond.methodLink RX2 53 yX2_lasts, Cond.instanceMethod yX2_lasts, Cond.selects RX2 yX2_lasts yX2_lasts, Cond.code yX2_lasts cX2_lasts 6 (some .int), Cond.fieldLink RX2 19 "ChoirNotesModel" "kind" "[I"]
def wsX2_withAll_r2 : List Cond := [Cond.fieldLink RX2 25 "ChoirNotesModel" "isRed" "[Z", Cond.fieldLink RX2 16 "ChoirNotesModel" "measure" "[I", Cond.methodLink RX2 70 yX2_isClash, Cond.static yX2_isClash, Cond.code yX2_isClash cX2_isClash 2 (some .boolean), Cond.methodLink RX2 57 Lib.Math.abs.name, Cond.static Lib.Math.abs.name, Cond.code Lib.Math.abs.name Lib.Math.abs.code 1 (some .int)]
def wsX2_withAll : List Cond := .code yX2_withAll cX2_withAll 5 (some .int) :: ((wsX2_withAll_r1 ++ wsX2_withAll_r2) ++ wsX20)
def wsX2_clashesWith_r1 : List Cond := [Cond.fieldLink RX2 38 "ChoirNotesModel" "thrown" "I", Cond.methodLink RX2 49 yX2_isVoice, Cond.instanceMethod yX2_isVoice, Cond.selects RX2 yX2_isVoice yX2_isVoice, Cond.initialized RX2, Cond.code yX2_isVoice cX2_isVoice 2 (some .boolean), Cond.fieldLink RX2 42 "ChoirNotesModel" "voices" "I", Cond.methodLink RX2 45 yX2_isIn, Cond.static yX2_isIn, Cond.code yX2_isIn cX2_isIn 3 (some .boolean), Cond.methodLink RX2 76 yX2_fail, Cond.instanceMethod yX2_fail, Cond.selects RX2 yX2_fail yX2_fail, Cond.code yX2_fail cX2_fail 2 (some .int), Cond.methodLink RX2 129 yX2_withAll, Cond.instanceMethod yX2_withAll, Cond.selects RX2 yX2_withAll yX2_withAll, Cond.code yX2_withAll cX2_withAll 5 (some .int), Cond.fieldLink RX2 13 "ChoirNotesModel" "clef" "[I", Cond.methodLink RX2 121 yX2_clash, Cond.instanceMethod yX2_clash, Cond.selects RX2 yX2_clash yX2_clash, Cond.code yX2_clash cX2_clash 9 (some .int), Cond.fieldLink RX2 32 "ChoirNotesModel" "mine" "[I"]
def wsX2_clashesWith_r2 : List Cond := [Cond.fieldLink RX2 35 "ChoirNotesModel" "theirs" "[I", Cond.methodLink RX2 67 Lib.Math.min.name, Cond.static Lib.Math.min.name, Cond.initialized "java/lang/Math", Cond.code Lib.Math.min.name Lib.Math.min.code 2 (some .int), Cond.methodLink RX2 63 yX2_lay, Cond.instanceMethod yX2_lay, Cond.selects RX2 yX2_lay yX2_lay, Cond.code yX2_lay cX2_lay 6 (some .int), Cond.fieldLink RX2 9 "ChoirNotesModel" "many" "[I", Cond.fieldLink RX2 22 "ChoirNotesModel" "place" "[I", Cond.methodLink RX2 53 yX2_lasts, Cond.instanceMethod yX2_lasts, Cond.selects RX2 yX2_lasts yX2_lasts, Cond.code yX2_lasts cX2_lasts 6 (some .int), Cond.fieldLink RX2 19 "ChoirNotesModel" "kind" "[I", Cond.fieldLink RX2 25 "ChoirNotesModel" "isRed" "[Z", Cond.fieldLink RX2 16 "ChoirNotesModel" "measure" "[I", Cond.methodLink RX2 70 yX2_isClash, Cond.static yX2_isClash, Cond.code yX2_isClash cX2_isClash 2 (some .boolean), Cond.methodLink RX2 57 Lib.Math.abs.name, Cond.static Lib.Math.abs.name, Cond.code Lib.Math.abs.name Lib.Math.abs.code 1 (some .int)]
def wsX2_clashesWith : List Cond := .code yX2_clashesWith cX2_clashesWith 3 (some .int) :: ((wsX2_clashesWith_r1 ++ wsX2_clashesWith_r2) ++ wsX20)
def wsX2_best_r1 : List Cond := [Cond.methodLink RX2 115 yX2_fit, Cond.instanceMethod yX2_fit, Cond.selects RX2 yX2_fit yX2_fit, Cond.initialized RX2, Cond.code yX2_fit cX2_fit 4 (some .boolean), Cond.fieldLink RX2 9 "ChoirNotesModel" "many" "[I", Cond.fieldLink RX2 22 "ChoirNotesModel" "place" "[I", Cond.methodLink RX2 45 yX2_isIn, Cond.static yX2_isIn, Cond.code yX2_isIn cX2_isIn 3 (some .boolean), Cond.methodLink RX2 129 yX2_withAll, Cond.instanceMethod yX2_withAll, Cond.selects RX2 yX2_withAll yX2_withAll, Cond.code yX2_withAll cX2_withAll 5 (some .int), Cond.fieldLink RX2 42 "ChoirNotesModel" "voices" "I", Cond.fieldLink RX2 13 "ChoirNotesModel" "clef" "[I", Cond.methodLink RX2 121 yX2_clash, Cond.instanceMethod yX2_clash, Cond.selects RX2 yX2_clash yX2_clash, Cond.code yX2_clash cX2_clash 9 (some .int), Cond.fieldLink RX2 32 "ChoirNotesModel" "mine" "[I", Cond.fieldLink RX2 35 "ChoirNotesModel" "theirs" "[I", Cond.methodLink RX2 67 Lib.Math.min.name, Cond.static Lib.Math.min.name]
def wsX2_best_r2 : List Cond := [Cond.initialized "java/lang/Math", Cond.code Lib.Math.min.name Lib.Math.min.code 2 (some .int), Cond.methodLink RX2 63 yX2_lay, Cond.instanceMethod yX2_lay, Cond.selects RX2 yX2_lay yX2_lay, Cond.code yX2_lay cX2_lay 6 (some .int), Cond.methodLink RX2 53 yX2_lasts, Cond.instanceMethod yX2_lasts, Cond.selects RX2 yX2_lasts yX2_lasts, Cond.code yX2_lasts cX2_lasts 6 (some .int), Cond.fieldLink RX2 19 "ChoirNotesModel" "kind" "[I", Cond.fieldLink RX2 25 "ChoirNotesModel" "isRed" "[Z", Cond.fieldLink RX2 16 "ChoirNotesModel" "measure" "[I", Cond.methodLink RX2 70 yX2_isClash, Cond.static yX2_isClash, Cond.code yX2_isClash cX2_isClash 2 (some .boolean), Cond.methodLink RX2 57 Lib.Math.abs.name, Cond.static Lib.Math.abs.name, Cond.code Lib.Math.abs.name Lib.Math.abs.code 1 (some .int)]
def wsX2_best : List Cond := .code yX2_best cX2_best 6 (some .int) :: ((wsX2_best_r1 ++ wsX2_best_r2) ++ wsX20)
def wsX2_bestClef_r1 : List Cond := [Cond.fieldLink RX2 38 "ChoirNotesModel" "thrown" "I", Cond.methodLink RX2 49 yX2_isVoice, Cond.instanceMethod yX2_isVoice, Cond.selects RX2 yX2_isVoice yX2_isVoice, Cond.initialized RX2, Cond.code yX2_isVoice cX2_isVoice 2 (some .boolean), Cond.fieldLink RX2 42 "ChoirNotesModel" "voices" "I", Cond.methodLink RX2 45 yX2_isIn, Cond.static yX2_isIn, Cond.code yX2_isIn cX2_isIn 3 (some .boolean), Cond.methodLink RX2 132 yX2_best, Cond.instanceMethod yX2_best, Cond.selects RX2 yX2_best yX2_best, Cond.code yX2_best cX2_best 6 (some .int), Cond.methodLink RX2 115 yX2_fit, Cond.instanceMethod yX2_fit, Cond.selects RX2 yX2_fit yX2_fit, Cond.code yX2_fit cX2_fit 4 (some .boolean), Cond.fieldLink RX2 9 "ChoirNotesModel" "many" "[I", Cond.fieldLink RX2 22 "ChoirNotesModel" "place" "[I", Cond.methodLink RX2 129 yX2_withAll, Cond.instanceMethod yX2_withAll, Cond.selects RX2 yX2_withAll yX2_withAll, Cond.code yX2_withAll cX2_withAll 5 (some .int)]
def wsX2_bestClef_r2 : List Cond := [Cond.fieldLink RX2 13 "ChoirNotesModel" "clef" "[I", Cond.methodLink RX2 121 yX2_clash, Cond.instanceMethod yX2_clash, Cond.selects RX2 yX2_clash yX2_clash, Cond.code yX2_clash cX2_clash 9 (some .int), Cond.fieldLink RX2 32 "ChoirNotesModel" "mine" "[I", Cond.fieldLink RX2 35 "ChoirNotesModel" "theirs" "[I", Cond.methodLink RX2 67 Lib.Math.min.name, Cond.static Lib.Math.min.name, Cond.initialized "java/lang/Math", Cond.code Lib.Math.min.name Lib.Math.min.code 2 (some .int), Cond.methodLink RX2 63 yX2_lay, Cond.instanceMethod yX2_lay, Cond.selects RX2 yX2_lay yX2_lay, Cond.code yX2_lay cX2_lay 6 (some .int), Cond.methodLink RX2 53 yX2_lasts, Cond.instanceMethod yX2_lasts, Cond.selects RX2 yX2_lasts yX2_lasts, Cond.code yX2_lasts cX2_lasts 6 (some .int), Cond.fieldLink RX2 19 "ChoirNotesModel" "kind" "[I", Cond.fieldLink RX2 25 "ChoirNotesModel" "isRed" "[Z", Cond.fieldLink RX2 16 "ChoirNotesModel" "measure" "[I", Cond.methodLink RX2 70 yX2_isClash, Cond.static yX2_isClash]
def wsX2_bestClef_r3 : List Cond := [Cond.code yX2_isClash cX2_isClash 2 (some .boolean), Cond.methodLink RX2 57 Lib.Math.abs.name, Cond.static Lib.Math.abs.name, Cond.code Lib.Math.abs.name Lib.Math.abs.code 1 (some .int), Cond.methodLink RX2 76 yX2_fail, Cond.instanceMethod yX2_fail, Cond.selects RX2 yX2_fail yX2_fail, Cond.code yX2_fail cX2_fail 2 (some .int)]
def wsX2_bestClef : List Cond := .code yX2_bestClef cX2_bestClef 2 (some .int) :: ((wsX2_bestClef_r1 ++ (wsX2_bestClef_r2 ++ wsX2_bestClef_r3)) ++ wsX20)
def wsX2_canon : List Cond := .code yX2_canon cX2_canon 6 (some .int) :: ([.fieldLink RX2 32 "ChoirNotesModel" "mine" "[I", .methodLink RX2 70 yX2_isClash, .static yX2_isClash, .initialized RX2, .code yX2_isClash cX2_isClash 2 (some .boolean), .methodLink RX2 57 Lib.Math.abs.name, .static Lib.Math.abs.name, .initialized "java/lang/Math", .code Lib.Math.abs.name Lib.Math.abs.code 1 (some .int)] ++ wsX20)
def wsX2_canonClashes_r1 : List Cond := [Cond.fieldLink RX2 38 "ChoirNotesModel" "thrown" "I", Cond.fieldLink RX2 32 "ChoirNotesModel" "mine" "[I", Cond.methodLink RX2 49 yX2_isVoice, Cond.instanceMethod yX2_isVoice, Cond.selects RX2 yX2_isVoice yX2_isVoice, Cond.initialized RX2, Cond.code yX2_isVoice cX2_isVoice 2 (some .boolean), Cond.fieldLink RX2 42 "ChoirNotesModel" "voices" "I", Cond.methodLink RX2 45 yX2_isIn, Cond.static yX2_isIn, Cond.code yX2_isIn cX2_isIn 3 (some .boolean), Cond.methodLink RX2 76 yX2_fail, Cond.instanceMethod yX2_fail, Cond.selects RX2 yX2_fail yX2_fail, Cond.code yX2_fail cX2_fail 2 (some .int), Cond.methodLink RX2 63 yX2_lay, Cond.instanceMethod yX2_lay, Cond.selects RX2 yX2_lay yX2_lay, Cond.code yX2_lay cX2_lay 6 (some .int), Cond.fieldLink RX2 9 "ChoirNotesModel" "many" "[I", Cond.fieldLink RX2 22 "ChoirNotesModel" "place" "[I", Cond.methodLink RX2 53 yX2_lasts, Cond.instanceMethod yX2_lasts, Cond.selects RX2 yX2_lasts yX2_lasts]
def wsX2_canonClashes_r2 : List Cond := [Cond.code yX2_lasts cX2_lasts 6 (some .int), Cond.fieldLink RX2 19 "ChoirNotesModel" "kind" "[I", Cond.fieldLink RX2 25 "ChoirNotesModel" "isRed" "[Z", Cond.fieldLink RX2 16 "ChoirNotesModel" "measure" "[I", Cond.methodLink RX2 135 yX2_canon, Cond.instanceMethod yX2_canon, Cond.selects RX2 yX2_canon yX2_canon, Cond.code yX2_canon cX2_canon 6 (some .int), Cond.methodLink RX2 70 yX2_isClash, Cond.static yX2_isClash, Cond.code yX2_isClash cX2_isClash 2 (some .boolean), Cond.methodLink RX2 57 Lib.Math.abs.name, Cond.static Lib.Math.abs.name, Cond.initialized "java/lang/Math", Cond.code Lib.Math.abs.name Lib.Math.abs.code 1 (some .int)]
def wsX2_canonClashes : List Cond := .code yX2_canonClashes cX2_canonClashes 4 (some .int) :: ((wsX2_canonClashes_r1 ++ wsX2_canonClashes_r2) ++ wsX20)
def wsX2_delay_r1 : List Cond := [Cond.fieldLink RX2 32 "ChoirNotesModel" "mine" "[I", Cond.methodLink RX2 63 yX2_lay, Cond.instanceMethod yX2_lay, Cond.selects RX2 yX2_lay yX2_lay, Cond.initialized RX2, Cond.code yX2_lay cX2_lay 6 (some .int), Cond.fieldLink RX2 9 "ChoirNotesModel" "many" "[I", Cond.fieldLink RX2 22 "ChoirNotesModel" "place" "[I", Cond.methodLink RX2 53 yX2_lasts, Cond.instanceMethod yX2_lasts, Cond.selects RX2 yX2_lasts yX2_lasts, Cond.code yX2_lasts cX2_lasts 6 (some .int), Cond.fieldLink RX2 19 "ChoirNotesModel" "kind" "[I", Cond.fieldLink RX2 25 "ChoirNotesModel" "isRed" "[Z", Cond.fieldLink RX2 16 "ChoirNotesModel" "measure" "[I", Cond.methodLink RX2 135 yX2_canon, Cond.instanceMethod yX2_canon, Cond.selects RX2 yX2_canon yX2_canon, Cond.code yX2_canon cX2_canon 6 (some .int), Cond.methodLink RX2 70 yX2_isClash, Cond.static yX2_isClash, Cond.code yX2_isClash cX2_isClash 2 (some .boolean), Cond.methodLink RX2 57 Lib.Math.abs.name, Cond.static Lib.Math.abs.name]
def wsX2_delay_r2 : List Cond := [Cond.initialized "java/lang/Math", Cond.code Lib.Math.abs.name Lib.Math.abs.code 1 (some .int)]
def wsX2_delay : List Cond := .code yX2_delay cX2_delay 8 (some .int) :: ((wsX2_delay_r1 ++ wsX2_delay_r2) ++ wsX20)
def wsX2_bestDelay_r1 : List Cond := [Cond.fieldLink RX2 38 "ChoirNotesModel" "thrown" "I", Cond.methodLink RX2 49 yX2_isVoice, Cond.instanceMethod yX2_isVoice, Cond.selects RX2 yX2_isVoice yX2_isVoice, Cond.initialized RX2, Cond.code yX2_isVoice cX2_isVoice 2 (some .boolean), Cond.fieldLink RX2 42 "ChoirNotesModel" "voices" "I", Cond.methodLink RX2 45 yX2_isIn, Cond.static yX2_isIn, Cond.code yX2_isIn cX2_isIn 3 (some .boolean), Cond.methodLink RX2 76 yX2_fail, Cond.instanceMethod yX2_fail, Cond.selects RX2 yX2_fail yX2_fail, Cond.code yX2_fail cX2_fail 2 (some .int), Cond.methodLink RX2 139 yX2_delay, Cond.instanceMethod yX2_delay, Cond.selects RX2 yX2_delay yX2_delay, Cond.code yX2_delay cX2_delay 8 (some .int), Cond.fieldLink RX2 32 "ChoirNotesModel" "mine" "[I", Cond.methodLink RX2 63 yX2_lay, Cond.instanceMethod yX2_lay, Cond.selects RX2 yX2_lay yX2_lay, Cond.code yX2_lay cX2_lay 6 (some .int), Cond.fieldLink RX2 9 "ChoirNotesModel" "many" "[I"]
def wsX2_bestDelay_r2 : List Cond := [Cond.fieldLink RX2 22 "ChoirNotesModel" "place" "[I", Cond.methodLink RX2 53 yX2_lasts, Cond.instanceMethod yX2_lasts, Cond.selects RX2 yX2_lasts yX2_lasts, Cond.code yX2_lasts cX2_lasts 6 (some .int), Cond.fieldLink RX2 19 "ChoirNotesModel" "kind" "[I", Cond.fieldLink RX2 25 "ChoirNotesModel" "isRed" "[Z", Cond.fieldLink RX2 16 "ChoirNotesModel" "measure" "[I", Cond.methodLink RX2 135 yX2_canon, Cond.instanceMethod yX2_canon, Cond.selects RX2 yX2_canon yX2_canon, Cond.code yX2_canon cX2_canon 6 (some .int), Cond.methodLink RX2 70 yX2_isClash, Cond.static yX2_isClash, Cond.code yX2_isClash cX2_isClash 2 (some .boolean), Cond.methodLink RX2 57 Lib.Math.abs.name, Cond.static Lib.Math.abs.name, Cond.initialized "java/lang/Math", Cond.code Lib.Math.abs.name Lib.Math.abs.code 1 (some .int)]
def wsX2_bestDelay : List Cond := .code yX2_bestDelay cX2_bestDelay 3 (some .int) :: ((wsX2_bestDelay_r1 ++ wsX2_bestDelay_r2) ++ wsX20)
def wsX2_meanLength : List Cond := .code yX2_meanLength cX2_meanLength 3 (some .double) :: ([.fieldLink RX2 38 "ChoirNotesModel" "thrown" "I", .fieldLink RX2 42 "ChoirNotesModel" "voices" "I", .methodLink RX2 94 yX2_all, .instanceMethod yX2_all, .selects RX2 yX2_all yX2_all, .initialized RX2, .code yX2_all cX2_all 4 (some .int), .fieldLink RX2 9 "ChoirNotesModel" "many" "[I", .methodLink RX2 53 yX2_lasts, .instanceMethod yX2_lasts, .selects RX2 yX2_lasts yX2_lasts, .code yX2_lasts cX2_lasts 6 (some .int), .fieldLink RX2 19 "ChoirNotesModel" "kind" "[I", .fieldLink RX2 25 "ChoirNotesModel" "isRed" "[Z", .fieldLink RX2 16 "ChoirNotesModel" "measure" "[I"] ++ wsX20)
def wsX2_digest_r1 : List Cond := [Cond.fieldLink RX2 38 "ChoirNotesModel" "thrown" "I", Cond.constantLong RX2 142 (2311), Cond.constantLong RX2 144 (31), Cond.fieldLink RX2 42 "ChoirNotesModel" "voices" "I", Cond.arrayClass .int, Cond.fieldLink RX2 9 "ChoirNotesModel" "many" "[I", Cond.fieldLink RX2 13 "ChoirNotesModel" "clef" "[I", Cond.fieldLink RX2 32 "ChoirNotesModel" "mine" "[I", Cond.fieldLink RX2 19 "ChoirNotesModel" "kind" "[I", Cond.fieldLink RX2 22 "ChoirNotesModel" "place" "[I", Cond.fieldLink RX2 29 "ChoirNotesModel" "tied" "[I", Cond.methodLink RX2 111 yX2_most, Cond.instanceMethod yX2_most, Cond.selects RX2 yX2_most yX2_most, Cond.initialized RX2, Cond.code yX2_most cX2_most 3 (some .int), Cond.methodLink RX2 87 Lib.Math.max.name, Cond.static Lib.Math.max.name, Cond.initialized "java/lang/Math", Cond.code Lib.Math.max.name Lib.Math.max.code 2 (some .int), Cond.methodLink RX2 94 yX2_all, Cond.instanceMethod yX2_all, Cond.selects RX2 yX2_all yX2_all, Cond.code yX2_all cX2_all 4 (some .int)]
def wsX2_digest_r2 : List Cond := [Cond.methodLink RX2 53 yX2_lasts, Cond.instanceMethod yX2_lasts, Cond.selects RX2 yX2_lasts yX2_lasts, Cond.code yX2_lasts cX2_lasts 6 (some .int), Cond.fieldLink RX2 25 "ChoirNotesModel" "isRed" "[Z", Cond.fieldLink RX2 16 "ChoirNotesModel" "measure" "[I", Cond.methodLink RX2 100 yX2_count, Cond.instanceMethod yX2_count, Cond.selects RX2 yX2_count yX2_count, Cond.code yX2_count cX2_count 5 (some .int), Cond.methodLink RX2 118 yX2_fitting, Cond.instanceMethod yX2_fitting, Cond.selects RX2 yX2_fitting yX2_fitting, Cond.code yX2_fitting cX2_fitting 4 (some .int), Cond.methodLink RX2 115 yX2_fit, Cond.instanceMethod yX2_fit, Cond.selects RX2 yX2_fit yX2_fit, Cond.code yX2_fit cX2_fit 4 (some .boolean), Cond.methodLink RX2 45 yX2_isIn, Cond.static yX2_isIn, Cond.code yX2_isIn cX2_isIn 3 (some .boolean), Cond.methodLink RX2 132 yX2_best, Cond.instanceMethod yX2_best, Cond.selects RX2 yX2_best yX2_best]
def wsX2_digest_r3 : List Cond := [Cond.code yX2_best cX2_best 6 (some .int), Cond.methodLink RX2 129 yX2_withAll, Cond.instanceMethod yX2_withAll, Cond.selects RX2 yX2_withAll yX2_withAll, Cond.code yX2_withAll cX2_withAll 5 (some .int), Cond.methodLink RX2 121 yX2_clash, Cond.instanceMethod yX2_clash, Cond.selects RX2 yX2_clash yX2_clash, Cond.code yX2_clash cX2_clash 9 (some .int), Cond.fieldLink RX2 35 "ChoirNotesModel" "theirs" "[I", Cond.methodLink RX2 67 Lib.Math.min.name, Cond.static Lib.Math.min.name, Cond.code Lib.Math.min.name Lib.Math.min.code 2 (some .int), Cond.methodLink RX2 63 yX2_lay, Cond.instanceMethod yX2_lay, Cond.selects RX2 yX2_lay yX2_lay, Cond.code yX2_lay cX2_lay 6 (some .int), Cond.methodLink RX2 70 yX2_isClash, Cond.static yX2_isClash, Cond.code yX2_isClash cX2_isClash 2 (some .boolean), Cond.methodLink RX2 57 Lib.Math.abs.name, Cond.static Lib.Math.abs.name, Cond.code Lib.Math.abs.name Lib.Math.abs.code 1 (some .int), Cond.methodLink RX2 135 yX2_canon]
def wsX2_digest_r4 : List Cond := [Cond.instanceMethod yX2_canon, Cond.selects RX2 yX2_canon yX2_canon, Cond.code yX2_canon cX2_canon 6 (some .int), Cond.methodLink RX2 139 yX2_delay, Cond.instanceMethod yX2_delay, Cond.selects RX2 yX2_delay yX2_delay, Cond.code yX2_delay cX2_delay 8 (some .int), Cond.methodLink RX2 108 yX2_begins, Cond.instanceMethod yX2_begins, Cond.selects RX2 yX2_begins yX2_begins, Cond.code yX2_begins cX2_begins 5 (some .int)]
def wsX2_digest : List Cond := .code yX2_digest cX2_digest 12 (some .long) :: ((wsX2_digest_r1 ++ (wsX2_digest_r2 ++ (wsX2_digest_r3 ++ wsX2_digest_r4))) ++ wsX20)
def wsJ9_abs_0f7a4 : List Cond := .code yJ9_abs_0f7a4 cJ9_abs_0f7a4 1 (some .int) :: ([])
def wsJ9_max_7cf53 : List Cond := .code yJ9_max_7cf53 cJ9_max_7cf53 2 (some .int) :: ([])
def wsJ9_min_7cf53 : List Cond := .code yJ9_min_7cf53 cJ9_min_7cf53 2 (some .int) :: ([])
def wsL_addVoice_r1 : List Cond := [Cond.classLink RL 13 "java/lang/IllegalArgumentException", Cond.classLink RL 15 "java/lang/IllegalStateException", Cond.methodLink RL 7 yX1_addVoice, Cond.instanceMethod yX1_addVoice, Cond.selects RX1 yX1_addVoice yX1_addVoice, Cond.initialized RX1, Cond.code yX1_addVoice cX1_addVoice 4 (some .int), Cond.classLink RX1 24 "java/lang/IllegalStateException", Cond.initialized "java/lang/IllegalStateException", Cond.fieldLink RX1 20 "ChoirNotes" "voiceCount" "I", Cond.fieldLink RX1 11 "ChoirNotes" "book" "[LChoirNotes$Voice;", Cond.methodLink RX1 16 yX1_checkMensuration, Cond.static yX1_checkMensuration, Cond.code yX1_checkMensuration cX1_checkMensuration 3 none, Cond.methodLink RX1 38 yX1_checkRange, Cond.static yX1_checkRange, Cond.code yX1_checkRange cX1_checkRange 3 none, Cond.classLink RX1 179 "java/lang/IllegalArgumentException", Cond.initialized "java/lang/IllegalArgumentException", Cond.instanceMethod yX0_measure, Cond.initialized RX0, Cond.selects RX0 yX0_measure yX0_measure, Cond.code yX0_measure cX0_measure 4 none, Cond.fieldLink RX0 32 "ChoirNotes$Voice" "brevesInLonga" "I"]
def wsL_addVoice_r2 : List Cond := [Cond.fieldLink RX0 35 "ChoirNotes$Voice" "semibrevesInBreve" "I", Cond.fieldLink RX0 38 "ChoirNotes$Voice" "minimsInSemibreve" "I", Cond.methodLink RX0 41 yX0_timeFrom, Cond.instanceMethod yX0_timeFrom, Cond.selects RX0 yX0_timeFrom yX0_timeFrom, Cond.code yX0_timeFrom cX0_timeFrom 3 none, Cond.fieldLink RX0 45 "ChoirNotes$Voice" "count" "I", Cond.fieldLink RX0 29 "ChoirNotes$Voice" "begins" "[I", Cond.fieldLink RX0 15 "ChoirNotes$Voice" "kinds" "[I", Cond.fieldLink RX0 22 "ChoirNotes$Voice" "colours" "[Z", Cond.methodLink RX0 48 yX0_minimsByKind, Cond.instanceMethod yX0_minimsByKind, Cond.selects RX0 yX0_minimsByKind yX0_minimsByKind, Cond.code yX0_minimsByKind cX0_minimsByKind 3 (some .int)]
def wsL_addVoice : List Cond := .codeWith yL_addVoice cL_addVoice 6 (some .int) [(0, 12, 15, 13), (0, 12, 19, 15)] :: ((wsL_addVoice_r1 ++ wsL_addVoice_r2) ++ wsX10 ++ wsX00 ++ (vx_atS RX1 28 "java/lang/IllegalStateException" ["java/lang/RuntimeException", "java/lang/Exception"]).filter goodWord ++ (vx_atS RX1 183 "java/lang/IllegalArgumentException" ["java/lang/RuntimeException", "java/lang/Exception"]).filter goodWord)
def wsL_addNote_r1 : List Cond := [Cond.classLink RL 21 "java/lang/IndexOutOfBoundsException", Cond.classLink RL 13 "java/lang/IllegalArgumentException", Cond.classLink RL 15 "java/lang/IllegalStateException", Cond.methodLink RL 17 yX1_addNote, Cond.instanceMethod yX1_addNote, Cond.selects RX1 yX1_addNote yX1_addNote, Cond.initialized RX1, Cond.code yX1_addNote cX1_addNote 6 (some .int), Cond.methodLink RX1 34 yX1_knownVoice, Cond.instanceMethod yX1_knownVoice, Cond.selects RX1 yX1_knownVoice yX1_knownVoice, Cond.code yX1_knownVoice cX1_knownVoice 2 (some (.object "ChoirNotes$Voice")), Cond.classLink RX1 172 "java/lang/IndexOutOfBoundsException", Cond.initialized "java/lang/IndexOutOfBoundsException", Cond.fieldLink RX1 20 "ChoirNotes" "voiceCount" "I", Cond.fieldLink RX1 11 "ChoirNotes" "book" "[LChoirNotes$Voice;", Cond.methodLink RX1 38 yX1_checkRange, Cond.static yX1_checkRange, Cond.code yX1_checkRange cX1_checkRange 3 none, Cond.classLink RX1 179 "java/lang/IllegalArgumentException", Cond.initialized "java/lang/IllegalArgumentException", Cond.methodLink RX1 41 yX1_checkRoom, Cond.static yX1_checkRoom, Cond.code yX1_checkRoom cX1_checkRoom 2 none]
def wsL_addNote_r2 : List Cond := [Cond.classLink RX1 24 "java/lang/IllegalStateException", Cond.initialized "java/lang/IllegalStateException", Cond.instanceMethod yX0_append, Cond.initialized RX0, Cond.selects RX0 yX0_append yX0_append, Cond.code yX0_append cX0_append 6 (some .int), Cond.fieldLink RX0 45 "ChoirNotes$Voice" "count" "I", Cond.fieldLink RX0 15 "ChoirNotes$Voice" "kinds" "[I", Cond.fieldLink RX0 19 "ChoirNotes$Voice" "places" "[I", Cond.fieldLink RX0 22 "ChoirNotes$Voice" "colours" "[Z", Cond.fieldLink RX0 26 "ChoirNotes$Voice" "ranks" "[I", Cond.methodLink RX0 41 yX0_timeFrom, Cond.instanceMethod yX0_timeFrom, Cond.selects RX0 yX0_timeFrom yX0_timeFrom, Cond.code yX0_timeFrom cX0_timeFrom 3 none, Cond.fieldLink RX0 29 "ChoirNotes$Voice" "begins" "[I", Cond.methodLink RX0 48 yX0_minimsByKind, Cond.instanceMethod yX0_minimsByKind, Cond.selects RX0 yX0_minimsByKind yX0_minimsByKind, Cond.code yX0_minimsByKind cX0_minimsByKind 3 (some .int), Cond.fieldLink RX0 32 "ChoirNotes$Voice" "brevesInLonga" "I", Cond.fieldLink RX0 35 "ChoirNotes$Voice" "semibrevesInBreve" "I", Cond.fieldLink RX0 38 "ChoirNotes$Voice" "minimsInSemibreve" "I"]
def wsL_addNote : List Cond := .codeWith yL_addNote cL_addNote 7 (some .int) [(0, 14, 17, 21), (0, 14, 21, 13), (0, 14, 25, 15)] :: ((wsL_addNote_r1 ++ wsL_addNote_r2) ++ wsX10 ++ wsX00 ++ (vx_atS RX1 176 "java/lang/IndexOutOfBoundsException" ["java/lang/RuntimeException", "java/lang/Exception"]).filter goodWord ++ (vx_atS RX1 183 "java/lang/IllegalArgumentException" ["java/lang/RuntimeException", "java/lang/Exception"]).filter goodWord ++ (vx_atS RX1 28 "java/lang/IllegalStateException" ["java/lang/RuntimeException", "java/lang/Exception"]).filter goodWord)
def wsL_addRest_r1 : List Cond := [Cond.classLink RL 21 "java/lang/IndexOutOfBoundsException", Cond.classLink RL 13 "java/lang/IllegalArgumentException", Cond.classLink RL 15 "java/lang/IllegalStateException", Cond.methodLink RL 23 yX1_addRest, Cond.instanceMethod yX1_addRest, Cond.selects RX1 yX1_addRest yX1_addRest, Cond.initialized RX1, Cond.code yX1_addRest cX1_addRest 4 (some .int), Cond.methodLink RX1 34 yX1_knownVoice, Cond.instanceMethod yX1_knownVoice, Cond.selects RX1 yX1_knownVoice yX1_knownVoice, Cond.code yX1_knownVoice cX1_knownVoice 2 (some (.object "ChoirNotes$Voice")), Cond.classLink RX1 172 "java/lang/IndexOutOfBoundsException", Cond.initialized "java/lang/IndexOutOfBoundsException", Cond.fieldLink RX1 20 "ChoirNotes" "voiceCount" "I", Cond.fieldLink RX1 11 "ChoirNotes" "book" "[LChoirNotes$Voice;", Cond.methodLink RX1 38 yX1_checkRange, Cond.static yX1_checkRange, Cond.code yX1_checkRange cX1_checkRange 3 none, Cond.classLink RX1 179 "java/lang/IllegalArgumentException", Cond.initialized "java/lang/IllegalArgumentException", Cond.methodLink RX1 41 yX1_checkRoom, Cond.static yX1_checkRoom, Cond.code yX1_checkRoom cX1_checkRoom 2 none]
def wsL_addRest_r2 : List Cond := [Cond.classLink RX1 24 "java/lang/IllegalStateException", Cond.initialized "java/lang/IllegalStateException", Cond.instanceMethod yX0_append, Cond.initialized RX0, Cond.selects RX0 yX0_append yX0_append, Cond.code yX0_append cX0_append 6 (some .int), Cond.fieldLink RX0 45 "ChoirNotes$Voice" "count" "I", Cond.fieldLink RX0 15 "ChoirNotes$Voice" "kinds" "[I", Cond.fieldLink RX0 19 "ChoirNotes$Voice" "places" "[I", Cond.fieldLink RX0 22 "ChoirNotes$Voice" "colours" "[Z", Cond.fieldLink RX0 26 "ChoirNotes$Voice" "ranks" "[I", Cond.methodLink RX0 41 yX0_timeFrom, Cond.instanceMethod yX0_timeFrom, Cond.selects RX0 yX0_timeFrom yX0_timeFrom, Cond.code yX0_timeFrom cX0_timeFrom 3 none, Cond.fieldLink RX0 29 "ChoirNotes$Voice" "begins" "[I", Cond.methodLink RX0 48 yX0_minimsByKind, Cond.instanceMethod yX0_minimsByKind, Cond.selects RX0 yX0_minimsByKind yX0_minimsByKind, Cond.code yX0_minimsByKind cX0_minimsByKind 3 (some .int), Cond.fieldLink RX0 32 "ChoirNotes$Voice" "brevesInLonga" "I", Cond.fieldLink RX0 35 "ChoirNotes$Voice" "semibrevesInBreve" "I", Cond.fieldLink RX0 38 "ChoirNotes$Voice" "minimsInSemibreve" "I"]
def wsL_addRest : List Cond := .codeWith yL_addRest cL_addRest 5 (some .int) [(0, 10, 13, 21), (0, 10, 17, 13), (0, 10, 21, 15)] :: ((wsL_addRest_r1 ++ wsL_addRest_r2) ++ wsX10 ++ wsX00 ++ (vx_atS RX1 176 "java/lang/IndexOutOfBoundsException" ["java/lang/RuntimeException", "java/lang/Exception"]).filter goodWord ++ (vx_atS RX1 183 "java/lang/IllegalArgumentException" ["java/lang/RuntimeException", "java/lang/Exception"]).filter goodWord ++ (vx_atS RX1 28 "java/lang/IllegalStateException" ["java/lang/RuntimeException", "java/lang/Exception"]).filter goodWord)
def wsL_addLigature_r1 : List Cond := [Cond.classLink RL 21 "java/lang/IndexOutOfBoundsException", Cond.classLink RL 13 "java/lang/IllegalArgumentException", Cond.classLink RL 15 "java/lang/IllegalStateException", Cond.methodLink RL 27 yX1_addLigature, Cond.instanceMethod yX1_addLigature, Cond.selects RX1 yX1_addLigature yX1_addLigature, Cond.initialized RX1, Cond.code yX1_addLigature cX1_addLigature 9 (some .int), Cond.methodLink RX1 34 yX1_knownVoice, Cond.instanceMethod yX1_knownVoice, Cond.selects RX1 yX1_knownVoice yX1_knownVoice, Cond.code yX1_knownVoice cX1_knownVoice 2 (some (.object "ChoirNotes$Voice")), Cond.classLink RX1 172 "java/lang/IndexOutOfBoundsException", Cond.initialized "java/lang/IndexOutOfBoundsException", Cond.fieldLink RX1 20 "ChoirNotes" "voiceCount" "I", Cond.fieldLink RX1 11 "ChoirNotes" "book" "[LChoirNotes$Voice;", Cond.methodLink RX1 49 yX1_checkLigature, Cond.static yX1_checkLigature, Cond.code yX1_checkLigature cX1_checkLigature 3 none, Cond.classLink RX1 179 "java/lang/IllegalArgumentException", Cond.initialized "java/lang/IllegalArgumentException", Cond.methodLink RX1 38 yX1_checkRange, Cond.static yX1_checkRange, Cond.code yX1_checkRange cX1_checkRange 3 none]
def wsL_addLigature_r2 : List Cond := [Cond.methodLink RX1 41 yX1_checkRoom, Cond.static yX1_checkRoom, Cond.code yX1_checkRoom cX1_checkRoom 2 none, Cond.classLink RX1 24 "java/lang/IllegalStateException", Cond.initialized "java/lang/IllegalStateException", Cond.methodLink RX1 52 yX1_firstKind, Cond.static yX1_firstKind, Cond.code yX1_firstKind cX1_firstKind 3 (some .int), Cond.methodLink RX1 60 yX1_lastKind, Cond.static yX1_lastKind, Cond.code yX1_lastKind cX1_lastKind 2 (some .int), Cond.instanceMethod yX0_append, Cond.initialized RX0, Cond.selects RX0 yX0_append yX0_append, Cond.code yX0_append cX0_append 6 (some .int), Cond.fieldLink RX0 45 "ChoirNotes$Voice" "count" "I", Cond.fieldLink RX0 15 "ChoirNotes$Voice" "kinds" "[I", Cond.fieldLink RX0 19 "ChoirNotes$Voice" "places" "[I", Cond.fieldLink RX0 22 "ChoirNotes$Voice" "colours" "[Z", Cond.fieldLink RX0 26 "ChoirNotes$Voice" "ranks" "[I", Cond.methodLink RX0 41 yX0_timeFrom, Cond.instanceMethod yX0_timeFrom, Cond.selects RX0 yX0_timeFrom yX0_timeFrom, Cond.code yX0_timeFrom cX0_timeFrom 3 none]
def wsL_addLigature_r3 : List Cond := [Cond.fieldLink RX0 29 "ChoirNotes$Voice" "begins" "[I", Cond.methodLink RX0 48 yX0_minimsByKind, Cond.instanceMethod yX0_minimsByKind, Cond.selects RX0 yX0_minimsByKind yX0_minimsByKind, Cond.code yX0_minimsByKind cX0_minimsByKind 3 (some .int), Cond.fieldLink RX0 32 "ChoirNotes$Voice" "brevesInLonga" "I", Cond.fieldLink RX0 35 "ChoirNotes$Voice" "semibrevesInBreve" "I", Cond.fieldLink RX0 38 "ChoirNotes$Voice" "minimsInSemibreve" "I", Cond.methodLink RX1 56 yX1_secondKind, Cond.static yX1_secondKind, Cond.code yX1_secondKind cX1_secondKind 4 (some .int)]
def wsL_addLigature : List Cond := .codeWith yL_addLigature cL_addLigature 8 (some .int) [(0, 16, 19, 21), (0, 16, 23, 13), (0, 16, 27, 15)] :: ((wsL_addLigature_r1 ++ (wsL_addLigature_r2 ++ wsL_addLigature_r3)) ++ wsX10 ++ wsX00 ++ (vx_atS RX1 176 "java/lang/IndexOutOfBoundsException" ["java/lang/RuntimeException", "java/lang/Exception"]).filter goodWord ++ (vx_atS RX1 183 "java/lang/IllegalArgumentException" ["java/lang/RuntimeException", "java/lang/Exception"]).filter goodWord ++ (vx_atS RX1 28 "java/lang/IllegalStateException" ["java/lang/RuntimeException", "java/lang/Exception"]).filter goodWord)
def wsL_erase : List Cond := .codeWith yL_erase cL_erase 4 (some .int) [(0, 9, 12, 21), (0, 9, 15, 15)] :: ([.classLink RL 21 "java/lang/IndexOutOfBoundsException", .classLink RL 15 "java/lang/IllegalStateException", .methodLink RL 31 yX1_erase, .instanceMethod yX1_erase, .selects RX1 yX1_erase yX1_erase, .initialized RX1, .code yX1_erase cX1_erase 3 (some .int), .classLink RX1 24 "java/lang/IllegalStateException", .initialized "java/lang/IllegalStateException", .methodLink RX1 34 yX1_knownVoice, .instanceMethod yX1_knownVoice, .selects RX1 yX1_knownVoice yX1_knownVoice, .code yX1_knownVoice cX1_knownVoice 2 (some (.object "ChoirNotes$Voice")), .classLink RX1 172 "java/lang/IndexOutOfBoundsException", .initialized "java/lang/IndexOutOfBoundsException", .fieldLink RX1 20 "ChoirNotes" "voiceCount" "I", .fieldLink RX1 11 "ChoirNotes" "book" "[LChoirNotes$Voice;", .instanceMethod yX0_dropLast, .initialized RX0, .selects RX0 yX0_dropLast yX0_dropLast, .code yX0_dropLast cX0_dropLast 3 (some .int), .fieldLink RX0 26 "ChoirNotes$Voice" "ranks" "[I", .fieldLink RX0 45 "ChoirNotes$Voice" "count" "I"] ++ wsX00 ++ wsX10 ++ (vx_atS RX1 28 "java/lang/IllegalStateException" ["java/lang/RuntimeException", "java/lang/Exception"]).filter goodWord ++ (vx_atS RX1 176 "java/lang/IndexOutOfBoundsException" ["java/lang/RuntimeException", "java/lang/Exception"]).filter goodWord)
def wsL_recolour_r1 : List Cond := [Cond.classLink RL 21 "java/lang/IndexOutOfBoundsException", Cond.classLink RL 15 "java/lang/IllegalStateException", Cond.methodLink RL 35 yX1_recolour, Cond.instanceMethod yX1_recolour, Cond.selects RX1 yX1_recolour yX1_recolour, Cond.initialized RX1, Cond.code yX1_recolour cX1_recolour 4 (some .boolean), Cond.classLink RX1 24 "java/lang/IllegalStateException", Cond.initialized "java/lang/IllegalStateException", Cond.methodLink RX1 73 yX1_voiceWithSign, Cond.instanceMethod yX1_voiceWithSign, Cond.selects RX1 yX1_voiceWithSign yX1_voiceWithSign, Cond.code yX1_voiceWithSign cX1_voiceWithSign 4 (some (.object "ChoirNotes$Voice")), Cond.classLink RX1 172 "java/lang/IndexOutOfBoundsException", Cond.initialized "java/lang/IndexOutOfBoundsException", Cond.methodLink RX1 34 yX1_knownVoice, Cond.instanceMethod yX1_knownVoice, Cond.selects RX1 yX1_knownVoice yX1_knownVoice, Cond.code yX1_knownVoice cX1_knownVoice 2 (some (.object "ChoirNotes$Voice")), Cond.fieldLink RX1 20 "ChoirNotes" "voiceCount" "I", Cond.fieldLink RX1 11 "ChoirNotes" "book" "[LChoirNotes$Voice;", Cond.instanceMethod yX0_isRest, Cond.initialized RX0, Cond.selects RX0 yX0_isRest yX0_isRest]
def wsL_recolour_r2 : List Cond := [Cond.code yX0_isRest cX0_isRest 2 (some .boolean), Cond.fieldLink RX0 19 "ChoirNotes$Voice" "places" "[I", Cond.instanceMethod yX0_turnColour, Cond.selects RX0 yX0_turnColour yX0_turnColour, Cond.code yX0_turnColour cX0_turnColour 2 (some .boolean), Cond.fieldLink RX0 22 "ChoirNotes$Voice" "colours" "[Z", Cond.methodLink RX0 41 yX0_timeFrom, Cond.instanceMethod yX0_timeFrom, Cond.selects RX0 yX0_timeFrom yX0_timeFrom, Cond.code yX0_timeFrom cX0_timeFrom 3 none, Cond.fieldLink RX0 45 "ChoirNotes$Voice" "count" "I", Cond.fieldLink RX0 29 "ChoirNotes$Voice" "begins" "[I", Cond.fieldLink RX0 15 "ChoirNotes$Voice" "kinds" "[I", Cond.methodLink RX0 48 yX0_minimsByKind, Cond.instanceMethod yX0_minimsByKind, Cond.selects RX0 yX0_minimsByKind yX0_minimsByKind, Cond.code yX0_minimsByKind cX0_minimsByKind 3 (some .int), Cond.fieldLink RX0 32 "ChoirNotes$Voice" "brevesInLonga" "I", Cond.fieldLink RX0 35 "ChoirNotes$Voice" "semibrevesInBreve" "I", Cond.fieldLink RX0 38 "ChoirNotes$Voice" "minimsInSemibreve" "I"]
def wsL_recolour : List Cond := .codeWith yL_recolour cL_recolour 5 (some .int) [(0, 17, 20, 21), (0, 17, 24, 15)] :: ((wsL_recolour_r1 ++ wsL_recolour_r2) ++ wsX00 ++ wsX10 ++ (vx_atS RX1 28 "java/lang/IllegalStateException" ["java/lang/RuntimeException", "java/lang/Exception"]).filter goodWord ++ (vx_atS RX1 176 "java/lang/IndexOutOfBoundsException" ["java/lang/RuntimeException", "java/lang/Exception"]).filter goodWord)
def wsL_setClef : List Cond := .codeWith yL_setClef cL_setClef 5 (some .int) [(0, 10, 13, 21), (0, 10, 17, 13)] :: ([.classLink RL 21 "java/lang/IndexOutOfBoundsException", .classLink RL 13 "java/lang/IllegalArgumentException", .methodLink RL 39 yX1_setClef, .instanceMethod yX1_setClef, .selects RX1 yX1_setClef yX1_setClef, .initialized RX1, .code yX1_setClef cX1_setClef 5 (some .int), .methodLink RX1 34 yX1_knownVoice, .instanceMethod yX1_knownVoice, .selects RX1 yX1_knownVoice yX1_knownVoice, .code yX1_knownVoice cX1_knownVoice 2 (some (.object "ChoirNotes$Voice")), .classLink RX1 172 "java/lang/IndexOutOfBoundsException", .initialized "java/lang/IndexOutOfBoundsException", .fieldLink RX1 20 "ChoirNotes" "voiceCount" "I", .fieldLink RX1 11 "ChoirNotes" "book" "[LChoirNotes$Voice;", .methodLink RX1 38 yX1_checkRange, .static yX1_checkRange, .code yX1_checkRange cX1_checkRange 3 none, .classLink RX1 179 "java/lang/IllegalArgumentException", .initialized "java/lang/IllegalArgumentException"] ++ wsX00 ++ wsX10 ++ (vx_atS RX1 176 "java/lang/IndexOutOfBoundsException" ["java/lang/RuntimeException", "java/lang/Exception"]).filter goodWord ++ (vx_atS RX1 183 "java/lang/IllegalArgumentException" ["java/lang/RuntimeException", "java/lang/Exception"]).filter goodWord)
def wsL_setMensuration_r1 : List Cond := [Cond.classLink RL 21 "java/lang/IndexOutOfBoundsException", Cond.classLink RL 13 "java/lang/IllegalArgumentException", Cond.methodLink RL 42 yX1_setMensuration, Cond.instanceMethod yX1_setMensuration, Cond.selects RX1 yX1_setMensuration yX1_setMensuration, Cond.initialized RX1, Cond.code yX1_setMensuration cX1_setMensuration 6 (some .int), Cond.methodLink RX1 34 yX1_knownVoice, Cond.instanceMethod yX1_knownVoice, Cond.selects RX1 yX1_knownVoice yX1_knownVoice, Cond.code yX1_knownVoice cX1_knownVoice 2 (some (.object "ChoirNotes$Voice")), Cond.classLink RX1 172 "java/lang/IndexOutOfBoundsException", Cond.initialized "java/lang/IndexOutOfBoundsException", Cond.fieldLink RX1 20 "ChoirNotes" "voiceCount" "I", Cond.fieldLink RX1 11 "ChoirNotes" "book" "[LChoirNotes$Voice;", Cond.methodLink RX1 16 yX1_checkMensuration, Cond.static yX1_checkMensuration, Cond.code yX1_checkMensuration cX1_checkMensuration 3 none, Cond.methodLink RX1 38 yX1_checkRange, Cond.static yX1_checkRange, Cond.code yX1_checkRange cX1_checkRange 3 none, Cond.classLink RX1 179 "java/lang/IllegalArgumentException", Cond.initialized "java/lang/IllegalArgumentException", Cond.instanceMethod yX0_measure]
def wsL_setMensuration_r2 : List Cond := [Cond.initialized RX0, Cond.selects RX0 yX0_measure yX0_measure, Cond.code yX0_measure cX0_measure 4 none, Cond.fieldLink RX0 32 "ChoirNotes$Voice" "brevesInLonga" "I", Cond.fieldLink RX0 35 "ChoirNotes$Voice" "semibrevesInBreve" "I", Cond.fieldLink RX0 38 "ChoirNotes$Voice" "minimsInSemibreve" "I", Cond.methodLink RX0 41 yX0_timeFrom, Cond.instanceMethod yX0_timeFrom, Cond.selects RX0 yX0_timeFrom yX0_timeFrom, Cond.code yX0_timeFrom cX0_timeFrom 3 none, Cond.fieldLink RX0 45 "ChoirNotes$Voice" "count" "I", Cond.fieldLink RX0 29 "ChoirNotes$Voice" "begins" "[I", Cond.fieldLink RX0 15 "ChoirNotes$Voice" "kinds" "[I", Cond.fieldLink RX0 22 "ChoirNotes$Voice" "colours" "[Z", Cond.methodLink RX0 48 yX0_minimsByKind, Cond.instanceMethod yX0_minimsByKind, Cond.selects RX0 yX0_minimsByKind yX0_minimsByKind, Cond.code yX0_minimsByKind cX0_minimsByKind 3 (some .int), Cond.instanceMethod yX0_end, Cond.selects RX0 yX0_end yX0_end, Cond.code yX0_end cX0_end 1 (some .int)]
def wsL_setMensuration : List Cond := .codeWith yL_setMensuration cL_setMensuration 7 (some .int) [(0, 14, 17, 21), (0, 14, 21, 13)] :: ((wsL_setMensuration_r1 ++ wsL_setMensuration_r2) ++ wsX10 ++ wsX00 ++ (vx_atS RX1 176 "java/lang/IndexOutOfBoundsException" ["java/lang/RuntimeException", "java/lang/Exception"]).filter goodWord ++ (vx_atS RX1 183 "java/lang/IllegalArgumentException" ["java/lang/RuntimeException", "java/lang/Exception"]).filter goodWord)
def wsL_signs : List Cond := .codeWith yL_signs cL_signs 4 (some .int) [(0, 9, 12, 21)] :: ([.classLink RL 21 "java/lang/IndexOutOfBoundsException", .methodLink RL 46 yX1_signs, .instanceMethod yX1_signs, .selects RX1 yX1_signs yX1_signs, .initialized RX1, .code yX1_signs cX1_signs 2 (some .int), .methodLink RX1 34 yX1_knownVoice, .instanceMethod yX1_knownVoice, .selects RX1 yX1_knownVoice yX1_knownVoice, .code yX1_knownVoice cX1_knownVoice 2 (some (.object "ChoirNotes$Voice")), .classLink RX1 172 "java/lang/IndexOutOfBoundsException", .initialized "java/lang/IndexOutOfBoundsException", .fieldLink RX1 20 "ChoirNotes" "voiceCount" "I", .fieldLink RX1 11 "ChoirNotes" "book" "[LChoirNotes$Voice;"] ++ wsX00 ++ wsX10 ++ (vx_atS RX1 176 "java/lang/IndexOutOfBoundsException" ["java/lang/RuntimeException", "java/lang/Exception"]).filter goodWord)
def wsL_notes : List Cond := .codeWith yL_notes cL_notes 4 (some .int) [(0, 9, 12, 21)] :: ([.classLink RL 21 "java/lang/IndexOutOfBoundsException", .methodLink RL 49 yX1_notes, .instanceMethod yX1_notes, .selects RX1 yX1_notes yX1_notes, .initialized RX1, .code yX1_notes cX1_notes 2 (some .int), .methodLink RX1 34 yX1_knownVoice, .instanceMethod yX1_knownVoice, .selects RX1 yX1_knownVoice yX1_knownVoice, .code yX1_knownVoice cX1_knownVoice 2 (some (.object "ChoirNotes$Voice")), .classLink RX1 172 "java/lang/IndexOutOfBoundsException", .initialized "java/lang/IndexOutOfBoundsException", .fieldLink RX1 20 "ChoirNotes" "voiceCount" "I", .fieldLink RX1 11 "ChoirNotes" "book" "[LChoirNotes$Voice;", .instanceMethod yX0_countNotes, .initialized RX0, .selects RX0 yX0_countNotes yX0_countNotes, .code yX0_countNotes cX0_countNotes 3 (some .int), .fieldLink RX0 45 "ChoirNotes$Voice" "count" "I", .methodLink RX0 52 yX0_isRest, .instanceMethod yX0_isRest, .selects RX0 yX0_isRest yX0_isRest, .code yX0_isRest cX0_isRest 2 (some .boolean), .fieldLink RX0 19 "ChoirNotes$Voice" "places" "[I"] ++ wsX10 ++ wsX00 ++ (vx_atS RX1 176 "java/lang/IndexOutOfBoundsException" ["java/lang/RuntimeException", "java/lang/Exception"]).filter goodWord)
def wsL_ligatures : List Cond := .codeWith yL_ligatures cL_ligatures 4 (some .int) [(0, 9, 12, 21)] :: ([.classLink RL 21 "java/lang/IndexOutOfBoundsException", .methodLink RL 52 yX1_ligatures, .instanceMethod yX1_ligatures, .selects RX1 yX1_ligatures yX1_ligatures, .initialized RX1, .code yX1_ligatures cX1_ligatures 2 (some .int), .methodLink RX1 34 yX1_knownVoice, .instanceMethod yX1_knownVoice, .selects RX1 yX1_knownVoice yX1_knownVoice, .code yX1_knownVoice cX1_knownVoice 2 (some (.object "ChoirNotes$Voice")), .classLink RX1 172 "java/lang/IndexOutOfBoundsException", .initialized "java/lang/IndexOutOfBoundsException", .fieldLink RX1 20 "ChoirNotes" "voiceCount" "I", .fieldLink RX1 11 "ChoirNotes" "book" "[LChoirNotes$Voice;", .instanceMethod yX0_countLigatures, .initialized RX0, .selects RX0 yX0_countLigatures yX0_countLigatures, .code yX0_countLigatures cX0_countLigatures 3 (some .int), .fieldLink RX0 45 "ChoirNotes$Voice" "count" "I", .fieldLink RX0 26 "ChoirNotes$Voice" "ranks" "[I"] ++ wsX10 ++ wsX00 ++ (vx_atS RX1 176 "java/lang/IndexOutOfBoundsException" ["java/lang/RuntimeException", "java/lang/Exception"]).filter goodWord)
def wsL_kindOf : List Cond := .codeWith yL_kindOf cL_kindOf 5 (some .int) [(0, 10, 13, 21)] :: ([.classLink RL 21 "java/lang/IndexOutOfBoundsException", .methodLink RL 55 yX1_kindOf, .instanceMethod yX1_kindOf, .selects RX1 yX1_kindOf yX1_kindOf, .initialized RX1, .code yX1_kindOf cX1_kindOf 3 (some .int), .methodLink RX1 73 yX1_voiceWithSign, .instanceMethod yX1_voiceWithSign, .selects RX1 yX1_voiceWithSign yX1_voiceWithSign, .code yX1_voiceWithSign cX1_voiceWithSign 4 (some (.object "ChoirNotes$Voice")), .classLink RX1 172 "java/lang/IndexOutOfBoundsException", .initialized "java/lang/IndexOutOfBoundsException", .methodLink RX1 34 yX1_knownVoice, .instanceMethod yX1_knownVoice, .selects RX1 yX1_knownVoice yX1_knownVoice, .code yX1_knownVoice cX1_knownVoice 2 (some (.object "ChoirNotes$Voice")), .fieldLink RX1 20 "ChoirNotes" "voiceCount" "I", .fieldLink RX1 11 "ChoirNotes" "book" "[LChoirNotes$Voice;"] ++ wsX00 ++ wsX10 ++ (vx_atS RX1 176 "java/lang/IndexOutOfBoundsException" ["java/lang/RuntimeException", "java/lang/Exception"]).filter goodWord)
def wsL_placeOf : List Cond := .codeWith yL_placeOf cL_placeOf 5 (some .int) [(0, 10, 13, 21)] :: ([.classLink RL 21 "java/lang/IndexOutOfBoundsException", .methodLink RL 58 yX1_placeOf, .instanceMethod yX1_placeOf, .selects RX1 yX1_placeOf yX1_placeOf, .initialized RX1, .code yX1_placeOf cX1_placeOf 3 (some .int), .methodLink RX1 73 yX1_voiceWithSign, .instanceMethod yX1_voiceWithSign, .selects RX1 yX1_voiceWithSign yX1_voiceWithSign, .code yX1_voiceWithSign cX1_voiceWithSign 4 (some (.object "ChoirNotes$Voice")), .classLink RX1 172 "java/lang/IndexOutOfBoundsException", .initialized "java/lang/IndexOutOfBoundsException", .methodLink RX1 34 yX1_knownVoice, .instanceMethod yX1_knownVoice, .selects RX1 yX1_knownVoice yX1_knownVoice, .code yX1_knownVoice cX1_knownVoice 2 (some (.object "ChoirNotes$Voice")), .fieldLink RX1 20 "ChoirNotes" "voiceCount" "I", .fieldLink RX1 11 "ChoirNotes" "book" "[LChoirNotes$Voice;"] ++ wsX00 ++ wsX10 ++ (vx_atS RX1 176 "java/lang/IndexOutOfBoundsException" ["java/lang/RuntimeException", "java/lang/Exception"]).filter goodWord)
def wsL_isColoured : List Cond := .codeWith yL_isColoured cL_isColoured 5 (some .int) [(0, 17, 20, 21)] :: ([.classLink RL 21 "java/lang/IndexOutOfBoundsException", .methodLink RL 61 yX1_isColoured, .instanceMethod yX1_isColoured, .selects RX1 yX1_isColoured yX1_isColoured, .initialized RX1, .code yX1_isColoured cX1_isColoured 3 (some .boolean), .methodLink RX1 73 yX1_voiceWithSign, .instanceMethod yX1_voiceWithSign, .selects RX1 yX1_voiceWithSign yX1_voiceWithSign, .code yX1_voiceWithSign cX1_voiceWithSign 4 (some (.object "ChoirNotes$Voice")), .classLink RX1 172 "java/lang/IndexOutOfBoundsException", .initialized "java/lang/IndexOutOfBoundsException", .methodLink RX1 34 yX1_knownVoice, .instanceMethod yX1_knownVoice, .selects RX1 yX1_knownVoice yX1_knownVoice, .code yX1_knownVoice cX1_knownVoice 2 (some (.object "ChoirNotes$Voice")), .fieldLink RX1 20 "ChoirNotes" "voiceCount" "I", .fieldLink RX1 11 "ChoirNotes" "book" "[LChoirNotes$Voice;"] ++ wsX00 ++ wsX10 ++ (vx_atS RX1 176 "java/lang/IndexOutOfBoundsException" ["java/lang/RuntimeException", "java/lang/Exception"]).filter goodWord)
def wsL_placeInLigature : List Cond := .codeWith yL_placeInLigature cL_placeInLigature 5 (some .int) [(0, 10, 13, 21)] :: ([.classLink RL 21 "java/lang/IndexOutOfBoundsException", .methodLink RL 64 yX1_placeInLigature, .instanceMethod yX1_placeInLigature, .selects RX1 yX1_placeInLigature yX1_placeInLigature, .initialized RX1, .code yX1_placeInLigature cX1_placeInLigature 3 (some .int), .methodLink RX1 73 yX1_voiceWithSign, .instanceMethod yX1_voiceWithSign, .selects RX1 yX1_voiceWithSign yX1_voiceWithSign, .code yX1_voiceWithSign cX1_voiceWithSign 4 (some (.object "ChoirNotes$Voice")), .classLink RX1 172 "java/lang/IndexOutOfBoundsException", .initialized "java/lang/IndexOutOfBoundsException", .methodLink RX1 34 yX1_knownVoice, .instanceMethod yX1_knownVoice, .selects RX1 yX1_knownVoice yX1_knownVoice, .code yX1_knownVoice cX1_knownVoice 2 (some (.object "ChoirNotes$Voice")), .fieldLink RX1 20 "ChoirNotes" "voiceCount" "I", .fieldLink RX1 11 "ChoirNotes" "book" "[LChoirNotes$Voice;"] ++ wsX00 ++ wsX10 ++ (vx_atS RX1 176 "java/lang/IndexOutOfBoundsException" ["java/lang/RuntimeException", "java/lang/Exception"]).filter goodWord)
def wsL_lengthOf : List Cond := .codeWith yL_lengthOf cL_lengthOf 5 (some .int) [(0, 10, 13, 21)] :: ([.classLink RL 21 "java/lang/IndexOutOfBoundsException", .methodLink RL 67 yX1_lengthOf, .instanceMethod yX1_lengthOf, .selects RX1 yX1_lengthOf yX1_lengthOf, .initialized RX1, .code yX1_lengthOf cX1_lengthOf 3 (some .int), .methodLink RX1 73 yX1_voiceWithSign, .instanceMethod yX1_voiceWithSign, .selects RX1 yX1_voiceWithSign yX1_voiceWithSign, .code yX1_voiceWithSign cX1_voiceWithSign 4 (some (.object "ChoirNotes$Voice")), .classLink RX1 172 "java/lang/IndexOutOfBoundsException", .initialized "java/lang/IndexOutOfBoundsException", .methodLink RX1 34 yX1_knownVoice, .instanceMethod yX1_knownVoice, .selects RX1 yX1_knownVoice yX1_knownVoice, .code yX1_knownVoice cX1_knownVoice 2 (some (.object "ChoirNotes$Voice")), .fieldLink RX1 20 "ChoirNotes" "voiceCount" "I", .fieldLink RX1 11 "ChoirNotes" "book" "[LChoirNotes$Voice;", .instanceMethod yX0_minimsOf, .initialized RX0, .selects RX0 yX0_minimsOf yX0_minimsOf, .code yX0_minimsOf cX0_minimsOf 2 (some .int), .fieldLink RX0 29 "ChoirNotes$Voice" "begins" "[I"] ++ wsX00 ++ wsX10 ++ (vx_atS RX1 176 "java/lang/IndexOutOfBoundsException" ["java/lang/RuntimeException", "java/lang/Exception"]).filter goodWord)
def wsL_beginOf : List Cond := .codeWith yL_beginOf cL_beginOf 5 (some .int) [(0, 10, 13, 21)] :: ([.classLink RL 21 "java/lang/IndexOutOfBoundsException", .methodLink RL 70 yX1_beginOf, .instanceMethod yX1_beginOf, .selects RX1 yX1_beginOf yX1_beginOf, .initialized RX1, .code yX1_beginOf cX1_beginOf 3 (some .int), .methodLink RX1 73 yX1_voiceWithSign, .instanceMethod yX1_voiceWithSign, .selects RX1 yX1_voiceWithSign yX1_voiceWithSign, .code yX1_voiceWithSign cX1_voiceWithSign 4 (some (.object "ChoirNotes$Voice")), .classLink RX1 172 "java/lang/IndexOutOfBoundsException", .initialized "java/lang/IndexOutOfBoundsException", .methodLink RX1 34 yX1_knownVoice, .instanceMethod yX1_knownVoice, .selects RX1 yX1_knownVoice yX1_knownVoice, .code yX1_knownVoice cX1_knownVoice 2 (some (.object "ChoirNotes$Voice")), .fieldLink RX1 20 "ChoirNotes" "voiceCount" "I", .fieldLink RX1 11 "ChoirNotes" "book" "[LChoirNotes$Voice;"] ++ wsX00 ++ wsX10 ++ (vx_atS RX1 176 "java/lang/IndexOutOfBoundsException" ["java/lang/RuntimeException", "java/lang/Exception"]).filter goodWord)
def wsL_length : List Cond := .codeWith yL_length cL_length 4 (some .int) [(0, 9, 12, 21)] :: ([.classLink RL 21 "java/lang/IndexOutOfBoundsException", .methodLink RL 73 yX1_length, .instanceMethod yX1_length, .selects RX1 yX1_length yX1_length, .initialized RX1, .code yX1_length cX1_length 2 (some .int), .methodLink RX1 34 yX1_knownVoice, .instanceMethod yX1_knownVoice, .selects RX1 yX1_knownVoice yX1_knownVoice, .code yX1_knownVoice cX1_knownVoice 2 (some (.object "ChoirNotes$Voice")), .classLink RX1 172 "java/lang/IndexOutOfBoundsException", .initialized "java/lang/IndexOutOfBoundsException", .fieldLink RX1 20 "ChoirNotes" "voiceCount" "I", .fieldLink RX1 11 "ChoirNotes" "book" "[LChoirNotes$Voice;", .instanceMethod yX0_end, .initialized RX0, .selects RX0 yX0_end yX0_end, .code yX0_end cX0_end 1 (some .int), .fieldLink RX0 29 "ChoirNotes$Voice" "begins" "[I", .fieldLink RX0 45 "ChoirNotes$Voice" "count" "I"] ++ wsX10 ++ wsX00 ++ (vx_atS RX1 176 "java/lang/IndexOutOfBoundsException" ["java/lang/RuntimeException", "java/lang/Exception"]).filter goodWord)
def wsL_signAt_r1 : List Cond := [Cond.classLink RL 21 "java/lang/IndexOutOfBoundsException", Cond.classLink RL 13 "java/lang/IllegalArgumentException", Cond.methodLink RL 76 yX1_signAt, Cond.instanceMethod yX1_signAt, Cond.selects RX1 yX1_signAt yX1_signAt, Cond.initialized RX1, Cond.code yX1_signAt cX1_signAt 4 (some .int), Cond.constant RX1 126 (2147483647), Cond.methodLink RX1 34 yX1_knownVoice, Cond.instanceMethod yX1_knownVoice, Cond.selects RX1 yX1_knownVoice yX1_knownVoice, Cond.code yX1_knownVoice cX1_knownVoice 2 (some (.object "ChoirNotes$Voice")), Cond.classLink RX1 172 "java/lang/IndexOutOfBoundsException", Cond.initialized "java/lang/IndexOutOfBoundsException", Cond.fieldLink RX1 20 "ChoirNotes" "voiceCount" "I", Cond.fieldLink RX1 11 "ChoirNotes" "book" "[LChoirNotes$Voice;", Cond.methodLink RX1 38 yX1_checkRange, Cond.static yX1_checkRange, Cond.code yX1_checkRange cX1_checkRange 3 none, Cond.classLink RX1 179 "java/lang/IllegalArgumentException", Cond.initialized "java/lang/IllegalArgumentException", Cond.instanceMethod yX0_signLastingAt, Cond.initialized RX0, Cond.selects RX0 yX0_signLastingAt yX0_signLastingAt]
def wsL_signAt_r2 : List Cond := [Cond.code yX0_signLastingAt cX0_signLastingAt 3 (some .int), Cond.fieldLink RX0 45 "ChoirNotes$Voice" "count" "I", Cond.fieldLink RX0 29 "ChoirNotes$Voice" "begins" "[I"]
def wsL_signAt : List Cond := .codeWith yL_signAt cL_signAt 5 (some .int) [(0, 10, 13, 21), (0, 10, 17, 13)] :: ((wsL_signAt_r1 ++ wsL_signAt_r2) ++ wsX10 ++ wsX00 ++ (vx_atS RX1 176 "java/lang/IndexOutOfBoundsException" ["java/lang/RuntimeException", "java/lang/Exception"]).filter goodWord ++ (vx_atS RX1 183 "java/lang/IllegalArgumentException" ["java/lang/RuntimeException", "java/lang/Exception"]).filter goodWord)
def wsL_clefOf : List Cond := .codeWith yL_clefOf cL_clefOf 4 (some .int) [(0, 9, 12, 21)] :: ([.classLink RL 21 "java/lang/IndexOutOfBoundsException", .methodLink RL 79 yX1_clefOf, .instanceMethod yX1_clefOf, .selects RX1 yX1_clefOf yX1_clefOf, .initialized RX1, .code yX1_clefOf cX1_clefOf 2 (some .int), .methodLink RX1 34 yX1_knownVoice, .instanceMethod yX1_knownVoice, .selects RX1 yX1_knownVoice yX1_knownVoice, .code yX1_knownVoice cX1_knownVoice 2 (some (.object "ChoirNotes$Voice")), .classLink RX1 172 "java/lang/IndexOutOfBoundsException", .initialized "java/lang/IndexOutOfBoundsException", .fieldLink RX1 20 "ChoirNotes" "voiceCount" "I", .fieldLink RX1 11 "ChoirNotes" "book" "[LChoirNotes$Voice;"] ++ wsX00 ++ wsX10 ++ (vx_atS RX1 176 "java/lang/IndexOutOfBoundsException" ["java/lang/RuntimeException", "java/lang/Exception"]).filter goodWord)
def wsL_pitchOf_r1 : List Cond := [Cond.classLink RL 21 "java/lang/IndexOutOfBoundsException", Cond.classLink RL 15 "java/lang/IllegalStateException", Cond.methodLink RL 82 yX1_pitchOf, Cond.instanceMethod yX1_pitchOf, Cond.selects RX1 yX1_pitchOf yX1_pitchOf, Cond.initialized RX1, Cond.code yX1_pitchOf cX1_pitchOf 4 (some .int), Cond.methodLink RX1 73 yX1_voiceWithSign, Cond.instanceMethod yX1_voiceWithSign, Cond.selects RX1 yX1_voiceWithSign yX1_voiceWithSign, Cond.code yX1_voiceWithSign cX1_voiceWithSign 4 (some (.object "ChoirNotes$Voice")), Cond.classLink RX1 172 "java/lang/IndexOutOfBoundsException", Cond.initialized "java/lang/IndexOutOfBoundsException", Cond.methodLink RX1 34 yX1_knownVoice, Cond.instanceMethod yX1_knownVoice, Cond.selects RX1 yX1_knownVoice yX1_knownVoice, Cond.code yX1_knownVoice cX1_knownVoice 2 (some (.object "ChoirNotes$Voice")), Cond.fieldLink RX1 20 "ChoirNotes" "voiceCount" "I", Cond.fieldLink RX1 11 "ChoirNotes" "book" "[LChoirNotes$Voice;", Cond.methodLink RX1 130 yX1_checkHasClef, Cond.static yX1_checkHasClef, Cond.code yX1_checkHasClef cX1_checkHasClef 1 none, Cond.classLink RX1 24 "java/lang/IllegalStateException", Cond.initialized "java/lang/IllegalStateException"]
def wsL_pitchOf_r2 : List Cond := [Cond.instanceMethod yX0_isRest, Cond.initialized RX0, Cond.selects RX0 yX0_isRest yX0_isRest, Cond.code yX0_isRest cX0_isRest 2 (some .boolean), Cond.fieldLink RX0 19 "ChoirNotes$Voice" "places" "[I"]
def wsL_pitchOf : List Cond := .codeWith yL_pitchOf cL_pitchOf 5 (some .int) [(0, 10, 13, 21), (0, 10, 17, 15)] :: ((wsL_pitchOf_r1 ++ wsL_pitchOf_r2) ++ wsX00 ++ wsX10 ++ (vx_atS RX1 176 "java/lang/IndexOutOfBoundsException" ["java/lang/RuntimeException", "java/lang/Exception"]).filter goodWord ++ (vx_atS RX1 28 "java/lang/IllegalStateException" ["java/lang/RuntimeException", "java/lang/Exception"]).filter goodWord)
def wsL_fits_r1 : List Cond := [Cond.classLink RL 21 "java/lang/IndexOutOfBoundsException", Cond.classLink RL 13 "java/lang/IllegalArgumentException", Cond.methodLink RL 85 yX1_fits, Cond.instanceMethod yX1_fits, Cond.selects RX1 yX1_fits yX1_fits, Cond.initialized RX1, Cond.code yX1_fits cX1_fits 4 (some .boolean), Cond.methodLink RX1 34 yX1_knownVoice, Cond.instanceMethod yX1_knownVoice, Cond.selects RX1 yX1_knownVoice yX1_knownVoice, Cond.code yX1_knownVoice cX1_knownVoice 2 (some (.object "ChoirNotes$Voice")), Cond.classLink RX1 172 "java/lang/IndexOutOfBoundsException", Cond.initialized "java/lang/IndexOutOfBoundsException", Cond.fieldLink RX1 20 "ChoirNotes" "voiceCount" "I", Cond.fieldLink RX1 11 "ChoirNotes" "book" "[LChoirNotes$Voice;", Cond.methodLink RX1 38 yX1_checkRange, Cond.static yX1_checkRange, Cond.code yX1_checkRange cX1_checkRange 3 none, Cond.classLink RX1 179 "java/lang/IllegalArgumentException", Cond.initialized "java/lang/IllegalArgumentException", Cond.instanceMethod yX0_wouldFit, Cond.initialized RX0, Cond.selects RX0 yX0_wouldFit yX0_wouldFit, Cond.code yX0_wouldFit cX0_wouldFit 4 (some .boolean)]
def wsL_fits_r2 : List Cond := [Cond.fieldLink RX0 45 "ChoirNotes$Voice" "count" "I", Cond.fieldLink RX0 19 "ChoirNotes$Voice" "places" "[I", Cond.methodLink RX0 52 yX0_isRest, Cond.instanceMethod yX0_isRest, Cond.selects RX0 yX0_isRest yX0_isRest, Cond.code yX0_isRest cX0_isRest 2 (some .boolean)]
def wsL_fits : List Cond := .codeWith yL_fits cL_fits 5 (some .int) [(0, 17, 20, 21), (0, 17, 24, 13)] :: ((wsL_fits_r1 ++ wsL_fits_r2) ++ wsX10 ++ wsX00 ++ (vx_atS RX1 176 "java/lang/IndexOutOfBoundsException" ["java/lang/RuntimeException", "java/lang/Exception"]).filter goodWord ++ (vx_atS RX1 183 "java/lang/IllegalArgumentException" ["java/lang/RuntimeException", "java/lang/Exception"]).filter goodWord)
def wsL_clefsThatFit_r1 : List Cond := [Cond.classLink RL 21 "java/lang/IndexOutOfBoundsException", Cond.methodLink RL 88 yX1_clefsThatFit, Cond.instanceMethod yX1_clefsThatFit, Cond.selects RX1 yX1_clefsThatFit yX1_clefsThatFit, Cond.initialized RX1, Cond.code yX1_clefsThatFit cX1_clefsThatFit 2 (some .int), Cond.methodLink RX1 34 yX1_knownVoice, Cond.instanceMethod yX1_knownVoice, Cond.selects RX1 yX1_knownVoice yX1_knownVoice, Cond.code yX1_knownVoice cX1_knownVoice 2 (some (.object "ChoirNotes$Voice")), Cond.classLink RX1 172 "java/lang/IndexOutOfBoundsException", Cond.initialized "java/lang/IndexOutOfBoundsException", Cond.fieldLink RX1 20 "ChoirNotes" "voiceCount" "I", Cond.fieldLink RX1 11 "ChoirNotes" "book" "[LChoirNotes$Voice;", Cond.instanceMethod yX0_countFittingClefs, Cond.initialized RX0, Cond.selects RX0 yX0_countFittingClefs yX0_countFittingClefs, Cond.code yX0_countFittingClefs cX0_countFittingClefs 3 (some .int), Cond.methodLink RX0 56 yX0_wouldFit, Cond.instanceMethod yX0_wouldFit, Cond.selects RX0 yX0_wouldFit yX0_wouldFit, Cond.code yX0_wouldFit cX0_wouldFit 4 (some .boolean), Cond.fieldLink RX0 45 "ChoirNotes$Voice" "count" "I", Cond.fieldLink RX0 19 "ChoirNotes$Voice" "places" "[I"]
def wsL_clefsThatFit_r2 : List Cond := [Cond.methodLink RX0 52 yX0_isRest, Cond.instanceMethod yX0_isRest, Cond.selects RX0 yX0_isRest yX0_isRest, Cond.code yX0_isRest cX0_isRest 2 (some .boolean)]
def wsL_clefsThatFit : List Cond := .codeWith yL_clefsThatFit cL_clefsThatFit 4 (some .int) [(0, 9, 12, 21)] :: ((wsL_clefsThatFit_r1 ++ wsL_clefsThatFit_r2) ++ wsX10 ++ wsX00 ++ (vx_atS RX1 176 "java/lang/IndexOutOfBoundsException" ["java/lang/RuntimeException", "java/lang/Exception"]).filter goodWord)
def wsL_clashes_r1 : List Cond := [Cond.classLink RL 21 "java/lang/IndexOutOfBoundsException", Cond.classLink RL 15 "java/lang/IllegalStateException", Cond.methodLink RL 91 yX1_clashes, Cond.instanceMethod yX1_clashes, Cond.selects RX1 yX1_clashes yX1_clashes, Cond.initialized RX1, Cond.code yX1_clashes cX1_clashes 5 (some .int), Cond.methodLink RX1 34 yX1_knownVoice, Cond.instanceMethod yX1_knownVoice, Cond.selects RX1 yX1_knownVoice yX1_knownVoice, Cond.code yX1_knownVoice cX1_knownVoice 2 (some (.object "ChoirNotes$Voice")), Cond.classLink RX1 172 "java/lang/IndexOutOfBoundsException", Cond.initialized "java/lang/IndexOutOfBoundsException", Cond.fieldLink RX1 20 "ChoirNotes" "voiceCount" "I", Cond.fieldLink RX1 11 "ChoirNotes" "book" "[LChoirNotes$Voice;", Cond.methodLink RX1 130 yX1_checkHasClef, Cond.static yX1_checkHasClef, Cond.code yX1_checkHasClef cX1_checkHasClef 1 none, Cond.classLink RX1 24 "java/lang/IllegalStateException", Cond.initialized "java/lang/IllegalStateException", Cond.methodLink RX1 140 yX1_clashingMinims, Cond.static yX1_clashingMinims, Cond.code yX1_clashingMinims cX1_clashingMinims 11 (some .int), Cond.methodLink RX1 119 Lib.Math.max.name]
def wsL_clashes_r2 : List Cond := [Cond.static Lib.Math.max.name, Cond.initialized "java/lang/Math", Cond.code Lib.Math.max.name Lib.Math.max.code 2 (some .int), Cond.methodLink RX1 190 Lib.Math.min.name, Cond.static Lib.Math.min.name, Cond.code Lib.Math.min.name Lib.Math.min.code 2 (some .int), Cond.methodLink RX1 193 yX1_signsClash, Cond.static yX1_signsClash, Cond.code yX1_signsClash cX1_signsClash 6 (some .boolean), Cond.methodLink RX1 197 Lib.Math.abs.name, Cond.static Lib.Math.abs.name, Cond.code Lib.Math.abs.name Lib.Math.abs.code 1 (some .int), Cond.instanceMethod yX0_isRest, Cond.initialized RX0, Cond.selects RX0 yX0_isRest yX0_isRest, Cond.code yX0_isRest cX0_isRest 2 (some .boolean), Cond.fieldLink RX0 19 "ChoirNotes$Voice" "places" "[I"]
def wsL_clashes : List Cond := .codeWith yL_clashes cL_clashes 5 (some .int) [(0, 10, 13, 21), (0, 10, 17, 15)] :: ((wsL_clashes_r1 ++ wsL_clashes_r2) ++ wsX00 ++ wsX10 ++ (vx_atS RX1 176 "java/lang/IndexOutOfBoundsException" ["java/lang/RuntimeException", "java/lang/Exception"]).filter goodWord ++ (vx_atS RX1 28 "java/lang/IllegalStateException" ["java/lang/RuntimeException", "java/lang/Exception"]).filter goodWord)
def wsL_firstClash_r1 : List Cond := [Cond.classLink RL 21 "java/lang/IndexOutOfBoundsException", Cond.classLink RL 15 "java/lang/IllegalStateException", Cond.methodLink RL 94 yX1_firstClash, Cond.instanceMethod yX1_firstClash, Cond.selects RX1 yX1_firstClash yX1_firstClash, Cond.initialized RX1, Cond.code yX1_firstClash cX1_firstClash 5 (some .int), Cond.methodLink RX1 34 yX1_knownVoice, Cond.instanceMethod yX1_knownVoice, Cond.selects RX1 yX1_knownVoice yX1_knownVoice, Cond.code yX1_knownVoice cX1_knownVoice 2 (some (.object "ChoirNotes$Voice")), Cond.classLink RX1 172 "java/lang/IndexOutOfBoundsException", Cond.initialized "java/lang/IndexOutOfBoundsException", Cond.fieldLink RX1 20 "ChoirNotes" "voiceCount" "I", Cond.fieldLink RX1 11 "ChoirNotes" "book" "[LChoirNotes$Voice;", Cond.methodLink RX1 130 yX1_checkHasClef, Cond.static yX1_checkHasClef, Cond.code yX1_checkHasClef cX1_checkHasClef 1 none, Cond.classLink RX1 24 "java/lang/IllegalStateException", Cond.initialized "java/lang/IllegalStateException", Cond.methodLink RX1 144 yX1_firstClashingMinim, Cond.static yX1_firstClashingMinim, Cond.code yX1_firstClashingMinim cX1_firstClashingMinim 9 (some .int), Cond.methodLink RX1 119 Lib.Math.max.name]
def wsL_firstClash_r2 : List Cond := [Cond.static Lib.Math.max.name, Cond.initialized "java/lang/Math", Cond.code Lib.Math.max.name Lib.Math.max.code 2 (some .int), Cond.methodLink RX1 190 Lib.Math.min.name, Cond.static Lib.Math.min.name, Cond.code Lib.Math.min.name Lib.Math.min.code 2 (some .int), Cond.methodLink RX1 193 yX1_signsClash, Cond.static yX1_signsClash, Cond.code yX1_signsClash cX1_signsClash 6 (some .boolean), Cond.methodLink RX1 197 Lib.Math.abs.name, Cond.static Lib.Math.abs.name, Cond.code Lib.Math.abs.name Lib.Math.abs.code 1 (some .int), Cond.instanceMethod yX0_isRest, Cond.initialized RX0, Cond.selects RX0 yX0_isRest yX0_isRest, Cond.code yX0_isRest cX0_isRest 2 (some .boolean), Cond.fieldLink RX0 19 "ChoirNotes$Voice" "places" "[I"]
def wsL_firstClash : List Cond := .codeWith yL_firstClash cL_firstClash 5 (some .int) [(0, 10, 13, 21), (0, 10, 17, 15)] :: ((wsL_firstClash_r1 ++ wsL_firstClash_r2) ++ wsX00 ++ wsX10 ++ (vx_atS RX1 176 "java/lang/IndexOutOfBoundsException" ["java/lang/RuntimeException", "java/lang/Exception"]).filter goodWord ++ (vx_atS RX1 28 "java/lang/IllegalStateException" ["java/lang/RuntimeException", "java/lang/Exception"]).filter goodWord)
def wsL_clashesWith_r1 : List Cond := [Cond.classLink RL 21 "java/lang/IndexOutOfBoundsException", Cond.classLink RL 13 "java/lang/IllegalArgumentException", Cond.methodLink RL 97 yX1_clashesWith, Cond.instanceMethod yX1_clashesWith, Cond.selects RX1 yX1_clashesWith yX1_clashesWith, Cond.initialized RX1, Cond.code yX1_clashesWith cX1_clashesWith 4 (some .int), Cond.methodLink RX1 34 yX1_knownVoice, Cond.instanceMethod yX1_knownVoice, Cond.selects RX1 yX1_knownVoice yX1_knownVoice, Cond.code yX1_knownVoice cX1_knownVoice 2 (some (.object "ChoirNotes$Voice")), Cond.classLink RX1 172 "java/lang/IndexOutOfBoundsException", Cond.initialized "java/lang/IndexOutOfBoundsException", Cond.fieldLink RX1 20 "ChoirNotes" "voiceCount" "I", Cond.fieldLink RX1 11 "ChoirNotes" "book" "[LChoirNotes$Voice;", Cond.methodLink RX1 38 yX1_checkRange, Cond.static yX1_checkRange, Cond.code yX1_checkRange cX1_checkRange 3 none, Cond.classLink RX1 179 "java/lang/IllegalArgumentException", Cond.initialized "java/lang/IllegalArgumentException", Cond.methodLink RX1 148 yX1_clashesIfClef, Cond.instanceMethod yX1_clashesIfClef, Cond.selects RX1 yX1_clashesIfClef yX1_clashesIfClef, Cond.code yX1_clashesIfClef cX1_clashesIfClef 6 (some .int)]
def wsL_clashesWith_r2 : List Cond := [Cond.methodLink RX1 140 yX1_clashingMinims, Cond.static yX1_clashingMinims, Cond.code yX1_clashingMinims cX1_clashingMinims 11 (some .int), Cond.methodLink RX1 119 Lib.Math.max.name, Cond.static Lib.Math.max.name, Cond.initialized "java/lang/Math", Cond.code Lib.Math.max.name Lib.Math.max.code 2 (some .int), Cond.methodLink RX1 190 Lib.Math.min.name, Cond.static Lib.Math.min.name, Cond.code Lib.Math.min.name Lib.Math.min.code 2 (some .int), Cond.methodLink RX1 193 yX1_signsClash, Cond.static yX1_signsClash, Cond.code yX1_signsClash cX1_signsClash 6 (some .boolean), Cond.methodLink RX1 197 Lib.Math.abs.name, Cond.static Lib.Math.abs.name, Cond.code Lib.Math.abs.name Lib.Math.abs.code 1 (some .int), Cond.instanceMethod yX0_isRest, Cond.initialized RX0, Cond.selects RX0 yX0_isRest yX0_isRest, Cond.code yX0_isRest cX0_isRest 2 (some .boolean), Cond.fieldLink RX0 19 "ChoirNotes$Voice" "places" "[I"]
def wsL_clashesWith : List Cond := .codeWith yL_clashesWith cL_clashesWith 5 (some .int) [(0, 10, 13, 21), (0, 10, 17, 13)] :: ((wsL_clashesWith_r1 ++ wsL_clashesWith_r2) ++ wsX10 ++ wsX00 ++ (vx_atS RX1 176 "java/lang/IndexOutOfBoundsException" ["java/lang/RuntimeException", "java/lang/Exception"]).filter goodWord ++ (vx_atS RX1 183 "java/lang/IllegalArgumentException" ["java/lang/RuntimeException", "java/lang/Exception"]).filter goodWord)
def wsL_bestClef_r1 : List Cond := [Cond.classLink RL 21 "java/lang/IndexOutOfBoundsException", Cond.methodLink RL 100 yX1_bestClef, Cond.instanceMethod yX1_bestClef, Cond.selects RX1 yX1_bestClef yX1_bestClef, Cond.initialized RX1, Cond.code yX1_bestClef cX1_bestClef 2 (some .int), Cond.methodLink RX1 34 yX1_knownVoice, Cond.instanceMethod yX1_knownVoice, Cond.selects RX1 yX1_knownVoice yX1_knownVoice, Cond.code yX1_knownVoice cX1_knownVoice 2 (some (.object "ChoirNotes$Voice")), Cond.classLink RX1 172 "java/lang/IndexOutOfBoundsException", Cond.initialized "java/lang/IndexOutOfBoundsException", Cond.fieldLink RX1 20 "ChoirNotes" "voiceCount" "I", Cond.fieldLink RX1 11 "ChoirNotes" "book" "[LChoirNotes$Voice;", Cond.methodLink RX1 152 yX1_clefWithFewestClashes, Cond.instanceMethod yX1_clefWithFewestClashes, Cond.selects RX1 yX1_clefWithFewestClashes yX1_clefWithFewestClashes, Cond.code yX1_clefWithFewestClashes cX1_clefWithFewestClashes 6 (some .int), Cond.constant RX1 126 (2147483647), Cond.instanceMethod yX0_wouldFit, Cond.initialized RX0, Cond.selects RX0 yX0_wouldFit yX0_wouldFit, Cond.code yX0_wouldFit cX0_wouldFit 4 (some .boolean), Cond.fieldLink RX0 45 "ChoirNotes$Voice" "count" "I"]
def wsL_bestClef_r2 : List Cond := [Cond.fieldLink RX0 19 "ChoirNotes$Voice" "places" "[I", Cond.methodLink RX0 52 yX0_isRest, Cond.instanceMethod yX0_isRest, Cond.selects RX0 yX0_isRest yX0_isRest, Cond.code yX0_isRest cX0_isRest 2 (some .boolean), Cond.methodLink RX1 148 yX1_clashesIfClef, Cond.instanceMethod yX1_clashesIfClef, Cond.selects RX1 yX1_clashesIfClef yX1_clashesIfClef, Cond.code yX1_clashesIfClef cX1_clashesIfClef 6 (some .int), Cond.methodLink RX1 140 yX1_clashingMinims, Cond.static yX1_clashingMinims, Cond.code yX1_clashingMinims cX1_clashingMinims 11 (some .int), Cond.methodLink RX1 119 Lib.Math.max.name, Cond.static Lib.Math.max.name, Cond.initialized "java/lang/Math", Cond.code Lib.Math.max.name Lib.Math.max.code 2 (some .int), Cond.methodLink RX1 190 Lib.Math.min.name, Cond.static Lib.Math.min.name, Cond.code Lib.Math.min.name Lib.Math.min.code 2 (some .int), Cond.methodLink RX1 193 yX1_signsClash, Cond.static yX1_signsClash, Cond.code yX1_signsClash cX1_signsClash 6 (some .boolean), Cond.methodLink RX1 197 Lib.Math.abs.name, Cond.static Lib.Math.abs.name]
def wsL_bestClef_r3 : List Cond := [Cond.code Lib.Math.abs.name Lib.Math.abs.code 1 (some .int)]
def wsL_bestClef : List Cond := .codeWith yL_bestClef cL_bestClef 4 (some .int) [(0, 9, 12, 21)] :: ((wsL_bestClef_r1 ++ (wsL_bestClef_r2 ++ wsL_bestClef_r3)) ++ wsX10 ++ wsX00 ++ (vx_atS RX1 176 "java/lang/IndexOutOfBoundsException" ["java/lang/RuntimeException", "java/lang/Exception"]).filter goodWord)
def wsL_canonClashes_r1 : List Cond := [Cond.classLink RL 21 "java/lang/IndexOutOfBoundsException", Cond.classLink RL 13 "java/lang/IllegalArgumentException", Cond.methodLink RL 103 yX1_canonClashes, Cond.instanceMethod yX1_canonClashes, Cond.selects RX1 yX1_canonClashes yX1_canonClashes, Cond.initialized RX1, Cond.code yX1_canonClashes cX1_canonClashes 5 (some .int), Cond.methodLink RX1 34 yX1_knownVoice, Cond.instanceMethod yX1_knownVoice, Cond.selects RX1 yX1_knownVoice yX1_knownVoice, Cond.code yX1_knownVoice cX1_knownVoice 2 (some (.object "ChoirNotes$Voice")), Cond.classLink RX1 172 "java/lang/IndexOutOfBoundsException", Cond.initialized "java/lang/IndexOutOfBoundsException", Cond.fieldLink RX1 20 "ChoirNotes" "voiceCount" "I", Cond.fieldLink RX1 11 "ChoirNotes" "book" "[LChoirNotes$Voice;", Cond.methodLink RX1 38 yX1_checkRange, Cond.static yX1_checkRange, Cond.code yX1_checkRange cX1_checkRange 3 none, Cond.classLink RX1 179 "java/lang/IllegalArgumentException", Cond.initialized "java/lang/IllegalArgumentException", Cond.methodLink RX1 140 yX1_clashingMinims, Cond.static yX1_clashingMinims, Cond.code yX1_clashingMinims cX1_clashingMinims 11 (some .int), Cond.methodLink RX1 119 Lib.Math.max.name]
def wsL_canonClashes_r2 : List Cond := [Cond.static Lib.Math.max.name, Cond.initialized "java/lang/Math", Cond.code Lib.Math.max.name Lib.Math.max.code 2 (some .int), Cond.methodLink RX1 190 Lib.Math.min.name, Cond.static Lib.Math.min.name, Cond.code Lib.Math.min.name Lib.Math.min.code 2 (some .int), Cond.methodLink RX1 193 yX1_signsClash, Cond.static yX1_signsClash, Cond.code yX1_signsClash cX1_signsClash 6 (some .boolean), Cond.methodLink RX1 197 Lib.Math.abs.name, Cond.static Lib.Math.abs.name, Cond.code Lib.Math.abs.name Lib.Math.abs.code 1 (some .int), Cond.instanceMethod yX0_isRest, Cond.initialized RX0, Cond.selects RX0 yX0_isRest yX0_isRest, Cond.code yX0_isRest cX0_isRest 2 (some .boolean), Cond.fieldLink RX0 19 "ChoirNotes$Voice" "places" "[I"]
def wsL_canonClashes : List Cond := .codeWith yL_canonClashes cL_canonClashes 6 (some .int) [(0, 12, 15, 21), (0, 12, 19, 13)] :: ((wsL_canonClashes_r1 ++ wsL_canonClashes_r2) ++ wsX10 ++ wsX00 ++ (vx_atS RX1 176 "java/lang/IndexOutOfBoundsException" ["java/lang/RuntimeException", "java/lang/Exception"]).filter goodWord ++ (vx_atS RX1 183 "java/lang/IllegalArgumentException" ["java/lang/RuntimeException", "java/lang/Exception"]).filter goodWord)
def wsL_bestDelay_r1 : List Cond := [Cond.classLink RL 21 "java/lang/IndexOutOfBoundsException", Cond.classLink RL 13 "java/lang/IllegalArgumentException", Cond.methodLink RL 106 yX1_bestDelay, Cond.instanceMethod yX1_bestDelay, Cond.selects RX1 yX1_bestDelay yX1_bestDelay, Cond.initialized RX1, Cond.code yX1_bestDelay cX1_bestDelay 4 (some .int), Cond.methodLink RX1 34 yX1_knownVoice, Cond.instanceMethod yX1_knownVoice, Cond.selects RX1 yX1_knownVoice yX1_knownVoice, Cond.code yX1_knownVoice cX1_knownVoice 2 (some (.object "ChoirNotes$Voice")), Cond.classLink RX1 172 "java/lang/IndexOutOfBoundsException", Cond.initialized "java/lang/IndexOutOfBoundsException", Cond.fieldLink RX1 20 "ChoirNotes" "voiceCount" "I", Cond.fieldLink RX1 11 "ChoirNotes" "book" "[LChoirNotes$Voice;", Cond.methodLink RX1 38 yX1_checkRange, Cond.static yX1_checkRange, Cond.code yX1_checkRange cX1_checkRange 3 none, Cond.classLink RX1 179 "java/lang/IllegalArgumentException", Cond.initialized "java/lang/IllegalArgumentException", Cond.methodLink RX1 156 yX1_delayWithFewestClashes, Cond.static yX1_delayWithFewestClashes, Cond.code yX1_delayWithFewestClashes cX1_delayWithFewestClashes 6 (some .int), Cond.constant RX1 126 (2147483647)]
def wsL_bestDelay_r2 : List Cond := [Cond.methodLink RX1 140 yX1_clashingMinims, Cond.static yX1_clashingMinims, Cond.code yX1_clashingMinims cX1_clashingMinims 11 (some .int), Cond.methodLink RX1 119 Lib.Math.max.name, Cond.static Lib.Math.max.name, Cond.initialized "java/lang/Math", Cond.code Lib.Math.max.name Lib.Math.max.code 2 (some .int), Cond.methodLink RX1 190 Lib.Math.min.name, Cond.static Lib.Math.min.name, Cond.code Lib.Math.min.name Lib.Math.min.code 2 (some .int), Cond.methodLink RX1 193 yX1_signsClash, Cond.static yX1_signsClash, Cond.code yX1_signsClash cX1_signsClash 6 (some .boolean), Cond.methodLink RX1 197 Lib.Math.abs.name, Cond.static Lib.Math.abs.name, Cond.code Lib.Math.abs.name Lib.Math.abs.code 1 (some .int), Cond.instanceMethod yX0_isRest, Cond.initialized RX0, Cond.selects RX0 yX0_isRest yX0_isRest, Cond.code yX0_isRest cX0_isRest 2 (some .boolean), Cond.fieldLink RX0 19 "ChoirNotes$Voice" "places" "[I"]
def wsL_bestDelay : List Cond := .codeWith yL_bestDelay cL_bestDelay 5 (some .int) [(0, 10, 13, 21), (0, 10, 17, 13)] :: ((wsL_bestDelay_r1 ++ wsL_bestDelay_r2) ++ wsX10 ++ wsX00 ++ (vx_atS RX1 176 "java/lang/IndexOutOfBoundsException" ["java/lang/RuntimeException", "java/lang/Exception"]).filter goodWord ++ (vx_atS RX1 183 "java/lang/IllegalArgumentException" ["java/lang/RuntimeException", "java/lang/Exception"]).filter goodWord)
def wsL_law0_r1 : List Cond := [Cond.classLink RL 8 RX1, Cond.instantiable RX1 2, Cond.initialized RX1, Cond.classLink RL 110 RX2, Cond.instantiable RX2 11, Cond.initialized RX2, Cond.arrayClass .long, Cond.methodLink RL 109 yX1_init, Cond.instanceMethod yX1_init, Cond.code yX1_init cX1_init 2 none, Cond.methodLink RX1 1 objectInit, Cond.instanceMethod objectInit, Cond.code objectInit ⟨#[0xb1]⟩ 1 none, Cond.classLink RX1 9 RX0, Cond.fieldLink RX1 11 "ChoirNotes" "book" "[LChoirNotes$Voice;", Cond.instantiable RX0 10, Cond.initialized RX0, Cond.instanceMethod yX0_init, Cond.code yX0_init cX0_init 1 none, Cond.methodLink RX0 3 objectInit, Cond.fieldLink RX0 9 "ChoirNotes$Voice" "clef" "I", Cond.arrayClass .int, Cond.fieldLink RX0 15 "ChoirNotes$Voice" "kinds" "[I", Cond.fieldLink RX0 19 "ChoirNotes$Voice" "places" "[I"]
def wsL_law0_r2 : List Cond := [Cond.arrayClass .boolean, Cond.fieldLink RX0 22 "ChoirNotes$Voice" "colours" "[Z", Cond.fieldLink RX0 26 "ChoirNotes$Voice" "ranks" "[I", Cond.fieldLink RX0 29 "ChoirNotes$Voice" "begins" "[I", Cond.methodLink RL 112 yX2_init, Cond.instanceMethod yX2_init, Cond.code yX2_init cX2_init 1 none, Cond.methodLink RX2 1 objectInit, Cond.fieldLink RX2 9 "ChoirNotesModel" "many" "[I", Cond.fieldLink RX2 13 "ChoirNotesModel" "clef" "[I", Cond.fieldLink RX2 16 "ChoirNotesModel" "measure" "[I", Cond.fieldLink RX2 19 "ChoirNotesModel" "kind" "[I", Cond.fieldLink RX2 22 "ChoirNotesModel" "place" "[I", Cond.fieldLink RX2 25 "ChoirNotesModel" "isRed" "[Z", Cond.fieldLink RX2 29 "ChoirNotesModel" "tied" "[I", Cond.fieldLink RX2 32 "ChoirNotesModel" "mine" "[I", Cond.fieldLink RX2 35 "ChoirNotesModel" "theirs" "[I", Cond.methodLink RL 113 yL_addVoice, Cond.static yL_addVoice, Cond.initialized RL, Cond.codeWith yL_addVoice cL_addVoice 6 (some .int) [(0, 12, 15, 13), (0, 12, 19, 15)], Cond.classLink RL 13 "java/lang/IllegalArgumentException", Cond.classLink RL 15 "java/lang/IllegalStateException", Cond.methodLink RL 7 yX1_addVoice]
def wsL_law0_r3 : List Cond := [Cond.instanceMethod yX1_addVoice, Cond.selects RX1 yX1_addVoice yX1_addVoice, Cond.code yX1_addVoice cX1_addVoice 4 (some .int), Cond.classLink RX1 24 "java/lang/IllegalStateException", Cond.initialized "java/lang/IllegalStateException", Cond.fieldLink RX1 20 "ChoirNotes" "voiceCount" "I", Cond.methodLink RX1 16 yX1_checkMensuration, Cond.static yX1_checkMensuration, Cond.code yX1_checkMensuration cX1_checkMensuration 3 none, Cond.methodLink RX1 38 yX1_checkRange, Cond.static yX1_checkRange, Cond.code yX1_checkRange cX1_checkRange 3 none, Cond.classLink RX1 179 "java/lang/IllegalArgumentException", Cond.initialized "java/lang/IllegalArgumentException", Cond.instanceMethod yX0_measure, Cond.selects RX0 yX0_measure yX0_measure, Cond.code yX0_measure cX0_measure 4 none, Cond.fieldLink RX0 32 "ChoirNotes$Voice" "brevesInLonga" "I", Cond.fieldLink RX0 35 "ChoirNotes$Voice" "semibrevesInBreve" "I", Cond.fieldLink RX0 38 "ChoirNotes$Voice" "minimsInSemibreve" "I", Cond.methodLink RX0 41 yX0_timeFrom, Cond.instanceMethod yX0_timeFrom, Cond.selects RX0 yX0_timeFrom yX0_timeFrom, Cond.code yX0_timeFrom cX0_timeFrom 3 none]
def wsL_law0_r4 : List Cond := [Cond.fieldLink RX0 45 "ChoirNotes$Voice" "count" "I", Cond.methodLink RX0 48 yX0_minimsByKind, Cond.instanceMethod yX0_minimsByKind, Cond.selects RX0 yX0_minimsByKind yX0_minimsByKind, Cond.code yX0_minimsByKind cX0_minimsByKind 3 (some .int), Cond.methodLink RL 118 yX2_addVoice, Cond.instanceMethod yX2_addVoice, Cond.selects RX2 yX2_addVoice yX2_addVoice, Cond.code yX2_addVoice cX2_addVoice 4 (some .int), Cond.fieldLink RX2 38 "ChoirNotesModel" "thrown" "I", Cond.fieldLink RX2 42 "ChoirNotesModel" "voices" "I", Cond.methodLink RX2 73 yX2_isMeasure, Cond.static yX2_isMeasure, Cond.code yX2_isMeasure cX2_isMeasure 3 (some .boolean), Cond.methodLink RX2 45 yX2_isIn, Cond.static yX2_isIn, Cond.code yX2_isIn cX2_isIn 3 (some .boolean), Cond.methodLink RX2 76 yX2_fail, Cond.instanceMethod yX2_fail, Cond.selects RX2 yX2_fail yX2_fail, Cond.code yX2_fail cX2_fail 2 (some .int), Cond.methodLink RX2 79 yX2_set, Cond.instanceMethod yX2_set, Cond.selects RX2 yX2_set yX2_set]
def wsL_law0_r5 : List Cond := [Cond.code yX2_set cX2_set 5 none, Cond.methodLink RL 119 yX2_thrown, Cond.instanceMethod yX2_thrown, Cond.selects RX2 yX2_thrown yX2_thrown, Cond.code yX2_thrown cX2_thrown 1 (some .int), Cond.methodLink RL 123 yL_addNote, Cond.static yL_addNote, Cond.codeWith yL_addNote cL_addNote 7 (some .int) [(0, 14, 17, 21), (0, 14, 21, 13), (0, 14, 25, 15)], Cond.classLink RL 21 "java/lang/IndexOutOfBoundsException", Cond.methodLink RL 17 yX1_addNote, Cond.instanceMethod yX1_addNote, Cond.selects RX1 yX1_addNote yX1_addNote, Cond.code yX1_addNote cX1_addNote 6 (some .int), Cond.methodLink RX1 34 yX1_knownVoice, Cond.instanceMethod yX1_knownVoice, Cond.selects RX1 yX1_knownVoice yX1_knownVoice, Cond.code yX1_knownVoice cX1_knownVoice 2 (some (.object "ChoirNotes$Voice")), Cond.classLink RX1 172 "java/lang/IndexOutOfBoundsException", Cond.initialized "java/lang/IndexOutOfBoundsException", Cond.methodLink RX1 41 yX1_checkRoom, Cond.static yX1_checkRoom, Cond.code yX1_checkRoom cX1_checkRoom 2 none, Cond.instanceMethod yX0_append, Cond.selects RX0 yX0_append yX0_append]
def wsL_law0_r6 : List Cond := [Cond.code yX0_append cX0_append 6 (some .int), Cond.methodLink RL 126 yX2_addNote, Cond.instanceMethod yX2_addNote, Cond.selects RX2 yX2_addNote yX2_addNote, Cond.code yX2_addNote cX2_addNote 5 (some .int), Cond.methodLink RX2 49 yX2_isVoice, Cond.instanceMethod yX2_isVoice, Cond.selects RX2 yX2_isVoice yX2_isVoice, Cond.code yX2_isVoice cX2_isVoice 2 (some .boolean), Cond.methodLink RX2 83 yX2_put, Cond.instanceMethod yX2_put, Cond.selects RX2 yX2_put yX2_put, Cond.code yX2_put cX2_put 7 none, Cond.methodLink RL 127 yL_addRest, Cond.static yL_addRest, Cond.codeWith yL_addRest cL_addRest 5 (some .int) [(0, 10, 13, 21), (0, 10, 17, 13), (0, 10, 21, 15)], Cond.methodLink RL 23 yX1_addRest, Cond.instanceMethod yX1_addRest, Cond.selects RX1 yX1_addRest yX1_addRest, Cond.code yX1_addRest cX1_addRest 4 (some .int), Cond.methodLink RL 130 yX2_addRest, Cond.instanceMethod yX2_addRest, Cond.selects RX2 yX2_addRest yX2_addRest, Cond.code yX2_addRest cX2_addRest 3 (some .int)]
def wsL_law0_r7 : List Cond := [Cond.methodLink RL 131 yL_addLigature, Cond.static yL_addLigature, Cond.codeWith yL_addLigature cL_addLigature 8 (some .int) [(0, 16, 19, 21), (0, 16, 23, 13), (0, 16, 27, 15)], Cond.methodLink RL 27 yX1_addLigature, Cond.instanceMethod yX1_addLigature, Cond.selects RX1 yX1_addLigature yX1_addLigature, Cond.code yX1_addLigature cX1_addLigature 9 (some .int), Cond.methodLink RX1 49 yX1_checkLigature, Cond.static yX1_checkLigature, Cond.code yX1_checkLigature cX1_checkLigature 3 none, Cond.methodLink RX1 52 yX1_firstKind, Cond.static yX1_firstKind, Cond.code yX1_firstKind cX1_firstKind 3 (some .int), Cond.methodLink RX1 60 yX1_lastKind, Cond.static yX1_lastKind, Cond.code yX1_lastKind cX1_lastKind 2 (some .int), Cond.methodLink RX1 56 yX1_secondKind, Cond.static yX1_secondKind, Cond.code yX1_secondKind cX1_secondKind 4 (some .int), Cond.methodLink RL 134 yX2_addLigature, Cond.instanceMethod yX2_addLigature, Cond.selects RX2 yX2_addLigature yX2_addLigature, Cond.code yX2_addLigature cX2_addLigature 8 (some .int), Cond.methodLink RL 135 yL_erase]
def wsL_law0_r8 : List Cond := [Cond.static yL_erase, Cond.codeWith yL_erase cL_erase 4 (some .int) [(0, 9, 12, 21), (0, 9, 15, 15)], Cond.methodLink RL 31 yX1_erase, Cond.instanceMethod yX1_erase, Cond.selects RX1 yX1_erase yX1_erase, Cond.code yX1_erase cX1_erase 3 (some .int), Cond.instanceMethod yX0_dropLast, Cond.selects RX0 yX0_dropLast yX0_dropLast, Cond.code yX0_dropLast cX0_dropLast 3 (some .int), Cond.methodLink RL 138 yX2_erase, Cond.instanceMethod yX2_erase, Cond.selects RX2 yX2_erase yX2_erase, Cond.code yX2_erase cX2_erase 3 (some .int), Cond.methodLink RX2 87 Lib.Math.max.name, Cond.static Lib.Math.max.name, Cond.initialized "java/lang/Math", Cond.code Lib.Math.max.name Lib.Math.max.code 2 (some .int), Cond.methodLink RL 139 yL_recolour, Cond.static yL_recolour, Cond.codeWith yL_recolour cL_recolour 5 (some .int) [(0, 17, 20, 21), (0, 17, 24, 15)], Cond.methodLink RL 35 yX1_recolour, Cond.instanceMethod yX1_recolour, Cond.selects RX1 yX1_recolour yX1_recolour, Cond.code yX1_recolour cX1_recolour 4 (some .boolean)]
def wsL_law0_r9 : List Cond := [Cond.methodLink RX1 73 yX1_voiceWithSign, Cond.instanceMethod yX1_voiceWithSign, Cond.selects RX1 yX1_voiceWithSign yX1_voiceWithSign, Cond.code yX1_voiceWithSign cX1_voiceWithSign 4 (some (.object "ChoirNotes$Voice")), Cond.instanceMethod yX0_isRest, Cond.selects RX0 yX0_isRest yX0_isRest, Cond.code yX0_isRest cX0_isRest 2 (some .boolean), Cond.instanceMethod yX0_turnColour, Cond.selects RX0 yX0_turnColour yX0_turnColour, Cond.code yX0_turnColour cX0_turnColour 2 (some .boolean), Cond.methodLink RL 141 yX2_recolour, Cond.instanceMethod yX2_recolour, Cond.selects RX2 yX2_recolour yX2_recolour, Cond.code yX2_recolour cX2_recolour 4 (some .boolean), Cond.methodLink RX2 90 yX2_isSign, Cond.instanceMethod yX2_isSign, Cond.selects RX2 yX2_isSign yX2_isSign, Cond.code yX2_isSign cX2_isSign 3 (some .boolean), Cond.methodLink RL 142 yL_setClef, Cond.static yL_setClef, Cond.codeWith yL_setClef cL_setClef 5 (some .int) [(0, 10, 13, 21), (0, 10, 17, 13)], Cond.methodLink RL 39 yX1_setClef, Cond.instanceMethod yX1_setClef, Cond.selects RX1 yX1_setClef yX1_setClef]
def wsL_law0_r10 : List Cond := [Cond.code yX1_setClef cX1_setClef 5 (some .int), Cond.methodLink RL 144 yX2_setClef, Cond.instanceMethod yX2_setClef, Cond.selects RX2 yX2_setClef yX2_setClef, Cond.code yX2_setClef cX2_setClef 4 (some .int), Cond.methodLink RL 145 yL_setMensuration, Cond.static yL_setMensuration, Cond.codeWith yL_setMensuration cL_setMensuration 7 (some .int) [(0, 14, 17, 21), (0, 14, 21, 13)], Cond.methodLink RL 42 yX1_setMensuration, Cond.instanceMethod yX1_setMensuration, Cond.selects RX1 yX1_setMensuration yX1_setMensuration, Cond.code yX1_setMensuration cX1_setMensuration 6 (some .int), Cond.instanceMethod yX0_end, Cond.selects RX0 yX0_end yX0_end, Cond.code yX0_end cX0_end 1 (some .int), Cond.methodLink RL 148 yX2_setMensuration, Cond.instanceMethod yX2_setMensuration, Cond.selects RX2 yX2_setMensuration yX2_setMensuration, Cond.code yX2_setMensuration cX2_setMensuration 5 (some .int), Cond.methodLink RX2 94 yX2_all, Cond.instanceMethod yX2_all, Cond.selects RX2 yX2_all yX2_all, Cond.code yX2_all cX2_all 4 (some .int), Cond.methodLink RX2 53 yX2_lasts]
def wsL_law0_r11 : List Cond := [Cond.instanceMethod yX2_lasts, Cond.selects RX2 yX2_lasts yX2_lasts, Cond.code yX2_lasts cX2_lasts 6 (some .int), Cond.methodLink RL 149 yX1_voices, Cond.instanceMethod yX1_voices, Cond.selects RX1 yX1_voices yX1_voices, Cond.code yX1_voices cX1_voices 1 (some .int), Cond.methodLink RL 152 yX2_voices, Cond.instanceMethod yX2_voices, Cond.selects RX2 yX2_voices yX2_voices, Cond.code yX2_voices cX2_voices 1 (some .int), Cond.methodLink RX2 97 yX2_told, Cond.instanceMethod yX2_told, Cond.selects RX2 yX2_told yX2_told, Cond.code yX2_told cX2_told 2 (some .int), Cond.methodLink RL 153 yL_signs, Cond.static yL_signs, Cond.codeWith yL_signs cL_signs 4 (some .int) [(0, 9, 12, 21)], Cond.methodLink RL 46 yX1_signs, Cond.instanceMethod yX1_signs, Cond.selects RX1 yX1_signs yX1_signs, Cond.code yX1_signs cX1_signs 2 (some .int), Cond.methodLink RL 155 yX2_signs, Cond.instanceMethod yX2_signs]
def wsL_law0_r12 : List Cond := [Cond.selects RX2 yX2_signs yX2_signs, Cond.code yX2_signs cX2_signs 2 (some .int), Cond.methodLink RL 156 yL_notes, Cond.static yL_notes, Cond.codeWith yL_notes cL_notes 4 (some .int) [(0, 9, 12, 21)], Cond.methodLink RL 49 yX1_notes, Cond.instanceMethod yX1_notes, Cond.selects RX1 yX1_notes yX1_notes, Cond.code yX1_notes cX1_notes 2 (some .int), Cond.instanceMethod yX0_countNotes, Cond.selects RX0 yX0_countNotes yX0_countNotes, Cond.code yX0_countNotes cX0_countNotes 3 (some .int), Cond.methodLink RX0 52 yX0_isRest, Cond.methodLink RL 158 yX2_notes, Cond.instanceMethod yX2_notes, Cond.selects RX2 yX2_notes yX2_notes, Cond.code yX2_notes cX2_notes 2 (some .int), Cond.methodLink RX2 100 yX2_count, Cond.instanceMethod yX2_count, Cond.selects RX2 yX2_count yX2_count, Cond.code yX2_count cX2_count 5 (some .int), Cond.methodLink RL 159 yL_ligatures, Cond.static yL_ligatures, Cond.codeWith yL_ligatures cL_ligatures 4 (some .int) [(0, 9, 12, 21)]]
def wsL_law0_r13 : List Cond := [Cond.methodLink RL 52 yX1_ligatures, Cond.instanceMethod yX1_ligatures, Cond.selects RX1 yX1_ligatures yX1_ligatures, Cond.code yX1_ligatures cX1_ligatures 2 (some .int), Cond.instanceMethod yX0_countLigatures, Cond.selects RX0 yX0_countLigatures yX0_countLigatures, Cond.code yX0_countLigatures cX0_countLigatures 3 (some .int), Cond.methodLink RL 161 yX2_ligatures, Cond.instanceMethod yX2_ligatures, Cond.selects RX2 yX2_ligatures yX2_ligatures, Cond.code yX2_ligatures cX2_ligatures 2 (some .int), Cond.methodLink RL 162 yL_kindOf, Cond.static yL_kindOf, Cond.codeWith yL_kindOf cL_kindOf 5 (some .int) [(0, 10, 13, 21)], Cond.methodLink RL 55 yX1_kindOf, Cond.instanceMethod yX1_kindOf, Cond.selects RX1 yX1_kindOf yX1_kindOf, Cond.code yX1_kindOf cX1_kindOf 3 (some .int), Cond.methodLink RL 164 yX2_kindOf, Cond.instanceMethod yX2_kindOf, Cond.selects RX2 yX2_kindOf yX2_kindOf, Cond.code yX2_kindOf cX2_kindOf 3 (some .int), Cond.methodLink RX2 104 yX2_of, Cond.instanceMethod yX2_of]
def wsL_law0_r14 : List Cond := [Cond.selects RX2 yX2_of yX2_of, Cond.code yX2_of cX2_of 4 (some .int), Cond.methodLink RL 165 yL_placeOf, Cond.static yL_placeOf, Cond.codeWith yL_placeOf cL_placeOf 5 (some .int) [(0, 10, 13, 21)], Cond.methodLink RL 58 yX1_placeOf, Cond.instanceMethod yX1_placeOf, Cond.selects RX1 yX1_placeOf yX1_placeOf, Cond.code yX1_placeOf cX1_placeOf 3 (some .int), Cond.methodLink RL 167 yX2_placeOf, Cond.instanceMethod yX2_placeOf, Cond.selects RX2 yX2_placeOf yX2_placeOf, Cond.code yX2_placeOf cX2_placeOf 3 (some .int), Cond.methodLink RL 168 yL_isColoured, Cond.static yL_isColoured, Cond.codeWith yL_isColoured cL_isColoured 5 (some .int) [(0, 17, 20, 21)], Cond.methodLink RL 61 yX1_isColoured, Cond.instanceMethod yX1_isColoured, Cond.selects RX1 yX1_isColoured yX1_isColoured, Cond.code yX1_isColoured cX1_isColoured 3 (some .boolean), Cond.methodLink RL 170 yX2_isColoured, Cond.instanceMethod yX2_isColoured, Cond.selects RX2 yX2_isColoured yX2_isColoured, Cond.code yX2_isColoured cX2_isColoured 3 (some .boolean)]
def wsL_law0_r15 : List Cond := [Cond.methodLink RL 171 yL_placeInLigature, Cond.static yL_placeInLigature, Cond.codeWith yL_placeInLigature cL_placeInLigature 5 (some .int) [(0, 10, 13, 21)], Cond.methodLink RL 64 yX1_placeInLigature, Cond.instanceMethod yX1_placeInLigature, Cond.selects RX1 yX1_placeInLigature yX1_placeInLigature, Cond.code yX1_placeInLigature cX1_placeInLigature 3 (some .int), Cond.methodLink RL 173 yX2_placeInLigature, Cond.instanceMethod yX2_placeInLigature, Cond.selects RX2 yX2_placeInLigature yX2_placeInLigature, Cond.code yX2_placeInLigature cX2_placeInLigature 3 (some .int), Cond.methodLink RL 174 yL_lengthOf, Cond.static yL_lengthOf, Cond.codeWith yL_lengthOf cL_lengthOf 5 (some .int) [(0, 10, 13, 21)], Cond.methodLink RL 67 yX1_lengthOf, Cond.instanceMethod yX1_lengthOf, Cond.selects RX1 yX1_lengthOf yX1_lengthOf, Cond.code yX1_lengthOf cX1_lengthOf 3 (some .int), Cond.instanceMethod yX0_minimsOf, Cond.selects RX0 yX0_minimsOf yX0_minimsOf, Cond.code yX0_minimsOf cX0_minimsOf 2 (some .int), Cond.methodLink RL 176 yX2_lengthOf, Cond.instanceMethod yX2_lengthOf, Cond.selects RX2 yX2_lengthOf yX2_lengthOf]
def wsL_law0_r16 : List Cond := [Cond.code yX2_lengthOf cX2_lengthOf 3 (some .int), Cond.methodLink RL 177 yL_beginOf, Cond.static yL_beginOf, Cond.codeWith yL_beginOf cL_beginOf 5 (some .int) [(0, 10, 13, 21)], Cond.methodLink RL 70 yX1_beginOf, Cond.instanceMethod yX1_beginOf, Cond.selects RX1 yX1_beginOf yX1_beginOf, Cond.code yX1_beginOf cX1_beginOf 3 (some .int), Cond.methodLink RL 179 yX2_beginOf, Cond.instanceMethod yX2_beginOf, Cond.selects RX2 yX2_beginOf yX2_beginOf, Cond.code yX2_beginOf cX2_beginOf 3 (some .int), Cond.methodLink RX2 108 yX2_begins, Cond.instanceMethod yX2_begins, Cond.selects RX2 yX2_begins yX2_begins, Cond.code yX2_begins cX2_begins 5 (some .int), Cond.methodLink RL 180 yL_length, Cond.static yL_length, Cond.codeWith yL_length cL_length 4 (some .int) [(0, 9, 12, 21)], Cond.methodLink RL 73 yX1_length, Cond.instanceMethod yX1_length, Cond.selects RX1 yX1_length yX1_length, Cond.code yX1_length cX1_length 2 (some .int), Cond.methodLink RL 182 yX2_length]
def wsL_law0_r17 : List Cond := [Cond.instanceMethod yX2_length, Cond.selects RX2 yX2_length yX2_length, Cond.code yX2_length cX2_length 2 (some .int), Cond.methodLink RL 183 yX1_longest, Cond.instanceMethod yX1_longest, Cond.selects RX1 yX1_longest yX1_longest, Cond.code yX1_longest cX1_longest 3 (some .int), Cond.methodLink RX1 119 Lib.Math.max.name, Cond.methodLink RL 186 yX2_longest, Cond.instanceMethod yX2_longest, Cond.selects RX2 yX2_longest yX2_longest, Cond.code yX2_longest cX2_longest 1 (some .int), Cond.methodLink RX2 111 yX2_most, Cond.instanceMethod yX2_most, Cond.selects RX2 yX2_most yX2_most, Cond.code yX2_most cX2_most 3 (some .int), Cond.methodLink RL 187 yL_signAt, Cond.static yL_signAt, Cond.codeWith yL_signAt cL_signAt 5 (some .int) [(0, 10, 13, 21), (0, 10, 17, 13)], Cond.methodLink RL 76 yX1_signAt, Cond.instanceMethod yX1_signAt, Cond.selects RX1 yX1_signAt yX1_signAt, Cond.code yX1_signAt cX1_signAt 4 (some .int), Cond.constant RX1 126 (2147483647)]
def wsL_law0_r18 : List Cond := [Cond.instanceMethod yX0_signLastingAt, Cond.selects RX0 yX0_signLastingAt yX0_signLastingAt, Cond.code yX0_signLastingAt cX0_signLastingAt 3 (some .int), Cond.methodLink RL 189 yX2_signAt, Cond.instanceMethod yX2_signAt, Cond.selects RX2 yX2_signAt yX2_signAt, Cond.code yX2_signAt cX2_signAt 5 (some .int), Cond.methodLink RL 190 yL_clefOf, Cond.static yL_clefOf, Cond.codeWith yL_clefOf cL_clefOf 4 (some .int) [(0, 9, 12, 21)], Cond.methodLink RL 79 yX1_clefOf, Cond.instanceMethod yX1_clefOf, Cond.selects RX1 yX1_clefOf yX1_clefOf, Cond.code yX1_clefOf cX1_clefOf 2 (some .int), Cond.methodLink RL 192 yX2_clefOf, Cond.instanceMethod yX2_clefOf, Cond.selects RX2 yX2_clefOf yX2_clefOf, Cond.code yX2_clefOf cX2_clefOf 2 (some .int), Cond.methodLink RL 193 yL_pitchOf, Cond.static yL_pitchOf, Cond.codeWith yL_pitchOf cL_pitchOf 5 (some .int) [(0, 10, 13, 21), (0, 10, 17, 15)], Cond.methodLink RL 82 yX1_pitchOf, Cond.instanceMethod yX1_pitchOf, Cond.selects RX1 yX1_pitchOf yX1_pitchOf]
def wsL_law0_r19 : List Cond := [Cond.code yX1_pitchOf cX1_pitchOf 4 (some .int), Cond.methodLink RX1 130 yX1_checkHasClef, Cond.static yX1_checkHasClef, Cond.code yX1_checkHasClef cX1_checkHasClef 1 none, Cond.methodLink RL 195 yX2_pitchOf, Cond.instanceMethod yX2_pitchOf, Cond.selects RX2 yX2_pitchOf yX2_pitchOf, Cond.code yX2_pitchOf cX2_pitchOf 4 (some .int), Cond.methodLink RL 196 yL_fits, Cond.static yL_fits, Cond.codeWith yL_fits cL_fits 5 (some .int) [(0, 17, 20, 21), (0, 17, 24, 13)], Cond.methodLink RL 85 yX1_fits, Cond.instanceMethod yX1_fits, Cond.selects RX1 yX1_fits yX1_fits, Cond.code yX1_fits cX1_fits 4 (some .boolean), Cond.instanceMethod yX0_wouldFit, Cond.selects RX0 yX0_wouldFit yX0_wouldFit, Cond.code yX0_wouldFit cX0_wouldFit 4 (some .boolean), Cond.methodLink RL 198 yX2_fits, Cond.instanceMethod yX2_fits, Cond.selects RX2 yX2_fits yX2_fits, Cond.code yX2_fits cX2_fits 3 (some .boolean), Cond.methodLink RX2 115 yX2_fit, Cond.instanceMethod yX2_fit]
def wsL_law0_r20 : List Cond := [Cond.selects RX2 yX2_fit yX2_fit, Cond.code yX2_fit cX2_fit 4 (some .boolean), Cond.methodLink RL 199 yL_clefsThatFit, Cond.static yL_clefsThatFit, Cond.codeWith yL_clefsThatFit cL_clefsThatFit 4 (some .int) [(0, 9, 12, 21)], Cond.methodLink RL 88 yX1_clefsThatFit, Cond.instanceMethod yX1_clefsThatFit, Cond.selects RX1 yX1_clefsThatFit yX1_clefsThatFit, Cond.code yX1_clefsThatFit cX1_clefsThatFit 2 (some .int), Cond.instanceMethod yX0_countFittingClefs, Cond.selects RX0 yX0_countFittingClefs yX0_countFittingClefs, Cond.code yX0_countFittingClefs cX0_countFittingClefs 3 (some .int), Cond.methodLink RX0 56 yX0_wouldFit, Cond.methodLink RL 201 yX2_clefsThatFit, Cond.instanceMethod yX2_clefsThatFit, Cond.selects RX2 yX2_clefsThatFit yX2_clefsThatFit, Cond.code yX2_clefsThatFit cX2_clefsThatFit 2 (some .int), Cond.methodLink RX2 118 yX2_fitting, Cond.instanceMethod yX2_fitting, Cond.selects RX2 yX2_fitting yX2_fitting, Cond.code yX2_fitting cX2_fitting 4 (some .int), Cond.methodLink RL 202 yL_clashes, Cond.static yL_clashes, Cond.codeWith yL_clashes cL_clashes 5 (some .int) [(0, 10, 13, 21), (0, 10, 17, 15)]]
def wsL_law0_r21 : List Cond := [Cond.methodLink RL 91 yX1_clashes, Cond.instanceMethod yX1_clashes, Cond.selects RX1 yX1_clashes yX1_clashes, Cond.code yX1_clashes cX1_clashes 5 (some .int), Cond.methodLink RX1 140 yX1_clashingMinims, Cond.static yX1_clashingMinims, Cond.code yX1_clashingMinims cX1_clashingMinims 11 (some .int), Cond.methodLink RX1 190 Lib.Math.min.name, Cond.static Lib.Math.min.name, Cond.code Lib.Math.min.name Lib.Math.min.code 2 (some .int), Cond.methodLink RX1 193 yX1_signsClash, Cond.static yX1_signsClash, Cond.code yX1_signsClash cX1_signsClash 6 (some .boolean), Cond.methodLink RX1 197 Lib.Math.abs.name, Cond.static Lib.Math.abs.name, Cond.code Lib.Math.abs.name Lib.Math.abs.code 1 (some .int), Cond.methodLink RL 204 yX2_clashes, Cond.instanceMethod yX2_clashes, Cond.selects RX2 yX2_clashes yX2_clashes, Cond.code yX2_clashes cX2_clashes 3 (some .int), Cond.methodLink RX2 125 yX2_both, Cond.instanceMethod yX2_both, Cond.selects RX2 yX2_both yX2_both, Cond.code yX2_both cX2_both 4 (some .int)]
def wsL_law0_r22 : List Cond := [Cond.methodLink RX2 121 yX2_clash, Cond.instanceMethod yX2_clash, Cond.selects RX2 yX2_clash yX2_clash, Cond.code yX2_clash cX2_clash 9 (some .int), Cond.methodLink RX2 67 Lib.Math.min.name, Cond.methodLink RX2 63 yX2_lay, Cond.instanceMethod yX2_lay, Cond.selects RX2 yX2_lay yX2_lay, Cond.code yX2_lay cX2_lay 6 (some .int), Cond.methodLink RX2 70 yX2_isClash, Cond.static yX2_isClash, Cond.code yX2_isClash cX2_isClash 2 (some .boolean), Cond.methodLink RX2 57 Lib.Math.abs.name, Cond.methodLink RL 205 yL_firstClash, Cond.static yL_firstClash, Cond.codeWith yL_firstClash cL_firstClash 5 (some .int) [(0, 10, 13, 21), (0, 10, 17, 15)], Cond.methodLink RL 94 yX1_firstClash, Cond.instanceMethod yX1_firstClash, Cond.selects RX1 yX1_firstClash yX1_firstClash, Cond.code yX1_firstClash cX1_firstClash 5 (some .int), Cond.methodLink RX1 144 yX1_firstClashingMinim, Cond.static yX1_firstClashingMinim, Cond.code yX1_firstClashingMinim cX1_firstClashingMinim 9 (some .int), Cond.methodLink RL 207 yX2_firstClash]
def wsL_law0_r23 : List Cond := [Cond.instanceMethod yX2_firstClash, Cond.selects RX2 yX2_firstClash yX2_firstClash, Cond.code yX2_firstClash cX2_firstClash 3 (some .int), Cond.methodLink RL 208 yL_clashesWith, Cond.static yL_clashesWith, Cond.codeWith yL_clashesWith cL_clashesWith 5 (some .int) [(0, 10, 13, 21), (0, 10, 17, 13)], Cond.methodLink RL 97 yX1_clashesWith, Cond.instanceMethod yX1_clashesWith, Cond.selects RX1 yX1_clashesWith yX1_clashesWith, Cond.code yX1_clashesWith cX1_clashesWith 4 (some .int), Cond.methodLink RX1 148 yX1_clashesIfClef, Cond.instanceMethod yX1_clashesIfClef, Cond.selects RX1 yX1_clashesIfClef yX1_clashesIfClef, Cond.code yX1_clashesIfClef cX1_clashesIfClef 6 (some .int), Cond.methodLink RL 210 yX2_clashesWith, Cond.instanceMethod yX2_clashesWith, Cond.selects RX2 yX2_clashesWith yX2_clashesWith, Cond.code yX2_clashesWith cX2_clashesWith 3 (some .int), Cond.methodLink RX2 129 yX2_withAll, Cond.instanceMethod yX2_withAll, Cond.selects RX2 yX2_withAll yX2_withAll, Cond.code yX2_withAll cX2_withAll 5 (some .int), Cond.methodLink RL 211 yL_bestClef, Cond.static yL_bestClef]
def wsL_law0_r24 : List Cond := [Cond.codeWith yL_bestClef cL_bestClef 4 (some .int) [(0, 9, 12, 21)], Cond.methodLink RL 100 yX1_bestClef, Cond.instanceMethod yX1_bestClef, Cond.selects RX1 yX1_bestClef yX1_bestClef, Cond.code yX1_bestClef cX1_bestClef 2 (some .int), Cond.methodLink RX1 152 yX1_clefWithFewestClashes, Cond.instanceMethod yX1_clefWithFewestClashes, Cond.selects RX1 yX1_clefWithFewestClashes yX1_clefWithFewestClashes, Cond.code yX1_clefWithFewestClashes cX1_clefWithFewestClashes 6 (some .int), Cond.methodLink RL 213 yX2_bestClef, Cond.instanceMethod yX2_bestClef, Cond.selects RX2 yX2_bestClef yX2_bestClef, Cond.code yX2_bestClef cX2_bestClef 2 (some .int), Cond.methodLink RX2 132 yX2_best, Cond.instanceMethod yX2_best, Cond.selects RX2 yX2_best yX2_best, Cond.code yX2_best cX2_best 6 (some .int), Cond.methodLink RL 214 yL_canonClashes, Cond.static yL_canonClashes, Cond.codeWith yL_canonClashes cL_canonClashes 6 (some .int) [(0, 12, 15, 21), (0, 12, 19, 13)], Cond.methodLink RL 103 yX1_canonClashes, Cond.instanceMethod yX1_canonClashes, Cond.selects RX1 yX1_canonClashes yX1_canonClashes, Cond.code yX1_canonClashes cX1_canonClashes 5 (some .int)]
def wsL_law0_r25 : List Cond := [Cond.methodLink RL 216 yX2_canonClashes, Cond.instanceMethod yX2_canonClashes, Cond.selects RX2 yX2_canonClashes yX2_canonClashes, Cond.code yX2_canonClashes cX2_canonClashes 4 (some .int), Cond.methodLink RX2 135 yX2_canon, Cond.instanceMethod yX2_canon, Cond.selects RX2 yX2_canon yX2_canon, Cond.code yX2_canon cX2_canon 6 (some .int), Cond.methodLink RL 217 yL_bestDelay, Cond.static yL_bestDelay, Cond.codeWith yL_bestDelay cL_bestDelay 5 (some .int) [(0, 10, 13, 21), (0, 10, 17, 13)], Cond.methodLink RL 106 yX1_bestDelay, Cond.instanceMethod yX1_bestDelay, Cond.selects RX1 yX1_bestDelay yX1_bestDelay, Cond.code yX1_bestDelay cX1_bestDelay 4 (some .int), Cond.methodLink RX1 156 yX1_delayWithFewestClashes, Cond.static yX1_delayWithFewestClashes, Cond.code yX1_delayWithFewestClashes cX1_delayWithFewestClashes 6 (some .int), Cond.methodLink RL 219 yX2_bestDelay, Cond.instanceMethod yX2_bestDelay, Cond.selects RX2 yX2_bestDelay yX2_bestDelay, Cond.code yX2_bestDelay cX2_bestDelay 3 (some .int), Cond.methodLink RX2 139 yX2_delay, Cond.instanceMethod yX2_delay]
def wsL_law0_r26 : List Cond := [Cond.selects RX2 yX2_delay yX2_delay, Cond.code yX2_delay cX2_delay 8 (some .int), Cond.methodLink RL 220 yX1_meanLength, Cond.instanceMethod yX1_meanLength, Cond.selects RX1 yX1_meanLength yX1_meanLength, Cond.code yX1_meanLength cX1_meanLength 3 (some .double), Cond.methodLink RL 224 yX2_meanLength, Cond.instanceMethod yX2_meanLength, Cond.selects RX2 yX2_meanLength yX2_meanLength, Cond.code yX2_meanLength cX2_meanLength 3 (some .double), Cond.methodLink RL 225 yX1_digest, Cond.instanceMethod yX1_digest, Cond.selects RX1 yX1_digest yX1_digest, Cond.code yX1_digest cX1_digest 4 (some .long), Cond.constantLong RX1 159 (2311), Cond.methodLink RX1 161 yX1_mix, Cond.static yX1_mix, Cond.code yX1_mix cX1_mix 3 (some .long), Cond.constantLong RX1 200 (31), Cond.methodLink RX1 165 yX1_longest, Cond.methodLink RX1 168 yX1_mixVoice, Cond.instanceMethod yX1_mixVoice, Cond.selects RX1 yX1_mixVoice yX1_mixVoice, Cond.code yX1_mixVoice cX1_mixVoice 7 (some .long)]
def wsL_law0_r27 : List Cond := [Cond.methodLink RX1 202 yX1_mixSign, Cond.static yX1_mixSign, Cond.code yX1_mixSign cX1_mixSign 6 (some .long), Cond.methodLink RL 229 yX2_digest, Cond.instanceMethod yX2_digest, Cond.selects RX2 yX2_digest yX2_digest, Cond.code yX2_digest cX2_digest 12 (some .long), Cond.constantLong RX2 142 (2311), Cond.constantLong RX2 144 (31)]
def wsL_law0 : List Cond := (wsL_law0_r1 ++ (wsL_law0_r2 ++ (wsL_law0_r3 ++ (wsL_law0_r4 ++ (wsL_law0_r5 ++ (wsL_law0_r6 ++ (wsL_law0_r7 ++ (wsL_law0_r8 ++ (wsL_law0_r9 ++ (wsL_law0_r10 ++ (wsL_law0_r11 ++ (wsL_law0_r12 ++ (wsL_law0_r13 ++ (wsL_law0_r14 ++ (wsL_law0_r15 ++ (wsL_law0_r16 ++ (wsL_law0_r17 ++ (wsL_law0_r18 ++ (wsL_law0_r19 ++ (wsL_law0_r20 ++ (wsL_law0_r21 ++ (wsL_law0_r22 ++ (wsL_law0_r23 ++ (wsL_law0_r24 ++ (wsL_law0_r25 ++ (wsL_law0_r26 ++ wsL_law0_r27)))))))))))))))))))))))))) ++ wsX10 ++ wsX20 ++ wsX00 ++ ([] : List Cond)
def wsL_law : List Cond := wsL_law0 ++ (vx_atS RX1 28 "java/lang/IllegalStateException" ["java/lang/RuntimeException", "java/lang/Exception"]).filter goodWord ++ (vx_atS RX1 183 "java/lang/IllegalArgumentException" ["java/lang/RuntimeException", "java/lang/Exception"]).filter goodWord ++ (vx_atS RX1 176 "java/lang/IndexOutOfBoundsException" ["java/lang/RuntimeException", "java/lang/Exception"]).filter goodWord
set_option maxRecDepth 20000 in
theorem wsL_law_in0 : ∀ w ∈ wsL_law0, w ∈ lw_tbl := fun w h => (goodIn_p wsL_law0 [56, 59, 65, 579, 208, 211, 214, 302, 306, 310, 622, 625, 628, 632, 636, 618, 318, 322, 341, 346, 640, 644, 648, 353, 652, 360, 363, 367, 370, 373, 656, 380, 385, 660, 128, 392, 396, 154, 402, 665, 669, 409, 673, 416, 125, 677, 681, 685, 117, 689, 693, 423, 697, 430, 150, 701, 705, 437, 158, 709, 444, 713, 717, 451, 721, 458, 725, 465, 729, 472, 199, 733, 479, 737, 741, 486, 745, 121, 749, 753, 493, 497, 757, 504, 761, 511, 514, 765, 522, 166, 769, 773, 529, 162, 777, 781, 536, 179, 182, 185, 189, 785, 789, 793, 797, 801, 543, 546, 806, 553, 176, 810, 814, 560, 170, 818, 822, 567, 826, 830, 574, 192, 834, 838, 132, 842, 136, 140, 146, 195, 846] (by decide +kernel) (by decide +kernel) w h).1
theorem wsL_law_x0 : ∀ w ∈ (vx_atS RX1 28 "java/lang/IllegalStateException" ["java/lang/RuntimeException", "java/lang/Exception"]).filter goodWord, w ∈ lw_tbl := by decide +kernel
theorem wsL_law_x1 : ∀ w ∈ (vx_atS RX1 183 "java/lang/IllegalArgumentException" ["java/lang/RuntimeException", "java/lang/Exception"]).filter goodWord, w ∈ lw_tbl := by decide +kernel
theorem wsL_law_x2 : ∀ w ∈ (vx_atS RX1 176 "java/lang/IndexOutOfBoundsException" ["java/lang/RuntimeException", "java/lang/Exception"]).filter goodWord, w ∈ lw_tbl := by decide +kernel
theorem wsL_law_in : ∀ w ∈ wsL_law, w ∈ lw_tbl := fun w h => (List.mem_append.mp h).elim (fun h => (List.mem_append.mp h).elim (fun h => (List.mem_append.mp h).elim (fun h => wsL_law_in0 w h) (fun h => wsL_law_x0 w h)) (fun h => wsL_law_x1 w h)) (fun h => wsL_law_x2 w h)
theorem inlX0 : ∀ w ∈ wsX00, w ∈ wsL_law := fun _ h => List.mem_append_left _ (List.mem_append_left _ (List.mem_append_left _ (List.mem_append_left _ (List.mem_append_right _ h))))
theorem inX0 : ∀ w ∈ wsX00, w ∈ lw_tbl := fun w h => wsL_law_in w (inlX0 w h)
theorem inlX1 : ∀ w ∈ wsX10, w ∈ wsL_law := fun _ h => List.mem_append_left _ (List.mem_append_left _ (List.mem_append_left _ (List.mem_append_left _ (List.mem_append_left _ (List.mem_append_left _ (List.mem_append_right _ h))))))
theorem inX1 : ∀ w ∈ wsX10, w ∈ lw_tbl := fun w h => wsL_law_in w (inlX1 w h)
theorem inlX2 : ∀ w ∈ wsX20, w ∈ wsL_law := fun _ h => List.mem_append_left _ (List.mem_append_left _ (List.mem_append_left _ (List.mem_append_left _ (List.mem_append_left _ (List.mem_append_right _ h)))))
theorem inX2 : ∀ w ∈ wsX20, w ∈ lw_tbl := fun w h => wsL_law_in w (inlX2 w h)
theorem inJ9 : ∀ w ∈ wsJ90, w ∈ lw_tbl := by decide +kernel
theorem inJ0 : ∀ w ∈ wsJ00, w ∈ lw_tbl := by decide +kernel
set_option maxRecDepth 20000 in
theorem ggX0_measure_X0_timeFrom : GoodIn wsX0_measure wsX0_timeFrom := goodIn_r _ [8, 9, 10, 11, 12, 13, 14, 15, 7, 16, 1, 2, 3, 17, 18, 19, 20, 21, 22, 23, 24, 25, 26] (by decide +kernel) (by decide +kernel)
set_option maxRecDepth 20000 in
theorem gX0_measure_X0_timeFrom : GoodIn wsX0_measure (wsV RX0 41 RX0 yX0_timeFrom wsX0_timeFrom) := goodIn_app (goodIn_of _ (by decide +kernel)) ggX0_measure_X0_timeFrom
set_option maxRecDepth 20000 in
theorem ggX0_append_X0_timeFrom : GoodIn wsX0_append wsX0_timeFrom := goodIn_r _ [10, 1, 11, 2, 4, 12, 13, 14, 9, 15, 16, 17, 18, 19, 20, 21, 22, 23, 24, 25, 26, 27, 28] (by decide +kernel) (by decide +kernel)
set_option maxRecDepth 20000 in
theorem gX0_append_X0_timeFrom : GoodIn wsX0_append (wsV RX0 41 RX0 yX0_timeFrom wsX0_timeFrom) := goodIn_app (goodIn_of _ (by decide +kernel)) ggX0_append_X0_timeFrom
set_option maxRecDepth 20000 in
theorem ggX0_turnColour_X0_timeFrom : GoodIn wsX0_turnColour wsX0_timeFrom := goodIn_r _ [6, 7, 8, 9, 1, 10, 11, 12, 5, 13, 14, 15, 16, 17, 18, 19, 20, 21, 22, 23, 24, 25, 26] (by decide +kernel) (by decide +kernel)
set_option maxRecDepth 20000 in
theorem gX0_turnColour_X0_timeFrom : GoodIn wsX0_turnColour (wsV RX0 41 RX0 yX0_timeFrom wsX0_timeFrom) := goodIn_app (goodIn_of _ (by decide +kernel)) ggX0_turnColour_X0_timeFrom
set_option maxRecDepth 20000 in
theorem ggX0_timeFrom_X0_minimsByKind : GoodIn wsX0_timeFrom wsX0_minimsByKind := goodIn_r _ [9, 10, 11, 12, 13, 14, 15, 16, 17, 18, 19, 20, 21, 22] (by decide +kernel) (by decide +kernel)
set_option maxRecDepth 20000 in
theorem gX0_timeFrom_X0_minimsByKind : GoodIn wsX0_timeFrom (wsV RX0 48 RX0 yX0_minimsByKind wsX0_minimsByKind) := goodIn_app (goodIn_of _ (by decide +kernel)) ggX0_timeFrom_X0_minimsByKind
set_option maxRecDepth 20000 in
theorem ggX0_countNotes_X0_isRest : GoodIn wsX0_countNotes wsX0_isRest := goodIn_r _ [6, 7, 8, 9, 10, 11, 12, 13, 14, 15, 16, 17] (by decide +kernel) (by decide +kernel)
set_option maxRecDepth 20000 in
theorem gX0_countNotes_X0_isRest : GoodIn wsX0_countNotes (wsV RX0 52 RX0 yX0_isRest wsX0_isRest) := goodIn_app (goodIn_of _ (by decide +kernel)) ggX0_countNotes_X0_isRest
set_option maxRecDepth 20000 in
theorem ggX0_wouldFit_X0_isRest : GoodIn wsX0_wouldFit wsX0_isRest := goodIn_r _ [7, 2, 8, 9, 10, 11, 12, 13, 14, 15, 16, 17] (by decide +kernel) (by decide +kernel)
set_option maxRecDepth 20000 in
theorem gX0_wouldFit_X0_isRest : GoodIn wsX0_wouldFit (wsV RX0 52 RX0 yX0_isRest wsX0_isRest) := goodIn_app (goodIn_of _ (by decide +kernel)) ggX0_wouldFit_X0_isRest
set_option maxRecDepth 20000 in
theorem ggX0_countFittingClefs_X0_wouldFit : GoodIn wsX0_countFittingClefs wsX0_wouldFit := goodIn_r _ [5, 6, 7, 8, 9, 10, 4, 11, 12, 13, 14, 15, 16, 17, 18, 19, 20, 21] (by decide +kernel) (by decide +kernel)
set_option maxRecDepth 20000 in
theorem gX0_countFittingClefs_X0_wouldFit : GoodIn wsX0_countFittingClefs (wsV RX0 56 RX0 yX0_wouldFit wsX0_wouldFit) := goodIn_app (goodIn_of _ (by decide +kernel)) ggX0_countFittingClefs_X0_wouldFit
set_option maxRecDepth 20000 in
theorem ggX1_init_X0_init : GoodIn wsX1_init wsX0_init := goodIn_r _ [9, 10, 2, 3, 11, 12, 13, 14, 15, 16, 17, 18, 21, 22, 23, 24, 25, 26, 27, 28, 29, 30] (by decide +kernel) (by decide +kernel)
set_option maxRecDepth 20000 in
theorem gX1_init_X0_init_n15 : GoodIn wsX1_init (wsX0_init) := ggX1_init_X0_init
set_option maxRecDepth 20000 in
theorem ggX1_addVoice_X1_checkMensuration : GoodIn wsX1_addVoice wsX1_checkMensuration := goodIn_ca (goodIn_r _ [8, 9, 10, 7, 11, 12, 13] (by decide +kernel) (by decide +kernel)) (goodIn_sub (fun _ h => List.mem_cons_of_mem _ (List.mem_append_right _ h)) (by decide +kernel))
set_option maxRecDepth 20000 in
theorem gX1_addVoice_X1_checkMensuration : GoodIn wsX1_addVoice (va_wsS RX1 16 yX1_checkMensuration wsX1_checkMensuration) := goodIn_app (goodIn_of _ (by decide +kernel)) ggX1_addVoice_X1_checkMensuration
set_option maxRecDepth 20000 in
theorem ggX1_addVoice_X0_measure : GoodIn wsX1_addVoice wsX0_measure := goodIn_r _ [17, 18, 19, 20, 21, 22, 23, 15, 24, 25, 26, 27, 28, 29, 30, 31, 32, 35, 36, 37, 38, 39, 40, 41, 42, 43, 44] (by decide +kernel) (by decide +kernel)
set_option maxRecDepth 20000 in
theorem gX1_addVoice_X0_measure_n31 : GoodIn wsX1_addVoice (wsX0_measure) := ggX1_addVoice_X0_measure
set_option maxRecDepth 20000 in
theorem ggX1_addNote_X1_knownVoice : GoodIn wsX1_addNote wsX1_knownVoice := goodIn_ca (goodIn_r _ [5, 6, 7, 8, 9, 41, 42] (by decide +kernel) (by decide +kernel)) (goodIn_sub (fun _ h => List.mem_cons_of_mem _ (List.mem_append_left _ (List.mem_append_left _ (List.mem_append_right _ h)))) (by decide +kernel))
set_option maxRecDepth 20000 in
theorem gX1_addNote_X1_knownVoice : GoodIn wsX1_addNote (wsV RX1 34 RX1 yX1_knownVoice wsX1_knownVoice) := goodIn_app (goodIn_of _ (by decide +kernel)) ggX1_addNote_X1_knownVoice
set_option maxRecDepth 20000 in
theorem ggX1_addNote_X1_checkRange : GoodIn wsX1_addNote wsX1_checkRange := goodIn_ca (goodIn_r _ [12, 13, 14] (by decide +kernel) (by decide +kernel)) (goodIn_sub (fun _ h => List.mem_cons_of_mem _ (List.mem_append_left _ (List.mem_append_right _ h))) (by decide +kernel))
set_option maxRecDepth 20000 in
theorem gX1_addNote_X1_checkRange : GoodIn wsX1_addNote (va_wsS RX1 38 yX1_checkRange wsX1_checkRange) := goodIn_app (goodIn_of _ (by decide +kernel)) ggX1_addNote_X1_checkRange
set_option maxRecDepth 20000 in
theorem ggX1_addNote_X1_checkRoom : GoodIn wsX1_addNote wsX1_checkRoom := goodIn_ca (goodIn_r _ [17, 18, 19, 43, 44, 45, 46, 47, 48, 49, 50, 51, 52] (by decide +kernel) (by decide +kernel)) (goodIn_sub (fun _ h => List.mem_cons_of_mem _ (List.mem_append_right _ h)) (by decide +kernel))
set_option maxRecDepth 20000 in
theorem gX1_addNote_X1_checkRoom : GoodIn wsX1_addNote (va_wsS RX1 41 yX1_checkRoom wsX1_checkRoom) := goodIn_app (goodIn_of _ (by decide +kernel)) ggX1_addNote_X1_checkRoom
set_option maxRecDepth 20000 in
theorem ggX1_addNote_X0_append : GoodIn wsX1_addNote wsX0_append := goodIn_r _ [23, 24, 25, 26, 27, 28, 29, 30, 31, 21, 32, 33, 34, 35, 36, 37, 38, 39, 40, 43, 44, 45, 46, 47, 48, 49, 50, 51, 52] (by decide +kernel) (by decide +kernel)
set_option maxRecDepth 20000 in
theorem gX1_addNote_X0_append_n45 : GoodIn wsX1_addNote (wsX0_append) := ggX1_addNote_X0_append
set_option maxRecDepth 20000 in
theorem ggX1_addRest_X1_knownVoice : GoodIn wsX1_addRest wsX1_knownVoice := goodIn_ca (goodIn_r _ [5, 6, 7, 8, 9, 41, 42] (by decide +kernel) (by decide +kernel)) (goodIn_sub (fun _ h => List.mem_cons_of_mem _ (List.mem_append_left _ (List.mem_append_left _ (List.mem_append_right _ h)))) (by decide +kernel))
set_option maxRecDepth 20000 in
theorem gX1_addRest_X1_knownVoice : GoodIn wsX1_addRest (wsV RX1 34 RX1 yX1_knownVoice wsX1_knownVoice) := goodIn_app (goodIn_of _ (by decide +kernel)) ggX1_addRest_X1_knownVoice
set_option maxRecDepth 20000 in
theorem ggX1_addRest_X1_checkRange : GoodIn wsX1_addRest wsX1_checkRange := goodIn_ca (goodIn_r _ [12, 13, 14] (by decide +kernel) (by decide +kernel)) (goodIn_sub (fun _ h => List.mem_cons_of_mem _ (List.mem_append_left _ (List.mem_append_right _ h))) (by decide +kernel))
set_option maxRecDepth 20000 in
theorem gX1_addRest_X1_checkRange : GoodIn wsX1_addRest (va_wsS RX1 38 yX1_checkRange wsX1_checkRange) := goodIn_app (goodIn_of _ (by decide +kernel)) ggX1_addRest_X1_checkRange
set_option maxRecDepth 20000 in
theorem ggX1_addRest_X1_checkRoom : GoodIn wsX1_addRest wsX1_checkRoom := goodIn_ca (goodIn_r _ [17, 18, 19, 43, 44, 45, 46, 47, 48, 49, 50, 51, 52] (by decide +kernel) (by decide +kernel)) (goodIn_sub (fun _ h => List.mem_cons_of_mem _ (List.mem_append_right _ h)) (by decide +kernel))
set_option maxRecDepth 20000 in
theorem gX1_addRest_X1_checkRoom : GoodIn wsX1_addRest (va_wsS RX1 41 yX1_checkRoom wsX1_checkRoom) := goodIn_app (goodIn_of _ (by decide +kernel)) ggX1_addRest_X1_checkRoom
set_option maxRecDepth 20000 in
theorem ggX1_addRest_X0_append : GoodIn wsX1_addRest wsX0_append := goodIn_r _ [23, 24, 25, 26, 27, 28, 29, 30, 31, 21, 32, 33, 34, 35, 36, 37, 38, 39, 40, 43, 44, 45, 46, 47, 48, 49, 50, 51, 52] (by decide +kernel) (by decide +kernel)
set_option maxRecDepth 20000 in
theorem gX1_addRest_X0_append_n45 : GoodIn wsX1_addRest (wsX0_append) := ggX1_addRest_X0_append
set_option maxRecDepth 20000 in
theorem ggX1_addLigature_X1_knownVoice : GoodIn wsX1_addLigature wsX1_knownVoice := goodIn_ca (goodIn_r _ [5, 6, 7, 8, 9, 53, 54] (by decide +kernel) (by decide +kernel)) (goodIn_sub (fun _ h => List.mem_cons_of_mem _ (List.mem_append_left _ (List.mem_append_left _ (List.mem_append_right _ h)))) (by decide +kernel))
set_option maxRecDepth 20000 in
theorem gX1_addLigature_X1_knownVoice : GoodIn wsX1_addLigature (wsV RX1 34 RX1 yX1_knownVoice wsX1_knownVoice) := goodIn_app (goodIn_of _ (by decide +kernel)) ggX1_addLigature_X1_knownVoice
set_option maxRecDepth 20000 in
theorem ggX1_addLigature_X1_checkLigature : GoodIn wsX1_addLigature wsX1_checkLigature := goodIn_ca (goodIn_r _ [12, 13, 14, 15, 16, 4, 17] (by decide +kernel) (by decide +kernel)) (goodIn_sub (fun _ h => List.mem_cons_of_mem _ (List.mem_append_left _ (List.mem_append_right _ h))) (by decide +kernel))
set_option maxRecDepth 20000 in
theorem gX1_addLigature_X1_checkLigature : GoodIn wsX1_addLigature (va_wsS RX1 49 yX1_checkLigature wsX1_checkLigature) := goodIn_app (goodIn_of _ (by decide +kernel)) ggX1_addLigature_X1_checkLigature
set_option maxRecDepth 20000 in
theorem ggX1_addLigature_X1_checkRoom : GoodIn wsX1_addLigature wsX1_checkRoom := goodIn_ca (goodIn_r _ [20, 21, 22, 55, 56, 57, 58, 59, 60, 61, 62, 63, 64] (by decide +kernel) (by decide +kernel)) (goodIn_sub (fun _ h => List.mem_cons_of_mem _ (List.mem_append_right _ h)) (by decide +kernel))
set_option maxRecDepth 20000 in
theorem gX1_addLigature_X1_checkRoom : GoodIn wsX1_addLigature (va_wsS RX1 41 yX1_checkRoom wsX1_checkRoom) := goodIn_app (goodIn_of _ (by decide +kernel)) ggX1_addLigature_X1_checkRoom
set_option maxRecDepth 20000 in
theorem ggX1_addLigature_X1_firstKind : GoodIn wsX1_addLigature wsX1_firstKind := goodIn_r _ [25, 26, 27, 4, 28] (by decide +kernel) (by decide +kernel)
set_option maxRecDepth 20000 in
theorem gX1_addLigature_X1_firstKind : GoodIn wsX1_addLigature (va_wsS RX1 52 yX1_firstKind wsX1_firstKind) := goodIn_app (goodIn_of _ (by decide +kernel)) ggX1_addLigature_X1_firstKind
set_option maxRecDepth 20000 in
theorem ggX1_addLigature_X0_append : GoodIn wsX1_addLigature wsX0_append := goodIn_r _ [32, 33, 34, 35, 36, 37, 38, 39, 40, 30, 41, 42, 43, 44, 45, 46, 47, 48, 49, 55, 56, 57, 58, 59, 60, 61, 62, 63, 64] (by decide +kernel) (by decide +kernel)
set_option maxRecDepth 20000 in
theorem gX1_addLigature_X0_append_n45 : GoodIn wsX1_addLigature (wsX0_append) := ggX1_addLigature_X0_append
set_option maxRecDepth 20000 in
theorem ggX1_addLigature_X1_secondKind : GoodIn wsX1_addLigature wsX1_secondKind := goodIn_r _ [52, 26, 27, 4, 28] (by decide +kernel) (by decide +kernel)
set_option maxRecDepth 20000 in
theorem gX1_addLigature_X1_secondKind : GoodIn wsX1_addLigature (va_wsS RX1 56 yX1_secondKind wsX1_secondKind) := goodIn_app (goodIn_of _ (by decide +kernel)) ggX1_addLigature_X1_secondKind
set_option maxRecDepth 20000 in
theorem ggX1_addLigature_X1_lastKind : GoodIn wsX1_addLigature wsX1_lastKind := goodIn_r _ [28] (by decide +kernel) (by decide +kernel)
set_option maxRecDepth 20000 in
theorem gX1_addLigature_X1_lastKind : GoodIn wsX1_addLigature (va_wsS RX1 60 yX1_lastKind wsX1_lastKind) := goodIn_app (goodIn_of _ (by decide +kernel)) ggX1_addLigature_X1_lastKind
set_option maxRecDepth 20000 in
theorem ggX1_erase_X1_knownVoice : GoodIn wsX1_erase wsX1_knownVoice := goodIn_ca (goodIn_r _ [7, 8, 9, 10, 11, 28, 29] (by decide +kernel) (by decide +kernel)) (goodIn_sub (fun _ h => List.mem_cons_of_mem _ (List.mem_append_right _ h)) (by decide +kernel))
set_option maxRecDepth 20000 in
theorem gX1_erase_X1_knownVoice : GoodIn wsX1_erase (wsV RX1 34 RX1 yX1_knownVoice wsX1_knownVoice) := goodIn_app (goodIn_of _ (by decide +kernel)) ggX1_erase_X1_knownVoice
set_option maxRecDepth 20000 in
theorem ggX1_erase_X0_dropLast : GoodIn wsX1_erase wsX0_dropLast := goodIn_r _ [15, 16, 17, 18, 19, 20, 21, 22, 23, 24, 25, 26, 27] (by decide +kernel) (by decide +kernel)
set_option maxRecDepth 20000 in
theorem gX1_erase_X0_dropLast_n69 : GoodIn wsX1_erase (wsX0_dropLast) := ggX1_erase_X0_dropLast
set_option maxRecDepth 20000 in
theorem ggX1_recolour_X1_voiceWithSign : GoodIn wsX1_recolour wsX1_voiceWithSign := goodIn_ca (goodIn_r _ [7, 8, 9, 10, 11, 12, 6, 13, 14, 15, 39, 40, 41, 42, 43, 44, 45, 46, 47, 48, 49, 50] (by decide +kernel) (by decide +kernel)) (goodIn_sub (fun _ h => List.mem_cons_of_mem _ (List.mem_append_right _ h)) (by decide +kernel))
set_option maxRecDepth 20000 in
theorem gX1_recolour_X1_voiceWithSign : GoodIn wsX1_recolour (wsV RX1 73 RX1 yX1_voiceWithSign wsX1_voiceWithSign) := goodIn_app (goodIn_of _ (by decide +kernel)) ggX1_recolour_X1_voiceWithSign
set_option maxRecDepth 20000 in
theorem ggX1_recolour_X0_isRest : GoodIn wsX1_recolour wsX0_isRest := goodIn_r _ [19, 20, 39, 40, 41, 42, 43, 44, 45, 46, 47, 48] (by decide +kernel) (by decide +kernel)
set_option maxRecDepth 20000 in
theorem gX1_recolour_X0_isRest_n77 : GoodIn wsX1_recolour (wsX0_isRest) := ggX1_recolour_X0_isRest
set_option maxRecDepth 20000 in
theorem ggX1_recolour_X0_turnColour : GoodIn wsX1_recolour wsX0_turnColour := goodIn_r _ [23, 24, 25, 26, 27, 17, 28, 29, 30, 31, 32, 33, 34, 35, 36, 37, 38, 39, 40, 41, 42, 43, 44, 45, 46, 47, 48] (by decide +kernel) (by decide +kernel)
set_option maxRecDepth 20000 in
theorem gX1_recolour_X0_turnColour_n83 : GoodIn wsX1_recolour (wsX0_turnColour) := ggX1_recolour_X0_turnColour
set_option maxRecDepth 20000 in
theorem ggX1_setClef_X1_knownVoice : GoodIn wsX1_setClef wsX1_knownVoice := goodIn_ca (goodIn_r _ [5, 6, 7, 8, 9, 25, 26] (by decide +kernel) (by decide +kernel)) (goodIn_sub (fun _ h => List.mem_cons_of_mem _ (List.mem_append_left _ (List.mem_append_right _ h))) (by decide +kernel))
set_option maxRecDepth 20000 in
theorem gX1_setClef_X1_knownVoice : GoodIn wsX1_setClef (wsV RX1 34 RX1 yX1_knownVoice wsX1_knownVoice) := goodIn_app (goodIn_of _ (by decide +kernel)) ggX1_setClef_X1_knownVoice
set_option maxRecDepth 20000 in
theorem ggX1_setClef_X1_checkRange : GoodIn wsX1_setClef wsX1_checkRange := goodIn_ca (goodIn_r _ [12, 13, 14] (by decide +kernel) (by decide +kernel)) (goodIn_sub (fun _ h => List.mem_cons_of_mem _ (List.mem_append_right _ h)) (by decide +kernel))
set_option maxRecDepth 20000 in
theorem gX1_setClef_X1_checkRange : GoodIn wsX1_setClef (va_wsS RX1 38 yX1_checkRange wsX1_checkRange) := goodIn_app (goodIn_of _ (by decide +kernel)) ggX1_setClef_X1_checkRange
set_option maxRecDepth 20000 in
theorem ggX1_setMensuration_X1_knownVoice : GoodIn wsX1_setMensuration wsX1_knownVoice := goodIn_ca (goodIn_r _ [5, 6, 7, 8, 9, 40, 41] (by decide +kernel) (by decide +kernel)) (goodIn_sub (fun _ h => List.mem_cons_of_mem _ (List.mem_append_left _ (List.mem_append_right _ h))) (by decide +kernel))
set_option maxRecDepth 20000 in
theorem gX1_setMensuration_X1_knownVoice : GoodIn wsX1_setMensuration (wsV RX1 34 RX1 yX1_knownVoice wsX1_knownVoice) := goodIn_app (goodIn_of _ (by decide +kernel)) ggX1_setMensuration_X1_knownVoice
set_option maxRecDepth 20000 in
theorem ggX1_setMensuration_X1_checkMensuration : GoodIn wsX1_setMensuration wsX1_checkMensuration := goodIn_ca (goodIn_r _ [12, 13, 14, 4, 15, 16, 17] (by decide +kernel) (by decide +kernel)) (goodIn_sub (fun _ h => List.mem_cons_of_mem _ (List.mem_append_right _ h)) (by decide +kernel))
set_option maxRecDepth 20000 in
theorem gX1_setMensuration_X1_checkMensuration : GoodIn wsX1_setMensuration (va_wsS RX1 16 yX1_checkMensuration wsX1_checkMensuration) := goodIn_app (goodIn_of _ (by decide +kernel)) ggX1_setMensuration_X1_checkMensuration
set_option maxRecDepth 20000 in
theorem ggX1_setMensuration_X0_measure : GoodIn wsX1_setMensuration wsX0_measure := goodIn_r _ [21, 22, 23, 24, 25, 26, 27, 19, 28, 29, 30, 31, 32, 33, 34, 35, 36, 42, 43, 44, 45, 46, 47, 48, 49, 50, 51] (by decide +kernel) (by decide +kernel)
set_option maxRecDepth 20000 in
theorem gX1_setMensuration_X0_measure_n31 : GoodIn wsX1_setMensuration (wsX0_measure) := ggX1_setMensuration_X0_measure
set_option maxRecDepth 20000 in
theorem ggX1_setMensuration_X0_end : GoodIn wsX1_setMensuration wsX0_end := goodIn_r _ [39, 30, 29, 42, 43, 44, 45, 46, 47, 48, 49, 50, 51] (by decide +kernel) (by decide +kernel)
set_option maxRecDepth 20000 in
theorem gX1_setMensuration_X0_end_n89 : GoodIn wsX1_setMensuration (wsX0_end) := ggX1_setMensuration_X0_end
set_option maxRecDepth 20000 in
theorem ggX1_signs_X1_knownVoice : GoodIn wsX1_signs wsX1_knownVoice := goodIn_ca (goodIn_r _ [5, 6, 7, 8, 9, 20, 21] (by decide +kernel) (by decide +kernel)) (goodIn_sub (fun _ h => List.mem_cons_of_mem _ (List.mem_append_right _ h)) (by decide +kernel))
set_option maxRecDepth 20000 in
theorem gX1_signs_X1_knownVoice : GoodIn wsX1_signs (wsV RX1 34 RX1 yX1_knownVoice wsX1_knownVoice) := goodIn_app (goodIn_of _ (by decide +kernel)) ggX1_signs_X1_knownVoice
set_option maxRecDepth 20000 in
theorem ggX1_notes_X1_knownVoice : GoodIn wsX1_notes wsX1_knownVoice := goodIn_ca (goodIn_r _ [5, 6, 7, 8, 9, 20, 21] (by decide +kernel) (by decide +kernel)) (goodIn_sub (fun _ h => List.mem_cons_of_mem _ (List.mem_append_right _ h)) (by decide +kernel))
set_option maxRecDepth 20000 in
theorem gX1_notes_X1_knownVoice : GoodIn wsX1_notes (wsV RX1 34 RX1 yX1_knownVoice wsX1_knownVoice) := goodIn_app (goodIn_of _ (by decide +kernel)) ggX1_notes_X1_knownVoice
set_option maxRecDepth 20000 in
theorem ggX1_notes_X0_countNotes : GoodIn wsX1_notes wsX0_countNotes := goodIn_r _ [13, 14, 15, 16, 17, 11, 18, 19, 22, 23, 24, 25, 26, 27, 28, 29, 30, 31] (by decide +kernel) (by decide +kernel)
set_option maxRecDepth 20000 in
theorem gX1_notes_X0_countNotes_n92 : GoodIn wsX1_notes (wsX0_countNotes) := ggX1_notes_X0_countNotes
set_option maxRecDepth 20000 in
theorem ggX1_ligatures_X1_knownVoice : GoodIn wsX1_ligatures wsX1_knownVoice := goodIn_ca (goodIn_r _ [5, 6, 7, 8, 9, 16, 17] (by decide +kernel) (by decide +kernel)) (goodIn_sub (fun _ h => List.mem_cons_of_mem _ (List.mem_append_right _ h)) (by decide +kernel))
set_option maxRecDepth 20000 in
theorem gX1_ligatures_X1_knownVoice : GoodIn wsX1_ligatures (wsV RX1 34 RX1 yX1_knownVoice wsX1_knownVoice) := goodIn_app (goodIn_of _ (by decide +kernel)) ggX1_ligatures_X1_knownVoice
set_option maxRecDepth 20000 in
theorem ggX1_ligatures_X0_countLigatures : GoodIn wsX1_ligatures wsX0_countLigatures := goodIn_r _ [13, 14, 15, 18, 19, 20, 21, 22, 23, 24, 25, 26, 27] (by decide +kernel) (by decide +kernel)
set_option maxRecDepth 20000 in
theorem gX1_ligatures_X0_countLigatures_n95 : GoodIn wsX1_ligatures (wsX0_countLigatures) := ggX1_ligatures_X0_countLigatures
set_option maxRecDepth 20000 in
theorem ggX1_kindOf_X1_voiceWithSign : GoodIn wsX1_kindOf wsX1_voiceWithSign := goodIn_ca (goodIn_r _ [5, 6, 7, 8, 9, 10, 4, 11, 12, 13, 14, 15, 16, 17, 18, 19, 20, 21, 22, 23, 24, 25] (by decide +kernel) (by decide +kernel)) (goodIn_sub (fun _ h => List.mem_cons_of_mem _ (List.mem_append_right _ h)) (by decide +kernel))
set_option maxRecDepth 20000 in
theorem gX1_kindOf_X1_voiceWithSign : GoodIn wsX1_kindOf (wsV RX1 73 RX1 yX1_voiceWithSign wsX1_voiceWithSign) := goodIn_app (goodIn_of _ (by decide +kernel)) ggX1_kindOf_X1_voiceWithSign
set_option maxRecDepth 20000 in
theorem ggX1_placeOf_X1_voiceWithSign : GoodIn wsX1_placeOf wsX1_voiceWithSign := goodIn_ca (goodIn_r _ [5, 6, 7, 8, 9, 10, 4, 11, 12, 13, 14, 15, 16, 17, 18, 19, 20, 21, 22, 23, 24, 25] (by decide +kernel) (by decide +kernel)) (goodIn_sub (fun _ h => List.mem_cons_of_mem _ (List.mem_append_right _ h)) (by decide +kernel))
set_option maxRecDepth 20000 in
theorem gX1_placeOf_X1_voiceWithSign : GoodIn wsX1_placeOf (wsV RX1 73 RX1 yX1_voiceWithSign wsX1_voiceWithSign) := goodIn_app (goodIn_of _ (by decide +kernel)) ggX1_placeOf_X1_voiceWithSign
set_option maxRecDepth 20000 in
theorem ggX1_isColoured_X1_voiceWithSign : GoodIn wsX1_isColoured wsX1_voiceWithSign := goodIn_ca (goodIn_r _ [5, 6, 7, 8, 9, 10, 4, 11, 12, 13, 14, 15, 16, 17, 18, 19, 20, 21, 22, 23, 24, 25] (by decide +kernel) (by decide +kernel)) (goodIn_sub (fun _ h => List.mem_cons_of_mem _ (List.mem_append_right _ h)) (by decide +kernel))
set_option maxRecDepth 20000 in
theorem gX1_isColoured_X1_voiceWithSign : GoodIn wsX1_isColoured (wsV RX1 73 RX1 yX1_voiceWithSign wsX1_voiceWithSign) := goodIn_app (goodIn_of _ (by decide +kernel)) ggX1_isColoured_X1_voiceWithSign
set_option maxRecDepth 20000 in
theorem ggX1_placeInLigature_X1_voiceWithSign : GoodIn wsX1_placeInLigature wsX1_voiceWithSign := goodIn_ca (goodIn_r _ [5, 6, 7, 8, 9, 10, 4, 11, 12, 13, 14, 15, 16, 17, 18, 19, 20, 21, 22, 23, 24, 25] (by decide +kernel) (by decide +kernel)) (goodIn_sub (fun _ h => List.mem_cons_of_mem _ (List.mem_append_right _ h)) (by decide +kernel))
set_option maxRecDepth 20000 in
theorem gX1_placeInLigature_X1_voiceWithSign : GoodIn wsX1_placeInLigature (wsV RX1 73 RX1 yX1_voiceWithSign wsX1_voiceWithSign) := goodIn_app (goodIn_of _ (by decide +kernel)) ggX1_placeInLigature_X1_voiceWithSign
set_option maxRecDepth 20000 in
theorem ggX1_lengthOf_X1_voiceWithSign : GoodIn wsX1_lengthOf wsX1_voiceWithSign := goodIn_ca (goodIn_r _ [5, 6, 7, 8, 9, 10, 4, 11, 12, 13, 19, 20, 21, 22, 23, 24, 25, 26, 27, 28, 29, 30] (by decide +kernel) (by decide +kernel)) (goodIn_sub (fun _ h => List.mem_cons_of_mem _ (List.mem_append_right _ h)) (by decide +kernel))
set_option maxRecDepth 20000 in
theorem gX1_lengthOf_X1_voiceWithSign : GoodIn wsX1_lengthOf (wsV RX1 73 RX1 yX1_voiceWithSign wsX1_voiceWithSign) := goodIn_app (goodIn_of _ (by decide +kernel)) ggX1_lengthOf_X1_voiceWithSign
set_option maxRecDepth 20000 in
theorem ggX1_lengthOf_X0_minimsOf : GoodIn wsX1_lengthOf wsX0_minimsOf := goodIn_r _ [17, 18, 19, 20, 21, 22, 23, 24, 25, 26, 27, 28] (by decide +kernel) (by decide +kernel)
set_option maxRecDepth 20000 in
theorem gX1_lengthOf_X0_minimsOf_n112 : GoodIn wsX1_lengthOf (wsX0_minimsOf) := ggX1_lengthOf_X0_minimsOf
set_option maxRecDepth 20000 in
theorem ggX1_beginOf_X1_voiceWithSign : GoodIn wsX1_beginOf wsX1_voiceWithSign := goodIn_ca (goodIn_r _ [5, 6, 7, 8, 9, 10, 4, 11, 12, 13, 14, 15, 16, 17, 18, 19, 20, 21, 22, 23, 24, 25] (by decide +kernel) (by decide +kernel)) (goodIn_sub (fun _ h => List.mem_cons_of_mem _ (List.mem_append_right _ h)) (by decide +kernel))
set_option maxRecDepth 20000 in
theorem gX1_beginOf_X1_voiceWithSign : GoodIn wsX1_beginOf (wsV RX1 73 RX1 yX1_voiceWithSign wsX1_voiceWithSign) := goodIn_app (goodIn_of _ (by decide +kernel)) ggX1_beginOf_X1_voiceWithSign
set_option maxRecDepth 20000 in
theorem ggX1_length_X1_knownVoice : GoodIn wsX1_length wsX1_knownVoice := goodIn_ca (goodIn_r _ [5, 6, 7, 8, 9, 16, 17] (by decide +kernel) (by decide +kernel)) (goodIn_sub (fun _ h => List.mem_cons_of_mem _ (List.mem_append_right _ h)) (by decide +kernel))
set_option maxRecDepth 20000 in
theorem gX1_length_X1_knownVoice : GoodIn wsX1_length (wsV RX1 34 RX1 yX1_knownVoice wsX1_knownVoice) := goodIn_app (goodIn_of _ (by decide +kernel)) ggX1_length_X1_knownVoice
set_option maxRecDepth 20000 in
theorem ggX1_length_X0_end : GoodIn wsX1_length wsX0_end := goodIn_r _ [13, 14, 15, 18, 19, 20, 21, 22, 23, 24, 25, 26, 27] (by decide +kernel) (by decide +kernel)
set_option maxRecDepth 20000 in
theorem gX1_length_X0_end_n89 : GoodIn wsX1_length (wsX0_end) := ggX1_length_X0_end
set_option maxRecDepth 20000 in
theorem ggX1_longest_X0_end : GoodIn wsX1_longest wsX0_end := goodIn_r _ [10, 11, 12, 15, 16, 17, 18, 19, 20, 21, 22, 23, 24] (by decide +kernel) (by decide +kernel)
set_option maxRecDepth 20000 in
theorem gX1_longest_X0_end_n89 : GoodIn wsX1_longest (wsX0_end) := ggX1_longest_X0_end
set_option maxRecDepth 20000 in
theorem ggX1_signAt_X1_knownVoice : GoodIn wsX1_signAt wsX1_knownVoice := goodIn_ca (goodIn_r _ [6, 7, 8, 9, 10, 22, 23] (by decide +kernel) (by decide +kernel)) (goodIn_sub (fun _ h => List.mem_cons_of_mem _ (List.mem_append_left _ (List.mem_append_right _ h))) (by decide +kernel))
set_option maxRecDepth 20000 in
theorem gX1_signAt_X1_knownVoice : GoodIn wsX1_signAt (wsV RX1 34 RX1 yX1_knownVoice wsX1_knownVoice) := goodIn_app (goodIn_of _ (by decide +kernel)) ggX1_signAt_X1_knownVoice
set_option maxRecDepth 20000 in
theorem ggX1_signAt_X1_checkRange : GoodIn wsX1_signAt wsX1_checkRange := goodIn_ca (goodIn_r _ [13, 14, 15] (by decide +kernel) (by decide +kernel)) (goodIn_sub (fun _ h => List.mem_cons_of_mem _ (List.mem_append_right _ h)) (by decide +kernel))
set_option maxRecDepth 20000 in
theorem gX1_signAt_X1_checkRange : GoodIn wsX1_signAt (va_wsS RX1 38 yX1_checkRange wsX1_checkRange) := goodIn_app (goodIn_of _ (by decide +kernel)) ggX1_signAt_X1_checkRange
set_option maxRecDepth 20000 in
theorem ggX1_signAt_X0_signLastingAt : GoodIn wsX1_signAt wsX0_signLastingAt := goodIn_r _ [19, 20, 21, 24, 25, 26, 27, 28, 29, 30, 31, 32, 33] (by decide +kernel) (by decide +kernel)
set_option maxRecDepth 20000 in
theorem gX1_signAt_X0_signLastingAt_n127 : GoodIn wsX1_signAt (wsX0_signLastingAt) := ggX1_signAt_X0_signLastingAt
set_option maxRecDepth 20000 in
theorem ggX1_clefOf_X1_knownVoice : GoodIn wsX1_clefOf wsX1_knownVoice := goodIn_ca (goodIn_r _ [5, 6, 7, 8, 9, 20, 21] (by decide +kernel) (by decide +kernel)) (goodIn_sub (fun _ h => List.mem_cons_of_mem _ (List.mem_append_right _ h)) (by decide +kernel))
set_option maxRecDepth 20000 in
theorem gX1_clefOf_X1_knownVoice : GoodIn wsX1_clefOf (wsV RX1 34 RX1 yX1_knownVoice wsX1_knownVoice) := goodIn_app (goodIn_of _ (by decide +kernel)) ggX1_clefOf_X1_knownVoice
set_option maxRecDepth 20000 in
theorem ggX1_pitchOf_X1_voiceWithSign : GoodIn wsX1_pitchOf wsX1_voiceWithSign := goodIn_ca (goodIn_r _ [5, 6, 7, 8, 9, 10, 4, 11, 12, 13, 24, 25, 26, 27, 28, 29, 30, 31, 32, 33, 34, 35] (by decide +kernel) (by decide +kernel)) (goodIn_sub (fun _ h => List.mem_cons_of_mem _ (List.mem_append_left _ (List.mem_append_right _ h))) (by decide +kernel))
set_option maxRecDepth 20000 in
theorem gX1_pitchOf_X1_voiceWithSign : GoodIn wsX1_pitchOf (wsV RX1 73 RX1 yX1_voiceWithSign wsX1_voiceWithSign) := goodIn_app (goodIn_of _ (by decide +kernel)) ggX1_pitchOf_X1_voiceWithSign
set_option maxRecDepth 20000 in
theorem ggX1_pitchOf_X1_checkHasClef : GoodIn wsX1_pitchOf wsX1_checkHasClef := goodIn_ca (goodIn_r _ [16, 17, 18, 24, 25, 26, 27, 28, 29, 30, 31, 32, 33] (by decide +kernel) (by decide +kernel)) (goodIn_sub (fun _ h => List.mem_cons_of_mem _ (List.mem_append_right _ h)) (by decide +kernel))
set_option maxRecDepth 20000 in
theorem gX1_pitchOf_X1_checkHasClef : GoodIn wsX1_pitchOf (va_wsS RX1 130 yX1_checkHasClef wsX1_checkHasClef) := goodIn_app (goodIn_of _ (by decide +kernel)) ggX1_pitchOf_X1_checkHasClef
set_option maxRecDepth 20000 in
theorem ggX1_pitchOf_X0_isRest : GoodIn wsX1_pitchOf wsX0_isRest := goodIn_r _ [22, 23, 24, 25, 26, 27, 28, 29, 30, 31, 32, 33] (by decide +kernel) (by decide +kernel)
set_option maxRecDepth 20000 in
theorem gX1_pitchOf_X0_isRest_n77 : GoodIn wsX1_pitchOf (wsX0_isRest) := ggX1_pitchOf_X0_isRest
set_option maxRecDepth 20000 in
theorem ggX1_fits_X1_knownVoice : GoodIn wsX1_fits wsX1_knownVoice := goodIn_ca (goodIn_r _ [5, 6, 7, 8, 9, 25, 26] (by decide +kernel) (by decide +kernel)) (goodIn_sub (fun _ h => List.mem_cons_of_mem _ (List.mem_append_left _ (List.mem_append_right _ h))) (by decide +kernel))
set_option maxRecDepth 20000 in
theorem gX1_fits_X1_knownVoice : GoodIn wsX1_fits (wsV RX1 34 RX1 yX1_knownVoice wsX1_knownVoice) := goodIn_app (goodIn_of _ (by decide +kernel)) ggX1_fits_X1_knownVoice
set_option maxRecDepth 20000 in
theorem ggX1_fits_X1_checkRange : GoodIn wsX1_fits wsX1_checkRange := goodIn_ca (goodIn_r _ [12, 13, 14] (by decide +kernel) (by decide +kernel)) (goodIn_sub (fun _ h => List.mem_cons_of_mem _ (List.mem_append_right _ h)) (by decide +kernel))
set_option maxRecDepth 20000 in
theorem gX1_fits_X1_checkRange : GoodIn wsX1_fits (va_wsS RX1 38 yX1_checkRange wsX1_checkRange) := goodIn_app (goodIn_of _ (by decide +kernel)) ggX1_fits_X1_checkRange
set_option maxRecDepth 20000 in
theorem ggX1_fits_X0_wouldFit : GoodIn wsX1_fits wsX0_wouldFit := goodIn_r _ [18, 19, 20, 21, 22, 23, 16, 24, 27, 28, 29, 30, 31, 32, 33, 34, 35, 36] (by decide +kernel) (by decide +kernel)
set_option maxRecDepth 20000 in
theorem gX1_fits_X0_wouldFit_n134 : GoodIn wsX1_fits (wsX0_wouldFit) := ggX1_fits_X0_wouldFit
set_option maxRecDepth 20000 in
theorem ggX1_clefsThatFit_X1_knownVoice : GoodIn wsX1_clefsThatFit wsX1_knownVoice := goodIn_ca (goodIn_r _ [5, 6, 7, 8, 9, 24, 25] (by decide +kernel) (by decide +kernel)) (goodIn_sub (fun _ h => List.mem_cons_of_mem _ (List.mem_append_right _ h)) (by decide +kernel))
set_option maxRecDepth 20000 in
theorem gX1_clefsThatFit_X1_knownVoice : GoodIn wsX1_clefsThatFit (wsV RX1 34 RX1 yX1_knownVoice wsX1_knownVoice) := goodIn_app (goodIn_of _ (by decide +kernel)) ggX1_clefsThatFit_X1_knownVoice
set_option maxRecDepth 20000 in
theorem ggX1_clefsThatFit_X0_countFittingClefs : GoodIn wsX1_clefsThatFit wsX0_countFittingClefs := goodIn_r _ [13, 14, 15, 16, 11, 17, 18, 19, 20, 21, 22, 23, 26, 27, 28, 29, 30, 31, 32, 33, 34, 35] (by decide +kernel) (by decide +kernel)
set_option maxRecDepth 20000 in
theorem gX1_clefsThatFit_X0_countFittingClefs_n137 : GoodIn wsX1_clefsThatFit (wsX0_countFittingClefs) := ggX1_clefsThatFit_X0_countFittingClefs
set_option maxRecDepth 20000 in
theorem ggX1_clashes_X1_knownVoice : GoodIn wsX1_clashes wsX1_knownVoice := goodIn_ca (goodIn_r _ [5, 6, 7, 8, 9, 46, 47] (by decide +kernel) (by decide +kernel)) (goodIn_sub (fun _ h => List.mem_cons_of_mem _ (List.mem_append_left _ (List.mem_append_right _ h))) (by decide +kernel))
set_option maxRecDepth 20000 in
theorem gX1_clashes_X1_knownVoice : GoodIn wsX1_clashes (wsV RX1 34 RX1 yX1_knownVoice wsX1_knownVoice) := goodIn_app (goodIn_of _ (by decide +kernel)) ggX1_clashes_X1_knownVoice
set_option maxRecDepth 20000 in
theorem ggX1_clashes_X1_checkHasClef : GoodIn wsX1_clashes wsX1_checkHasClef := goodIn_ca (goodIn_r _ [12, 13, 14, 36, 37, 38, 39, 40, 41, 42, 43, 44, 45] (by decide +kernel) (by decide +kernel)) (goodIn_sub (fun _ h => List.mem_cons_of_mem _ (List.mem_append_right _ h)) (by decide +kernel))
set_option maxRecDepth 20000 in
theorem gX1_clashes_X1_checkHasClef : GoodIn wsX1_clashes (va_wsS RX1 130 yX1_checkHasClef wsX1_checkHasClef) := goodIn_app (goodIn_of _ (by decide +kernel)) ggX1_clashes_X1_checkHasClef
set_option maxRecDepth 20000 in
theorem ggX1_clashes_X1_clashingMinims : GoodIn wsX1_clashes wsX1_clashingMinims := goodIn_r _ [17, 18, 19, 20, 21, 22, 23, 24, 25, 26, 4, 27, 28, 29, 30, 31, 32, 33, 34, 35, 36, 37, 38, 39, 40, 41, 42, 43, 44, 45] (by decide +kernel) (by decide +kernel)
set_option maxRecDepth 20000 in
theorem gX1_clashes_X1_clashingMinims : GoodIn wsX1_clashes (va_wsS RX1 140 yX1_clashingMinims wsX1_clashingMinims) := goodIn_app (goodIn_of _ (by decide +kernel)) ggX1_clashes_X1_clashingMinims
set_option maxRecDepth 20000 in
theorem ggX1_firstClash_X1_knownVoice : GoodIn wsX1_firstClash wsX1_knownVoice := goodIn_ca (goodIn_r _ [5, 6, 7, 8, 9, 46, 47] (by decide +kernel) (by decide +kernel)) (goodIn_sub (fun _ h => List.mem_cons_of_mem _ (List.mem_append_left _ (List.mem_append_right _ h))) (by decide +kernel))
set_option maxRecDepth 20000 in
theorem gX1_firstClash_X1_knownVoice : GoodIn wsX1_firstClash (wsV RX1 34 RX1 yX1_knownVoice wsX1_knownVoice) := goodIn_app (goodIn_of _ (by decide +kernel)) ggX1_firstClash_X1_knownVoice
set_option maxRecDepth 20000 in
theorem ggX1_firstClash_X1_checkHasClef : GoodIn wsX1_firstClash wsX1_checkHasClef := goodIn_ca (goodIn_r _ [12, 13, 14, 36, 37, 38, 39, 40, 41, 42, 43, 44, 45] (by decide +kernel) (by decide +kernel)) (goodIn_sub (fun _ h => List.mem_cons_of_mem _ (List.mem_append_right _ h)) (by decide +kernel))
set_option maxRecDepth 20000 in
theorem gX1_firstClash_X1_checkHasClef : GoodIn wsX1_firstClash (va_wsS RX1 130 yX1_checkHasClef wsX1_checkHasClef) := goodIn_app (goodIn_of _ (by decide +kernel)) ggX1_firstClash_X1_checkHasClef
set_option maxRecDepth 20000 in
theorem ggX1_firstClash_X1_firstClashingMinim : GoodIn wsX1_firstClash wsX1_firstClashingMinim := goodIn_r _ [17, 18, 19, 20, 21, 22, 23, 24, 25, 26, 4, 27, 28, 29, 30, 31, 32, 33, 34, 35, 36, 37, 38, 39, 40, 41, 42, 43, 44, 45] (by decide +kernel) (by decide +kernel)
set_option maxRecDepth 20000 in
theorem gX1_firstClash_X1_firstClashingMinim : GoodIn wsX1_firstClash (va_wsS RX1 144 yX1_firstClashingMinim wsX1_firstClashingMinim) := goodIn_app (goodIn_of _ (by decide +kernel)) ggX1_firstClash_X1_firstClashingMinim
set_option maxRecDepth 20000 in
theorem ggX1_clashesWith_X1_knownVoice : GoodIn wsX1_clashesWith wsX1_knownVoice := goodIn_ca (goodIn_r _ [5, 6, 7, 8, 9, 40, 41] (by decide +kernel) (by decide +kernel)) (goodIn_sub (fun _ h => List.mem_cons_of_mem _ (List.mem_append_left _ (List.mem_append_right _ h))) (by decide +kernel))
set_option maxRecDepth 20000 in
theorem gX1_clashesWith_X1_knownVoice : GoodIn wsX1_clashesWith (wsV RX1 34 RX1 yX1_knownVoice wsX1_knownVoice) := goodIn_app (goodIn_of _ (by decide +kernel)) ggX1_clashesWith_X1_knownVoice
set_option maxRecDepth 20000 in
theorem ggX1_clashesWith_X1_checkRange : GoodIn wsX1_clashesWith wsX1_checkRange := goodIn_ca (goodIn_r _ [12, 13, 14] (by decide +kernel) (by decide +kernel)) (goodIn_sub (fun _ h => List.mem_cons_of_mem _ (List.mem_append_right _ h)) (by decide +kernel))
set_option maxRecDepth 20000 in
theorem gX1_clashesWith_X1_checkRange : GoodIn wsX1_clashesWith (va_wsS RX1 38 yX1_checkRange wsX1_checkRange) := goodIn_app (goodIn_of _ (by decide +kernel)) ggX1_clashesWith_X1_checkRange
set_option maxRecDepth 20000 in
theorem ggX1_clashesWith_X1_clashesIfClef : GoodIn wsX1_clashesWith wsX1_clashesIfClef := goodIn_r _ [18, 8, 9, 19, 20, 4, 21, 22, 23, 24, 25, 26, 27, 28, 29, 30, 31, 32, 33, 34, 35, 36, 37, 38, 39, 40, 41, 42, 43, 44, 45, 46, 47, 48, 49, 50, 51] (by decide +kernel) (by decide +kernel)
set_option maxRecDepth 20000 in
theorem gX1_clashesWith_X1_clashesIfClef : GoodIn wsX1_clashesWith (wsV RX1 148 RX1 yX1_clashesIfClef wsX1_clashesIfClef) := goodIn_app (goodIn_of _ (by decide +kernel)) ggX1_clashesWith_X1_clashesIfClef
set_option maxRecDepth 20000 in
theorem ggX1_bestClef_X1_knownVoice : GoodIn wsX1_bestClef wsX1_knownVoice := goodIn_ca (goodIn_r _ [5, 6, 7, 8, 9, 45, 46] (by decide +kernel) (by decide +kernel)) (goodIn_sub (fun _ h => List.mem_cons_of_mem _ (List.mem_append_right _ h)) (by decide +kernel))
set_option maxRecDepth 20000 in
theorem gX1_bestClef_X1_knownVoice : GoodIn wsX1_bestClef (wsV RX1 34 RX1 yX1_knownVoice wsX1_knownVoice) := goodIn_app (goodIn_of _ (by decide +kernel)) ggX1_bestClef_X1_knownVoice
set_option maxRecDepth 20000 in
theorem ggX1_bestClef_X1_clefWithFewestClashes : GoodIn wsX1_bestClef wsX1_clefWithFewestClashes := goodIn_r _ [13, 14, 15, 16, 17, 18, 19, 20, 21, 22, 23, 24, 25, 26, 27, 4, 28, 8, 9, 29, 30, 31, 32, 33, 34, 35, 36, 37, 38, 39, 40, 41, 42, 43, 44, 47, 48, 49, 50, 51, 52, 53, 54, 55, 56, 45, 46] (by decide +kernel) (by decide +kernel)
set_option maxRecDepth 20000 in
theorem gX1_bestClef_X1_clefWithFewestClashes : GoodIn wsX1_bestClef (wsV RX1 152 RX1 yX1_clefWithFewestClashes wsX1_clefWithFewestClashes) := goodIn_app (goodIn_of _ (by decide +kernel)) ggX1_bestClef_X1_clefWithFewestClashes
set_option maxRecDepth 20000 in
theorem ggX1_canonClashes_X1_knownVoice : GoodIn wsX1_canonClashes wsX1_knownVoice := goodIn_ca (goodIn_r _ [5, 6, 7, 8, 9, 36, 37] (by decide +kernel) (by decide +kernel)) (goodIn_sub (fun _ h => List.mem_cons_of_mem _ (List.mem_append_left _ (List.mem_append_right _ h))) (by decide +kernel))
set_option maxRecDepth 20000 in
theorem gX1_canonClashes_X1_knownVoice : GoodIn wsX1_canonClashes (wsV RX1 34 RX1 yX1_knownVoice wsX1_knownVoice) := goodIn_app (goodIn_of _ (by decide +kernel)) ggX1_canonClashes_X1_knownVoice
set_option maxRecDepth 20000 in
theorem ggX1_canonClashes_X1_checkRange : GoodIn wsX1_canonClashes wsX1_checkRange := goodIn_ca (goodIn_r _ [12, 13, 14] (by decide +kernel) (by decide +kernel)) (goodIn_sub (fun _ h => List.mem_cons_of_mem _ (List.mem_append_right _ h)) (by decide +kernel))
set_option maxRecDepth 20000 in
theorem gX1_canonClashes_X1_checkRange : GoodIn wsX1_canonClashes (va_wsS RX1 38 yX1_checkRange wsX1_checkRange) := goodIn_app (goodIn_of _ (by decide +kernel)) ggX1_canonClashes_X1_checkRange
set_option maxRecDepth 20000 in
theorem ggX1_canonClashes_X1_clashingMinims : GoodIn wsX1_canonClashes wsX1_clashingMinims := goodIn_r _ [17, 18, 19, 20, 21, 22, 23, 24, 25, 26, 4, 27, 28, 29, 30, 31, 32, 33, 34, 35, 38, 39, 40, 41, 42, 43, 44, 45, 46, 47] (by decide +kernel) (by decide +kernel)
set_option maxRecDepth 20000 in
theorem gX1_canonClashes_X1_clashingMinims : GoodIn wsX1_canonClashes (va_wsS RX1 140 yX1_clashingMinims wsX1_clashingMinims) := goodIn_app (goodIn_of _ (by decide +kernel)) ggX1_canonClashes_X1_clashingMinims
set_option maxRecDepth 20000 in
theorem ggX1_bestDelay_X1_knownVoice : GoodIn wsX1_bestDelay wsX1_knownVoice := goodIn_ca (goodIn_r _ [5, 6, 7, 8, 9, 40, 41] (by decide +kernel) (by decide +kernel)) (goodIn_sub (fun _ h => List.mem_cons_of_mem _ (List.mem_append_left _ (List.mem_append_right _ h))) (by decide +kernel))
set_option maxRecDepth 20000 in
theorem gX1_bestDelay_X1_knownVoice : GoodIn wsX1_bestDelay (wsV RX1 34 RX1 yX1_knownVoice wsX1_knownVoice) := goodIn_app (goodIn_of _ (by decide +kernel)) ggX1_bestDelay_X1_knownVoice
set_option maxRecDepth 20000 in
theorem ggX1_bestDelay_X1_checkRange : GoodIn wsX1_bestDelay wsX1_checkRange := goodIn_ca (goodIn_r _ [12, 13, 14] (by decide +kernel) (by decide +kernel)) (goodIn_sub (fun _ h => List.mem_cons_of_mem _ (List.mem_append_right _ h)) (by decide +kernel))
set_option maxRecDepth 20000 in
theorem gX1_bestDelay_X1_checkRange : GoodIn wsX1_bestDelay (va_wsS RX1 38 yX1_checkRange wsX1_checkRange) := goodIn_app (goodIn_of _ (by decide +kernel)) ggX1_bestDelay_X1_checkRange
set_option maxRecDepth 20000 in
theorem ggX1_bestDelay_X1_delayWithFewestClashes : GoodIn wsX1_bestDelay wsX1_delayWithFewestClashes := goodIn_r _ [17, 18, 19, 20, 4, 21, 22, 23, 24, 25, 26, 27, 28, 29, 30, 31, 32, 33, 34, 35, 36, 37, 38, 39, 42, 43, 44, 45, 46, 47, 48, 49, 50, 51] (by decide +kernel) (by decide +kernel)
set_option maxRecDepth 20000 in
theorem gX1_bestDelay_X1_delayWithFewestClashes : GoodIn wsX1_bestDelay (va_wsS RX1 156 yX1_delayWithFewestClashes wsX1_delayWithFewestClashes) := goodIn_app (goodIn_of _ (by decide +kernel)) ggX1_bestDelay_X1_delayWithFewestClashes
set_option maxRecDepth 20000 in
theorem ggX1_meanLength_X0_end : GoodIn wsX1_meanLength wsX0_end := goodIn_r _ [6, 7, 8, 11, 12, 13, 14, 15, 16, 17, 18, 19, 20] (by decide +kernel) (by decide +kernel)
set_option maxRecDepth 20000 in
theorem gX1_meanLength_X0_end_n89 : GoodIn wsX1_meanLength (wsX0_end) := ggX1_meanLength_X0_end
set_option maxRecDepth 20000 in
theorem ggX1_digest_X1_mix : GoodIn wsX1_digest wsX1_mix := goodIn_r _ [7, 8] (by decide +kernel) (by decide +kernel)
set_option maxRecDepth 20000 in
theorem gX1_digest_X1_mix : GoodIn wsX1_digest (va_wsS RX1 161 yX1_mix wsX1_mix) := goodIn_app (goodIn_of _ (by decide +kernel)) ggX1_digest_X1_mix
set_option maxRecDepth 20000 in
theorem ggX1_digest_X1_longest : GoodIn wsX1_digest wsX1_longest := goodIn_r _ [12, 2, 3, 13, 14, 15, 16, 17, 18, 19, 20, 21, 22, 76, 77, 78, 79, 80, 81, 82, 83, 84, 85, 86, 87] (by decide +kernel) (by decide +kernel)
set_option maxRecDepth 20000 in
theorem gX1_digest_X1_longest : GoodIn wsX1_digest (wsV RX1 165 RX1 yX1_longest wsX1_longest) := goodIn_app (goodIn_of _ (by decide +kernel)) ggX1_digest_X1_longest
set_option maxRecDepth 20000 in
theorem ggX1_digest_X1_mixVoice : GoodIn wsX1_digest wsX1_mixVoice := goodIn_r _ [26, 4, 5, 6, 7, 8, 27, 18, 28, 29, 22, 30, 31, 32, 33, 34, 35, 36, 37, 38, 17, 19, 20, 21, 39, 40, 41, 42, 43, 44, 45, 46, 47, 48, 49, 50, 51, 52, 53, 54, 2, 3, 55, 56, 57, 13, 14, 15, 16, 58, 59, 60, 61, 62, 63, 64, 65, 66, 67, 68, 69, 70, 71, 72, 73, 74, 75, 78, 79, 80, 81, 82, 83, 84, 85, 86, 87, 76, 77] (by decide +kernel) (by decide +kernel)
set_option maxRecDepth 20000 in
theorem gX1_digest_X1_mixVoice : GoodIn wsX1_digest (wsV RX1 168 RX1 yX1_mixVoice wsX1_mixVoice) := goodIn_app (goodIn_of _ (by decide +kernel)) ggX1_digest_X1_mixVoice
set_option maxRecDepth 20000 in
theorem ggX1_voiceWithSign_X1_knownVoice : GoodIn wsX1_voiceWithSign wsX1_knownVoice := goodIn_ca (goodIn_r _ [7, 1, 2, 8, 9, 20, 21] (by decide +kernel) (by decide +kernel)) (goodIn_sub (fun _ h => List.mem_cons_of_mem _ (List.mem_append_right _ h)) (by decide +kernel))
set_option maxRecDepth 20000 in
theorem gX1_voiceWithSign_X1_knownVoice : GoodIn wsX1_voiceWithSign (wsV RX1 34 RX1 yX1_knownVoice wsX1_knownVoice) := goodIn_app (goodIn_of _ (by decide +kernel)) ggX1_voiceWithSign_X1_knownVoice
set_option maxRecDepth 20000 in
theorem ggX1_checkMensuration_X1_checkRange : GoodIn wsX1_checkMensuration wsX1_checkRange := goodIn_ca (goodIn_r _ [4, 5, 6] (by decide +kernel) (by decide +kernel)) (goodIn_sub (fun _ h => List.mem_cons_of_mem _ (List.mem_append_right _ h)) (by decide +kernel))
set_option maxRecDepth 20000 in
theorem gX1_checkMensuration_X1_checkRange : GoodIn wsX1_checkMensuration (va_wsS RX1 38 yX1_checkRange wsX1_checkRange) := goodIn_app (goodIn_of _ (by decide +kernel)) ggX1_checkMensuration_X1_checkRange
set_option maxRecDepth 20000 in
theorem ggX1_checkLigature_X1_checkRange : GoodIn wsX1_checkLigature wsX1_checkRange := goodIn_ca (goodIn_r _ [6, 1, 2] (by decide +kernel) (by decide +kernel)) (goodIn_sub (fun _ h => List.mem_cons_of_mem _ (List.mem_append_right _ h)) (by decide +kernel))
set_option maxRecDepth 20000 in
theorem gX1_checkLigature_X1_checkRange : GoodIn wsX1_checkLigature (va_wsS RX1 38 yX1_checkRange wsX1_checkRange) := goodIn_app (goodIn_of _ (by decide +kernel)) ggX1_checkLigature_X1_checkRange
set_option maxRecDepth 20000 in
theorem ggX1_firstKind_X1_lastKind : GoodIn wsX1_firstKind wsX1_lastKind := goodIn_r _ [4] (by decide +kernel) (by decide +kernel)
set_option maxRecDepth 20000 in
theorem gX1_firstKind_X1_lastKind : GoodIn wsX1_firstKind (va_wsS RX1 60 yX1_lastKind wsX1_lastKind) := goodIn_app (goodIn_of _ (by decide +kernel)) ggX1_firstKind_X1_lastKind
set_option maxRecDepth 20000 in
theorem ggX1_secondKind_X1_lastKind : GoodIn wsX1_secondKind wsX1_lastKind := goodIn_r _ [4] (by decide +kernel) (by decide +kernel)
set_option maxRecDepth 20000 in
theorem gX1_secondKind_X1_lastKind : GoodIn wsX1_secondKind (va_wsS RX1 60 yX1_lastKind wsX1_lastKind) := goodIn_app (goodIn_of _ (by decide +kernel)) ggX1_secondKind_X1_lastKind
set_option maxRecDepth 20000 in
theorem ggX1_clashingMinims_X1_signsClash : GoodIn wsX1_clashingMinims wsX1_signsClash := goodIn_r _ [11, 12, 13, 3, 14, 15, 16, 17, 18, 19, 20, 21, 22, 23, 24, 25, 26, 27, 28, 29] (by decide +kernel) (by decide +kernel)
set_option maxRecDepth 20000 in
theorem gX1_clashingMinims_X1_signsClash : GoodIn wsX1_clashingMinims (va_wsS RX1 193 yX1_signsClash wsX1_signsClash) := goodIn_app (goodIn_of _ (by decide +kernel)) ggX1_clashingMinims_X1_signsClash
set_option maxRecDepth 20000 in
theorem ggX1_firstClashingMinim_X1_signsClash : GoodIn wsX1_firstClashingMinim wsX1_signsClash := goodIn_r _ [11, 12, 13, 3, 14, 15, 16, 17, 18, 19, 20, 21, 22, 23, 24, 25, 26, 27, 28, 29] (by decide +kernel) (by decide +kernel)
set_option maxRecDepth 20000 in
theorem gX1_firstClashingMinim_X1_signsClash : GoodIn wsX1_firstClashingMinim (va_wsS RX1 193 yX1_signsClash wsX1_signsClash) := goodIn_app (goodIn_of _ (by decide +kernel)) ggX1_firstClashingMinim_X1_signsClash
set_option maxRecDepth 20000 in
theorem ggX1_signsClash_X0_isRest : GoodIn wsX1_signsClash wsX0_isRest := goodIn_r _ [8, 9, 10, 11, 12, 13, 14, 15, 16, 17, 18, 19] (by decide +kernel) (by decide +kernel)
set_option maxRecDepth 20000 in
theorem gX1_signsClash_X0_isRest_n77 : GoodIn wsX1_signsClash (wsX0_isRest) := ggX1_signsClash_X0_isRest
set_option maxRecDepth 20000 in
theorem ggX1_clashesIfClef_X1_clashingMinims : GoodIn wsX1_clashesIfClef wsX1_clashingMinims := goodIn_r _ [6, 7, 8, 9, 10, 11, 12, 13, 14, 15, 5, 16, 17, 18, 19, 20, 21, 22, 23, 24, 27, 28, 29, 30, 31, 32, 33, 34, 35, 36] (by decide +kernel) (by decide +kernel)
set_option maxRecDepth 20000 in
theorem gX1_clashesIfClef_X1_clashingMinims : GoodIn wsX1_clashesIfClef (va_wsS RX1 140 yX1_clashingMinims wsX1_clashingMinims) := goodIn_app (goodIn_of _ (by decide +kernel)) ggX1_clashesIfClef_X1_clashingMinims
set_option maxRecDepth 20000 in
theorem ggX1_clefWithFewestClashes_X0_wouldFit : GoodIn wsX1_clefWithFewestClashes wsX0_wouldFit := goodIn_r _ [5, 6, 7, 8, 9, 10, 3, 11, 35, 36, 37, 38, 39, 40, 41, 42, 43, 44] (by decide +kernel) (by decide +kernel)
set_option maxRecDepth 20000 in
theorem gX1_clefWithFewestClashes_X0_wouldFit_n134 : GoodIn wsX1_clefWithFewestClashes (wsX0_wouldFit) := ggX1_clefWithFewestClashes_X0_wouldFit
set_option maxRecDepth 20000 in
theorem ggX1_clefWithFewestClashes_X1_clashesIfClef : GoodIn wsX1_clefWithFewestClashes wsX1_clashesIfClef := goodIn_r _ [16, 17, 18, 19, 20, 15, 21, 22, 23, 24, 25, 26, 27, 28, 29, 30, 31, 32, 33, 34, 9, 3, 10, 11, 7, 45, 46, 35, 36, 37, 38, 39, 40, 41, 42, 43, 44] (by decide +kernel) (by decide +kernel)
set_option maxRecDepth 20000 in
theorem gX1_clefWithFewestClashes_X1_clashesIfClef : GoodIn wsX1_clefWithFewestClashes (wsV RX1 148 RX1 yX1_clashesIfClef wsX1_clashesIfClef) := goodIn_app (goodIn_of _ (by decide +kernel)) ggX1_clefWithFewestClashes_X1_clashesIfClef
set_option maxRecDepth 20000 in
theorem ggX1_delayWithFewestClashes_X1_clashingMinims : GoodIn wsX1_delayWithFewestClashes wsX1_clashingMinims := goodIn_r _ [5, 6, 7, 8, 9, 10, 11, 12, 13, 14, 4, 15, 16, 17, 18, 19, 20, 21, 22, 23, 24, 25, 26, 27, 28, 29, 30, 31, 32, 33] (by decide +kernel) (by decide +kernel)
set_option maxRecDepth 20000 in
theorem gX1_delayWithFewestClashes_X1_clashingMinims : GoodIn wsX1_delayWithFewestClashes (va_wsS RX1 140 yX1_clashingMinims wsX1_clashingMinims) := goodIn_app (goodIn_of _ (by decide +kernel)) ggX1_delayWithFewestClashes_X1_clashingMinims
set_option maxRecDepth 20000 in
theorem ggX1_mixVoice_X1_mix : GoodIn wsX1_mixVoice wsX1_mix := goodIn_r _ [4, 5] (by decide +kernel) (by decide +kernel)
set_option maxRecDepth 20000 in
theorem gX1_mixVoice_X1_mix : GoodIn wsX1_mixVoice (va_wsS RX1 161 yX1_mix wsX1_mix) := goodIn_app (goodIn_of _ (by decide +kernel)) ggX1_mixVoice_X1_mix
set_option maxRecDepth 20000 in
theorem ggX1_mixVoice_X0_countNotes : GoodIn wsX1_mixVoice wsX0_countNotes := goodIn_r _ [9, 10, 11, 12, 13, 7, 14, 15, 67, 68, 69, 70, 71, 72, 73, 74, 75, 76] (by decide +kernel) (by decide +kernel)
set_option maxRecDepth 20000 in
theorem gX1_mixVoice_X0_countNotes_n92 : GoodIn wsX1_mixVoice (wsX0_countNotes) := ggX1_mixVoice_X0_countNotes
set_option maxRecDepth 20000 in
theorem ggX1_mixVoice_X0_countLigatures : GoodIn wsX1_mixVoice wsX0_countLigatures := goodIn_r _ [18, 10, 19, 67, 68, 69, 70, 71, 72, 73, 74, 75, 76] (by decide +kernel) (by decide +kernel)
set_option maxRecDepth 20000 in
theorem gX1_mixVoice_X0_countLigatures_n95 : GoodIn wsX1_mixVoice (wsX0_countLigatures) := ggX1_mixVoice_X0_countLigatures
set_option maxRecDepth 20000 in
theorem ggX1_mixVoice_X0_end : GoodIn wsX1_mixVoice wsX0_end := goodIn_r _ [22, 23, 10, 67, 68, 69, 70, 71, 72, 73, 74, 75, 76] (by decide +kernel) (by decide +kernel)
set_option maxRecDepth 20000 in
theorem gX1_mixVoice_X0_end_n89 : GoodIn wsX1_mixVoice (wsX0_end) := ggX1_mixVoice_X0_end
set_option maxRecDepth 20000 in
theorem ggX1_mixVoice_X0_countFittingClefs : GoodIn wsX1_mixVoice wsX0_countFittingClefs := goodIn_r _ [26, 27, 28, 29, 7, 30, 10, 15, 11, 12, 13, 14, 67, 68, 69, 70, 71, 72, 73, 74, 75, 76] (by decide +kernel) (by decide +kernel)
set_option maxRecDepth 20000 in
theorem gX1_mixVoice_X0_countFittingClefs_n137 : GoodIn wsX1_mixVoice (wsX0_countFittingClefs) := ggX1_mixVoice_X0_countFittingClefs
set_option maxRecDepth 20000 in
theorem ggX1_mixVoice_X1_clefWithFewestClashes : GoodIn wsX1_mixVoice wsX1_clefWithFewestClashes := goodIn_r _ [34, 35, 28, 7, 29, 30, 10, 15, 11, 12, 13, 14, 36, 37, 38, 3, 39, 40, 41, 42, 43, 44, 45, 46, 47, 48, 49, 50, 51, 52, 53, 54, 55, 56, 57, 67, 68, 69, 70, 71, 72, 73, 74, 75, 76, 77, 78] (by decide +kernel) (by decide +kernel)
set_option maxRecDepth 20000 in
theorem gX1_mixVoice_X1_clefWithFewestClashes : GoodIn wsX1_mixVoice (wsV RX1 152 RX1 yX1_clefWithFewestClashes wsX1_clefWithFewestClashes) := goodIn_app (goodIn_of _ (by decide +kernel)) ggX1_mixVoice_X1_clefWithFewestClashes
set_option maxRecDepth 20000 in
theorem ggX1_mixVoice_X1_clashingMinims : GoodIn wsX1_mixVoice wsX1_clashingMinims := goodIn_r _ [44, 45, 46, 47, 48, 49, 50, 51, 52, 53, 3, 54, 55, 56, 57, 12, 7, 13, 14, 15, 67, 68, 69, 70, 71, 72, 73, 74, 75, 76] (by decide +kernel) (by decide +kernel)
set_option maxRecDepth 20000 in
theorem gX1_mixVoice_X1_clashingMinims : GoodIn wsX1_mixVoice (va_wsS RX1 140 yX1_clashingMinims wsX1_clashingMinims) := goodIn_app (goodIn_of _ (by decide +kernel)) ggX1_mixVoice_X1_clashingMinims
set_option maxRecDepth 20000 in
theorem ggX1_mixVoice_X1_delayWithFewestClashes : GoodIn wsX1_mixVoice wsX1_delayWithFewestClashes := goodIn_r _ [60, 35, 42, 43, 3, 44, 45, 46, 47, 48, 49, 50, 51, 52, 53, 54, 55, 56, 57, 12, 7, 13, 14, 15, 67, 68, 69, 70, 71, 72, 73, 74, 75, 76] (by decide +kernel) (by decide +kernel)
set_option maxRecDepth 20000 in
theorem gX1_mixVoice_X1_delayWithFewestClashes : GoodIn wsX1_mixVoice (va_wsS RX1 156 yX1_delayWithFewestClashes wsX1_delayWithFewestClashes) := goodIn_app (goodIn_of _ (by decide +kernel)) ggX1_mixVoice_X1_delayWithFewestClashes
set_option maxRecDepth 20000 in
theorem ggX1_mixVoice_X1_mixSign : GoodIn wsX1_mixVoice wsX1_mixSign := goodIn_r _ [63, 1, 2, 3, 4, 5, 64, 7, 65, 66, 23, 67, 68, 69, 70, 71, 72, 73, 74, 75, 76] (by decide +kernel) (by decide +kernel)
set_option maxRecDepth 20000 in
theorem gX1_mixVoice_X1_mixSign : GoodIn wsX1_mixVoice (va_wsS RX1 202 yX1_mixSign wsX1_mixSign) := goodIn_app (goodIn_of _ (by decide +kernel)) ggX1_mixVoice_X1_mixSign
set_option maxRecDepth 20000 in
theorem ggX1_mixSign_X1_mix : GoodIn wsX1_mixSign wsX1_mix := goodIn_r _ [4, 5] (by decide +kernel) (by decide +kernel)
set_option maxRecDepth 20000 in
theorem gX1_mixSign_X1_mix : GoodIn wsX1_mixSign (va_wsS RX1 161 yX1_mix wsX1_mix) := goodIn_app (goodIn_of _ (by decide +kernel)) ggX1_mixSign_X1_mix
set_option maxRecDepth 20000 in
theorem ggX1_mixSign_X0_minimsOf : GoodIn wsX1_mixSign wsX0_minimsOf := goodIn_r _ [9, 10, 11, 12, 13, 14, 15, 16, 17, 18, 19, 20] (by decide +kernel) (by decide +kernel)
set_option maxRecDepth 20000 in
theorem gX1_mixSign_X0_minimsOf_n112 : GoodIn wsX1_mixSign (wsX0_minimsOf) := ggX1_mixSign_X0_minimsOf
set_option maxRecDepth 20000 in
theorem ggX2_isVoice_X2_isIn : GoodIn wsX2_isVoice wsX2_isIn := goodIn_r _ [5] (by decide +kernel) (by decide +kernel)
set_option maxRecDepth 20000 in
theorem gX2_isVoice_X2_isIn : GoodIn wsX2_isVoice (va_wsS RX2 45 yX2_isIn wsX2_isIn) := goodIn_app (goodIn_of _ (by decide +kernel)) ggX2_isVoice_X2_isIn
set_option maxRecDepth 20000 in
theorem ggX2_isSign_X2_isVoice : GoodIn wsX2_isSign wsX2_isVoice := goodIn_r _ [6, 7, 8, 9, 5, 10, 11, 12, 13, 14, 15, 16, 17, 18, 19, 20, 21] (by decide +kernel) (by decide +kernel)
set_option maxRecDepth 20000 in
theorem gX2_isSign_X2_isVoice : GoodIn wsX2_isSign (wsV RX2 49 RX2 yX2_isVoice wsX2_isVoice) := goodIn_app (goodIn_of _ (by decide +kernel)) ggX2_isSign_X2_isVoice
set_option maxRecDepth 20000 in
theorem ggX2_isSign_X2_isIn : GoodIn wsX2_isSign wsX2_isIn := goodIn_r _ [10] (by decide +kernel) (by decide +kernel)
set_option maxRecDepth 20000 in
theorem gX2_isSign_X2_isIn : GoodIn wsX2_isSign (va_wsS RX2 45 yX2_isIn wsX2_isIn) := goodIn_app (goodIn_of _ (by decide +kernel)) ggX2_isSign_X2_isIn
set_option maxRecDepth 20000 in
theorem ggX2_isMeasure_X2_isIn : GoodIn wsX2_isMeasure wsX2_isIn := goodIn_r _ [4] (by decide +kernel) (by decide +kernel)
set_option maxRecDepth 20000 in
theorem gX2_isMeasure_X2_isIn : GoodIn wsX2_isMeasure (va_wsS RX2 45 yX2_isIn wsX2_isIn) := goodIn_app (goodIn_of _ (by decide +kernel)) ggX2_isMeasure_X2_isIn
set_option maxRecDepth 20000 in
theorem ggX2_all_X2_lasts : GoodIn wsX2_all wsX2_lasts := goodIn_r _ [6, 7, 8, 9, 10, 11, 12, 13, 14, 15, 16, 17, 18, 19, 20] (by decide +kernel) (by decide +kernel)
set_option maxRecDepth 20000 in
theorem gX2_all_X2_lasts : GoodIn wsX2_all (wsV RX2 53 RX2 yX2_lasts wsX2_lasts) := goodIn_app (goodIn_of _ (by decide +kernel)) ggX2_all_X2_lasts
set_option maxRecDepth 20000 in
theorem ggX2_lay_X2_lasts : GoodIn wsX2_lay wsX2_lasts := goodIn_r _ [7, 8, 9, 10, 11, 12, 13, 14, 15, 16, 17, 18, 19, 20, 21] (by decide +kernel) (by decide +kernel)
set_option maxRecDepth 20000 in
theorem gX2_lay_X2_lasts : GoodIn wsX2_lay (wsV RX2 53 RX2 yX2_lasts wsX2_lasts) := goodIn_app (goodIn_of _ (by decide +kernel)) ggX2_lay_X2_lasts
set_option maxRecDepth 20000 in
theorem ggX2_clash_X2_lay : GoodIn wsX2_clash wsX2_lay := goodIn_r _ [11, 12, 13, 14, 15, 16, 10, 17, 18, 19, 20, 27, 28, 29, 30, 31, 32, 33, 34, 35, 36, 37] (by decide +kernel) (by decide +kernel)
set_option maxRecDepth 20000 in
theorem gX2_clash_X2_lay : GoodIn wsX2_clash (wsV RX2 63 RX2 yX2_lay wsX2_lay) := goodIn_app (goodIn_of _ (by decide +kernel)) ggX2_clash_X2_lay
set_option maxRecDepth 20000 in
theorem ggX2_clash_X2_isClash : GoodIn wsX2_clash wsX2_isClash := goodIn_r _ [23, 24, 25, 5, 26] (by decide +kernel) (by decide +kernel)
set_option maxRecDepth 20000 in
theorem gX2_clash_X2_isClash : GoodIn wsX2_clash (va_wsS RX2 70 yX2_isClash wsX2_isClash) := goodIn_app (goodIn_of _ (by decide +kernel)) ggX2_clash_X2_isClash
set_option maxRecDepth 20000 in
theorem ggX2_addVoice_X2_isMeasure : GoodIn wsX2_addVoice wsX2_isMeasure := goodIn_r _ [7, 8, 9, 6, 10] (by decide +kernel) (by decide +kernel)
set_option maxRecDepth 20000 in
theorem gX2_addVoice_X2_isMeasure : GoodIn wsX2_addVoice (va_wsS RX2 73 yX2_isMeasure wsX2_isMeasure) := goodIn_app (goodIn_of _ (by decide +kernel)) ggX2_addVoice_X2_isMeasure
set_option maxRecDepth 20000 in
theorem ggX2_addVoice_X2_fail : GoodIn wsX2_addVoice wsX2_fail := goodIn_r _ [14, 1, 20, 21, 22, 23, 24, 25, 26, 27, 28, 29, 30] (by decide +kernel) (by decide +kernel)
set_option maxRecDepth 20000 in
theorem gX2_addVoice_X2_fail : GoodIn wsX2_addVoice (wsV RX2 76 RX2 yX2_fail wsX2_fail) := goodIn_app (goodIn_of _ (by decide +kernel)) ggX2_addVoice_X2_fail
set_option maxRecDepth 20000 in
theorem ggX2_addVoice_X2_set : GoodIn wsX2_addVoice wsX2_set := goodIn_r _ [18, 19, 20, 21, 22, 23, 24, 25, 26, 27, 28, 29, 30] (by decide +kernel) (by decide +kernel)
set_option maxRecDepth 20000 in
theorem gX2_addVoice_X2_set : GoodIn wsX2_addVoice (wsV RX2 79 RX2 yX2_set wsX2_set) := goodIn_app (goodIn_of _ (by decide +kernel)) ggX2_addVoice_X2_set
set_option maxRecDepth 20000 in
theorem ggX2_addNote_X2_isVoice : GoodIn wsX2_addNote wsX2_isVoice := goodIn_r _ [7, 8, 9, 10, 6, 11, 24, 25, 26, 27, 28, 29, 30, 31, 32, 33, 34] (by decide +kernel) (by decide +kernel)
set_option maxRecDepth 20000 in
theorem gX2_addNote_X2_isVoice : GoodIn wsX2_addNote (wsV RX2 49 RX2 yX2_isVoice wsX2_isVoice) := goodIn_app (goodIn_of _ (by decide +kernel)) ggX2_addNote_X2_isVoice
set_option maxRecDepth 20000 in
theorem ggX2_addNote_X2_fail : GoodIn wsX2_addNote wsX2_fail := goodIn_r _ [15, 1, 24, 25, 26, 27, 28, 29, 30, 31, 32, 33, 34] (by decide +kernel) (by decide +kernel)
set_option maxRecDepth 20000 in
theorem gX2_addNote_X2_fail : GoodIn wsX2_addNote (wsV RX2 76 RX2 yX2_fail wsX2_fail) := goodIn_app (goodIn_of _ (by decide +kernel)) ggX2_addNote_X2_fail
set_option maxRecDepth 20000 in
theorem ggX2_addNote_X2_isIn : GoodIn wsX2_addNote wsX2_isIn := goodIn_r _ [11] (by decide +kernel) (by decide +kernel)
set_option maxRecDepth 20000 in
theorem gX2_addNote_X2_isIn : GoodIn wsX2_addNote (va_wsS RX2 45 yX2_isIn wsX2_isIn) := goodIn_app (goodIn_of _ (by decide +kernel)) ggX2_addNote_X2_isIn
set_option maxRecDepth 20000 in
theorem ggX2_addNote_X2_put : GoodIn wsX2_addNote wsX2_put := goodIn_r _ [19, 2, 20, 21, 22, 23, 24, 25, 26, 27, 28, 29, 30, 31, 32, 33, 34] (by decide +kernel) (by decide +kernel)
set_option maxRecDepth 20000 in
theorem gX2_addNote_X2_put : GoodIn wsX2_addNote (wsV RX2 83 RX2 yX2_put wsX2_put) := goodIn_app (goodIn_of _ (by decide +kernel)) ggX2_addNote_X2_put
set_option maxRecDepth 20000 in
theorem ggX2_addRest_X2_isVoice : GoodIn wsX2_addRest wsX2_isVoice := goodIn_r _ [7, 8, 9, 10, 6, 11, 24, 25, 26, 27, 28, 29, 30, 31, 32, 33, 34] (by decide +kernel) (by decide +kernel)
set_option maxRecDepth 20000 in
theorem gX2_addRest_X2_isVoice : GoodIn wsX2_addRest (wsV RX2 49 RX2 yX2_isVoice wsX2_isVoice) := goodIn_app (goodIn_of _ (by decide +kernel)) ggX2_addRest_X2_isVoice
set_option maxRecDepth 20000 in
theorem ggX2_addRest_X2_fail : GoodIn wsX2_addRest wsX2_fail := goodIn_r _ [15, 1, 24, 25, 26, 27, 28, 29, 30, 31, 32, 33, 34] (by decide +kernel) (by decide +kernel)
set_option maxRecDepth 20000 in
theorem gX2_addRest_X2_fail : GoodIn wsX2_addRest (wsV RX2 76 RX2 yX2_fail wsX2_fail) := goodIn_app (goodIn_of _ (by decide +kernel)) ggX2_addRest_X2_fail
set_option maxRecDepth 20000 in
theorem ggX2_addRest_X2_isIn : GoodIn wsX2_addRest wsX2_isIn := goodIn_r _ [11] (by decide +kernel) (by decide +kernel)
set_option maxRecDepth 20000 in
theorem gX2_addRest_X2_isIn : GoodIn wsX2_addRest (va_wsS RX2 45 yX2_isIn wsX2_isIn) := goodIn_app (goodIn_of _ (by decide +kernel)) ggX2_addRest_X2_isIn
set_option maxRecDepth 20000 in
theorem ggX2_addRest_X2_put : GoodIn wsX2_addRest wsX2_put := goodIn_r _ [19, 2, 20, 21, 22, 23, 24, 25, 26, 27, 28, 29, 30, 31, 32, 33, 34] (by decide +kernel) (by decide +kernel)
set_option maxRecDepth 20000 in
theorem gX2_addRest_X2_put : GoodIn wsX2_addRest (wsV RX2 83 RX2 yX2_put wsX2_put) := goodIn_app (goodIn_of _ (by decide +kernel)) ggX2_addRest_X2_put
set_option maxRecDepth 20000 in
theorem ggX2_addLigature_X2_isVoice : GoodIn wsX2_addLigature wsX2_isVoice := goodIn_r _ [7, 8, 9, 10, 6, 11, 24, 25, 26, 27, 28, 29, 30, 31, 32, 33, 34] (by decide +kernel) (by decide +kernel)
set_option maxRecDepth 20000 in
theorem gX2_addLigature_X2_isVoice : GoodIn wsX2_addLigature (wsV RX2 49 RX2 yX2_isVoice wsX2_isVoice) := goodIn_app (goodIn_of _ (by decide +kernel)) ggX2_addLigature_X2_isVoice
set_option maxRecDepth 20000 in
theorem ggX2_addLigature_X2_fail : GoodIn wsX2_addLigature wsX2_fail := goodIn_r _ [15, 1, 24, 25, 26, 27, 28, 29, 30, 31, 32, 33, 34] (by decide +kernel) (by decide +kernel)
set_option maxRecDepth 20000 in
theorem gX2_addLigature_X2_fail : GoodIn wsX2_addLigature (wsV RX2 76 RX2 yX2_fail wsX2_fail) := goodIn_app (goodIn_of _ (by decide +kernel)) ggX2_addLigature_X2_fail
set_option maxRecDepth 20000 in
theorem ggX2_addLigature_X2_isIn : GoodIn wsX2_addLigature wsX2_isIn := goodIn_r _ [11] (by decide +kernel) (by decide +kernel)
set_option maxRecDepth 20000 in
theorem gX2_addLigature_X2_isIn : GoodIn wsX2_addLigature (va_wsS RX2 45 yX2_isIn wsX2_isIn) := goodIn_app (goodIn_of _ (by decide +kernel)) ggX2_addLigature_X2_isIn
set_option maxRecDepth 20000 in
theorem ggX2_addLigature_X2_put : GoodIn wsX2_addLigature wsX2_put := goodIn_r _ [19, 2, 20, 21, 22, 23, 24, 25, 26, 27, 28, 29, 30, 31, 32, 33, 34] (by decide +kernel) (by decide +kernel)
set_option maxRecDepth 20000 in
theorem gX2_addLigature_X2_put : GoodIn wsX2_addLigature (wsV RX2 83 RX2 yX2_put wsX2_put) := goodIn_app (goodIn_of _ (by decide +kernel)) ggX2_addLigature_X2_put
set_option maxRecDepth 20000 in
theorem ggX2_erase_X2_isVoice : GoodIn wsX2_erase wsX2_isVoice := goodIn_r _ [12, 13, 14, 15, 11, 16, 21, 22, 23, 24, 25, 26, 27, 28, 29, 30, 31] (by decide +kernel) (by decide +kernel)
set_option maxRecDepth 20000 in
theorem gX2_erase_X2_isVoice : GoodIn wsX2_erase (wsV RX2 49 RX2 yX2_isVoice wsX2_isVoice) := goodIn_app (goodIn_of _ (by decide +kernel)) ggX2_erase_X2_isVoice
set_option maxRecDepth 20000 in
theorem ggX2_erase_X2_fail : GoodIn wsX2_erase wsX2_fail := goodIn_r _ [20, 1, 21, 22, 23, 24, 25, 26, 27, 28, 29, 30, 31] (by decide +kernel) (by decide +kernel)
set_option maxRecDepth 20000 in
theorem gX2_erase_X2_fail : GoodIn wsX2_erase (wsV RX2 76 RX2 yX2_fail wsX2_fail) := goodIn_app (goodIn_of _ (by decide +kernel)) ggX2_erase_X2_fail
set_option maxRecDepth 20000 in
theorem ggX2_recolour_X2_isSign : GoodIn wsX2_recolour wsX2_isSign := goodIn_r _ [8, 9, 10, 11, 12, 7, 13, 14, 15, 16, 17, 18, 19, 20, 21, 22, 23, 24, 25, 26, 27, 28] (by decide +kernel) (by decide +kernel)
set_option maxRecDepth 20000 in
theorem gX2_recolour_X2_isSign : GoodIn wsX2_recolour (wsV RX2 90 RX2 yX2_isSign wsX2_isSign) := goodIn_app (goodIn_of _ (by decide +kernel)) ggX2_recolour_X2_isSign
set_option maxRecDepth 20000 in
theorem ggX2_setClef_X2_isVoice : GoodIn wsX2_setClef wsX2_isVoice := goodIn_r _ [7, 8, 9, 10, 6, 11, 16, 17, 18, 19, 20, 21, 22, 23, 24, 25, 26] (by decide +kernel) (by decide +kernel)
set_option maxRecDepth 20000 in
theorem gX2_setClef_X2_isVoice : GoodIn wsX2_setClef (wsV RX2 49 RX2 yX2_isVoice wsX2_isVoice) := goodIn_app (goodIn_of _ (by decide +kernel)) ggX2_setClef_X2_isVoice
set_option maxRecDepth 20000 in
theorem ggX2_setClef_X2_fail : GoodIn wsX2_setClef wsX2_fail := goodIn_r _ [15, 1, 16, 17, 18, 19, 20, 21, 22, 23, 24, 25, 26] (by decide +kernel) (by decide +kernel)
set_option maxRecDepth 20000 in
theorem gX2_setClef_X2_fail : GoodIn wsX2_setClef (wsV RX2 76 RX2 yX2_fail wsX2_fail) := goodIn_app (goodIn_of _ (by decide +kernel)) ggX2_setClef_X2_fail
set_option maxRecDepth 20000 in
theorem ggX2_setClef_X2_isIn : GoodIn wsX2_setClef wsX2_isIn := goodIn_r _ [11] (by decide +kernel) (by decide +kernel)
set_option maxRecDepth 20000 in
theorem gX2_setClef_X2_isIn : GoodIn wsX2_setClef (va_wsS RX2 45 yX2_isIn wsX2_isIn) := goodIn_app (goodIn_of _ (by decide +kernel)) ggX2_setClef_X2_isIn
set_option maxRecDepth 20000 in
theorem ggX2_setMensuration_X2_isVoice : GoodIn wsX2_setMensuration wsX2_isVoice := goodIn_r _ [6, 7, 8, 9, 5, 10, 34, 35, 36, 37, 38, 39, 40, 41, 42, 43, 44] (by decide +kernel) (by decide +kernel)
set_option maxRecDepth 20000 in
theorem gX2_setMensuration_X2_isVoice : GoodIn wsX2_setMensuration (wsV RX2 49 RX2 yX2_isVoice wsX2_isVoice) := goodIn_app (goodIn_of _ (by decide +kernel)) ggX2_setMensuration_X2_isVoice
set_option maxRecDepth 20000 in
theorem ggX2_setMensuration_X2_fail : GoodIn wsX2_setMensuration wsX2_fail := goodIn_r _ [14, 1, 34, 35, 36, 37, 38, 39, 40, 41, 42, 43, 44] (by decide +kernel) (by decide +kernel)
set_option maxRecDepth 20000 in
theorem gX2_setMensuration_X2_fail : GoodIn wsX2_setMensuration (wsV RX2 76 RX2 yX2_fail wsX2_fail) := goodIn_app (goodIn_of _ (by decide +kernel)) ggX2_setMensuration_X2_fail
set_option maxRecDepth 20000 in
theorem ggX2_setMensuration_X2_isMeasure : GoodIn wsX2_setMensuration wsX2_isMeasure := goodIn_r _ [17, 8, 9, 5, 10] (by decide +kernel) (by decide +kernel)
set_option maxRecDepth 20000 in
theorem gX2_setMensuration_X2_isMeasure : GoodIn wsX2_setMensuration (va_wsS RX2 73 yX2_isMeasure wsX2_isMeasure) := goodIn_app (goodIn_of _ (by decide +kernel)) ggX2_setMensuration_X2_isMeasure
set_option maxRecDepth 20000 in
theorem ggX2_setMensuration_X2_set : GoodIn wsX2_setMensuration wsX2_set := goodIn_r _ [21, 22, 34, 35, 36, 37, 38, 39, 40, 41, 42, 43, 44] (by decide +kernel) (by decide +kernel)
set_option maxRecDepth 20000 in
theorem gX2_setMensuration_X2_set : GoodIn wsX2_setMensuration (wsV RX2 79 RX2 yX2_set wsX2_set) := goodIn_app (goodIn_of _ (by decide +kernel)) ggX2_setMensuration_X2_set
set_option maxRecDepth 20000 in
theorem ggX2_setMensuration_X2_all : GoodIn wsX2_setMensuration wsX2_all := goodIn_r _ [26, 27, 28, 29, 30, 5, 31, 32, 33, 22, 34, 35, 36, 37, 38, 39, 40, 41, 42, 43, 44] (by decide +kernel) (by decide +kernel)
set_option maxRecDepth 20000 in
theorem gX2_setMensuration_X2_all : GoodIn wsX2_setMensuration (wsV RX2 94 RX2 yX2_all wsX2_all) := goodIn_app (goodIn_of _ (by decide +kernel)) ggX2_setMensuration_X2_all
set_option maxRecDepth 20000 in
theorem ggX2_voices_X2_told : GoodIn wsX2_voices wsX2_told := goodIn_r _ [6, 7, 8, 9, 10, 11, 12, 13, 14, 15, 16, 17, 18] (by decide +kernel) (by decide +kernel)
set_option maxRecDepth 20000 in
theorem gX2_voices_X2_told : GoodIn wsX2_voices (wsV RX2 97 RX2 yX2_told wsX2_told) := goodIn_app (goodIn_of _ (by decide +kernel)) ggX2_voices_X2_told
set_option maxRecDepth 20000 in
theorem ggX2_signs_X2_isVoice : GoodIn wsX2_signs wsX2_isVoice := goodIn_r _ [7, 8, 9, 10, 6, 11, 16, 17, 18, 19, 20, 21, 22, 23, 24, 25, 26] (by decide +kernel) (by decide +kernel)
set_option maxRecDepth 20000 in
theorem gX2_signs_X2_isVoice : GoodIn wsX2_signs (wsV RX2 49 RX2 yX2_isVoice wsX2_isVoice) := goodIn_app (goodIn_of _ (by decide +kernel)) ggX2_signs_X2_isVoice
set_option maxRecDepth 20000 in
theorem ggX2_signs_X2_fail : GoodIn wsX2_signs wsX2_fail := goodIn_r _ [15, 1, 16, 17, 18, 19, 20, 21, 22, 23, 24, 25, 26] (by decide +kernel) (by decide +kernel)
set_option maxRecDepth 20000 in
theorem gX2_signs_X2_fail : GoodIn wsX2_signs (wsV RX2 76 RX2 yX2_fail wsX2_fail) := goodIn_app (goodIn_of _ (by decide +kernel)) ggX2_signs_X2_fail
set_option maxRecDepth 20000 in
theorem ggX2_notes_X2_isVoice : GoodIn wsX2_notes wsX2_isVoice := goodIn_r _ [6, 7, 8, 9, 5, 10, 22, 23, 24, 25, 26, 27, 28, 29, 30, 31, 32] (by decide +kernel) (by decide +kernel)
set_option maxRecDepth 20000 in
theorem gX2_notes_X2_isVoice : GoodIn wsX2_notes (wsV RX2 49 RX2 yX2_isVoice wsX2_isVoice) := goodIn_app (goodIn_of _ (by decide +kernel)) ggX2_notes_X2_isVoice
set_option maxRecDepth 20000 in
theorem ggX2_notes_X2_count : GoodIn wsX2_notes wsX2_count := goodIn_r _ [14, 15, 16, 17, 22, 23, 24, 25, 26, 27, 28, 29, 30, 31, 32] (by decide +kernel) (by decide +kernel)
set_option maxRecDepth 20000 in
theorem gX2_notes_X2_count : GoodIn wsX2_notes (wsV RX2 100 RX2 yX2_count wsX2_count) := goodIn_app (goodIn_of _ (by decide +kernel)) ggX2_notes_X2_count
set_option maxRecDepth 20000 in
theorem ggX2_notes_X2_fail : GoodIn wsX2_notes wsX2_fail := goodIn_r _ [21, 1, 22, 23, 24, 25, 26, 27, 28, 29, 30, 31, 32] (by decide +kernel) (by decide +kernel)
set_option maxRecDepth 20000 in
theorem gX2_notes_X2_fail : GoodIn wsX2_notes (wsV RX2 76 RX2 yX2_fail wsX2_fail) := goodIn_app (goodIn_of _ (by decide +kernel)) ggX2_notes_X2_fail
set_option maxRecDepth 20000 in
theorem ggX2_ligatures_X2_isVoice : GoodIn wsX2_ligatures wsX2_isVoice := goodIn_r _ [6, 7, 8, 9, 5, 10, 22, 23, 24, 25, 26, 27, 28, 29, 30, 31, 32] (by decide +kernel) (by decide +kernel)
set_option maxRecDepth 20000 in
theorem gX2_ligatures_X2_isVoice : GoodIn wsX2_ligatures (wsV RX2 49 RX2 yX2_isVoice wsX2_isVoice) := goodIn_app (goodIn_of _ (by decide +kernel)) ggX2_ligatures_X2_isVoice
set_option maxRecDepth 20000 in
theorem ggX2_ligatures_X2_count : GoodIn wsX2_ligatures wsX2_count := goodIn_r _ [14, 15, 16, 17, 22, 23, 24, 25, 26, 27, 28, 29, 30, 31, 32] (by decide +kernel) (by decide +kernel)
set_option maxRecDepth 20000 in
theorem gX2_ligatures_X2_count : GoodIn wsX2_ligatures (wsV RX2 100 RX2 yX2_count wsX2_count) := goodIn_app (goodIn_of _ (by decide +kernel)) ggX2_ligatures_X2_count
set_option maxRecDepth 20000 in
theorem ggX2_ligatures_X2_fail : GoodIn wsX2_ligatures wsX2_fail := goodIn_r _ [21, 1, 22, 23, 24, 25, 26, 27, 28, 29, 30, 31, 32] (by decide +kernel) (by decide +kernel)
set_option maxRecDepth 20000 in
theorem gX2_ligatures_X2_fail : GoodIn wsX2_ligatures (wsV RX2 76 RX2 yX2_fail wsX2_fail) := goodIn_app (goodIn_of _ (by decide +kernel)) ggX2_ligatures_X2_fail
set_option maxRecDepth 20000 in
theorem ggX2_of_X2_isSign : GoodIn wsX2_of wsX2_isSign := goodIn_r _ [6, 7, 8, 9, 10, 5, 11, 12, 13, 14, 15, 20, 21, 22, 23, 24, 25, 26, 27, 28, 29, 30] (by decide +kernel) (by decide +kernel)
set_option maxRecDepth 20000 in
theorem gX2_of_X2_isSign : GoodIn wsX2_of (wsV RX2 90 RX2 yX2_isSign wsX2_isSign) := goodIn_app (goodIn_of _ (by decide +kernel)) ggX2_of_X2_isSign
set_option maxRecDepth 20000 in
theorem ggX2_of_X2_fail : GoodIn wsX2_of wsX2_fail := goodIn_r _ [19, 1, 20, 21, 22, 23, 24, 25, 26, 27, 28, 29, 30] (by decide +kernel) (by decide +kernel)
set_option maxRecDepth 20000 in
theorem gX2_of_X2_fail : GoodIn wsX2_of (wsV RX2 76 RX2 yX2_fail wsX2_fail) := goodIn_app (goodIn_of _ (by decide +kernel)) ggX2_of_X2_fail
set_option maxRecDepth 20000 in
theorem ggX2_kindOf_X2_of : GoodIn wsX2_kindOf wsX2_of := goodIn_r _ [6, 7, 8, 9, 10, 5, 11, 12, 13, 14, 15, 16, 17, 18, 19, 20, 21, 22, 23, 24, 25, 26, 27, 28, 29, 30, 31, 32, 33, 34, 35] (by decide +kernel) (by decide +kernel)
set_option maxRecDepth 20000 in
theorem gX2_kindOf_X2_of : GoodIn wsX2_kindOf (wsV RX2 104 RX2 yX2_of wsX2_of) := goodIn_app (goodIn_of _ (by decide +kernel)) ggX2_kindOf_X2_of
set_option maxRecDepth 20000 in
theorem ggX2_placeOf_X2_of : GoodIn wsX2_placeOf wsX2_of := goodIn_r _ [6, 7, 8, 9, 10, 5, 11, 12, 13, 14, 15, 16, 17, 18, 19, 20, 21, 22, 23, 24, 25, 26, 27, 28, 29, 30, 31, 32, 33, 34, 35] (by decide +kernel) (by decide +kernel)
set_option maxRecDepth 20000 in
theorem gX2_placeOf_X2_of : GoodIn wsX2_placeOf (wsV RX2 104 RX2 yX2_of wsX2_of) := goodIn_app (goodIn_of _ (by decide +kernel)) ggX2_placeOf_X2_of
set_option maxRecDepth 20000 in
theorem ggX2_isColoured_X2_isSign : GoodIn wsX2_isColoured wsX2_isSign := goodIn_r _ [7, 8, 9, 10, 11, 6, 12, 13, 14, 15, 16, 17, 18, 19, 20, 21, 22, 23, 24, 25, 26, 27] (by decide +kernel) (by decide +kernel)
set_option maxRecDepth 20000 in
theorem gX2_isColoured_X2_isSign : GoodIn wsX2_isColoured (wsV RX2 90 RX2 yX2_isSign wsX2_isSign) := goodIn_app (goodIn_of _ (by decide +kernel)) ggX2_isColoured_X2_isSign
set_option maxRecDepth 20000 in
theorem ggX2_placeInLigature_X2_of : GoodIn wsX2_placeInLigature wsX2_of := goodIn_r _ [6, 7, 8, 9, 10, 5, 11, 12, 13, 14, 15, 16, 17, 18, 19, 20, 21, 22, 23, 24, 25, 26, 27, 28, 29, 30, 31, 32, 33, 34, 35] (by decide +kernel) (by decide +kernel)
set_option maxRecDepth 20000 in
theorem gX2_placeInLigature_X2_of : GoodIn wsX2_placeInLigature (wsV RX2 104 RX2 yX2_of wsX2_of) := goodIn_app (goodIn_of _ (by decide +kernel)) ggX2_placeInLigature_X2_of
set_option maxRecDepth 20000 in
theorem ggX2_lengthOf_X2_isSign : GoodIn wsX2_lengthOf wsX2_isSign := goodIn_r _ [6, 7, 8, 9, 10, 5, 11, 12, 13, 14, 15, 27, 28, 29, 30, 31, 32, 33, 34, 35, 36, 37] (by decide +kernel) (by decide +kernel)
set_option maxRecDepth 20000 in
theorem gX2_lengthOf_X2_isSign : GoodIn wsX2_lengthOf (wsV RX2 90 RX2 yX2_isSign wsX2_isSign) := goodIn_app (goodIn_of _ (by decide +kernel)) ggX2_lengthOf_X2_isSign
set_option maxRecDepth 20000 in
theorem ggX2_lengthOf_X2_lasts : GoodIn wsX2_lengthOf wsX2_lasts := goodIn_r _ [19, 20, 21, 22, 27, 28, 29, 30, 31, 32, 33, 34, 35, 36, 37] (by decide +kernel) (by decide +kernel)
set_option maxRecDepth 20000 in
theorem gX2_lengthOf_X2_lasts : GoodIn wsX2_lengthOf (wsV RX2 53 RX2 yX2_lasts wsX2_lasts) := goodIn_app (goodIn_of _ (by decide +kernel)) ggX2_lengthOf_X2_lasts
set_option maxRecDepth 20000 in
theorem ggX2_lengthOf_X2_fail : GoodIn wsX2_lengthOf wsX2_fail := goodIn_r _ [26, 1, 27, 28, 29, 30, 31, 32, 33, 34, 35, 36, 37] (by decide +kernel) (by decide +kernel)
set_option maxRecDepth 20000 in
theorem gX2_lengthOf_X2_fail : GoodIn wsX2_lengthOf (wsV RX2 76 RX2 yX2_fail wsX2_fail) := goodIn_app (goodIn_of _ (by decide +kernel)) ggX2_lengthOf_X2_fail
set_option maxRecDepth 20000 in
theorem ggX2_begins_X2_lasts : GoodIn wsX2_begins wsX2_lasts := goodIn_r _ [5, 6, 7, 8, 9, 10, 11, 12, 13, 14, 15, 16, 17, 18, 19] (by decide +kernel) (by decide +kernel)
set_option maxRecDepth 20000 in
theorem gX2_begins_X2_lasts : GoodIn wsX2_begins (wsV RX2 53 RX2 yX2_lasts wsX2_lasts) := goodIn_app (goodIn_of _ (by decide +kernel)) ggX2_begins_X2_lasts
set_option maxRecDepth 20000 in
theorem ggX2_beginOf_X2_isSign : GoodIn wsX2_beginOf wsX2_isSign := goodIn_r _ [6, 7, 8, 9, 10, 5, 11, 12, 13, 14, 15, 31, 32, 33, 34, 35, 36, 37, 38, 39, 40, 41] (by decide +kernel) (by decide +kernel)
set_option maxRecDepth 20000 in
theorem gX2_beginOf_X2_isSign : GoodIn wsX2_beginOf (wsV RX2 90 RX2 yX2_isSign wsX2_isSign) := goodIn_app (goodIn_of _ (by decide +kernel)) ggX2_beginOf_X2_isSign
set_option maxRecDepth 20000 in
theorem ggX2_beginOf_X2_begins : GoodIn wsX2_beginOf wsX2_begins := goodIn_r _ [19, 20, 21, 22, 5, 23, 24, 25, 26, 31, 32, 33, 34, 35, 36, 37, 38, 39, 40, 41] (by decide +kernel) (by decide +kernel)
set_option maxRecDepth 20000 in
theorem gX2_beginOf_X2_begins : GoodIn wsX2_beginOf (wsV RX2 108 RX2 yX2_begins wsX2_begins) := goodIn_app (goodIn_of _ (by decide +kernel)) ggX2_beginOf_X2_begins
set_option maxRecDepth 20000 in
theorem ggX2_beginOf_X2_fail : GoodIn wsX2_beginOf wsX2_fail := goodIn_r _ [30, 1, 31, 32, 33, 34, 35, 36, 37, 38, 39, 40, 41] (by decide +kernel) (by decide +kernel)
set_option maxRecDepth 20000 in
theorem gX2_beginOf_X2_fail : GoodIn wsX2_beginOf (wsV RX2 76 RX2 yX2_fail wsX2_fail) := goodIn_app (goodIn_of _ (by decide +kernel)) ggX2_beginOf_X2_fail
set_option maxRecDepth 20000 in
theorem ggX2_length_X2_isVoice : GoodIn wsX2_length wsX2_isVoice := goodIn_r _ [6, 7, 8, 9, 5, 10, 27, 28, 29, 30, 31, 32, 33, 34, 35, 36, 37] (by decide +kernel) (by decide +kernel)
set_option maxRecDepth 20000 in
theorem gX2_length_X2_isVoice : GoodIn wsX2_length (wsV RX2 49 RX2 yX2_isVoice wsX2_isVoice) := goodIn_app (goodIn_of _ (by decide +kernel)) ggX2_length_X2_isVoice
set_option maxRecDepth 20000 in
theorem ggX2_length_X2_all : GoodIn wsX2_length wsX2_all := goodIn_r _ [14, 15, 16, 17, 18, 5, 19, 20, 21, 22, 27, 28, 29, 30, 31, 32, 33, 34, 35, 36, 37] (by decide +kernel) (by decide +kernel)
set_option maxRecDepth 20000 in
theorem gX2_length_X2_all : GoodIn wsX2_length (wsV RX2 94 RX2 yX2_all wsX2_all) := goodIn_app (goodIn_of _ (by decide +kernel)) ggX2_length_X2_all
set_option maxRecDepth 20000 in
theorem ggX2_length_X2_fail : GoodIn wsX2_length wsX2_fail := goodIn_r _ [26, 1, 27, 28, 29, 30, 31, 32, 33, 34, 35, 36, 37] (by decide +kernel) (by decide +kernel)
set_option maxRecDepth 20000 in
theorem gX2_length_X2_fail : GoodIn wsX2_length (wsV RX2 76 RX2 yX2_fail wsX2_fail) := goodIn_app (goodIn_of _ (by decide +kernel)) ggX2_length_X2_fail
set_option maxRecDepth 20000 in
theorem ggX2_most_X2_all : GoodIn wsX2_most wsX2_all := goodIn_r _ [10, 11, 12, 13, 14, 9, 15, 16, 17, 18, 19, 20, 21, 22, 23, 24, 25, 26, 27, 28, 29] (by decide +kernel) (by decide +kernel)
set_option maxRecDepth 20000 in
theorem gX2_most_X2_all : GoodIn wsX2_most (wsV RX2 94 RX2 yX2_all wsX2_all) := goodIn_app (goodIn_of _ (by decide +kernel)) ggX2_most_X2_all
set_option maxRecDepth 20000 in
theorem ggX2_longest_X2_most : GoodIn wsX2_longest wsX2_most := goodIn_r _ [5, 6, 7, 8, 9, 10, 11, 12, 13, 4, 14, 15, 16, 17, 18, 19, 20, 21, 22, 28, 29, 30, 31, 32, 33, 34, 35, 36, 37, 38] (by decide +kernel) (by decide +kernel)
set_option maxRecDepth 20000 in
theorem gX2_longest_X2_most : GoodIn wsX2_longest (wsV RX2 111 RX2 yX2_most wsX2_most) := goodIn_app (goodIn_of _ (by decide +kernel)) ggX2_longest_X2_most
set_option maxRecDepth 20000 in
theorem ggX2_longest_X2_told : GoodIn wsX2_longest wsX2_told := goodIn_r _ [26, 27, 28, 29, 30, 31, 32, 33, 34, 35, 36, 37, 38] (by decide +kernel) (by decide +kernel)
set_option maxRecDepth 20000 in
theorem gX2_longest_X2_told : GoodIn wsX2_longest (wsV RX2 97 RX2 yX2_told wsX2_told) := goodIn_app (goodIn_of _ (by decide +kernel)) ggX2_longest_X2_told
set_option maxRecDepth 20000 in
theorem ggX2_signAt_X2_isVoice : GoodIn wsX2_signAt wsX2_isVoice := goodIn_r _ [7, 8, 9, 10, 6, 11, 23, 24, 25, 26, 27, 28, 29, 30, 31, 32, 33] (by decide +kernel) (by decide +kernel)
set_option maxRecDepth 20000 in
theorem gX2_signAt_X2_isVoice : GoodIn wsX2_signAt (wsV RX2 49 RX2 yX2_isVoice wsX2_isVoice) := goodIn_app (goodIn_of _ (by decide +kernel)) ggX2_signAt_X2_isVoice
set_option maxRecDepth 20000 in
theorem ggX2_signAt_X2_fail : GoodIn wsX2_signAt wsX2_fail := goodIn_r _ [15, 1, 23, 24, 25, 26, 27, 28, 29, 30, 31, 32, 33] (by decide +kernel) (by decide +kernel)
set_option maxRecDepth 20000 in
theorem gX2_signAt_X2_fail : GoodIn wsX2_signAt (wsV RX2 76 RX2 yX2_fail wsX2_fail) := goodIn_app (goodIn_of _ (by decide +kernel)) ggX2_signAt_X2_fail
set_option maxRecDepth 20000 in
theorem ggX2_signAt_X2_lasts : GoodIn wsX2_signAt wsX2_lasts := goodIn_r _ [19, 20, 21, 22, 23, 24, 25, 26, 27, 28, 29, 30, 31, 32, 33] (by decide +kernel) (by decide +kernel)
set_option maxRecDepth 20000 in
theorem gX2_signAt_X2_lasts : GoodIn wsX2_signAt (wsV RX2 53 RX2 yX2_lasts wsX2_lasts) := goodIn_app (goodIn_of _ (by decide +kernel)) ggX2_signAt_X2_lasts
set_option maxRecDepth 20000 in
theorem ggX2_clefOf_X2_isVoice : GoodIn wsX2_clefOf wsX2_isVoice := goodIn_r _ [7, 8, 9, 10, 6, 11, 16, 17, 18, 19, 20, 21, 22, 23, 24, 25, 26] (by decide +kernel) (by decide +kernel)
set_option maxRecDepth 20000 in
theorem gX2_clefOf_X2_isVoice : GoodIn wsX2_clefOf (wsV RX2 49 RX2 yX2_isVoice wsX2_isVoice) := goodIn_app (goodIn_of _ (by decide +kernel)) ggX2_clefOf_X2_isVoice
set_option maxRecDepth 20000 in
theorem ggX2_clefOf_X2_fail : GoodIn wsX2_clefOf wsX2_fail := goodIn_r _ [15, 1, 16, 17, 18, 19, 20, 21, 22, 23, 24, 25, 26] (by decide +kernel) (by decide +kernel)
set_option maxRecDepth 20000 in
theorem gX2_clefOf_X2_fail : GoodIn wsX2_clefOf (wsV RX2 76 RX2 yX2_fail wsX2_fail) := goodIn_app (goodIn_of _ (by decide +kernel)) ggX2_clefOf_X2_fail
set_option maxRecDepth 20000 in
theorem ggX2_pitchOf_X2_isSign : GoodIn wsX2_pitchOf wsX2_isSign := goodIn_r _ [8, 9, 10, 11, 12, 7, 13, 14, 15, 16, 17, 22, 23, 24, 25, 26, 27, 28, 29, 30, 31, 32] (by decide +kernel) (by decide +kernel)
set_option maxRecDepth 20000 in
theorem gX2_pitchOf_X2_isSign : GoodIn wsX2_pitchOf (wsV RX2 90 RX2 yX2_isSign wsX2_isSign) := goodIn_app (goodIn_of _ (by decide +kernel)) ggX2_pitchOf_X2_isSign
set_option maxRecDepth 20000 in
theorem ggX2_pitchOf_X2_fail : GoodIn wsX2_pitchOf wsX2_fail := goodIn_r _ [21, 1, 22, 23, 24, 25, 26, 27, 28, 29, 30, 31, 32] (by decide +kernel) (by decide +kernel)
set_option maxRecDepth 20000 in
theorem gX2_pitchOf_X2_fail : GoodIn wsX2_pitchOf (wsV RX2 76 RX2 yX2_fail wsX2_fail) := goodIn_app (goodIn_of _ (by decide +kernel)) ggX2_pitchOf_X2_fail
set_option maxRecDepth 20000 in
theorem ggX2_fit_X2_isIn : GoodIn wsX2_fit wsX2_isIn := goodIn_r _ [6] (by decide +kernel) (by decide +kernel)
set_option maxRecDepth 20000 in
theorem gX2_fit_X2_isIn : GoodIn wsX2_fit (va_wsS RX2 45 yX2_isIn wsX2_isIn) := goodIn_app (goodIn_of _ (by decide +kernel)) ggX2_fit_X2_isIn
set_option maxRecDepth 20000 in
theorem ggX2_fits_X2_isVoice : GoodIn wsX2_fits wsX2_isVoice := goodIn_r _ [6, 7, 8, 9, 5, 10, 17, 18, 19, 20, 21, 22, 23, 24, 25, 26, 27] (by decide +kernel) (by decide +kernel)
set_option maxRecDepth 20000 in
theorem gX2_fits_X2_isVoice : GoodIn wsX2_fits (wsV RX2 49 RX2 yX2_isVoice wsX2_isVoice) := goodIn_app (goodIn_of _ (by decide +kernel)) ggX2_fits_X2_isVoice
set_option maxRecDepth 20000 in
theorem ggX2_fits_X2_isIn : GoodIn wsX2_fits wsX2_isIn := goodIn_r _ [10] (by decide +kernel) (by decide +kernel)
set_option maxRecDepth 20000 in
theorem gX2_fits_X2_isIn : GoodIn wsX2_fits (va_wsS RX2 45 yX2_isIn wsX2_isIn) := goodIn_app (goodIn_of _ (by decide +kernel)) ggX2_fits_X2_isIn
set_option maxRecDepth 20000 in
theorem ggX2_fits_X2_fit : GoodIn wsX2_fits wsX2_fit := goodIn_r _ [14, 15, 16, 8, 9, 5, 10, 17, 18, 19, 20, 21, 22, 23, 24, 25, 26, 27] (by decide +kernel) (by decide +kernel)
set_option maxRecDepth 20000 in
theorem gX2_fits_X2_fit : GoodIn wsX2_fits (wsV RX2 115 RX2 yX2_fit wsX2_fit) := goodIn_app (goodIn_of _ (by decide +kernel)) ggX2_fits_X2_fit
set_option maxRecDepth 20000 in
theorem ggX2_fitting_X2_fit : GoodIn wsX2_fitting wsX2_fit := goodIn_r _ [5, 6, 7, 8, 9, 4, 10, 11, 12, 13, 14, 15, 16, 17, 18, 19, 20, 21] (by decide +kernel) (by decide +kernel)
set_option maxRecDepth 20000 in
theorem gX2_fitting_X2_fit : GoodIn wsX2_fitting (wsV RX2 115 RX2 yX2_fit wsX2_fit) := goodIn_app (goodIn_of _ (by decide +kernel)) ggX2_fitting_X2_fit
set_option maxRecDepth 20000 in
theorem ggX2_clefsThatFit_X2_isVoice : GoodIn wsX2_clefsThatFit wsX2_isVoice := goodIn_r _ [6, 7, 8, 9, 5, 10, 25, 26, 27, 28, 29, 30, 31, 32, 33, 34, 35] (by decide +kernel) (by decide +kernel)
set_option maxRecDepth 20000 in
theorem gX2_clefsThatFit_X2_isVoice : GoodIn wsX2_clefsThatFit (wsV RX2 49 RX2 yX2_isVoice wsX2_isVoice) := goodIn_app (goodIn_of _ (by decide +kernel)) ggX2_clefsThatFit_X2_isVoice
set_option maxRecDepth 20000 in
theorem ggX2_clefsThatFit_X2_fitting : GoodIn wsX2_clefsThatFit wsX2_fitting := goodIn_r _ [14, 15, 16, 17, 5, 18, 19, 20, 8, 9, 10, 25, 26, 27, 28, 29, 30, 31, 32, 33, 34, 35] (by decide +kernel) (by decide +kernel)
set_option maxRecDepth 20000 in
theorem gX2_clefsThatFit_X2_fitting : GoodIn wsX2_clefsThatFit (wsV RX2 118 RX2 yX2_fitting wsX2_fitting) := goodIn_app (goodIn_of _ (by decide +kernel)) ggX2_clefsThatFit_X2_fitting
set_option maxRecDepth 20000 in
theorem ggX2_clefsThatFit_X2_fail : GoodIn wsX2_clefsThatFit wsX2_fail := goodIn_r _ [24, 1, 25, 26, 27, 28, 29, 30, 31, 32, 33, 34, 35] (by decide +kernel) (by decide +kernel)
set_option maxRecDepth 20000 in
theorem gX2_clefsThatFit_X2_fail : GoodIn wsX2_clefsThatFit (wsV RX2 76 RX2 yX2_fail wsX2_fail) := goodIn_app (goodIn_of _ (by decide +kernel)) ggX2_clefsThatFit_X2_fail
set_option maxRecDepth 20000 in
theorem ggX2_both_X2_isVoice : GoodIn wsX2_both wsX2_isVoice := goodIn_r _ [7, 8, 9, 10, 6, 11, 45, 46, 47, 48, 49, 50, 51, 52, 53, 54, 55] (by decide +kernel) (by decide +kernel)
set_option maxRecDepth 20000 in
theorem gX2_both_X2_isVoice : GoodIn wsX2_both (wsV RX2 49 RX2 yX2_isVoice wsX2_isVoice) := goodIn_app (goodIn_of _ (by decide +kernel)) ggX2_both_X2_isVoice
set_option maxRecDepth 20000 in
theorem ggX2_both_X2_fail : GoodIn wsX2_both wsX2_fail := goodIn_r _ [15, 1, 45, 46, 47, 48, 49, 50, 51, 52, 53, 54, 55] (by decide +kernel) (by decide +kernel)
set_option maxRecDepth 20000 in
theorem gX2_both_X2_fail : GoodIn wsX2_both (wsV RX2 76 RX2 yX2_fail wsX2_fail) := goodIn_app (goodIn_of _ (by decide +kernel)) ggX2_both_X2_fail
set_option maxRecDepth 20000 in
theorem ggX2_both_X2_clash : GoodIn wsX2_both wsX2_clash := goodIn_r _ [19, 20, 21, 22, 23, 24, 25, 26, 27, 28, 6, 29, 30, 31, 32, 33, 34, 35, 36, 37, 38, 39, 40, 41, 42, 43, 44, 45, 46, 47, 48, 49, 50, 51, 52, 53, 54, 55] (by decide +kernel) (by decide +kernel)
set_option maxRecDepth 20000 in
theorem gX2_both_X2_clash : GoodIn wsX2_both (wsV RX2 121 RX2 yX2_clash wsX2_clash) := goodIn_app (goodIn_of _ (by decide +kernel)) ggX2_both_X2_clash
set_option maxRecDepth 20000 in
theorem ggX2_clashes_X2_both : GoodIn wsX2_clashes wsX2_both := goodIn_r _ [5, 6, 7, 8, 9, 10, 4, 11, 12, 13, 14, 15, 16, 17, 18, 19, 20, 21, 22, 23, 24, 25, 26, 27, 28, 29, 30, 31, 32, 33, 34, 35, 36, 37, 38, 39, 40, 41, 42, 43, 44, 45, 46, 47, 48, 49, 50, 51, 52, 53, 54, 55, 56, 57, 58, 59] (by decide +kernel) (by decide +kernel)
set_option maxRecDepth 20000 in
theorem gX2_clashes_X2_both : GoodIn wsX2_clashes (wsV RX2 125 RX2 yX2_both wsX2_both) := goodIn_app (goodIn_of _ (by decide +kernel)) ggX2_clashes_X2_both
set_option maxRecDepth 20000 in
theorem ggX2_firstClash_X2_both : GoodIn wsX2_firstClash wsX2_both := goodIn_r _ [5, 6, 7, 8, 9, 10, 4, 11, 12, 13, 14, 15, 16, 17, 18, 19, 20, 21, 22, 23, 24, 25, 26, 27, 28, 29, 30, 31, 32, 33, 34, 35, 36, 37, 38, 39, 40, 41, 42, 43, 44, 45, 46, 47, 48, 49, 50, 51, 52, 53, 54, 55, 56, 57, 58, 59] (by decide +kernel) (by decide +kernel)
set_option maxRecDepth 20000 in
theorem gX2_firstClash_X2_both : GoodIn wsX2_firstClash (wsV RX2 125 RX2 yX2_both wsX2_both) := goodIn_app (goodIn_of _ (by decide +kernel)) ggX2_firstClash_X2_both
set_option maxRecDepth 20000 in
theorem ggX2_withAll_X2_clash : GoodIn wsX2_withAll wsX2_clash := goodIn_r _ [7, 8, 9, 10, 11, 12, 13, 14, 15, 16, 6, 17, 18, 19, 20, 21, 22, 23, 24, 25, 26, 27, 28, 29, 30, 31, 32, 33, 34, 35, 36, 37, 38, 39, 40, 41, 42, 43] (by decide +kernel) (by decide +kernel)
set_option maxRecDepth 20000 in
theorem gX2_withAll_X2_clash : GoodIn wsX2_withAll (wsV RX2 121 RX2 yX2_clash wsX2_clash) := goodIn_app (goodIn_of _ (by decide +kernel)) ggX2_withAll_X2_clash
set_option maxRecDepth 20000 in
theorem ggX2_clashesWith_X2_isVoice : GoodIn wsX2_clashesWith wsX2_isVoice := goodIn_r _ [6, 7, 8, 9, 5, 10, 49, 50, 51, 52, 53, 54, 55, 56, 57, 58, 59] (by decide +kernel) (by decide +kernel)
set_option maxRecDepth 20000 in
theorem gX2_clashesWith_X2_isVoice : GoodIn wsX2_clashesWith (wsV RX2 49 RX2 yX2_isVoice wsX2_isVoice) := goodIn_app (goodIn_of _ (by decide +kernel)) ggX2_clashesWith_X2_isVoice
set_option maxRecDepth 20000 in
theorem ggX2_clashesWith_X2_fail : GoodIn wsX2_clashesWith wsX2_fail := goodIn_r _ [14, 1, 49, 50, 51, 52, 53, 54, 55, 56, 57, 58, 59] (by decide +kernel) (by decide +kernel)
set_option maxRecDepth 20000 in
theorem gX2_clashesWith_X2_fail : GoodIn wsX2_clashesWith (wsV RX2 76 RX2 yX2_fail wsX2_fail) := goodIn_app (goodIn_of _ (by decide +kernel)) ggX2_clashesWith_X2_fail
set_option maxRecDepth 20000 in
theorem ggX2_clashesWith_X2_isIn : GoodIn wsX2_clashesWith wsX2_isIn := goodIn_r _ [10] (by decide +kernel) (by decide +kernel)
set_option maxRecDepth 20000 in
theorem gX2_clashesWith_X2_isIn : GoodIn wsX2_clashesWith (va_wsS RX2 45 yX2_isIn wsX2_isIn) := goodIn_app (goodIn_of _ (by decide +kernel)) ggX2_clashesWith_X2_isIn
set_option maxRecDepth 20000 in
theorem ggX2_clashesWith_X2_withAll : GoodIn wsX2_clashesWith wsX2_withAll := goodIn_r _ [18, 7, 19, 20, 21, 22, 5, 23, 24, 25, 26, 27, 28, 29, 30, 31, 32, 33, 34, 35, 36, 37, 38, 39, 40, 41, 42, 43, 44, 45, 46, 47, 48, 49, 50, 51, 52, 53, 54, 55, 56, 57, 58, 59] (by decide +kernel) (by decide +kernel)
set_option maxRecDepth 20000 in
theorem gX2_clashesWith_X2_withAll : GoodIn wsX2_clashesWith (wsV RX2 129 RX2 yX2_withAll wsX2_withAll) := goodIn_app (goodIn_of _ (by decide +kernel)) ggX2_clashesWith_X2_withAll
set_option maxRecDepth 20000 in
theorem ggX2_best_X2_fit : GoodIn wsX2_best wsX2_fit := goodIn_r _ [5, 6, 7, 8, 9, 4, 10, 44, 45, 46, 47, 48, 49, 50, 51, 52, 53, 54] (by decide +kernel) (by decide +kernel)
set_option maxRecDepth 20000 in
theorem gX2_best_X2_fit : GoodIn wsX2_best (wsV RX2 115 RX2 yX2_fit wsX2_fit) := goodIn_app (goodIn_of _ (by decide +kernel)) ggX2_best_X2_fit
set_option maxRecDepth 20000 in
theorem ggX2_best_X2_withAll : GoodIn wsX2_best wsX2_withAll := goodIn_r _ [14, 15, 16, 17, 18, 19, 4, 20, 21, 22, 23, 24, 25, 26, 27, 28, 29, 30, 6, 7, 31, 32, 33, 34, 35, 36, 37, 38, 39, 40, 41, 42, 43, 44, 45, 46, 47, 48, 49, 50, 51, 52, 53, 54] (by decide +kernel) (by decide +kernel)
set_option maxRecDepth 20000 in
theorem gX2_best_X2_withAll : GoodIn wsX2_best (wsV RX2 129 RX2 yX2_withAll wsX2_withAll) := goodIn_app (goodIn_of _ (by decide +kernel)) ggX2_best_X2_withAll
set_option maxRecDepth 20000 in
theorem ggX2_bestClef_X2_isVoice : GoodIn wsX2_bestClef wsX2_isVoice := goodIn_r _ [6, 7, 8, 9, 5, 10, 57, 58, 59, 60, 61, 62, 63, 64, 65, 66, 67] (by decide +kernel) (by decide +kernel)
set_option maxRecDepth 20000 in
theorem gX2_bestClef_X2_isVoice : GoodIn wsX2_bestClef (wsV RX2 49 RX2 yX2_isVoice wsX2_isVoice) := goodIn_app (goodIn_of _ (by decide +kernel)) ggX2_bestClef_X2_isVoice
set_option maxRecDepth 20000 in
theorem ggX2_bestClef_X2_best : GoodIn wsX2_bestClef wsX2_best := goodIn_r _ [14, 15, 16, 17, 5, 18, 19, 20, 8, 9, 10, 21, 22, 23, 24, 7, 25, 26, 27, 28, 29, 30, 31, 32, 33, 34, 35, 36, 37, 38, 39, 40, 41, 42, 43, 44, 45, 46, 47, 48, 49, 50, 51, 52, 57, 58, 59, 60, 61, 62, 63, 64, 65, 66, 67] (by decide +kernel) (by decide +kernel)
set_option maxRecDepth 20000 in
theorem gX2_bestClef_X2_best : GoodIn wsX2_bestClef (wsV RX2 132 RX2 yX2_best wsX2_best) := goodIn_app (goodIn_of _ (by decide +kernel)) ggX2_bestClef_X2_best
set_option maxRecDepth 20000 in
theorem ggX2_bestClef_X2_fail : GoodIn wsX2_bestClef wsX2_fail := goodIn_r _ [56, 1, 57, 58, 59, 60, 61, 62, 63, 64, 65, 66, 67] (by decide +kernel) (by decide +kernel)
set_option maxRecDepth 20000 in
theorem gX2_bestClef_X2_fail : GoodIn wsX2_bestClef (wsV RX2 76 RX2 yX2_fail wsX2_fail) := goodIn_app (goodIn_of _ (by decide +kernel)) ggX2_bestClef_X2_fail
set_option maxRecDepth 20000 in
theorem ggX2_canon_X2_isClash : GoodIn wsX2_canon wsX2_isClash := goodIn_r _ [5, 6, 7, 8, 9] (by decide +kernel) (by decide +kernel)
set_option maxRecDepth 20000 in
theorem gX2_canon_X2_isClash : GoodIn wsX2_canon (va_wsS RX2 70 yX2_isClash wsX2_isClash) := goodIn_app (goodIn_of _ (by decide +kernel)) ggX2_canon_X2_isClash
set_option maxRecDepth 20000 in
theorem ggX2_canonClashes_X2_isVoice : GoodIn wsX2_canonClashes wsX2_isVoice := goodIn_r _ [7, 8, 9, 10, 6, 11, 40, 41, 42, 43, 44, 45, 46, 47, 48, 49, 50] (by decide +kernel) (by decide +kernel)
set_option maxRecDepth 20000 in
theorem gX2_canonClashes_X2_isVoice : GoodIn wsX2_canonClashes (wsV RX2 49 RX2 yX2_isVoice wsX2_isVoice) := goodIn_app (goodIn_of _ (by decide +kernel)) ggX2_canonClashes_X2_isVoice
set_option maxRecDepth 20000 in
theorem ggX2_canonClashes_X2_fail : GoodIn wsX2_canonClashes wsX2_fail := goodIn_r _ [15, 1, 40, 41, 42, 43, 44, 45, 46, 47, 48, 49, 50] (by decide +kernel) (by decide +kernel)
set_option maxRecDepth 20000 in
theorem gX2_canonClashes_X2_fail : GoodIn wsX2_canonClashes (wsV RX2 76 RX2 yX2_fail wsX2_fail) := goodIn_app (goodIn_of _ (by decide +kernel)) ggX2_canonClashes_X2_fail
set_option maxRecDepth 20000 in
theorem ggX2_canonClashes_X2_isIn : GoodIn wsX2_canonClashes wsX2_isIn := goodIn_r _ [11] (by decide +kernel) (by decide +kernel)
set_option maxRecDepth 20000 in
theorem gX2_canonClashes_X2_isIn : GoodIn wsX2_canonClashes (va_wsS RX2 45 yX2_isIn wsX2_isIn) := goodIn_app (goodIn_of _ (by decide +kernel)) ggX2_canonClashes_X2_isIn
set_option maxRecDepth 20000 in
theorem ggX2_canonClashes_X2_lay : GoodIn wsX2_canonClashes wsX2_lay := goodIn_r _ [19, 20, 21, 22, 23, 24, 6, 25, 26, 27, 28, 40, 41, 42, 43, 44, 45, 46, 47, 48, 49, 50] (by decide +kernel) (by decide +kernel)
set_option maxRecDepth 20000 in
theorem gX2_canonClashes_X2_lay : GoodIn wsX2_canonClashes (wsV RX2 63 RX2 yX2_lay wsX2_lay) := goodIn_app (goodIn_of _ (by decide +kernel)) ggX2_canonClashes_X2_lay
set_option maxRecDepth 20000 in
theorem ggX2_canonClashes_X2_canon : GoodIn wsX2_canonClashes wsX2_canon := goodIn_r _ [32, 2, 33, 34, 6, 35, 36, 37, 38, 39, 40, 41, 42, 43, 44, 45, 46, 47, 48, 49, 50] (by decide +kernel) (by decide +kernel)
set_option maxRecDepth 20000 in
theorem gX2_canonClashes_X2_canon : GoodIn wsX2_canonClashes (wsV RX2 135 RX2 yX2_canon wsX2_canon) := goodIn_app (goodIn_of _ (by decide +kernel)) ggX2_canonClashes_X2_canon
set_option maxRecDepth 20000 in
theorem ggX2_delay_X2_lay : GoodIn wsX2_delay wsX2_lay := goodIn_r _ [6, 7, 8, 9, 10, 11, 5, 12, 13, 14, 15, 27, 28, 29, 30, 31, 32, 33, 34, 35, 36, 37] (by decide +kernel) (by decide +kernel)
set_option maxRecDepth 20000 in
theorem gX2_delay_X2_lay : GoodIn wsX2_delay (wsV RX2 63 RX2 yX2_lay wsX2_lay) := goodIn_app (goodIn_of _ (by decide +kernel)) ggX2_delay_X2_lay
set_option maxRecDepth 20000 in
theorem ggX2_delay_X2_canon : GoodIn wsX2_delay wsX2_canon := goodIn_r _ [19, 1, 20, 21, 5, 22, 23, 24, 25, 26, 27, 28, 29, 30, 31, 32, 33, 34, 35, 36, 37] (by decide +kernel) (by decide +kernel)
set_option maxRecDepth 20000 in
theorem gX2_delay_X2_canon : GoodIn wsX2_delay (wsV RX2 135 RX2 yX2_canon wsX2_canon) := goodIn_app (goodIn_of _ (by decide +kernel)) ggX2_delay_X2_canon
set_option maxRecDepth 20000 in
theorem ggX2_bestDelay_X2_isVoice : GoodIn wsX2_bestDelay wsX2_isVoice := goodIn_r _ [6, 7, 8, 9, 5, 10, 44, 45, 46, 47, 48, 49, 50, 51, 52, 53, 54] (by decide +kernel) (by decide +kernel)
set_option maxRecDepth 20000 in
theorem gX2_bestDelay_X2_isVoice : GoodIn wsX2_bestDelay (wsV RX2 49 RX2 yX2_isVoice wsX2_isVoice) := goodIn_app (goodIn_of _ (by decide +kernel)) ggX2_bestDelay_X2_isVoice
set_option maxRecDepth 20000 in
theorem ggX2_bestDelay_X2_fail : GoodIn wsX2_bestDelay wsX2_fail := goodIn_r _ [14, 1, 44, 45, 46, 47, 48, 49, 50, 51, 52, 53, 54] (by decide +kernel) (by decide +kernel)
set_option maxRecDepth 20000 in
theorem gX2_bestDelay_X2_fail : GoodIn wsX2_bestDelay (wsV RX2 76 RX2 yX2_fail wsX2_fail) := goodIn_app (goodIn_of _ (by decide +kernel)) ggX2_bestDelay_X2_fail
set_option maxRecDepth 20000 in
theorem ggX2_bestDelay_X2_isIn : GoodIn wsX2_bestDelay wsX2_isIn := goodIn_r _ [10] (by decide +kernel) (by decide +kernel)
set_option maxRecDepth 20000 in
theorem gX2_bestDelay_X2_isIn : GoodIn wsX2_bestDelay (va_wsS RX2 45 yX2_isIn wsX2_isIn) := goodIn_app (goodIn_of _ (by decide +kernel)) ggX2_bestDelay_X2_isIn
set_option maxRecDepth 20000 in
theorem ggX2_bestDelay_X2_delay : GoodIn wsX2_bestDelay wsX2_delay := goodIn_r _ [18, 19, 20, 21, 22, 5, 23, 24, 25, 26, 27, 28, 29, 30, 31, 32, 33, 34, 35, 36, 37, 38, 39, 40, 41, 42, 43, 44, 45, 46, 47, 48, 49, 50, 51, 52, 53, 54] (by decide +kernel) (by decide +kernel)
set_option maxRecDepth 20000 in
theorem gX2_bestDelay_X2_delay : GoodIn wsX2_bestDelay (wsV RX2 139 RX2 yX2_delay wsX2_delay) := goodIn_app (goodIn_of _ (by decide +kernel)) ggX2_bestDelay_X2_delay
set_option maxRecDepth 20000 in
theorem ggX2_meanLength_X2_all : GoodIn wsX2_meanLength wsX2_all := goodIn_r _ [7, 8, 9, 10, 11, 6, 12, 13, 14, 15, 16, 17, 18, 19, 20, 21, 22, 23, 24, 25, 26] (by decide +kernel) (by decide +kernel)
set_option maxRecDepth 20000 in
theorem gX2_meanLength_X2_all : GoodIn wsX2_meanLength (wsV RX2 94 RX2 yX2_all wsX2_all) := goodIn_app (goodIn_of _ (by decide +kernel)) ggX2_meanLength_X2_all
set_option maxRecDepth 20000 in
theorem ggX2_digest_X2_most : GoodIn wsX2_digest wsX2_most := goodIn_r _ [16, 4, 17, 18, 19, 20, 21, 22, 23, 15, 24, 6, 25, 26, 27, 28, 9, 29, 30, 84, 85, 86, 87, 88, 89, 90, 91, 92, 93, 94] (by decide +kernel) (by decide +kernel)
set_option maxRecDepth 20000 in
theorem gX2_digest_X2_most : GoodIn wsX2_digest (wsV RX2 111 RX2 yX2_most wsX2_most) := goodIn_app (goodIn_of _ (by decide +kernel)) ggX2_digest_X2_most
set_option maxRecDepth 20000 in
theorem ggX2_digest_X2_count : GoodIn wsX2_digest wsX2_count := goodIn_r _ [34, 6, 10, 11, 84, 85, 86, 87, 88, 89, 90, 91, 92, 93, 94] (by decide +kernel) (by decide +kernel)
set_option maxRecDepth 20000 in
theorem gX2_digest_X2_count : GoodIn wsX2_digest (wsV RX2 100 RX2 yX2_count wsX2_count) := goodIn_app (goodIn_of _ (by decide +kernel)) ggX2_digest_X2_count
set_option maxRecDepth 20000 in
theorem ggX2_digest_X2_all : GoodIn wsX2_digest wsX2_all := goodIn_r _ [24, 6, 25, 26, 27, 15, 28, 9, 29, 30, 84, 85, 86, 87, 88, 89, 90, 91, 92, 93, 94] (by decide +kernel) (by decide +kernel)
set_option maxRecDepth 20000 in
theorem gX2_digest_X2_all : GoodIn wsX2_digest (wsV RX2 94 RX2 yX2_all wsX2_all) := goodIn_app (goodIn_of _ (by decide +kernel)) ggX2_digest_X2_all
set_option maxRecDepth 20000 in
theorem ggX2_digest_X2_fitting : GoodIn wsX2_digest wsX2_fitting := goodIn_r _ [38, 39, 40, 41, 15, 42, 6, 10, 43, 44, 45, 84, 85, 86, 87, 88, 89, 90, 91, 92, 93, 94] (by decide +kernel) (by decide +kernel)
set_option maxRecDepth 20000 in
theorem gX2_digest_X2_fitting : GoodIn wsX2_digest (wsV RX2 118 RX2 yX2_fitting wsX2_fitting) := goodIn_app (goodIn_of _ (by decide +kernel)) ggX2_digest_X2_fitting
set_option maxRecDepth 20000 in
theorem ggX2_digest_X2_best : GoodIn wsX2_digest wsX2_best := goodIn_r _ [49, 39, 40, 41, 15, 42, 6, 10, 43, 44, 45, 50, 51, 52, 53, 4, 7, 54, 55, 56, 57, 8, 58, 59, 60, 19, 61, 62, 63, 64, 65, 25, 26, 27, 28, 9, 29, 30, 66, 67, 68, 69, 70, 71, 84, 85, 86, 87, 88, 89, 90, 91, 92, 93, 94] (by decide +kernel) (by decide +kernel)
set_option maxRecDepth 20000 in
theorem gX2_digest_X2_best : GoodIn wsX2_digest (wsV RX2 132 RX2 yX2_best wsX2_best) := goodIn_app (goodIn_of _ (by decide +kernel)) ggX2_digest_X2_best
set_option maxRecDepth 20000 in
theorem ggX2_digest_X2_lay : GoodIn wsX2_digest wsX2_lay := goodIn_r _ [65, 6, 10, 25, 26, 27, 15, 28, 9, 29, 30, 84, 85, 86, 87, 88, 89, 90, 91, 92, 93, 94] (by decide +kernel) (by decide +kernel)
set_option maxRecDepth 20000 in
theorem gX2_digest_X2_lay : GoodIn wsX2_digest (wsV RX2 63 RX2 yX2_lay wsX2_lay) := goodIn_app (goodIn_of _ (by decide +kernel)) ggX2_digest_X2_lay
set_option maxRecDepth 20000 in
theorem ggX2_digest_X2_canon : GoodIn wsX2_digest wsX2_canon := goodIn_r _ [75, 8, 66, 67, 15, 68, 69, 70, 19, 71, 84, 85, 86, 87, 88, 89, 90, 91, 92, 93, 94] (by decide +kernel) (by decide +kernel)
set_option maxRecDepth 20000 in
theorem gX2_digest_X2_canon : GoodIn wsX2_digest (wsV RX2 135 RX2 yX2_canon wsX2_canon) := goodIn_app (goodIn_of _ (by decide +kernel)) ggX2_digest_X2_canon
set_option maxRecDepth 20000 in
theorem ggX2_digest_X2_delay : GoodIn wsX2_digest wsX2_delay := goodIn_r _ [79, 8, 62, 63, 64, 15, 65, 6, 10, 25, 26, 27, 28, 9, 29, 30, 72, 73, 74, 75, 66, 67, 68, 69, 70, 19, 71, 84, 85, 86, 87, 88, 89, 90, 91, 92, 93, 94] (by decide +kernel) (by decide +kernel)
set_option maxRecDepth 20000 in
theorem gX2_digest_X2_delay : GoodIn wsX2_digest (wsV RX2 139 RX2 yX2_delay wsX2_delay) := goodIn_app (goodIn_of _ (by decide +kernel)) ggX2_digest_X2_delay
set_option maxRecDepth 20000 in
theorem ggX2_digest_X2_lasts : GoodIn wsX2_digest wsX2_lasts := goodIn_r _ [28, 9, 29, 30, 84, 85, 86, 87, 88, 89, 90, 91, 92, 93, 94] (by decide +kernel) (by decide +kernel)
set_option maxRecDepth 20000 in
theorem gX2_digest_X2_lasts : GoodIn wsX2_digest (wsV RX2 53 RX2 yX2_lasts wsX2_lasts) := goodIn_app (goodIn_of _ (by decide +kernel)) ggX2_digest_X2_lasts
set_option maxRecDepth 20000 in
theorem ggX2_digest_X2_begins : GoodIn wsX2_digest wsX2_begins := goodIn_r _ [83, 25, 26, 27, 15, 28, 9, 29, 30, 84, 85, 86, 87, 88, 89, 90, 91, 92, 93, 94] (by decide +kernel) (by decide +kernel)
set_option maxRecDepth 20000 in
theorem gX2_digest_X2_begins : GoodIn wsX2_digest (wsV RX2 108 RX2 yX2_begins wsX2_begins) := goodIn_app (goodIn_of _ (by decide +kernel)) ggX2_digest_X2_begins
theorem dJ9_abs_0f7a4_0 : decode cJ9_abs_0f7a4 0 = .ok (.iload_n 0, 1) := by decide +kernel
theorem dJ9_abs_0f7a4_1 : decode cJ9_abs_0f7a4 1 = .ok (.ifCond .ge 8, 3) := by decide +kernel
theorem dJ9_abs_0f7a4_4 : decode cJ9_abs_0f7a4 4 = .ok (.iload_n 0, 1) := by decide +kernel
theorem dJ9_abs_0f7a4_5 : decode cJ9_abs_0f7a4 5 = .ok (.ineg, 1) := by decide +kernel
theorem dJ9_abs_0f7a4_6 : decode cJ9_abs_0f7a4 6 = .ok (.goto 4, 3) := by decide +kernel
theorem dJ9_abs_0f7a4_9 : decode cJ9_abs_0f7a4 9 = .ok (.iload_n 0, 1) := by decide +kernel
theorem dJ9_abs_0f7a4_10 : decode cJ9_abs_0f7a4 10 = .ok (.ireturn, 1) := by decide +kernel
theorem dJ9_max_7cf53_0 : decode cJ9_max_7cf53 0 = .ok (.iload_n 0, 1) := by decide +kernel
theorem dJ9_max_7cf53_1 : decode cJ9_max_7cf53 1 = .ok (.iload_n 1, 1) := by decide +kernel
theorem dJ9_max_7cf53_2 : decode cJ9_max_7cf53 2 = .ok (.if_icmp .lt 7, 3) := by decide +kernel
theorem dJ9_max_7cf53_5 : decode cJ9_max_7cf53 5 = .ok (.iload_n 0, 1) := by decide +kernel
theorem dJ9_max_7cf53_6 : decode cJ9_max_7cf53 6 = .ok (.goto 4, 3) := by decide +kernel
theorem dJ9_max_7cf53_9 : decode cJ9_max_7cf53 9 = .ok (.iload_n 1, 1) := by decide +kernel
theorem dJ9_max_7cf53_10 : decode cJ9_max_7cf53 10 = .ok (.ireturn, 1) := by decide +kernel
theorem dJ9_min_7cf53_0 : decode cJ9_min_7cf53 0 = .ok (.iload_n 0, 1) := by decide +kernel
theorem dJ9_min_7cf53_1 : decode cJ9_min_7cf53 1 = .ok (.iload_n 1, 1) := by decide +kernel
theorem dJ9_min_7cf53_2 : decode cJ9_min_7cf53 2 = .ok (.if_icmp .gt 7, 3) := by decide +kernel
theorem dJ9_min_7cf53_5 : decode cJ9_min_7cf53 5 = .ok (.iload_n 0, 1) := by decide +kernel
theorem dJ9_min_7cf53_6 : decode cJ9_min_7cf53 6 = .ok (.goto 4, 3) := by decide +kernel
theorem dJ9_min_7cf53_9 : decode cJ9_min_7cf53 9 = .ok (.iload_n 1, 1) := by decide +kernel
theorem dJ9_min_7cf53_10 : decode cJ9_min_7cf53 10 = .ok (.ireturn, 1) := by decide +kernel
set_option maxRecDepth 20000 in
theorem ggL_addVoice_X1_addVoice : GoodIn wsL_addVoice wsX1_addVoice := goodIn_ca (goodIn_ca (goodIn_r _ [7, 8, 9, 10, 11, 12, 13, 6, 14, 15, 16, 17, 18, 19, 20, 21, 22, 23, 24, 25, 26, 27, 28, 29, 30, 31, 32, 33, 34, 35, 36, 37, 38, 39, 40, 41, 42, 43, 44, 45, 46, 47, 48, 49, 50] (by decide +kernel) (by decide +kernel)) (goodIn_sub (fun _ h => List.mem_cons_of_mem _ (List.mem_append_left _ (List.mem_append_right _ h))) (by decide +kernel))) (goodIn_sub (fun _ h => List.mem_cons_of_mem _ (List.mem_append_right _ h)) (by decide +kernel))
set_option maxRecDepth 20000 in
theorem gL_addVoice_X1_addVoice : GoodIn wsL_addVoice (wsV RL 7 RX1 yX1_addVoice wsX1_addVoice) := goodIn_app (goodIn_of _ (by decide +kernel)) ggL_addVoice_X1_addVoice
set_option maxRecDepth 20000 in
theorem ggL_addNote_X1_addNote : GoodIn wsL_addNote wsX1_addNote := goodIn_ca (goodIn_ca (goodIn_ca (goodIn_r _ [8, 9, 10, 11, 7, 12, 13, 14, 15, 16, 17, 18, 19, 20, 21, 22, 23, 24, 25, 26, 27, 28, 29, 30, 31, 32, 33, 34, 35, 36, 37, 38, 39, 40, 41, 42, 43, 44, 45, 46, 47, 48, 49, 50, 51, 52, 53, 54, 55, 56, 57, 58, 59] (by decide +kernel) (by decide +kernel)) (goodIn_sub (fun _ h => List.mem_cons_of_mem _ (List.mem_append_left _ (List.mem_append_left _ (List.mem_append_right _ h)))) (by decide +kernel))) (goodIn_sub (fun _ h => List.mem_cons_of_mem _ (List.mem_append_left _ (List.mem_append_right _ h))) (by decide +kernel))) (goodIn_sub (fun _ h => List.mem_cons_of_mem _ (List.mem_append_right _ h)) (by decide +kernel))
set_option maxRecDepth 20000 in
theorem gL_addNote_X1_addNote : GoodIn wsL_addNote (wsV RL 17 RX1 yX1_addNote wsX1_addNote) := goodIn_app (goodIn_of _ (by decide +kernel)) ggL_addNote_X1_addNote
set_option maxRecDepth 20000 in
theorem ggL_addRest_X1_addRest : GoodIn wsL_addRest wsX1_addRest := goodIn_ca (goodIn_ca (goodIn_ca (goodIn_r _ [8, 9, 10, 11, 7, 12, 13, 14, 15, 16, 17, 18, 19, 20, 21, 22, 23, 24, 25, 26, 27, 28, 29, 30, 31, 32, 33, 34, 35, 36, 37, 38, 39, 40, 41, 42, 43, 44, 45, 46, 47, 48, 49, 50, 51, 52, 53, 54, 55, 56, 57, 58, 59] (by decide +kernel) (by decide +kernel)) (goodIn_sub (fun _ h => List.mem_cons_of_mem _ (List.mem_append_left _ (List.mem_append_left _ (List.mem_append_right _ h)))) (by decide +kernel))) (goodIn_sub (fun _ h => List.mem_cons_of_mem _ (List.mem_append_left _ (List.mem_append_right _ h))) (by decide +kernel))) (goodIn_sub (fun _ h => List.mem_cons_of_mem _ (List.mem_append_right _ h)) (by decide +kernel))
set_option maxRecDepth 20000 in
theorem gL_addRest_X1_addRest : GoodIn wsL_addRest (wsV RL 23 RX1 yX1_addRest wsX1_addRest) := goodIn_app (goodIn_of _ (by decide +kernel)) ggL_addRest_X1_addRest
set_option maxRecDepth 20000 in
theorem ggL_addLigature_X1_addLigature : GoodIn wsL_addLigature wsX1_addLigature := goodIn_ca (goodIn_ca (goodIn_ca (goodIn_r _ [8, 9, 10, 11, 7, 12, 13, 14, 15, 16, 17, 18, 19, 20, 21, 22, 23, 24, 25, 26, 27, 28, 29, 30, 31, 32, 33, 34, 35, 36, 37, 38, 39, 40, 41, 42, 43, 44, 45, 46, 47, 48, 49, 50, 51, 52, 53, 54, 55, 56, 57, 58, 59, 60, 61, 62, 63, 64, 65, 66, 67, 68, 69, 70, 71] (by decide +kernel) (by decide +kernel)) (goodIn_sub (fun _ h => List.mem_cons_of_mem _ (List.mem_append_left _ (List.mem_append_left _ (List.mem_append_right _ h)))) (by decide +kernel))) (goodIn_sub (fun _ h => List.mem_cons_of_mem _ (List.mem_append_left _ (List.mem_append_right _ h))) (by decide +kernel))) (goodIn_sub (fun _ h => List.mem_cons_of_mem _ (List.mem_append_right _ h)) (by decide +kernel))
set_option maxRecDepth 20000 in
theorem gL_addLigature_X1_addLigature : GoodIn wsL_addLigature (wsV RL 27 RX1 yX1_addLigature wsX1_addLigature) := goodIn_app (goodIn_of _ (by decide +kernel)) ggL_addLigature_X1_addLigature
set_option maxRecDepth 20000 in
theorem ggL_erase_X1_erase : GoodIn wsL_erase wsX1_erase := goodIn_ca (goodIn_ca (goodIn_r _ [7, 8, 9, 10, 11, 12, 6, 13, 14, 15, 16, 17, 18, 19, 20, 21, 22, 23, 24, 25, 26, 27, 28, 29, 30, 31, 32, 33, 34, 35] (by decide +kernel) (by decide +kernel)) (goodIn_sub (fun _ h => List.mem_cons_of_mem _ (List.mem_append_left _ (List.mem_append_right _ h))) (by decide +kernel))) (goodIn_sub (fun _ h => List.mem_cons_of_mem _ (List.mem_append_right _ h)) (by decide +kernel))
set_option maxRecDepth 20000 in
theorem gL_erase_X1_erase : GoodIn wsL_erase (wsV RL 31 RX1 yX1_erase wsX1_erase) := goodIn_app (goodIn_of _ (by decide +kernel)) ggL_erase_X1_erase
set_option maxRecDepth 20000 in
theorem ggL_recolour_X1_recolour : GoodIn wsL_recolour wsX1_recolour := goodIn_ca (goodIn_ca (goodIn_r _ [7, 8, 9, 10, 11, 12, 6, 13, 14, 15, 16, 17, 18, 19, 20, 21, 22, 23, 24, 25, 26, 27, 28, 29, 30, 31, 32, 33, 34, 35, 36, 37, 38, 39, 40, 41, 42, 43, 44, 45, 46, 47, 48, 49, 50, 51, 52, 53, 54, 55, 56] (by decide +kernel) (by decide +kernel)) (goodIn_sub (fun _ h => List.mem_cons_of_mem _ (List.mem_append_left _ (List.mem_append_right _ h))) (by decide +kernel))) (goodIn_sub (fun _ h => List.mem_cons_of_mem _ (List.mem_append_right _ h)) (by decide +kernel))
set_option maxRecDepth 20000 in
theorem gL_recolour_X1_recolour : GoodIn wsL_recolour (wsV RL 35 RX1 yX1_recolour wsX1_recolour) := goodIn_app (goodIn_of _ (by decide +kernel)) ggL_recolour_X1_recolour
set_option maxRecDepth 20000 in
theorem ggL_setClef_X1_setClef : GoodIn wsL_setClef wsX1_setClef := goodIn_ca (goodIn_ca (goodIn_r _ [7, 8, 9, 10, 6, 11, 12, 13, 14, 15, 16, 17, 18, 19, 20, 21, 22, 23, 24, 25, 26, 27, 28, 29, 30, 31, 32] (by decide +kernel) (by decide +kernel)) (goodIn_sub (fun _ h => List.mem_cons_of_mem _ (List.mem_append_left _ (List.mem_append_right _ h))) (by decide +kernel))) (goodIn_sub (fun _ h => List.mem_cons_of_mem _ (List.mem_append_right _ h)) (by decide +kernel))
set_option maxRecDepth 20000 in
theorem gL_setClef_X1_setClef : GoodIn wsL_setClef (wsV RL 39 RX1 yX1_setClef wsX1_setClef) := goodIn_app (goodIn_of _ (by decide +kernel)) ggL_setClef_X1_setClef
set_option maxRecDepth 20000 in
theorem ggL_setMensuration_X1_setMensuration : GoodIn wsL_setMensuration wsX1_setMensuration := goodIn_ca (goodIn_ca (goodIn_r _ [7, 8, 9, 10, 6, 11, 12, 13, 14, 15, 16, 17, 18, 19, 20, 21, 22, 23, 24, 25, 26, 27, 28, 29, 30, 31, 32, 33, 34, 35, 36, 37, 38, 39, 40, 41, 42, 43, 44, 45, 46, 47, 48, 49, 50, 51, 52, 53, 54, 55, 56, 57] (by decide +kernel) (by decide +kernel)) (goodIn_sub (fun _ h => List.mem_cons_of_mem _ (List.mem_append_left _ (List.mem_append_right _ h))) (by decide +kernel))) (goodIn_sub (fun _ h => List.mem_cons_of_mem _ (List.mem_append_right _ h)) (by decide +kernel))
set_option maxRecDepth 20000 in
theorem gL_setMensuration_X1_setMensuration : GoodIn wsL_setMensuration (wsV RL 42 RX1 yX1_setMensuration wsX1_setMensuration) := goodIn_app (goodIn_of _ (by decide +kernel)) ggL_setMensuration_X1_setMensuration
set_option maxRecDepth 20000 in
theorem ggL_signs_X1_signs : GoodIn wsL_signs wsX1_signs := goodIn_ca (goodIn_r _ [6, 7, 8, 9, 5, 10, 11, 12, 13, 14, 15, 16, 17, 18, 19, 20, 21, 22, 23, 24, 25, 26] (by decide +kernel) (by decide +kernel)) (goodIn_sub (fun _ h => List.mem_cons_of_mem _ (List.mem_append_right _ h)) (by decide +kernel))
set_option maxRecDepth 20000 in
theorem gL_signs_X1_signs : GoodIn wsL_signs (wsV RL 46 RX1 yX1_signs wsX1_signs) := goodIn_app (goodIn_of _ (by decide +kernel)) ggL_signs_X1_signs
set_option maxRecDepth 20000 in
theorem ggL_notes_X1_notes : GoodIn wsL_notes wsX1_notes := goodIn_ca (goodIn_r _ [6, 7, 8, 9, 5, 10, 11, 12, 13, 14, 15, 16, 17, 18, 19, 20, 21, 22, 23, 24, 25, 26, 27, 28, 29, 30, 31, 32, 33, 34, 35, 36] (by decide +kernel) (by decide +kernel)) (goodIn_sub (fun _ h => List.mem_cons_of_mem _ (List.mem_append_right _ h)) (by decide +kernel))
set_option maxRecDepth 20000 in
theorem gL_notes_X1_notes : GoodIn wsL_notes (wsV RL 49 RX1 yX1_notes wsX1_notes) := goodIn_app (goodIn_of _ (by decide +kernel)) ggL_notes_X1_notes
set_option maxRecDepth 20000 in
theorem ggL_ligatures_X1_ligatures : GoodIn wsL_ligatures wsX1_ligatures := goodIn_ca (goodIn_r _ [6, 7, 8, 9, 5, 10, 11, 12, 13, 14, 15, 16, 17, 18, 19, 20, 21, 22, 23, 24, 25, 26, 27, 28, 29, 30, 31, 32] (by decide +kernel) (by decide +kernel)) (goodIn_sub (fun _ h => List.mem_cons_of_mem _ (List.mem_append_right _ h)) (by decide +kernel))
set_option maxRecDepth 20000 in
theorem gL_ligatures_X1_ligatures : GoodIn wsL_ligatures (wsV RL 52 RX1 yX1_ligatures wsX1_ligatures) := goodIn_app (goodIn_of _ (by decide +kernel)) ggL_ligatures_X1_ligatures
set_option maxRecDepth 20000 in
theorem ggL_kindOf_X1_kindOf : GoodIn wsL_kindOf wsX1_kindOf := goodIn_ca (goodIn_r _ [6, 7, 8, 9, 5, 10, 11, 12, 13, 14, 15, 16, 17, 18, 19, 20, 21, 22, 23, 24, 25, 26, 27, 28, 29, 30] (by decide +kernel) (by decide +kernel)) (goodIn_sub (fun _ h => List.mem_cons_of_mem _ (List.mem_append_right _ h)) (by decide +kernel))
set_option maxRecDepth 20000 in
theorem gL_kindOf_X1_kindOf : GoodIn wsL_kindOf (wsV RL 55 RX1 yX1_kindOf wsX1_kindOf) := goodIn_app (goodIn_of _ (by decide +kernel)) ggL_kindOf_X1_kindOf
set_option maxRecDepth 20000 in
theorem ggL_placeOf_X1_placeOf : GoodIn wsL_placeOf wsX1_placeOf := goodIn_ca (goodIn_r _ [6, 7, 8, 9, 5, 10, 11, 12, 13, 14, 15, 16, 17, 18, 19, 20, 21, 22, 23, 24, 25, 26, 27, 28, 29, 30] (by decide +kernel) (by decide +kernel)) (goodIn_sub (fun _ h => List.mem_cons_of_mem _ (List.mem_append_right _ h)) (by decide +kernel))
set_option maxRecDepth 20000 in
theorem gL_placeOf_X1_placeOf : GoodIn wsL_placeOf (wsV RL 58 RX1 yX1_placeOf wsX1_placeOf) := goodIn_app (goodIn_of _ (by decide +kernel)) ggL_placeOf_X1_placeOf
set_option maxRecDepth 20000 in
theorem ggL_isColoured_X1_isColoured : GoodIn wsL_isColoured wsX1_isColoured := goodIn_ca (goodIn_r _ [6, 7, 8, 9, 5, 10, 11, 12, 13, 14, 15, 16, 17, 18, 19, 20, 21, 22, 23, 24, 25, 26, 27, 28, 29, 30] (by decide +kernel) (by decide +kernel)) (goodIn_sub (fun _ h => List.mem_cons_of_mem _ (List.mem_append_right _ h)) (by decide +kernel))
set_option maxRecDepth 20000 in
theorem gL_isColoured_X1_isColoured : GoodIn wsL_isColoured (wsV RL 61 RX1 yX1_isColoured wsX1_isColoured) := goodIn_app (goodIn_of _ (by decide +kernel)) ggL_isColoured_X1_isColoured
set_option maxRecDepth 20000 in
theorem ggL_placeInLigature_X1_placeInLigature : GoodIn wsL_placeInLigature wsX1_placeInLigature := goodIn_ca (goodIn_r _ [6, 7, 8, 9, 5, 10, 11, 12, 13, 14, 15, 16, 17, 18, 19, 20, 21, 22, 23, 24, 25, 26, 27, 28, 29, 30] (by decide +kernel) (by decide +kernel)) (goodIn_sub (fun _ h => List.mem_cons_of_mem _ (List.mem_append_right _ h)) (by decide +kernel))
set_option maxRecDepth 20000 in
theorem gL_placeInLigature_X1_placeInLigature : GoodIn wsL_placeInLigature (wsV RL 64 RX1 yX1_placeInLigature wsX1_placeInLigature) := goodIn_app (goodIn_of _ (by decide +kernel)) ggL_placeInLigature_X1_placeInLigature
set_option maxRecDepth 20000 in
theorem ggL_lengthOf_X1_lengthOf : GoodIn wsL_lengthOf wsX1_lengthOf := goodIn_ca (goodIn_r _ [6, 7, 8, 9, 5, 10, 11, 12, 13, 14, 15, 16, 17, 18, 19, 20, 21, 22, 23, 24, 25, 26, 27, 28, 29, 30, 31, 32, 33, 34, 35] (by decide +kernel) (by decide +kernel)) (goodIn_sub (fun _ h => List.mem_cons_of_mem _ (List.mem_append_right _ h)) (by decide +kernel))
set_option maxRecDepth 20000 in
theorem gL_lengthOf_X1_lengthOf : GoodIn wsL_lengthOf (wsV RL 67 RX1 yX1_lengthOf wsX1_lengthOf) := goodIn_app (goodIn_of _ (by decide +kernel)) ggL_lengthOf_X1_lengthOf
set_option maxRecDepth 20000 in
theorem ggL_beginOf_X1_beginOf : GoodIn wsL_beginOf wsX1_beginOf := goodIn_ca (goodIn_r _ [6, 7, 8, 9, 5, 10, 11, 12, 13, 14, 15, 16, 17, 18, 19, 20, 21, 22, 23, 24, 25, 26, 27, 28, 29, 30] (by decide +kernel) (by decide +kernel)) (goodIn_sub (fun _ h => List.mem_cons_of_mem _ (List.mem_append_right _ h)) (by decide +kernel))
set_option maxRecDepth 20000 in
theorem gL_beginOf_X1_beginOf : GoodIn wsL_beginOf (wsV RL 70 RX1 yX1_beginOf wsX1_beginOf) := goodIn_app (goodIn_of _ (by decide +kernel)) ggL_beginOf_X1_beginOf
set_option maxRecDepth 20000 in
theorem ggL_length_X1_length : GoodIn wsL_length wsX1_length := goodIn_ca (goodIn_r _ [6, 7, 8, 9, 5, 10, 11, 12, 13, 14, 15, 16, 17, 18, 19, 20, 21, 22, 23, 24, 25, 26, 27, 28, 29, 30, 31, 32] (by decide +kernel) (by decide +kernel)) (goodIn_sub (fun _ h => List.mem_cons_of_mem _ (List.mem_append_right _ h)) (by decide +kernel))
set_option maxRecDepth 20000 in
theorem gL_length_X1_length : GoodIn wsL_length (wsV RL 73 RX1 yX1_length wsX1_length) := goodIn_app (goodIn_of _ (by decide +kernel)) ggL_length_X1_length
set_option maxRecDepth 20000 in
theorem ggL_signAt_X1_signAt : GoodIn wsL_signAt wsX1_signAt := goodIn_ca (goodIn_ca (goodIn_r _ [7, 8, 9, 10, 11, 6, 12, 13, 14, 15, 16, 17, 18, 19, 20, 21, 22, 23, 24, 25, 26, 27, 28, 29, 30, 31, 32, 33, 34, 35, 36, 37, 38, 39] (by decide +kernel) (by decide +kernel)) (goodIn_sub (fun _ h => List.mem_cons_of_mem _ (List.mem_append_left _ (List.mem_append_right _ h))) (by decide +kernel))) (goodIn_sub (fun _ h => List.mem_cons_of_mem _ (List.mem_append_right _ h)) (by decide +kernel))
set_option maxRecDepth 20000 in
theorem gL_signAt_X1_signAt : GoodIn wsL_signAt (wsV RL 76 RX1 yX1_signAt wsX1_signAt) := goodIn_app (goodIn_of _ (by decide +kernel)) ggL_signAt_X1_signAt
set_option maxRecDepth 20000 in
theorem ggL_clefOf_X1_clefOf : GoodIn wsL_clefOf wsX1_clefOf := goodIn_ca (goodIn_r _ [6, 7, 8, 9, 5, 10, 11, 12, 13, 14, 15, 16, 17, 18, 19, 20, 21, 22, 23, 24, 25, 26] (by decide +kernel) (by decide +kernel)) (goodIn_sub (fun _ h => List.mem_cons_of_mem _ (List.mem_append_right _ h)) (by decide +kernel))
set_option maxRecDepth 20000 in
theorem gL_clefOf_X1_clefOf : GoodIn wsL_clefOf (wsV RL 79 RX1 yX1_clefOf wsX1_clefOf) := goodIn_app (goodIn_of _ (by decide +kernel)) ggL_clefOf_X1_clefOf
set_option maxRecDepth 20000 in
theorem ggL_pitchOf_X1_pitchOf : GoodIn wsL_pitchOf wsX1_pitchOf := goodIn_ca (goodIn_ca (goodIn_r _ [7, 8, 9, 10, 6, 11, 12, 13, 14, 15, 16, 17, 18, 19, 20, 21, 22, 23, 24, 25, 26, 27, 28, 29, 30, 31, 32, 33, 34, 35, 36, 37, 38, 39, 40, 41] (by decide +kernel) (by decide +kernel)) (goodIn_sub (fun _ h => List.mem_cons_of_mem _ (List.mem_append_left _ (List.mem_append_right _ h))) (by decide +kernel))) (goodIn_sub (fun _ h => List.mem_cons_of_mem _ (List.mem_append_right _ h)) (by decide +kernel))
set_option maxRecDepth 20000 in
theorem gL_pitchOf_X1_pitchOf : GoodIn wsL_pitchOf (wsV RL 82 RX1 yX1_pitchOf wsX1_pitchOf) := goodIn_app (goodIn_of _ (by decide +kernel)) ggL_pitchOf_X1_pitchOf
set_option maxRecDepth 20000 in
theorem ggL_fits_X1_fits : GoodIn wsL_fits wsX1_fits := goodIn_ca (goodIn_ca (goodIn_r _ [7, 8, 9, 10, 6, 11, 12, 13, 14, 15, 16, 17, 18, 19, 20, 21, 22, 23, 24, 25, 26, 27, 28, 29, 30, 31, 32, 33, 34, 35, 36, 37, 38, 39, 40, 41, 42] (by decide +kernel) (by decide +kernel)) (goodIn_sub (fun _ h => List.mem_cons_of_mem _ (List.mem_append_left _ (List.mem_append_right _ h))) (by decide +kernel))) (goodIn_sub (fun _ h => List.mem_cons_of_mem _ (List.mem_append_right _ h)) (by decide +kernel))
set_option maxRecDepth 20000 in
theorem gL_fits_X1_fits : GoodIn wsL_fits (wsV RL 85 RX1 yX1_fits wsX1_fits) := goodIn_app (goodIn_of _ (by decide +kernel)) ggL_fits_X1_fits
set_option maxRecDepth 20000 in
theorem ggL_clefsThatFit_X1_clefsThatFit : GoodIn wsL_clefsThatFit wsX1_clefsThatFit := goodIn_ca (goodIn_r _ [6, 7, 8, 9, 5, 10, 11, 12, 13, 14, 15, 16, 17, 18, 19, 20, 21, 22, 23, 24, 25, 26, 27, 28, 29, 30, 31, 32, 33, 34, 35, 36, 37, 38, 39, 40] (by decide +kernel) (by decide +kernel)) (goodIn_sub (fun _ h => List.mem_cons_of_mem _ (List.mem_append_right _ h)) (by decide +kernel))
set_option maxRecDepth 20000 in
theorem gL_clefsThatFit_X1_clefsThatFit : GoodIn wsL_clefsThatFit (wsV RL 88 RX1 yX1_clefsThatFit wsX1_clefsThatFit) := goodIn_app (goodIn_of _ (by decide +kernel)) ggL_clefsThatFit_X1_clefsThatFit
set_option maxRecDepth 20000 in
theorem ggL_clashes_X1_clashes : GoodIn wsL_clashes wsX1_clashes := goodIn_ca (goodIn_ca (goodIn_r _ [7, 8, 9, 10, 6, 11, 12, 13, 14, 15, 16, 17, 18, 19, 20, 21, 22, 23, 24, 25, 26, 27, 28, 29, 30, 31, 32, 33, 34, 35, 36, 37, 38, 39, 40, 41, 42, 43, 44, 45, 46, 47, 48, 49, 50, 51, 52, 53] (by decide +kernel) (by decide +kernel)) (goodIn_sub (fun _ h => List.mem_cons_of_mem _ (List.mem_append_left _ (List.mem_append_right _ h))) (by decide +kernel))) (goodIn_sub (fun _ h => List.mem_cons_of_mem _ (List.mem_append_right _ h)) (by decide +kernel))
set_option maxRecDepth 20000 in
theorem gL_clashes_X1_clashes : GoodIn wsL_clashes (wsV RL 91 RX1 yX1_clashes wsX1_clashes) := goodIn_app (goodIn_of _ (by decide +kernel)) ggL_clashes_X1_clashes
set_option maxRecDepth 20000 in
theorem ggL_firstClash_X1_firstClash : GoodIn wsL_firstClash wsX1_firstClash := goodIn_ca (goodIn_ca (goodIn_r _ [7, 8, 9, 10, 6, 11, 12, 13, 14, 15, 16, 17, 18, 19, 20, 21, 22, 23, 24, 25, 26, 27, 28, 29, 30, 31, 32, 33, 34, 35, 36, 37, 38, 39, 40, 41, 42, 43, 44, 45, 46, 47, 48, 49, 50, 51, 52, 53] (by decide +kernel) (by decide +kernel)) (goodIn_sub (fun _ h => List.mem_cons_of_mem _ (List.mem_append_left _ (List.mem_append_right _ h))) (by decide +kernel))) (goodIn_sub (fun _ h => List.mem_cons_of_mem _ (List.mem_append_right _ h)) (by decide +kernel))
set_option maxRecDepth 20000 in
theorem gL_firstClash_X1_firstClash : GoodIn wsL_firstClash (wsV RL 94 RX1 yX1_firstClash wsX1_firstClash) := goodIn_app (goodIn_of _ (by decide +kernel)) ggL_firstClash_X1_firstClash
set_option maxRecDepth 20000 in
theorem ggL_clashesWith_X1_clashesWith : GoodIn wsL_clashesWith wsX1_clashesWith := goodIn_ca (goodIn_ca (goodIn_r _ [7, 8, 9, 10, 6, 11, 12, 13, 14, 15, 16, 17, 18, 19, 20, 21, 22, 23, 24, 25, 26, 27, 28, 29, 30, 31, 32, 33, 34, 35, 36, 37, 38, 39, 40, 41, 42, 43, 44, 45, 46, 47, 48, 49, 50, 51, 52, 53, 54, 55, 56, 57] (by decide +kernel) (by decide +kernel)) (goodIn_sub (fun _ h => List.mem_cons_of_mem _ (List.mem_append_left _ (List.mem_append_right _ h))) (by decide +kernel))) (goodIn_sub (fun _ h => List.mem_cons_of_mem _ (List.mem_append_right _ h)) (by decide +kernel))
set_option maxRecDepth 20000 in
theorem gL_clashesWith_X1_clashesWith : GoodIn wsL_clashesWith (wsV RL 97 RX1 yX1_clashesWith wsX1_clashesWith) := goodIn_app (goodIn_of _ (by decide +kernel)) ggL_clashesWith_X1_clashesWith
set_option maxRecDepth 20000 in
theorem ggL_bestClef_X1_bestClef : GoodIn wsL_bestClef wsX1_bestClef := goodIn_ca (goodIn_r _ [6, 7, 8, 9, 5, 10, 11, 12, 13, 14, 15, 16, 17, 18, 19, 20, 21, 22, 23, 24, 25, 26, 27, 28, 29, 30, 31, 32, 33, 34, 35, 36, 37, 38, 39, 40, 41, 42, 43, 44, 45, 46, 47, 48, 49, 50, 51, 52, 53, 54, 55, 56, 57, 58, 59, 60, 61] (by decide +kernel) (by decide +kernel)) (goodIn_sub (fun _ h => List.mem_cons_of_mem _ (List.mem_append_right _ h)) (by decide +kernel))
set_option maxRecDepth 20000 in
theorem gL_bestClef_X1_bestClef : GoodIn wsL_bestClef (wsV RL 100 RX1 yX1_bestClef wsX1_bestClef) := goodIn_app (goodIn_of _ (by decide +kernel)) ggL_bestClef_X1_bestClef
set_option maxRecDepth 20000 in
theorem ggL_canonClashes_X1_canonClashes : GoodIn wsL_canonClashes wsX1_canonClashes := goodIn_ca (goodIn_ca (goodIn_r _ [7, 8, 9, 10, 6, 11, 12, 13, 14, 15, 16, 17, 18, 19, 20, 21, 22, 23, 24, 25, 26, 27, 28, 29, 30, 31, 32, 33, 34, 35, 36, 37, 38, 39, 40, 41, 42, 43, 44, 45, 46, 47, 48, 49, 50, 51, 52, 53] (by decide +kernel) (by decide +kernel)) (goodIn_sub (fun _ h => List.mem_cons_of_mem _ (List.mem_append_left _ (List.mem_append_right _ h))) (by decide +kernel))) (goodIn_sub (fun _ h => List.mem_cons_of_mem _ (List.mem_append_right _ h)) (by decide +kernel))
set_option maxRecDepth 20000 in
theorem gL_canonClashes_X1_canonClashes : GoodIn wsL_canonClashes (wsV RL 103 RX1 yX1_canonClashes wsX1_canonClashes) := goodIn_app (goodIn_of _ (by decide +kernel)) ggL_canonClashes_X1_canonClashes
set_option maxRecDepth 20000 in
theorem ggL_bestDelay_X1_bestDelay : GoodIn wsL_bestDelay wsX1_bestDelay := goodIn_ca (goodIn_ca (goodIn_r _ [7, 8, 9, 10, 6, 11, 12, 13, 14, 15, 16, 17, 18, 19, 20, 21, 22, 23, 24, 25, 26, 27, 28, 29, 30, 31, 32, 33, 34, 35, 36, 37, 38, 39, 40, 41, 42, 43, 44, 45, 46, 47, 48, 49, 50, 51, 52, 53, 54, 55, 56, 57] (by decide +kernel) (by decide +kernel)) (goodIn_sub (fun _ h => List.mem_cons_of_mem _ (List.mem_append_left _ (List.mem_append_right _ h))) (by decide +kernel))) (goodIn_sub (fun _ h => List.mem_cons_of_mem _ (List.mem_append_right _ h)) (by decide +kernel))
set_option maxRecDepth 20000 in
theorem gL_bestDelay_X1_bestDelay : GoodIn wsL_bestDelay (wsV RL 106 RX1 yX1_bestDelay wsX1_bestDelay) := goodIn_app (goodIn_of _ (by decide +kernel)) ggL_bestDelay_X1_bestDelay
set_option maxRecDepth 20000 in
theorem ggL_law_X1_init : GoodIn wsL_law wsX1_init := goodIn_r _ [9, 10, 11, 12, 13, 14, 15, 16, 17, 18, 19, 20, 21, 22, 23, 24, 25, 26, 27, 633, 634, 646, 647, 648, 649, 650, 651, 652, 653, 654, 655] (by decide +kernel) (by decide +kernel)
set_option maxRecDepth 20000 in
theorem gL_law_X1_init : GoodIn wsL_law (wsX1_init) := ggL_law_X1_init
set_option maxRecDepth 20000 in
theorem ggL_law_X2_init : GoodIn wsL_law wsX2_init := goodIn_r _ [30, 31, 11, 12, 21, 32, 33, 34, 35, 36, 24, 37, 38, 39, 40, 635, 636, 637, 638, 639, 640, 641, 642, 643, 644, 645] (by decide +kernel) (by decide +kernel)
set_option maxRecDepth 20000 in
theorem gL_law_X2_init : GoodIn wsL_law (wsX2_init) := ggL_law_X2_init
set_option maxRecDepth 20000 in
theorem ggL_law_L_addVoice : GoodIn wsL_law wsL_addVoice := goodIn_ca (goodIn_ca (goodIn_r _ [44, 45, 46, 47, 48, 49, 2, 50, 51, 52, 53, 14, 54, 55, 56, 57, 58, 59, 60, 61, 62, 16, 63, 64, 65, 66, 67, 68, 69, 70, 71, 72, 27, 22, 25, 73, 74, 75, 76, 633, 634, 646, 647, 648, 649, 650, 651, 652, 653, 654, 655] (by decide +kernel) (by decide +kernel)) (goodIn_sub (fun _ h => List.mem_append_left _ (List.mem_append_left _ (List.mem_append_right _ h))) (by decide +kernel))) (goodIn_sub (fun _ h => List.mem_append_left _ (List.mem_append_right _ h)) (by decide +kernel))
set_option maxRecDepth 20000 in
theorem gL_law_L_addVoice : GoodIn wsL_law (va_wsS RL 113 yL_addVoice wsL_addVoice) := goodIn_app (goodIn_of _ (by decide +kernel)) ggL_law_L_addVoice
set_option maxRecDepth 20000 in
theorem ggL_law_X2_addVoice : GoodIn wsL_law wsX2_addVoice := goodIn_r _ [80, 81, 82, 33, 83, 84, 5, 85, 86, 87, 88, 89, 90, 91, 92, 93, 94, 95, 96, 34, 635, 636, 637, 638, 639, 640, 641, 642, 643, 644, 645] (by decide +kernel) (by decide +kernel)
set_option maxRecDepth 20000 in
theorem gL_law_X2_addVoice : GoodIn wsL_law (wsV RL 118 RX2 yX2_addVoice wsX2_addVoice) := goodIn_app (goodIn_of _ (by decide +kernel)) ggL_law_X2_addVoice
set_option maxRecDepth 20000 in
theorem ggL_law_X2_thrown : GoodIn wsL_law wsX2_thrown := goodIn_r _ [100, 81, 635, 636, 637, 638, 639, 640, 641, 642, 643, 644, 645] (by decide +kernel) (by decide +kernel)
set_option maxRecDepth 20000 in
theorem gL_law_X2_thrown : GoodIn wsL_law (wsV RL 119 RX2 yX2_thrown wsX2_thrown) := goodIn_app (goodIn_of _ (by decide +kernel)) ggL_law_X2_thrown
set_option maxRecDepth 20000 in
theorem ggL_law_L_addNote : GoodIn wsL_law wsL_addNote := goodIn_ca (goodIn_ca (goodIn_ca (goodIn_r _ [103, 104, 45, 46, 105, 106, 107, 2, 108, 109, 110, 111, 112, 113, 114, 53, 14, 57, 58, 59, 60, 61, 115, 116, 117, 51, 52, 118, 16, 119, 120, 72, 22, 23, 25, 26, 68, 69, 70, 71, 27, 73, 74, 75, 76, 65, 66, 67, 633, 634, 646, 647, 648, 649, 650, 651, 652, 653, 654, 655] (by decide +kernel) (by decide +kernel)) (goodIn_sub (fun _ h => List.mem_append_right _ h) (by decide +kernel))) (goodIn_sub (fun _ h => List.mem_append_left _ (List.mem_append_right _ h)) (by decide +kernel))) (goodIn_sub (fun _ h => List.mem_append_left _ (List.mem_append_left _ (List.mem_append_right _ h))) (by decide +kernel))
set_option maxRecDepth 20000 in
theorem gL_law_L_addNote : GoodIn wsL_law (va_wsS RL 123 yL_addNote wsL_addNote) := goodIn_app (goodIn_of _ (by decide +kernel)) ggL_law_L_addNote
set_option maxRecDepth 20000 in
theorem ggL_law_X2_addNote : GoodIn wsL_law wsX2_addNote := goodIn_r _ [124, 81, 32, 125, 126, 127, 5, 128, 82, 86, 87, 88, 89, 90, 91, 92, 129, 130, 131, 132, 35, 36, 37, 38, 635, 636, 637, 638, 639, 640, 641, 642, 643, 644, 645] (by decide +kernel) (by decide +kernel)
set_option maxRecDepth 20000 in
theorem gL_law_X2_addNote : GoodIn wsL_law (wsV RL 126 RX2 yX2_addNote wsX2_addNote) := goodIn_app (goodIn_of _ (by decide +kernel)) ggL_law_X2_addNote
set_option maxRecDepth 20000 in
theorem ggL_law_L_addRest : GoodIn wsL_law wsL_addRest := goodIn_ca (goodIn_ca (goodIn_ca (goodIn_r _ [135, 104, 45, 46, 136, 137, 138, 2, 139, 109, 110, 111, 112, 113, 114, 53, 14, 57, 58, 59, 60, 61, 115, 116, 117, 51, 52, 118, 16, 119, 120, 72, 22, 23, 25, 26, 68, 69, 70, 71, 27, 73, 74, 75, 76, 65, 66, 67, 633, 634, 646, 647, 648, 649, 650, 651, 652, 653, 654, 655] (by decide +kernel) (by decide +kernel)) (goodIn_sub (fun _ h => List.mem_append_right _ h) (by decide +kernel))) (goodIn_sub (fun _ h => List.mem_append_left _ (List.mem_append_right _ h)) (by decide +kernel))) (goodIn_sub (fun _ h => List.mem_append_left _ (List.mem_append_left _ (List.mem_append_right _ h))) (by decide +kernel))
set_option maxRecDepth 20000 in
theorem gL_law_L_addRest : GoodIn wsL_law (va_wsS RL 127 yL_addRest wsL_addRest) := goodIn_app (goodIn_of _ (by decide +kernel)) ggL_law_L_addRest
set_option maxRecDepth 20000 in
theorem ggL_law_X2_addRest : GoodIn wsL_law wsX2_addRest := goodIn_r _ [143, 81, 32, 125, 126, 127, 5, 128, 82, 86, 87, 88, 89, 90, 91, 92, 129, 130, 131, 132, 35, 36, 37, 38, 635, 636, 637, 638, 639, 640, 641, 642, 643, 644, 645] (by decide +kernel) (by decide +kernel)
set_option maxRecDepth 20000 in
theorem gL_law_X2_addRest : GoodIn wsL_law (wsV RL 130 RX2 yX2_addRest wsX2_addRest) := goodIn_app (goodIn_of _ (by decide +kernel)) ggL_law_X2_addRest
set_option maxRecDepth 20000 in
theorem ggL_law_L_addLigature : GoodIn wsL_law wsL_addLigature := goodIn_ca (goodIn_ca (goodIn_ca (goodIn_r _ [146, 104, 45, 46, 147, 148, 149, 2, 150, 109, 110, 111, 112, 113, 114, 53, 14, 151, 152, 153, 60, 61, 57, 58, 59, 115, 116, 117, 51, 52, 154, 155, 156, 157, 158, 159, 118, 16, 119, 120, 72, 22, 23, 25, 26, 68, 69, 70, 71, 27, 73, 74, 75, 76, 65, 66, 67, 160, 161, 162, 633, 634, 646, 647, 648, 649, 650, 651, 652, 653, 654, 655] (by decide +kernel) (by decide +kernel)) (goodIn_sub (fun _ h => List.mem_append_right _ h) (by decide +kernel))) (goodIn_sub (fun _ h => List.mem_append_left _ (List.mem_append_right _ h)) (by decide +kernel))) (goodIn_sub (fun _ h => List.mem_append_left _ (List.mem_append_left _ (List.mem_append_right _ h))) (by decide +kernel))
set_option maxRecDepth 20000 in
theorem gL_law_L_addLigature : GoodIn wsL_law (va_wsS RL 131 yL_addLigature wsL_addLigature) := goodIn_app (goodIn_of _ (by decide +kernel)) ggL_law_L_addLigature
set_option maxRecDepth 20000 in
theorem ggL_law_X2_addLigature : GoodIn wsL_law wsX2_addLigature := goodIn_r _ [166, 81, 32, 125, 126, 127, 5, 128, 82, 86, 87, 88, 89, 90, 91, 92, 129, 130, 131, 132, 35, 36, 37, 38, 635, 636, 637, 638, 639, 640, 641, 642, 643, 644, 645] (by decide +kernel) (by decide +kernel)
set_option maxRecDepth 20000 in
theorem gL_law_X2_addLigature : GoodIn wsL_law (wsV RL 134 RX2 yX2_addLigature wsX2_addLigature) := goodIn_app (goodIn_of _ (by decide +kernel)) ggL_law_X2_addLigature
set_option maxRecDepth 20000 in
theorem ggL_law_L_erase : GoodIn wsL_law wsL_erase := goodIn_ca (goodIn_ca (goodIn_r _ [169, 104, 46, 170, 171, 172, 2, 173, 51, 52, 109, 110, 111, 112, 113, 114, 53, 14, 174, 16, 175, 176, 26, 72, 646, 647, 648, 649, 650, 651, 652, 653, 654, 655, 633, 634] (by decide +kernel) (by decide +kernel)) (goodIn_sub (fun _ h => List.mem_append_left _ (List.mem_append_left _ (List.mem_append_right _ h))) (by decide +kernel))) (goodIn_sub (fun _ h => List.mem_append_right _ h) (by decide +kernel))
set_option maxRecDepth 20000 in
theorem gL_law_L_erase : GoodIn wsL_law (va_wsS RL 135 yL_erase wsL_erase) := goodIn_app (goodIn_of _ (by decide +kernel)) ggL_law_L_erase
set_option maxRecDepth 20000 in
theorem ggL_law_X2_erase : GoodIn wsL_law wsX2_erase := goodIn_r _ [180, 81, 32, 38, 181, 182, 183, 184, 125, 126, 127, 5, 128, 82, 86, 87, 88, 89, 90, 91, 92, 635, 636, 637, 638, 639, 640, 641, 642, 643, 644, 645] (by decide +kernel) (by decide +kernel)
set_option maxRecDepth 20000 in
theorem gL_law_X2_erase : GoodIn wsL_law (wsV RL 138 RX2 yX2_erase wsX2_erase) := goodIn_app (goodIn_of _ (by decide +kernel)) ggL_law_X2_erase
set_option maxRecDepth 20000 in
theorem ggL_law_L_recolour : GoodIn wsL_law wsL_recolour := goodIn_ca (goodIn_ca (goodIn_r _ [187, 104, 46, 188, 189, 190, 2, 191, 51, 52, 192, 193, 194, 195, 113, 114, 109, 110, 111, 112, 53, 14, 196, 16, 197, 198, 23, 199, 200, 201, 25, 68, 69, 70, 71, 72, 27, 22, 73, 74, 75, 76, 65, 66, 67, 646, 647, 648, 649, 650, 651, 652, 653, 654, 655, 633, 634] (by decide +kernel) (by decide +kernel)) (goodIn_sub (fun _ h => List.mem_append_left _ (List.mem_append_left _ (List.mem_append_right _ h))) (by decide +kernel))) (goodIn_sub (fun _ h => List.mem_append_right _ h) (by decide +kernel))
set_option maxRecDepth 20000 in
theorem gL_law_L_recolour : GoodIn wsL_law (va_wsS RL 139 yL_recolour wsL_recolour) := goodIn_app (goodIn_of _ (by decide +kernel)) ggL_law_L_recolour
set_option maxRecDepth 20000 in
theorem ggL_law_X2_recolour : GoodIn wsL_law wsX2_recolour := goodIn_r _ [205, 36, 81, 37, 206, 207, 208, 5, 209, 32, 125, 126, 127, 128, 82, 86, 87, 88, 635, 636, 637, 638, 639, 640, 641, 642, 643, 644, 645] (by decide +kernel) (by decide +kernel)
set_option maxRecDepth 20000 in
theorem gL_law_X2_recolour : GoodIn wsL_law (wsV RL 141 RX2 yX2_recolour wsX2_recolour) := goodIn_app (goodIn_of _ (by decide +kernel)) ggL_law_X2_recolour
set_option maxRecDepth 20000 in
theorem ggL_law_L_setClef : GoodIn wsL_law wsL_setClef := goodIn_ca (goodIn_ca (goodIn_r _ [212, 104, 45, 213, 214, 215, 2, 216, 109, 110, 111, 112, 113, 114, 53, 14, 57, 58, 59, 60, 61, 646, 647, 648, 649, 650, 651, 652, 653, 654, 655, 633, 634] (by decide +kernel) (by decide +kernel)) (goodIn_sub (fun _ h => List.mem_append_right _ h) (by decide +kernel))) (goodIn_sub (fun _ h => List.mem_append_left _ (List.mem_append_right _ h)) (by decide +kernel))
set_option maxRecDepth 20000 in
theorem gL_law_L_setClef : GoodIn wsL_law (va_wsS RL 142 yL_setClef wsL_setClef) := goodIn_app (goodIn_of _ (by decide +kernel)) ggL_law_L_setClef
set_option maxRecDepth 20000 in
theorem ggL_law_X2_setClef : GoodIn wsL_law wsX2_setClef := goodIn_r _ [220, 81, 33, 125, 126, 127, 5, 128, 82, 86, 87, 88, 89, 90, 91, 92, 635, 636, 637, 638, 639, 640, 641, 642, 643, 644, 645] (by decide +kernel) (by decide +kernel)
set_option maxRecDepth 20000 in
theorem gL_law_X2_setClef : GoodIn wsL_law (wsV RL 144 RX2 yX2_setClef wsX2_setClef) := goodIn_app (goodIn_of _ (by decide +kernel)) ggL_law_X2_setClef
set_option maxRecDepth 20000 in
theorem ggL_law_L_setMensuration : GoodIn wsL_law wsL_setMensuration := goodIn_ca (goodIn_ca (goodIn_r _ [223, 104, 45, 224, 225, 226, 2, 227, 109, 110, 111, 112, 113, 114, 53, 14, 54, 55, 56, 57, 58, 59, 60, 61, 62, 16, 63, 64, 65, 66, 67, 68, 69, 70, 71, 72, 27, 22, 25, 73, 74, 75, 76, 228, 229, 230, 633, 634, 646, 647, 648, 649, 650, 651, 652, 653, 654, 655] (by decide +kernel) (by decide +kernel)) (goodIn_sub (fun _ h => List.mem_append_right _ h) (by decide +kernel))) (goodIn_sub (fun _ h => List.mem_append_left _ (List.mem_append_right _ h)) (by decide +kernel))
set_option maxRecDepth 20000 in
theorem gL_law_L_setMensuration : GoodIn wsL_law (va_wsS RL 145 yL_setMensuration wsL_setMensuration) := goodIn_app (goodIn_of _ (by decide +kernel)) ggL_law_L_setMensuration
set_option maxRecDepth 20000 in
theorem ggL_law_X2_setMensuration : GoodIn wsL_law wsX2_setMensuration := goodIn_r _ [234, 81, 125, 126, 127, 5, 128, 82, 86, 87, 88, 89, 90, 91, 92, 83, 84, 85, 93, 94, 95, 96, 34, 235, 236, 237, 238, 32, 239, 240, 241, 242, 35, 37, 635, 636, 637, 638, 639, 640, 641, 642, 643, 644, 645] (by decide +kernel) (by decide +kernel)
set_option maxRecDepth 20000 in
theorem gL_law_X2_setMensuration : GoodIn wsL_law (wsV RL 148 RX2 yX2_setMensuration wsX2_setMensuration) := goodIn_app (goodIn_of _ (by decide +kernel)) ggL_law_X2_setMensuration
set_option maxRecDepth 20000 in
theorem ggL_law_X1_voices : GoodIn wsL_law wsX1_voices := goodIn_r _ [246, 53, 633, 634] (by decide +kernel) (by decide +kernel)
set_option maxRecDepth 20000 in
theorem gL_law_X1_voices : GoodIn wsL_law (wsV RL 149 RX1 yX1_voices wsX1_voices) := goodIn_app (goodIn_of _ (by decide +kernel)) ggL_law_X1_voices
set_option maxRecDepth 20000 in
theorem ggL_law_X2_voices : GoodIn wsL_law wsX2_voices := goodIn_r _ [250, 82, 251, 252, 253, 5, 254, 81, 635, 636, 637, 638, 639, 640, 641, 642, 643, 644, 645] (by decide +kernel) (by decide +kernel)
set_option maxRecDepth 20000 in
theorem gL_law_X2_voices : GoodIn wsL_law (wsV RL 152 RX2 yX2_voices wsX2_voices) := goodIn_app (goodIn_of _ (by decide +kernel)) ggL_law_X2_voices
set_option maxRecDepth 20000 in
theorem ggL_law_L_signs : GoodIn wsL_law wsL_signs := goodIn_ca (goodIn_r _ [257, 104, 258, 259, 260, 2, 261, 109, 110, 111, 112, 113, 114, 53, 14, 646, 647, 648, 649, 650, 651, 652, 653, 654, 655, 633, 634] (by decide +kernel) (by decide +kernel)) (goodIn_sub (fun _ h => List.mem_append_right _ h) (by decide +kernel))
set_option maxRecDepth 20000 in
theorem gL_law_L_signs : GoodIn wsL_law (va_wsS RL 153 yL_signs wsL_signs) := goodIn_app (goodIn_of _ (by decide +kernel)) ggL_law_L_signs
set_option maxRecDepth 20000 in
theorem ggL_law_X2_signs : GoodIn wsL_law wsX2_signs := goodIn_r _ [265, 81, 32, 125, 126, 127, 5, 128, 82, 86, 87, 88, 89, 90, 91, 92, 635, 636, 637, 638, 639, 640, 641, 642, 643, 644, 645] (by decide +kernel) (by decide +kernel)
set_option maxRecDepth 20000 in
theorem gL_law_X2_signs : GoodIn wsL_law (wsV RL 155 RX2 yX2_signs wsX2_signs) := goodIn_app (goodIn_of _ (by decide +kernel)) ggL_law_X2_signs
set_option maxRecDepth 20000 in
theorem ggL_law_L_notes : GoodIn wsL_law wsL_notes := goodIn_ca (goodIn_r _ [268, 104, 269, 270, 271, 2, 272, 109, 110, 111, 112, 113, 114, 53, 14, 273, 16, 274, 275, 72, 276, 196, 197, 198, 23, 633, 634, 646, 647, 648, 649, 650, 651, 652, 653, 654, 655] (by decide +kernel) (by decide +kernel)) (goodIn_sub (fun _ h => List.mem_append_right _ h) (by decide +kernel))
set_option maxRecDepth 20000 in
theorem gL_law_L_notes : GoodIn wsL_law (va_wsS RL 156 yL_notes wsL_notes) := goodIn_app (goodIn_of _ (by decide +kernel)) ggL_law_L_notes
set_option maxRecDepth 20000 in
theorem ggL_law_X2_notes : GoodIn wsL_law wsX2_notes := goodIn_r _ [280, 81, 125, 126, 127, 5, 128, 82, 86, 87, 88, 281, 282, 283, 284, 32, 36, 38, 89, 90, 91, 92, 635, 636, 637, 638, 639, 640, 641, 642, 643, 644, 645] (by decide +kernel) (by decide +kernel)
set_option maxRecDepth 20000 in
theorem gL_law_X2_notes : GoodIn wsL_law (wsV RL 158 RX2 yX2_notes wsX2_notes) := goodIn_app (goodIn_of _ (by decide +kernel)) ggL_law_X2_notes
set_option maxRecDepth 20000 in
theorem ggL_law_L_ligatures : GoodIn wsL_law wsL_ligatures := goodIn_ca (goodIn_r _ [287, 104, 288, 289, 290, 2, 291, 109, 110, 111, 112, 113, 114, 53, 14, 292, 16, 293, 294, 72, 26, 633, 634, 646, 647, 648, 649, 650, 651, 652, 653, 654, 655] (by decide +kernel) (by decide +kernel)) (goodIn_sub (fun _ h => List.mem_append_right _ h) (by decide +kernel))
set_option maxRecDepth 20000 in
theorem gL_law_L_ligatures : GoodIn wsL_law (va_wsS RL 159 yL_ligatures wsL_ligatures) := goodIn_app (goodIn_of _ (by decide +kernel)) ggL_law_L_ligatures
set_option maxRecDepth 20000 in
theorem ggL_law_X2_ligatures : GoodIn wsL_law wsX2_ligatures := goodIn_r _ [298, 81, 125, 126, 127, 5, 128, 82, 86, 87, 88, 281, 282, 283, 284, 32, 36, 38, 89, 90, 91, 92, 635, 636, 637, 638, 639, 640, 641, 642, 643, 644, 645] (by decide +kernel) (by decide +kernel)
set_option maxRecDepth 20000 in
theorem gL_law_X2_ligatures : GoodIn wsL_law (wsV RL 161 RX2 yX2_ligatures wsX2_ligatures) := goodIn_app (goodIn_of _ (by decide +kernel)) ggL_law_X2_ligatures
set_option maxRecDepth 20000 in
theorem ggL_law_L_kindOf : GoodIn wsL_law wsL_kindOf := goodIn_ca (goodIn_r _ [301, 104, 302, 303, 304, 2, 305, 192, 193, 194, 195, 113, 114, 109, 110, 111, 112, 53, 14, 646, 647, 648, 649, 650, 651, 652, 653, 654, 655, 633, 634] (by decide +kernel) (by decide +kernel)) (goodIn_sub (fun _ h => List.mem_append_right _ h) (by decide +kernel))
set_option maxRecDepth 20000 in
theorem gL_law_L_kindOf : GoodIn wsL_law (va_wsS RL 162 yL_kindOf wsL_kindOf) := goodIn_app (goodIn_of _ (by decide +kernel)) ggL_law_L_kindOf
set_option maxRecDepth 20000 in
theorem ggL_law_X2_kindOf : GoodIn wsL_law wsX2_kindOf := goodIn_r _ [309, 35, 310, 311, 312, 5, 313, 81, 206, 207, 208, 209, 32, 125, 126, 127, 128, 82, 86, 87, 88, 89, 90, 91, 92, 635, 636, 637, 638, 639, 640, 641, 642, 643, 644, 645] (by decide +kernel) (by decide +kernel)
set_option maxRecDepth 20000 in
theorem gL_law_X2_kindOf : GoodIn wsL_law (wsV RL 164 RX2 yX2_kindOf wsX2_kindOf) := goodIn_app (goodIn_of _ (by decide +kernel)) ggL_law_X2_kindOf
set_option maxRecDepth 20000 in
theorem ggL_law_L_placeOf : GoodIn wsL_law wsL_placeOf := goodIn_ca (goodIn_r _ [316, 104, 317, 318, 319, 2, 320, 192, 193, 194, 195, 113, 114, 109, 110, 111, 112, 53, 14, 646, 647, 648, 649, 650, 651, 652, 653, 654, 655, 633, 634] (by decide +kernel) (by decide +kernel)) (goodIn_sub (fun _ h => List.mem_append_right _ h) (by decide +kernel))
set_option maxRecDepth 20000 in
theorem gL_law_L_placeOf : GoodIn wsL_law (va_wsS RL 165 yL_placeOf wsL_placeOf) := goodIn_app (goodIn_of _ (by decide +kernel)) ggL_law_L_placeOf
set_option maxRecDepth 20000 in
theorem ggL_law_X2_placeOf : GoodIn wsL_law wsX2_placeOf := goodIn_r _ [324, 36, 310, 311, 312, 5, 313, 81, 206, 207, 208, 209, 32, 125, 126, 127, 128, 82, 86, 87, 88, 89, 90, 91, 92, 635, 636, 637, 638, 639, 640, 641, 642, 643, 644, 645] (by decide +kernel) (by decide +kernel)
set_option maxRecDepth 20000 in
theorem gL_law_X2_placeOf : GoodIn wsL_law (wsV RL 167 RX2 yX2_placeOf wsX2_placeOf) := goodIn_app (goodIn_of _ (by decide +kernel)) ggL_law_X2_placeOf
set_option maxRecDepth 20000 in
theorem ggL_law_L_isColoured : GoodIn wsL_law wsL_isColoured := goodIn_ca (goodIn_r _ [327, 104, 328, 329, 330, 2, 331, 192, 193, 194, 195, 113, 114, 109, 110, 111, 112, 53, 14, 646, 647, 648, 649, 650, 651, 652, 653, 654, 655, 633, 634] (by decide +kernel) (by decide +kernel)) (goodIn_sub (fun _ h => List.mem_append_right _ h) (by decide +kernel))
set_option maxRecDepth 20000 in
theorem gL_law_L_isColoured : GoodIn wsL_law (va_wsS RL 168 yL_isColoured wsL_isColoured) := goodIn_app (goodIn_of _ (by decide +kernel)) ggL_law_L_isColoured
set_option maxRecDepth 20000 in
theorem ggL_law_X2_isColoured : GoodIn wsL_law wsX2_isColoured := goodIn_r _ [335, 81, 37, 206, 207, 208, 5, 209, 32, 125, 126, 127, 128, 82, 86, 87, 88, 635, 636, 637, 638, 639, 640, 641, 642, 643, 644, 645] (by decide +kernel) (by decide +kernel)
set_option maxRecDepth 20000 in
theorem gL_law_X2_isColoured : GoodIn wsL_law (wsV RL 170 RX2 yX2_isColoured wsX2_isColoured) := goodIn_app (goodIn_of _ (by decide +kernel)) ggL_law_X2_isColoured
set_option maxRecDepth 20000 in
theorem ggL_law_L_placeInLigature : GoodIn wsL_law wsL_placeInLigature := goodIn_ca (goodIn_r _ [338, 104, 339, 340, 341, 2, 342, 192, 193, 194, 195, 113, 114, 109, 110, 111, 112, 53, 14, 646, 647, 648, 649, 650, 651, 652, 653, 654, 655, 633, 634] (by decide +kernel) (by decide +kernel)) (goodIn_sub (fun _ h => List.mem_append_right _ h) (by decide +kernel))
set_option maxRecDepth 20000 in
theorem gL_law_L_placeInLigature : GoodIn wsL_law (va_wsS RL 171 yL_placeInLigature wsL_placeInLigature) := goodIn_app (goodIn_of _ (by decide +kernel)) ggL_law_L_placeInLigature
set_option maxRecDepth 20000 in
theorem ggL_law_X2_placeInLigature : GoodIn wsL_law wsX2_placeInLigature := goodIn_r _ [346, 38, 310, 311, 312, 5, 313, 81, 206, 207, 208, 209, 32, 125, 126, 127, 128, 82, 86, 87, 88, 89, 90, 91, 92, 635, 636, 637, 638, 639, 640, 641, 642, 643, 644, 645] (by decide +kernel) (by decide +kernel)
set_option maxRecDepth 20000 in
theorem gL_law_X2_placeInLigature : GoodIn wsL_law (wsV RL 173 RX2 yX2_placeInLigature wsX2_placeInLigature) := goodIn_app (goodIn_of _ (by decide +kernel)) ggL_law_X2_placeInLigature
set_option maxRecDepth 20000 in
theorem ggL_law_L_lengthOf : GoodIn wsL_law wsL_lengthOf := goodIn_ca (goodIn_r _ [349, 104, 350, 351, 352, 2, 353, 192, 193, 194, 195, 113, 114, 109, 110, 111, 112, 53, 14, 354, 16, 355, 356, 27, 646, 647, 648, 649, 650, 651, 652, 653, 654, 655, 633, 634] (by decide +kernel) (by decide +kernel)) (goodIn_sub (fun _ h => List.mem_append_right _ h) (by decide +kernel))
set_option maxRecDepth 20000 in
theorem gL_law_L_lengthOf : GoodIn wsL_law (va_wsS RL 174 yL_lengthOf wsL_lengthOf) := goodIn_app (goodIn_of _ (by decide +kernel)) ggL_law_L_lengthOf
set_option maxRecDepth 20000 in
theorem ggL_law_X2_lengthOf : GoodIn wsL_law wsX2_lengthOf := goodIn_r _ [360, 81, 206, 207, 208, 5, 209, 32, 125, 126, 127, 128, 82, 86, 87, 88, 239, 240, 241, 242, 35, 37, 34, 89, 90, 91, 92, 635, 636, 637, 638, 639, 640, 641, 642, 643, 644, 645] (by decide +kernel) (by decide +kernel)
set_option maxRecDepth 20000 in
theorem gL_law_X2_lengthOf : GoodIn wsL_law (wsV RL 176 RX2 yX2_lengthOf wsX2_lengthOf) := goodIn_app (goodIn_of _ (by decide +kernel)) ggL_law_X2_lengthOf
set_option maxRecDepth 20000 in
theorem ggL_law_L_beginOf : GoodIn wsL_law wsL_beginOf := goodIn_ca (goodIn_r _ [363, 104, 364, 365, 366, 2, 367, 192, 193, 194, 195, 113, 114, 109, 110, 111, 112, 53, 14, 646, 647, 648, 649, 650, 651, 652, 653, 654, 655, 633, 634] (by decide +kernel) (by decide +kernel)) (goodIn_sub (fun _ h => List.mem_append_right _ h) (by decide +kernel))
set_option maxRecDepth 20000 in
theorem gL_law_L_beginOf : GoodIn wsL_law (va_wsS RL 177 yL_beginOf wsL_beginOf) := goodIn_app (goodIn_of _ (by decide +kernel)) ggL_law_L_beginOf
set_option maxRecDepth 20000 in
theorem ggL_law_X2_beginOf : GoodIn wsL_law wsX2_beginOf := goodIn_r _ [371, 81, 206, 207, 208, 5, 209, 32, 125, 126, 127, 128, 82, 86, 87, 88, 372, 373, 374, 375, 239, 240, 241, 242, 35, 37, 34, 89, 90, 91, 92, 635, 636, 637, 638, 639, 640, 641, 642, 643, 644, 645] (by decide +kernel) (by decide +kernel)
set_option maxRecDepth 20000 in
theorem gL_law_X2_beginOf : GoodIn wsL_law (wsV RL 179 RX2 yX2_beginOf wsX2_beginOf) := goodIn_app (goodIn_of _ (by decide +kernel)) ggL_law_X2_beginOf
set_option maxRecDepth 20000 in
theorem ggL_law_L_length : GoodIn wsL_law wsL_length := goodIn_ca (goodIn_r _ [378, 104, 379, 380, 381, 2, 382, 109, 110, 111, 112, 113, 114, 53, 14, 228, 16, 229, 230, 27, 72, 633, 634, 646, 647, 648, 649, 650, 651, 652, 653, 654, 655] (by decide +kernel) (by decide +kernel)) (goodIn_sub (fun _ h => List.mem_append_right _ h) (by decide +kernel))
set_option maxRecDepth 20000 in
theorem gL_law_L_length : GoodIn wsL_law (va_wsS RL 180 yL_length wsL_length) := goodIn_app (goodIn_of _ (by decide +kernel)) ggL_law_L_length
set_option maxRecDepth 20000 in
theorem ggL_law_X2_length : GoodIn wsL_law wsX2_length := goodIn_r _ [386, 81, 125, 126, 127, 5, 128, 82, 86, 87, 88, 235, 236, 237, 238, 32, 239, 240, 241, 242, 35, 37, 34, 89, 90, 91, 92, 635, 636, 637, 638, 639, 640, 641, 642, 643, 644, 645] (by decide +kernel) (by decide +kernel)
set_option maxRecDepth 20000 in
theorem gL_law_X2_length : GoodIn wsL_law (wsV RL 182 RX2 yX2_length wsX2_length) := goodIn_app (goodIn_of _ (by decide +kernel)) ggL_law_X2_length
set_option maxRecDepth 20000 in
theorem ggL_law_X1_longest : GoodIn wsL_law wsX1_longest := goodIn_r _ [390, 53, 14, 391, 182, 183, 184, 228, 16, 229, 230, 27, 72, 633, 634, 646, 647, 648, 649, 650, 651, 652, 653, 654, 655] (by decide +kernel) (by decide +kernel)
set_option maxRecDepth 20000 in
theorem gL_law_X1_longest : GoodIn wsL_law (wsV RL 183 RX1 yX1_longest wsX1_longest) := goodIn_app (goodIn_of _ (by decide +kernel)) ggL_law_X1_longest
set_option maxRecDepth 20000 in
theorem ggL_law_X2_longest : GoodIn wsL_law wsX2_longest := goodIn_r _ [395, 396, 397, 398, 5, 399, 82, 181, 182, 183, 184, 235, 236, 237, 238, 32, 239, 240, 241, 242, 35, 37, 34, 251, 252, 253, 254, 81, 635, 636, 637, 638, 639, 640, 641, 642, 643, 644, 645] (by decide +kernel) (by decide +kernel)
set_option maxRecDepth 20000 in
theorem gL_law_X2_longest : GoodIn wsL_law (wsV RL 186 RX2 yX2_longest wsX2_longest) := goodIn_app (goodIn_of _ (by decide +kernel)) ggL_law_X2_longest
set_option maxRecDepth 20000 in
theorem ggL_law_L_signAt : GoodIn wsL_law wsL_signAt := goodIn_ca (goodIn_ca (goodIn_r _ [402, 104, 45, 403, 404, 405, 2, 406, 407, 109, 110, 111, 112, 113, 114, 53, 14, 57, 58, 59, 60, 61, 408, 16, 409, 410, 72, 27, 633, 634, 646, 647, 648, 649, 650, 651, 652, 653, 654, 655] (by decide +kernel) (by decide +kernel)) (goodIn_sub (fun _ h => List.mem_append_right _ h) (by decide +kernel))) (goodIn_sub (fun _ h => List.mem_append_left _ (List.mem_append_right _ h)) (by decide +kernel))
set_option maxRecDepth 20000 in
theorem gL_law_L_signAt : GoodIn wsL_law (va_wsS RL 187 yL_signAt wsL_signAt) := goodIn_app (goodIn_of _ (by decide +kernel)) ggL_law_L_signAt
set_option maxRecDepth 20000 in
theorem ggL_law_X2_signAt : GoodIn wsL_law wsX2_signAt := goodIn_r _ [414, 81, 32, 125, 126, 127, 5, 128, 82, 86, 87, 88, 89, 90, 91, 92, 239, 240, 241, 242, 35, 37, 34, 635, 636, 637, 638, 639, 640, 641, 642, 643, 644, 645] (by decide +kernel) (by decide +kernel)
set_option maxRecDepth 20000 in
theorem gL_law_X2_signAt : GoodIn wsL_law (wsV RL 189 RX2 yX2_signAt wsX2_signAt) := goodIn_app (goodIn_of _ (by decide +kernel)) ggL_law_X2_signAt
set_option maxRecDepth 20000 in
theorem ggL_law_L_clefOf : GoodIn wsL_law wsL_clefOf := goodIn_ca (goodIn_r _ [417, 104, 418, 419, 420, 2, 421, 109, 110, 111, 112, 113, 114, 53, 14, 646, 647, 648, 649, 650, 651, 652, 653, 654, 655, 633, 634] (by decide +kernel) (by decide +kernel)) (goodIn_sub (fun _ h => List.mem_append_right _ h) (by decide +kernel))
set_option maxRecDepth 20000 in
theorem gL_law_L_clefOf : GoodIn wsL_law (va_wsS RL 190 yL_clefOf wsL_clefOf) := goodIn_app (goodIn_of _ (by decide +kernel)) ggL_law_L_clefOf
set_option maxRecDepth 20000 in
theorem ggL_law_X2_clefOf : GoodIn wsL_law wsX2_clefOf := goodIn_r _ [425, 81, 33, 125, 126, 127, 5, 128, 82, 86, 87, 88, 89, 90, 91, 92, 635, 636, 637, 638, 639, 640, 641, 642, 643, 644, 645] (by decide +kernel) (by decide +kernel)
set_option maxRecDepth 20000 in
theorem gL_law_X2_clefOf : GoodIn wsL_law (wsV RL 192 RX2 yX2_clefOf wsX2_clefOf) := goodIn_app (goodIn_of _ (by decide +kernel)) ggL_law_X2_clefOf
set_option maxRecDepth 20000 in
theorem ggL_law_L_pitchOf : GoodIn wsL_law wsL_pitchOf := goodIn_ca (goodIn_ca (goodIn_r _ [428, 104, 46, 429, 430, 431, 2, 432, 192, 193, 194, 195, 113, 114, 109, 110, 111, 112, 53, 14, 433, 434, 435, 51, 52, 196, 16, 197, 198, 23, 646, 647, 648, 649, 650, 651, 652, 653, 654, 655, 633, 634] (by decide +kernel) (by decide +kernel)) (goodIn_sub (fun _ h => List.mem_append_right _ h) (by decide +kernel))) (goodIn_sub (fun _ h => List.mem_append_left _ (List.mem_append_left _ (List.mem_append_right _ h))) (by decide +kernel))
set_option maxRecDepth 20000 in
theorem gL_law_L_pitchOf : GoodIn wsL_law (va_wsS RL 193 yL_pitchOf wsL_pitchOf) := goodIn_app (goodIn_of _ (by decide +kernel)) ggL_law_L_pitchOf
set_option maxRecDepth 20000 in
theorem ggL_law_X2_pitchOf : GoodIn wsL_law wsX2_pitchOf := goodIn_r _ [439, 81, 33, 36, 206, 207, 208, 5, 209, 32, 125, 126, 127, 128, 82, 86, 87, 88, 89, 90, 91, 92, 635, 636, 637, 638, 639, 640, 641, 642, 643, 644, 645] (by decide +kernel) (by decide +kernel)
set_option maxRecDepth 20000 in
theorem gL_law_X2_pitchOf : GoodIn wsL_law (wsV RL 195 RX2 yX2_pitchOf wsX2_pitchOf) := goodIn_app (goodIn_of _ (by decide +kernel)) ggL_law_X2_pitchOf
set_option maxRecDepth 20000 in
theorem ggL_law_L_fits : GoodIn wsL_law wsL_fits := goodIn_ca (goodIn_ca (goodIn_r _ [442, 104, 45, 443, 444, 445, 2, 446, 109, 110, 111, 112, 113, 114, 53, 14, 57, 58, 59, 60, 61, 447, 16, 448, 449, 72, 23, 276, 196, 197, 198, 633, 634, 646, 647, 648, 649, 650, 651, 652, 653, 654, 655] (by decide +kernel) (by decide +kernel)) (goodIn_sub (fun _ h => List.mem_append_right _ h) (by decide +kernel))) (goodIn_sub (fun _ h => List.mem_append_left _ (List.mem_append_right _ h)) (by decide +kernel))
set_option maxRecDepth 20000 in
theorem gL_law_L_fits : GoodIn wsL_law (va_wsS RL 196 yL_fits wsL_fits) := goodIn_app (goodIn_of _ (by decide +kernel)) ggL_law_L_fits
set_option maxRecDepth 20000 in
theorem ggL_law_X2_fits : GoodIn wsL_law wsX2_fits := goodIn_r _ [453, 81, 125, 126, 127, 5, 128, 82, 86, 87, 88, 454, 455, 456, 457, 32, 36, 635, 636, 637, 638, 639, 640, 641, 642, 643, 644, 645] (by decide +kernel) (by decide +kernel)
set_option maxRecDepth 20000 in
theorem gL_law_X2_fits : GoodIn wsL_law (wsV RL 198 RX2 yX2_fits wsX2_fits) := goodIn_app (goodIn_of _ (by decide +kernel)) ggL_law_X2_fits
set_option maxRecDepth 20000 in
theorem ggL_law_L_clefsThatFit : GoodIn wsL_law wsL_clefsThatFit := goodIn_ca (goodIn_r _ [460, 104, 461, 462, 463, 2, 464, 109, 110, 111, 112, 113, 114, 53, 14, 465, 16, 466, 467, 468, 447, 448, 449, 72, 23, 276, 196, 197, 198, 633, 634, 646, 647, 648, 649, 650, 651, 652, 653, 654, 655] (by decide +kernel) (by decide +kernel)) (goodIn_sub (fun _ h => List.mem_append_right _ h) (by decide +kernel))
set_option maxRecDepth 20000 in
theorem gL_law_L_clefsThatFit : GoodIn wsL_law (va_wsS RL 199 yL_clefsThatFit wsL_clefsThatFit) := goodIn_app (goodIn_of _ (by decide +kernel)) ggL_law_L_clefsThatFit
set_option maxRecDepth 20000 in
theorem ggL_law_X2_clefsThatFit : GoodIn wsL_law wsX2_clefsThatFit := goodIn_r _ [472, 81, 125, 126, 127, 5, 128, 82, 86, 87, 88, 473, 474, 475, 476, 454, 455, 456, 457, 32, 36, 89, 90, 91, 92, 635, 636, 637, 638, 639, 640, 641, 642, 643, 644, 645] (by decide +kernel) (by decide +kernel)
set_option maxRecDepth 20000 in
theorem gL_law_X2_clefsThatFit : GoodIn wsL_law (wsV RL 201 RX2 yX2_clefsThatFit wsX2_clefsThatFit) := goodIn_app (goodIn_of _ (by decide +kernel)) ggL_law_X2_clefsThatFit
set_option maxRecDepth 20000 in
theorem ggL_law_L_clashes : GoodIn wsL_law wsL_clashes := goodIn_ca (goodIn_ca (goodIn_r _ [479, 104, 46, 480, 481, 482, 2, 483, 109, 110, 111, 112, 113, 114, 53, 14, 433, 434, 435, 51, 52, 484, 485, 486, 391, 182, 183, 184, 487, 488, 489, 490, 491, 492, 493, 494, 495, 196, 16, 197, 198, 23, 646, 647, 648, 649, 650, 651, 652, 653, 654, 655, 633, 634] (by decide +kernel) (by decide +kernel)) (goodIn_sub (fun _ h => List.mem_append_right _ h) (by decide +kernel))) (goodIn_sub (fun _ h => List.mem_append_left _ (List.mem_append_left _ (List.mem_append_right _ h))) (by decide +kernel))
set_option maxRecDepth 20000 in
theorem gL_law_L_clashes : GoodIn wsL_law (va_wsS RL 202 yL_clashes wsL_clashes) := goodIn_app (goodIn_of _ (by decide +kernel)) ggL_law_L_clashes
set_option maxRecDepth 20000 in
theorem ggL_law_X2_clashes : GoodIn wsL_law wsX2_clashes := goodIn_r _ [499, 500, 501, 502, 5, 503, 81, 33, 125, 126, 127, 128, 82, 86, 87, 88, 89, 90, 91, 92, 504, 505, 506, 507, 39, 40, 508, 488, 183, 489, 509, 510, 511, 512, 32, 36, 239, 240, 241, 242, 35, 37, 34, 513, 514, 515, 516, 494, 495, 635, 636, 637, 638, 639, 640, 641, 642, 643, 644, 645] (by decide +kernel) (by decide +kernel)
set_option maxRecDepth 20000 in
theorem gL_law_X2_clashes : GoodIn wsL_law (wsV RL 204 RX2 yX2_clashes wsX2_clashes) := goodIn_app (goodIn_of _ (by decide +kernel)) ggL_law_X2_clashes
set_option maxRecDepth 20000 in
theorem ggL_law_L_firstClash : GoodIn wsL_law wsL_firstClash := goodIn_ca (goodIn_ca (goodIn_r _ [519, 104, 46, 520, 521, 522, 2, 523, 109, 110, 111, 112, 113, 114, 53, 14, 433, 434, 435, 51, 52, 524, 525, 526, 391, 182, 183, 184, 487, 488, 489, 490, 491, 492, 493, 494, 495, 196, 16, 197, 198, 23, 646, 647, 648, 649, 650, 651, 652, 653, 654, 655, 633, 634] (by decide +kernel) (by decide +kernel)) (goodIn_sub (fun _ h => List.mem_append_right _ h) (by decide +kernel))) (goodIn_sub (fun _ h => List.mem_append_left _ (List.mem_append_left _ (List.mem_append_right _ h))) (by decide +kernel))
set_option maxRecDepth 20000 in
theorem gL_law_L_firstClash : GoodIn wsL_law (va_wsS RL 205 yL_firstClash wsL_firstClash) := goodIn_app (goodIn_of _ (by decide +kernel)) ggL_law_L_firstClash
set_option maxRecDepth 20000 in
theorem ggL_law_X2_firstClash : GoodIn wsL_law wsX2_firstClash := goodIn_r _ [530, 500, 501, 502, 5, 503, 81, 33, 125, 126, 127, 128, 82, 86, 87, 88, 89, 90, 91, 92, 504, 505, 506, 507, 39, 40, 508, 488, 183, 489, 509, 510, 511, 512, 32, 36, 239, 240, 241, 242, 35, 37, 34, 513, 514, 515, 516, 494, 495, 635, 636, 637, 638, 639, 640, 641, 642, 643, 644, 645] (by decide +kernel) (by decide +kernel)
set_option maxRecDepth 20000 in
theorem gL_law_X2_firstClash : GoodIn wsL_law (wsV RL 207 RX2 yX2_firstClash wsX2_firstClash) := goodIn_app (goodIn_of _ (by decide +kernel)) ggL_law_X2_firstClash
set_option maxRecDepth 20000 in
theorem ggL_law_L_clashesWith : GoodIn wsL_law wsL_clashesWith := goodIn_ca (goodIn_ca (goodIn_r _ [533, 104, 45, 534, 535, 536, 2, 537, 109, 110, 111, 112, 113, 114, 53, 14, 57, 58, 59, 60, 61, 538, 539, 540, 541, 484, 485, 486, 391, 182, 183, 184, 487, 488, 489, 490, 491, 492, 493, 494, 495, 196, 16, 197, 198, 23, 633, 634, 646, 647, 648, 649, 650, 651, 652, 653, 654, 655] (by decide +kernel) (by decide +kernel)) (goodIn_sub (fun _ h => List.mem_append_right _ h) (by decide +kernel))) (goodIn_sub (fun _ h => List.mem_append_left _ (List.mem_append_right _ h)) (by decide +kernel))
set_option maxRecDepth 20000 in
theorem gL_law_L_clashesWith : GoodIn wsL_law (va_wsS RL 208 yL_clashesWith wsL_clashesWith) := goodIn_app (goodIn_of _ (by decide +kernel)) ggL_law_L_clashesWith
set_option maxRecDepth 20000 in
theorem ggL_law_X2_clashesWith : GoodIn wsL_law wsX2_clashesWith := goodIn_r _ [545, 81, 125, 126, 127, 5, 128, 82, 86, 87, 88, 89, 90, 91, 92, 546, 547, 548, 549, 33, 504, 505, 506, 507, 39, 40, 508, 488, 183, 489, 509, 510, 511, 512, 32, 36, 239, 240, 241, 242, 35, 37, 34, 513, 514, 515, 516, 494, 495, 635, 636, 637, 638, 639, 640, 641, 642, 643, 644, 645] (by decide +kernel) (by decide +kernel)
set_option maxRecDepth 20000 in
theorem gL_law_X2_clashesWith : GoodIn wsL_law (wsV RL 210 RX2 yX2_clashesWith wsX2_clashesWith) := goodIn_app (goodIn_of _ (by decide +kernel)) ggL_law_X2_clashesWith
set_option maxRecDepth 20000 in
theorem ggL_law_L_bestClef : GoodIn wsL_law wsL_bestClef := goodIn_ca (goodIn_r _ [552, 104, 553, 554, 555, 2, 556, 109, 110, 111, 112, 113, 114, 53, 14, 557, 558, 559, 560, 407, 447, 16, 448, 449, 72, 23, 276, 196, 197, 198, 538, 539, 540, 541, 484, 485, 486, 391, 182, 183, 184, 487, 488, 489, 490, 491, 492, 493, 494, 495, 633, 634, 646, 647, 648, 649, 650, 651, 652, 653, 654, 655] (by decide +kernel) (by decide +kernel)) (goodIn_sub (fun _ h => List.mem_append_right _ h) (by decide +kernel))
set_option maxRecDepth 20000 in
theorem gL_law_L_bestClef : GoodIn wsL_law (va_wsS RL 211 yL_bestClef wsL_bestClef) := goodIn_app (goodIn_of _ (by decide +kernel)) ggL_law_L_bestClef
set_option maxRecDepth 20000 in
theorem ggL_law_X2_bestClef : GoodIn wsL_law wsX2_bestClef := goodIn_r _ [564, 81, 125, 126, 127, 5, 128, 82, 86, 87, 88, 565, 566, 567, 568, 454, 455, 456, 457, 32, 36, 546, 547, 548, 549, 33, 504, 505, 506, 507, 39, 40, 508, 488, 183, 489, 509, 510, 511, 512, 239, 240, 241, 242, 35, 37, 34, 513, 514, 515, 516, 494, 495, 89, 90, 91, 92, 635, 636, 637, 638, 639, 640, 641, 642, 643, 644, 645] (by decide +kernel) (by decide +kernel)
set_option maxRecDepth 20000 in
theorem gL_law_X2_bestClef : GoodIn wsL_law (wsV RL 213 RX2 yX2_bestClef wsX2_bestClef) := goodIn_app (goodIn_of _ (by decide +kernel)) ggL_law_X2_bestClef
set_option maxRecDepth 20000 in
theorem ggL_law_L_canonClashes : GoodIn wsL_law wsL_canonClashes := goodIn_ca (goodIn_ca (goodIn_r _ [571, 104, 45, 572, 573, 574, 2, 575, 109, 110, 111, 112, 113, 114, 53, 14, 57, 58, 59, 60, 61, 484, 485, 486, 391, 182, 183, 184, 487, 488, 489, 490, 491, 492, 493, 494, 495, 196, 16, 197, 198, 23, 633, 634, 646, 647, 648, 649, 650, 651, 652, 653, 654, 655] (by decide +kernel) (by decide +kernel)) (goodIn_sub (fun _ h => List.mem_append_right _ h) (by decide +kernel))) (goodIn_sub (fun _ h => List.mem_append_left _ (List.mem_append_right _ h)) (by decide +kernel))
set_option maxRecDepth 20000 in
theorem gL_law_L_canonClashes : GoodIn wsL_law (va_wsS RL 214 yL_canonClashes wsL_canonClashes) := goodIn_app (goodIn_of _ (by decide +kernel)) ggL_law_L_canonClashes
set_option maxRecDepth 20000 in
theorem ggL_law_X2_canonClashes : GoodIn wsL_law wsX2_canonClashes := goodIn_r _ [579, 81, 39, 125, 126, 127, 5, 128, 82, 86, 87, 88, 89, 90, 91, 92, 509, 510, 511, 512, 32, 36, 239, 240, 241, 242, 35, 37, 34, 580, 581, 582, 583, 513, 514, 515, 516, 494, 183, 495, 635, 636, 637, 638, 639, 640, 641, 642, 643, 644, 645] (by decide +kernel) (by decide +kernel)
set_option maxRecDepth 20000 in
theorem gL_law_X2_canonClashes : GoodIn wsL_law (wsV RL 216 RX2 yX2_canonClashes wsX2_canonClashes) := goodIn_app (goodIn_of _ (by decide +kernel)) ggL_law_X2_canonClashes
set_option maxRecDepth 20000 in
theorem ggL_law_L_bestDelay : GoodIn wsL_law wsL_bestDelay := goodIn_ca (goodIn_ca (goodIn_r _ [586, 104, 45, 587, 588, 589, 2, 590, 109, 110, 111, 112, 113, 114, 53, 14, 57, 58, 59, 60, 61, 591, 592, 593, 407, 484, 485, 486, 391, 182, 183, 184, 487, 488, 489, 490, 491, 492, 493, 494, 495, 196, 16, 197, 198, 23, 633, 634, 646, 647, 648, 649, 650, 651, 652, 653, 654, 655] (by decide +kernel) (by decide +kernel)) (goodIn_sub (fun _ h => List.mem_append_right _ h) (by decide +kernel))) (goodIn_sub (fun _ h => List.mem_append_left _ (List.mem_append_right _ h)) (by decide +kernel))
set_option maxRecDepth 20000 in
theorem gL_law_L_bestDelay : GoodIn wsL_law (va_wsS RL 217 yL_bestDelay wsL_bestDelay) := goodIn_app (goodIn_of _ (by decide +kernel)) ggL_law_L_bestDelay
set_option maxRecDepth 20000 in
theorem ggL_law_X2_bestDelay : GoodIn wsL_law wsX2_bestDelay := goodIn_r _ [597, 81, 125, 126, 127, 5, 128, 82, 86, 87, 88, 89, 90, 91, 92, 598, 599, 600, 601, 39, 509, 510, 511, 512, 32, 36, 239, 240, 241, 242, 35, 37, 34, 580, 581, 582, 583, 513, 514, 515, 516, 494, 183, 495, 635, 636, 637, 638, 639, 640, 641, 642, 643, 644, 645] (by decide +kernel) (by decide +kernel)
set_option maxRecDepth 20000 in
theorem gL_law_X2_bestDelay : GoodIn wsL_law (wsV RL 219 RX2 yX2_bestDelay wsX2_bestDelay) := goodIn_app (goodIn_of _ (by decide +kernel)) ggL_law_X2_bestDelay
set_option maxRecDepth 20000 in
theorem ggL_law_X1_meanLength : GoodIn wsL_law wsX1_meanLength := goodIn_r _ [605, 53, 14, 228, 16, 229, 230, 27, 72, 633, 634, 646, 647, 648, 649, 650, 651, 652, 653, 654, 655] (by decide +kernel) (by decide +kernel)
set_option maxRecDepth 20000 in
theorem gL_law_X1_meanLength : GoodIn wsL_law (wsV RL 220 RX1 yX1_meanLength wsX1_meanLength) := goodIn_app (goodIn_of _ (by decide +kernel)) ggL_law_X1_meanLength
set_option maxRecDepth 20000 in
theorem ggL_law_X2_meanLength : GoodIn wsL_law wsX2_meanLength := goodIn_r _ [609, 81, 82, 235, 236, 237, 5, 238, 32, 239, 240, 241, 242, 35, 37, 34, 635, 636, 637, 638, 639, 640, 641, 642, 643, 644, 645] (by decide +kernel) (by decide +kernel)
set_option maxRecDepth 20000 in
theorem gL_law_X2_meanLength : GoodIn wsL_law (wsV RL 224 RX2 yX2_meanLength wsX2_meanLength) := goodIn_app (goodIn_of _ (by decide +kernel)) ggL_law_X2_meanLength
set_option maxRecDepth 20000 in
theorem ggL_law_X1_digest : GoodIn wsL_law wsX1_digest := goodIn_r _ [613, 614, 53, 14, 615, 616, 2, 617, 618, 619, 388, 389, 390, 391, 182, 183, 184, 228, 16, 229, 230, 27, 72, 620, 621, 622, 623, 273, 274, 275, 276, 196, 197, 198, 23, 292, 293, 294, 26, 465, 466, 467, 468, 447, 448, 449, 557, 558, 559, 560, 407, 538, 539, 540, 541, 484, 485, 486, 487, 488, 489, 490, 491, 492, 493, 494, 495, 591, 592, 593, 624, 625, 626, 354, 355, 356, 633, 634, 646, 647, 648, 649, 650, 651, 652, 653, 654, 655] (by decide +kernel) (by decide +kernel)
set_option maxRecDepth 20000 in
theorem gL_law_X1_digest : GoodIn wsL_law (wsV RL 225 RX1 yX1_digest wsX1_digest) := goodIn_app (goodIn_of _ (by decide +kernel)) ggL_law_X1_digest
set_option maxRecDepth 20000 in
theorem ggL_law_X2_digest : GoodIn wsL_law wsX2_digest := goodIn_r _ [630, 81, 631, 632, 82, 21, 32, 33, 39, 35, 36, 38, 396, 397, 398, 5, 399, 181, 182, 183, 184, 235, 236, 237, 238, 239, 240, 241, 242, 37, 34, 281, 282, 283, 284, 473, 474, 475, 476, 454, 455, 456, 457, 86, 87, 88, 565, 566, 567, 568, 546, 547, 548, 549, 504, 505, 506, 507, 40, 508, 488, 489, 509, 510, 511, 512, 513, 514, 515, 516, 494, 495, 580, 581, 582, 583, 598, 599, 600, 601, 372, 373, 374, 375, 635, 636, 637, 638, 639, 640, 641, 642, 643, 644, 645] (by decide +kernel) (by decide +kernel)
set_option maxRecDepth 20000 in
theorem gL_law_X2_digest : GoodIn wsL_law (wsV RL 229 RX2 yX2_digest wsX2_digest) := goodIn_app (goodIn_of _ (by decide +kernel)) ggL_law_X2_digest
abbrev vwCl : List vw_C := [(RX0, TX0, 10), (RX1, TX1, 2), (RX2, TX2, 11)]

