theorem dL_addVoice_0 : decode cL_addVoice 0 = .ok (.aload 4, 2) := by decide +kernel
theorem dL_addVoice_2 : decode cL_addVoice 2 = .ok (.iconst 0, 1) := by decide +kernel
theorem dL_addVoice_3 : decode cL_addVoice 3 = .ok (.aload_n 0, 1) := by decide +kernel
theorem dL_addVoice_4 : decode cL_addVoice 4 = .ok (.iload_n 1, 1) := by decide +kernel
theorem dL_addVoice_5 : decode cL_addVoice 5 = .ok (.iload_n 2, 1) := by decide +kernel
theorem dL_addVoice_6 : decode cL_addVoice 6 = .ok (.iload_n 3, 1) := by decide +kernel
theorem dL_addVoice_7 : decode cL_addVoice 7 = .ok (.invokevirtual 7, 3) := by decide +kernel
theorem dL_addVoice_10 : decode cL_addVoice 10 = .ok (.i2l, 1) := by decide +kernel
theorem dL_addVoice_11 : decode cL_addVoice 11 = .ok (.lastore, 1) := by decide +kernel
theorem dL_addVoice_12 : decode cL_addVoice 12 = .ok (.goto 11, 3) := by decide +kernel
theorem dL_addVoice_15 : decode cL_addVoice 15 = .ok (.astore 5, 2) := by decide +kernel
theorem dL_addVoice_17 : decode cL_addVoice 17 = .ok (.iconst 1, 1) := by decide +kernel
theorem dL_addVoice_18 : decode cL_addVoice 18 = .ok (.ireturn, 1) := by decide +kernel
theorem dL_addVoice_19 : decode cL_addVoice 19 = .ok (.astore 5, 2) := by decide +kernel
theorem dL_addVoice_21 : decode cL_addVoice 21 = .ok (.iconst 2, 1) := by decide +kernel
theorem dL_addVoice_22 : decode cL_addVoice 22 = .ok (.ireturn, 1) := by decide +kernel
theorem dL_addVoice_23 : decode cL_addVoice 23 = .ok (.iconst 0, 1) := by decide +kernel
theorem dL_addVoice_24 : decode cL_addVoice 24 = .ok (.ireturn, 1) := by decide +kernel
theorem dL_addNote_0 : decode cL_addNote 0 = .ok (.aload 5, 2) := by decide +kernel
theorem dL_addNote_2 : decode cL_addNote 2 = .ok (.iconst 0, 1) := by decide +kernel
theorem dL_addNote_3 : decode cL_addNote 3 = .ok (.aload_n 0, 1) := by decide +kernel
theorem dL_addNote_4 : decode cL_addNote 4 = .ok (.iload_n 1, 1) := by decide +kernel
theorem dL_addNote_5 : decode cL_addNote 5 = .ok (.iload_n 2, 1) := by decide +kernel
theorem dL_addNote_6 : decode cL_addNote 6 = .ok (.iload_n 3, 1) := by decide +kernel
theorem dL_addNote_7 : decode cL_addNote 7 = .ok (.iload 4, 2) := by decide +kernel
theorem dL_addNote_9 : decode cL_addNote 9 = .ok (.invokevirtual 17, 3) := by decide +kernel
theorem dL_addNote_12 : decode cL_addNote 12 = .ok (.i2l, 1) := by decide +kernel
theorem dL_addNote_13 : decode cL_addNote 13 = .ok (.lastore, 1) := by decide +kernel
theorem dL_addNote_14 : decode cL_addNote 14 = .ok (.goto 15, 3) := by decide +kernel
theorem dL_addNote_17 : decode cL_addNote 17 = .ok (.astore 6, 2) := by decide +kernel
theorem dL_addNote_19 : decode cL_addNote 19 = .ok (.iconst 1, 1) := by decide +kernel
theorem dL_addNote_20 : decode cL_addNote 20 = .ok (.ireturn, 1) := by decide +kernel
theorem dL_addNote_21 : decode cL_addNote 21 = .ok (.astore 6, 2) := by decide +kernel
theorem dL_addNote_23 : decode cL_addNote 23 = .ok (.iconst 2, 1) := by decide +kernel
theorem dL_addNote_24 : decode cL_addNote 24 = .ok (.ireturn, 1) := by decide +kernel
theorem dL_addNote_25 : decode cL_addNote 25 = .ok (.astore 6, 2) := by decide +kernel
theorem dL_addNote_27 : decode cL_addNote 27 = .ok (.iconst 3, 1) := by decide +kernel
theorem dL_addNote_28 : decode cL_addNote 28 = .ok (.ireturn, 1) := by decide +kernel
theorem dL_addNote_29 : decode cL_addNote 29 = .ok (.iconst 0, 1) := by decide +kernel
theorem dL_addNote_30 : decode cL_addNote 30 = .ok (.ireturn, 1) := by decide +kernel
theorem dL_addRest_0 : decode cL_addRest 0 = .ok (.aload_n 3, 1) := by decide +kernel
theorem dL_addRest_1 : decode cL_addRest 1 = .ok (.iconst 0, 1) := by decide +kernel
theorem dL_addRest_2 : decode cL_addRest 2 = .ok (.aload_n 0, 1) := by decide +kernel
theorem dL_addRest_3 : decode cL_addRest 3 = .ok (.iload_n 1, 1) := by decide +kernel
theorem dL_addRest_4 : decode cL_addRest 4 = .ok (.iload_n 2, 1) := by decide +kernel
theorem dL_addRest_5 : decode cL_addRest 5 = .ok (.invokevirtual 23, 3) := by decide +kernel
theorem dL_addRest_8 : decode cL_addRest 8 = .ok (.i2l, 1) := by decide +kernel
theorem dL_addRest_9 : decode cL_addRest 9 = .ok (.lastore, 1) := by decide +kernel
theorem dL_addRest_10 : decode cL_addRest 10 = .ok (.goto 15, 3) := by decide +kernel
theorem dL_addRest_13 : decode cL_addRest 13 = .ok (.astore 4, 2) := by decide +kernel
theorem dL_addRest_15 : decode cL_addRest 15 = .ok (.iconst 1, 1) := by decide +kernel
theorem dL_addRest_16 : decode cL_addRest 16 = .ok (.ireturn, 1) := by decide +kernel
theorem dL_addRest_17 : decode cL_addRest 17 = .ok (.astore 4, 2) := by decide +kernel
theorem dL_addRest_19 : decode cL_addRest 19 = .ok (.iconst 2, 1) := by decide +kernel
theorem dL_addRest_20 : decode cL_addRest 20 = .ok (.ireturn, 1) := by decide +kernel
theorem dL_addRest_21 : decode cL_addRest 21 = .ok (.astore 4, 2) := by decide +kernel
theorem dL_addRest_23 : decode cL_addRest 23 = .ok (.iconst 3, 1) := by decide +kernel
theorem dL_addRest_24 : decode cL_addRest 24 = .ok (.ireturn, 1) := by decide +kernel
theorem dL_addRest_25 : decode cL_addRest 25 = .ok (.iconst 0, 1) := by decide +kernel
theorem dL_addRest_26 : decode cL_addRest 26 = .ok (.ireturn, 1) := by decide +kernel
theorem dL_addLigature_0 : decode cL_addLigature 0 = .ok (.aload 6, 2) := by decide +kernel
theorem dL_addLigature_2 : decode cL_addLigature 2 = .ok (.iconst 0, 1) := by decide +kernel
theorem dL_addLigature_3 : decode cL_addLigature 3 = .ok (.aload_n 0, 1) := by decide +kernel
theorem dL_addLigature_4 : decode cL_addLigature 4 = .ok (.iload_n 1, 1) := by decide +kernel
theorem dL_addLigature_5 : decode cL_addLigature 5 = .ok (.iload_n 2, 1) := by decide +kernel
theorem dL_addLigature_6 : decode cL_addLigature 6 = .ok (.iload_n 3, 1) := by decide +kernel
theorem dL_addLigature_7 : decode cL_addLigature 7 = .ok (.iload 4, 2) := by decide +kernel
theorem dL_addLigature_9 : decode cL_addLigature 9 = .ok (.iload 5, 2) := by decide +kernel
theorem dL_addLigature_11 : decode cL_addLigature 11 = .ok (.invokevirtual 27, 3) := by decide +kernel
theorem dL_addLigature_14 : decode cL_addLigature 14 = .ok (.i2l, 1) := by decide +kernel
theorem dL_addLigature_15 : decode cL_addLigature 15 = .ok (.lastore, 1) := by decide +kernel
theorem dL_addLigature_16 : decode cL_addLigature 16 = .ok (.goto 15, 3) := by decide +kernel
theorem dL_addLigature_19 : decode cL_addLigature 19 = .ok (.astore 7, 2) := by decide +kernel
theorem dL_addLigature_21 : decode cL_addLigature 21 = .ok (.iconst 1, 1) := by decide +kernel
theorem dL_addLigature_22 : decode cL_addLigature 22 = .ok (.ireturn, 1) := by decide +kernel
theorem dL_addLigature_23 : decode cL_addLigature 23 = .ok (.astore 7, 2) := by decide +kernel
theorem dL_addLigature_25 : decode cL_addLigature 25 = .ok (.iconst 2, 1) := by decide +kernel
theorem dL_addLigature_26 : decode cL_addLigature 26 = .ok (.ireturn, 1) := by decide +kernel
theorem dL_addLigature_27 : decode cL_addLigature 27 = .ok (.astore 7, 2) := by decide +kernel
theorem dL_addLigature_29 : decode cL_addLigature 29 = .ok (.iconst 3, 1) := by decide +kernel
theorem dL_addLigature_30 : decode cL_addLigature 30 = .ok (.ireturn, 1) := by decide +kernel
theorem dL_addLigature_31 : decode cL_addLigature 31 = .ok (.iconst 0, 1) := by decide +kernel
theorem dL_addLigature_32 : decode cL_addLigature 32 = .ok (.ireturn, 1) := by decide +kernel
theorem dL_erase_0 : decode cL_erase 0 = .ok (.aload_n 2, 1) := by decide +kernel
theorem dL_erase_1 : decode cL_erase 1 = .ok (.iconst 0, 1) := by decide +kernel
theorem dL_erase_2 : decode cL_erase 2 = .ok (.aload_n 0, 1) := by decide +kernel
theorem dL_erase_3 : decode cL_erase 3 = .ok (.iload_n 1, 1) := by decide +kernel
theorem dL_erase_4 : decode cL_erase 4 = .ok (.invokevirtual 31, 3) := by decide +kernel
theorem dL_erase_7 : decode cL_erase 7 = .ok (.i2l, 1) := by decide +kernel
theorem dL_erase_8 : decode cL_erase 8 = .ok (.lastore, 1) := by decide +kernel
theorem dL_erase_9 : decode cL_erase 9 = .ok (.goto 9, 3) := by decide +kernel
theorem dL_erase_12 : decode cL_erase 12 = .ok (.astore_n 3, 1) := by decide +kernel
theorem dL_erase_13 : decode cL_erase 13 = .ok (.iconst 1, 1) := by decide +kernel
theorem dL_erase_14 : decode cL_erase 14 = .ok (.ireturn, 1) := by decide +kernel
theorem dL_erase_15 : decode cL_erase 15 = .ok (.astore_n 3, 1) := by decide +kernel
theorem dL_erase_16 : decode cL_erase 16 = .ok (.iconst 2, 1) := by decide +kernel
theorem dL_erase_17 : decode cL_erase 17 = .ok (.ireturn, 1) := by decide +kernel
theorem dL_erase_18 : decode cL_erase 18 = .ok (.iconst 0, 1) := by decide +kernel
theorem dL_erase_19 : decode cL_erase 19 = .ok (.ireturn, 1) := by decide +kernel
theorem dL_recolour_0 : decode cL_recolour 0 = .ok (.aload_n 3, 1) := by decide +kernel
theorem dL_recolour_1 : decode cL_recolour 1 = .ok (.iconst 0, 1) := by decide +kernel
theorem dL_recolour_2 : decode cL_recolour 2 = .ok (.aload_n 0, 1) := by decide +kernel
theorem dL_recolour_3 : decode cL_recolour 3 = .ok (.iload_n 1, 1) := by decide +kernel
theorem dL_recolour_4 : decode cL_recolour 4 = .ok (.iload_n 2, 1) := by decide +kernel
theorem dL_recolour_5 : decode cL_recolour 5 = .ok (.invokevirtual 35, 3) := by decide +kernel
theorem dL_recolour_8 : decode cL_recolour 8 = .ok (.ifCond .eq 7, 3) := by decide +kernel
theorem dL_recolour_11 : decode cL_recolour 11 = .ok (.lconst 1, 1) := by decide +kernel
theorem dL_recolour_12 : decode cL_recolour 12 = .ok (.goto 4, 3) := by decide +kernel
theorem dL_recolour_15 : decode cL_recolour 15 = .ok (.lconst 0, 1) := by decide +kernel
theorem dL_recolour_16 : decode cL_recolour 16 = .ok (.lastore, 1) := by decide +kernel
theorem dL_recolour_17 : decode cL_recolour 17 = .ok (.goto 11, 3) := by decide +kernel
theorem dL_recolour_20 : decode cL_recolour 20 = .ok (.astore 4, 2) := by decide +kernel
theorem dL_recolour_22 : decode cL_recolour 22 = .ok (.iconst 1, 1) := by decide +kernel
theorem dL_recolour_23 : decode cL_recolour 23 = .ok (.ireturn, 1) := by decide +kernel
theorem dL_recolour_24 : decode cL_recolour 24 = .ok (.astore 4, 2) := by decide +kernel
theorem dL_recolour_26 : decode cL_recolour 26 = .ok (.iconst 2, 1) := by decide +kernel
theorem dL_recolour_27 : decode cL_recolour 27 = .ok (.ireturn, 1) := by decide +kernel
theorem dL_recolour_28 : decode cL_recolour 28 = .ok (.iconst 0, 1) := by decide +kernel
theorem dL_recolour_29 : decode cL_recolour 29 = .ok (.ireturn, 1) := by decide +kernel
theorem dL_setClef_0 : decode cL_setClef 0 = .ok (.aload_n 3, 1) := by decide +kernel
theorem dL_setClef_1 : decode cL_setClef 1 = .ok (.iconst 0, 1) := by decide +kernel
theorem dL_setClef_2 : decode cL_setClef 2 = .ok (.aload_n 0, 1) := by decide +kernel
theorem dL_setClef_3 : decode cL_setClef 3 = .ok (.iload_n 1, 1) := by decide +kernel
theorem dL_setClef_4 : decode cL_setClef 4 = .ok (.iload_n 2, 1) := by decide +kernel
theorem dL_setClef_5 : decode cL_setClef 5 = .ok (.invokevirtual 39, 3) := by decide +kernel
theorem dL_setClef_8 : decode cL_setClef 8 = .ok (.i2l, 1) := by decide +kernel
theorem dL_setClef_9 : decode cL_setClef 9 = .ok (.lastore, 1) := by decide +kernel
theorem dL_setClef_10 : decode cL_setClef 10 = .ok (.goto 11, 3) := by decide +kernel
theorem dL_setClef_13 : decode cL_setClef 13 = .ok (.astore 4, 2) := by decide +kernel
theorem dL_setClef_15 : decode cL_setClef 15 = .ok (.iconst 1, 1) := by decide +kernel
theorem dL_setClef_16 : decode cL_setClef 16 = .ok (.ireturn, 1) := by decide +kernel
theorem dL_setClef_17 : decode cL_setClef 17 = .ok (.astore 4, 2) := by decide +kernel
theorem dL_setClef_19 : decode cL_setClef 19 = .ok (.iconst 2, 1) := by decide +kernel
theorem dL_setClef_20 : decode cL_setClef 20 = .ok (.ireturn, 1) := by decide +kernel
theorem dL_setClef_21 : decode cL_setClef 21 = .ok (.iconst 0, 1) := by decide +kernel
theorem dL_setClef_22 : decode cL_setClef 22 = .ok (.ireturn, 1) := by decide +kernel
theorem dL_setMensuration_0 : decode cL_setMensuration 0 = .ok (.aload 5, 2) := by decide +kernel
theorem dL_setMensuration_2 : decode cL_setMensuration 2 = .ok (.iconst 0, 1) := by decide +kernel
theorem dL_setMensuration_3 : decode cL_setMensuration 3 = .ok (.aload_n 0, 1) := by decide +kernel
theorem dL_setMensuration_4 : decode cL_setMensuration 4 = .ok (.iload_n 1, 1) := by decide +kernel
theorem dL_setMensuration_5 : decode cL_setMensuration 5 = .ok (.iload_n 2, 1) := by decide +kernel
theorem dL_setMensuration_6 : decode cL_setMensuration 6 = .ok (.iload_n 3, 1) := by decide +kernel
theorem dL_setMensuration_7 : decode cL_setMensuration 7 = .ok (.iload 4, 2) := by decide +kernel
theorem dL_setMensuration_9 : decode cL_setMensuration 9 = .ok (.invokevirtual 42, 3) := by decide +kernel
theorem dL_setMensuration_12 : decode cL_setMensuration 12 = .ok (.i2l, 1) := by decide +kernel
theorem dL_setMensuration_13 : decode cL_setMensuration 13 = .ok (.lastore, 1) := by decide +kernel
theorem dL_setMensuration_14 : decode cL_setMensuration 14 = .ok (.goto 11, 3) := by decide +kernel
theorem dL_setMensuration_17 : decode cL_setMensuration 17 = .ok (.astore 6, 2) := by decide +kernel
theorem dL_setMensuration_19 : decode cL_setMensuration 19 = .ok (.iconst 1, 1) := by decide +kernel
theorem dL_setMensuration_20 : decode cL_setMensuration 20 = .ok (.ireturn, 1) := by decide +kernel
theorem dL_setMensuration_21 : decode cL_setMensuration 21 = .ok (.astore 6, 2) := by decide +kernel
theorem dL_setMensuration_23 : decode cL_setMensuration 23 = .ok (.iconst 2, 1) := by decide +kernel
theorem dL_setMensuration_24 : decode cL_setMensuration 24 = .ok (.ireturn, 1) := by decide +kernel
theorem dL_setMensuration_25 : decode cL_setMensuration 25 = .ok (.iconst 0, 1) := by decide +kernel
theorem dL_setMensuration_26 : decode cL_setMensuration 26 = .ok (.ireturn, 1) := by decide +kernel
theorem dL_signs_0 : decode cL_signs 0 = .ok (.aload_n 2, 1) := by decide +kernel
theorem dL_signs_1 : decode cL_signs 1 = .ok (.iconst 0, 1) := by decide +kernel
theorem dL_signs_2 : decode cL_signs 2 = .ok (.aload_n 0, 1) := by decide +kernel
theorem dL_signs_3 : decode cL_signs 3 = .ok (.iload_n 1, 1) := by decide +kernel
theorem dL_signs_4 : decode cL_signs 4 = .ok (.invokevirtual 46, 3) := by decide +kernel
theorem dL_signs_7 : decode cL_signs 7 = .ok (.i2l, 1) := by decide +kernel
theorem dL_signs_8 : decode cL_signs 8 = .ok (.lastore, 1) := by decide +kernel
theorem dL_signs_9 : decode cL_signs 9 = .ok (.goto 6, 3) := by decide +kernel
theorem dL_signs_12 : decode cL_signs 12 = .ok (.astore_n 3, 1) := by decide +kernel
theorem dL_signs_13 : decode cL_signs 13 = .ok (.iconst 1, 1) := by decide +kernel
theorem dL_signs_14 : decode cL_signs 14 = .ok (.ireturn, 1) := by decide +kernel
theorem dL_signs_15 : decode cL_signs 15 = .ok (.iconst 0, 1) := by decide +kernel
theorem dL_signs_16 : decode cL_signs 16 = .ok (.ireturn, 1) := by decide +kernel
theorem dL_notes_0 : decode cL_notes 0 = .ok (.aload_n 2, 1) := by decide +kernel
theorem dL_notes_1 : decode cL_notes 1 = .ok (.iconst 0, 1) := by decide +kernel
theorem dL_notes_2 : decode cL_notes 2 = .ok (.aload_n 0, 1) := by decide +kernel
theorem dL_notes_3 : decode cL_notes 3 = .ok (.iload_n 1, 1) := by decide +kernel
theorem dL_notes_4 : decode cL_notes 4 = .ok (.invokevirtual 49, 3) := by decide +kernel
theorem dL_notes_7 : decode cL_notes 7 = .ok (.i2l, 1) := by decide +kernel
theorem dL_notes_8 : decode cL_notes 8 = .ok (.lastore, 1) := by decide +kernel
theorem dL_notes_9 : decode cL_notes 9 = .ok (.goto 6, 3) := by decide +kernel
theorem dL_notes_12 : decode cL_notes 12 = .ok (.astore_n 3, 1) := by decide +kernel
theorem dL_notes_13 : decode cL_notes 13 = .ok (.iconst 1, 1) := by decide +kernel
theorem dL_notes_14 : decode cL_notes 14 = .ok (.ireturn, 1) := by decide +kernel
theorem dL_notes_15 : decode cL_notes 15 = .ok (.iconst 0, 1) := by decide +kernel
theorem dL_notes_16 : decode cL_notes 16 = .ok (.ireturn, 1) := by decide +kernel
theorem dL_ligatures_0 : decode cL_ligatures 0 = .ok (.aload_n 2, 1) := by decide +kernel
theorem dL_ligatures_1 : decode cL_ligatures 1 = .ok (.iconst 0, 1) := by decide +kernel
theorem dL_ligatures_2 : decode cL_ligatures 2 = .ok (.aload_n 0, 1) := by decide +kernel
theorem dL_ligatures_3 : decode cL_ligatures 3 = .ok (.iload_n 1, 1) := by decide +kernel
theorem dL_ligatures_4 : decode cL_ligatures 4 = .ok (.invokevirtual 52, 3) := by decide +kernel
theorem dL_ligatures_7 : decode cL_ligatures 7 = .ok (.i2l, 1) := by decide +kernel
theorem dL_ligatures_8 : decode cL_ligatures 8 = .ok (.lastore, 1) := by decide +kernel
theorem dL_ligatures_9 : decode cL_ligatures 9 = .ok (.goto 6, 3) := by decide +kernel
theorem dL_ligatures_12 : decode cL_ligatures 12 = .ok (.astore_n 3, 1) := by decide +kernel
theorem dL_ligatures_13 : decode cL_ligatures 13 = .ok (.iconst 1, 1) := by decide +kernel
theorem dL_ligatures_14 : decode cL_ligatures 14 = .ok (.ireturn, 1) := by decide +kernel
theorem dL_ligatures_15 : decode cL_ligatures 15 = .ok (.iconst 0, 1) := by decide +kernel
theorem dL_ligatures_16 : decode cL_ligatures 16 = .ok (.ireturn, 1) := by decide +kernel
theorem dL_kindOf_0 : decode cL_kindOf 0 = .ok (.aload_n 3, 1) := by decide +kernel
theorem dL_kindOf_1 : decode cL_kindOf 1 = .ok (.iconst 0, 1) := by decide +kernel
theorem dL_kindOf_2 : decode cL_kindOf 2 = .ok (.aload_n 0, 1) := by decide +kernel
theorem dL_kindOf_3 : decode cL_kindOf 3 = .ok (.iload_n 1, 1) := by decide +kernel
theorem dL_kindOf_4 : decode cL_kindOf 4 = .ok (.iload_n 2, 1) := by decide +kernel
theorem dL_kindOf_5 : decode cL_kindOf 5 = .ok (.invokevirtual 55, 3) := by decide +kernel
theorem dL_kindOf_8 : decode cL_kindOf 8 = .ok (.i2l, 1) := by decide +kernel
theorem dL_kindOf_9 : decode cL_kindOf 9 = .ok (.lastore, 1) := by decide +kernel
theorem dL_kindOf_10 : decode cL_kindOf 10 = .ok (.goto 7, 3) := by decide +kernel
theorem dL_kindOf_13 : decode cL_kindOf 13 = .ok (.astore 4, 2) := by decide +kernel
theorem dL_kindOf_15 : decode cL_kindOf 15 = .ok (.iconst 1, 1) := by decide +kernel
theorem dL_kindOf_16 : decode cL_kindOf 16 = .ok (.ireturn, 1) := by decide +kernel
theorem dL_kindOf_17 : decode cL_kindOf 17 = .ok (.iconst 0, 1) := by decide +kernel
theorem dL_kindOf_18 : decode cL_kindOf 18 = .ok (.ireturn, 1) := by decide +kernel
theorem dL_placeOf_0 : decode cL_placeOf 0 = .ok (.aload_n 3, 1) := by decide +kernel
theorem dL_placeOf_1 : decode cL_placeOf 1 = .ok (.iconst 0, 1) := by decide +kernel
theorem dL_placeOf_2 : decode cL_placeOf 2 = .ok (.aload_n 0, 1) := by decide +kernel
theorem dL_placeOf_3 : decode cL_placeOf 3 = .ok (.iload_n 1, 1) := by decide +kernel
theorem dL_placeOf_4 : decode cL_placeOf 4 = .ok (.iload_n 2, 1) := by decide +kernel
theorem dL_placeOf_5 : decode cL_placeOf 5 = .ok (.invokevirtual 58, 3) := by decide +kernel
theorem dL_placeOf_8 : decode cL_placeOf 8 = .ok (.i2l, 1) := by decide +kernel
theorem dL_placeOf_9 : decode cL_placeOf 9 = .ok (.lastore, 1) := by decide +kernel
theorem dL_placeOf_10 : decode cL_placeOf 10 = .ok (.goto 7, 3) := by decide +kernel
theorem dL_placeOf_13 : decode cL_placeOf 13 = .ok (.astore 4, 2) := by decide +kernel
theorem dL_placeOf_15 : decode cL_placeOf 15 = .ok (.iconst 1, 1) := by decide +kernel
theorem dL_placeOf_16 : decode cL_placeOf 16 = .ok (.ireturn, 1) := by decide +kernel
theorem dL_placeOf_17 : decode cL_placeOf 17 = .ok (.iconst 0, 1) := by decide +kernel
theorem dL_placeOf_18 : decode cL_placeOf 18 = .ok (.ireturn, 1) := by decide +kernel
theorem dL_isColoured_0 : decode cL_isColoured 0 = .ok (.aload_n 3, 1) := by decide +kernel
theorem dL_isColoured_1 : decode cL_isColoured 1 = .ok (.iconst 0, 1) := by decide +kernel
theorem dL_isColoured_2 : decode cL_isColoured 2 = .ok (.aload_n 0, 1) := by decide +kernel
theorem dL_isColoured_3 : decode cL_isColoured 3 = .ok (.iload_n 1, 1) := by decide +kernel
theorem dL_isColoured_4 : decode cL_isColoured 4 = .ok (.iload_n 2, 1) := by decide +kernel
theorem dL_isColoured_5 : decode cL_isColoured 5 = .ok (.invokevirtual 61, 3) := by decide +kernel
theorem dL_isColoured_8 : decode cL_isColoured 8 = .ok (.ifCond .eq 7, 3) := by decide +kernel
theorem dL_isColoured_11 : decode cL_isColoured 11 = .ok (.lconst 1, 1) := by decide +kernel
theorem dL_isColoured_12 : decode cL_isColoured 12 = .ok (.goto 4, 3) := by decide +kernel
theorem dL_isColoured_15 : decode cL_isColoured 15 = .ok (.lconst 0, 1) := by decide +kernel
theorem dL_isColoured_16 : decode cL_isColoured 16 = .ok (.lastore, 1) := by decide +kernel
theorem dL_isColoured_17 : decode cL_isColoured 17 = .ok (.goto 7, 3) := by decide +kernel
theorem dL_isColoured_20 : decode cL_isColoured 20 = .ok (.astore 4, 2) := by decide +kernel
theorem dL_isColoured_22 : decode cL_isColoured 22 = .ok (.iconst 1, 1) := by decide +kernel
theorem dL_isColoured_23 : decode cL_isColoured 23 = .ok (.ireturn, 1) := by decide +kernel
theorem dL_isColoured_24 : decode cL_isColoured 24 = .ok (.iconst 0, 1) := by decide +kernel
theorem dL_isColoured_25 : decode cL_isColoured 25 = .ok (.ireturn, 1) := by decide +kernel
theorem dL_placeInLigature_0 : decode cL_placeInLigature 0 = .ok (.aload_n 3, 1) := by decide +kernel
theorem dL_placeInLigature_1 : decode cL_placeInLigature 1 = .ok (.iconst 0, 1) := by decide +kernel
theorem dL_placeInLigature_2 : decode cL_placeInLigature 2 = .ok (.aload_n 0, 1) := by decide +kernel
theorem dL_placeInLigature_3 : decode cL_placeInLigature 3 = .ok (.iload_n 1, 1) := by decide +kernel
theorem dL_placeInLigature_4 : decode cL_placeInLigature 4 = .ok (.iload_n 2, 1) := by decide +kernel
theorem dL_placeInLigature_5 : decode cL_placeInLigature 5 = .ok (.invokevirtual 64, 3) := by decide +kernel
theorem dL_placeInLigature_8 : decode cL_placeInLigature 8 = .ok (.i2l, 1) := by decide +kernel
theorem dL_placeInLigature_9 : decode cL_placeInLigature 9 = .ok (.lastore, 1) := by decide +kernel
theorem dL_placeInLigature_10 : decode cL_placeInLigature 10 = .ok (.goto 7, 3) := by decide +kernel
theorem dL_placeInLigature_13 : decode cL_placeInLigature 13 = .ok (.astore 4, 2) := by decide +kernel
theorem dL_placeInLigature_15 : decode cL_placeInLigature 15 = .ok (.iconst 1, 1) := by decide +kernel
theorem dL_placeInLigature_16 : decode cL_placeInLigature 16 = .ok (.ireturn, 1) := by decide +kernel
theorem dL_placeInLigature_17 : decode cL_placeInLigature 17 = .ok (.iconst 0, 1) := by decide +kernel
theorem dL_placeInLigature_18 : decode cL_placeInLigature 18 = .ok (.ireturn, 1) := by decide +kernel
theorem dL_lengthOf_0 : decode cL_lengthOf 0 = .ok (.aload_n 3, 1) := by decide +kernel
theorem dL_lengthOf_1 : decode cL_lengthOf 1 = .ok (.iconst 0, 1) := by decide +kernel
theorem dL_lengthOf_2 : decode cL_lengthOf 2 = .ok (.aload_n 0, 1) := by decide +kernel
theorem dL_lengthOf_3 : decode cL_lengthOf 3 = .ok (.iload_n 1, 1) := by decide +kernel
theorem dL_lengthOf_4 : decode cL_lengthOf 4 = .ok (.iload_n 2, 1) := by decide +kernel
theorem dL_lengthOf_5 : decode cL_lengthOf 5 = .ok (.invokevirtual 67, 3) := by decide +kernel
theorem dL_lengthOf_8 : decode cL_lengthOf 8 = .ok (.i2l, 1) := by decide +kernel
theorem dL_lengthOf_9 : decode cL_lengthOf 9 = .ok (.lastore, 1) := by decide +kernel
theorem dL_lengthOf_10 : decode cL_lengthOf 10 = .ok (.goto 7, 3) := by decide +kernel
theorem dL_lengthOf_13 : decode cL_lengthOf 13 = .ok (.astore 4, 2) := by decide +kernel
theorem dL_lengthOf_15 : decode cL_lengthOf 15 = .ok (.iconst 1, 1) := by decide +kernel
theorem dL_lengthOf_16 : decode cL_lengthOf 16 = .ok (.ireturn, 1) := by decide +kernel
theorem dL_lengthOf_17 : decode cL_lengthOf 17 = .ok (.iconst 0, 1) := by decide +kernel
theorem dL_lengthOf_18 : decode cL_lengthOf 18 = .ok (.ireturn, 1) := by decide +kernel
theorem dL_beginOf_0 : decode cL_beginOf 0 = .ok (.aload_n 3, 1) := by decide +kernel
theorem dL_beginOf_1 : decode cL_beginOf 1 = .ok (.iconst 0, 1) := by decide +kernel
theorem dL_beginOf_2 : decode cL_beginOf 2 = .ok (.aload_n 0, 1) := by decide +kernel
theorem dL_beginOf_3 : decode cL_beginOf 3 = .ok (.iload_n 1, 1) := by decide +kernel
theorem dL_beginOf_4 : decode cL_beginOf 4 = .ok (.iload_n 2, 1) := by decide +kernel
theorem dL_beginOf_5 : decode cL_beginOf 5 = .ok (.invokevirtual 70, 3) := by decide +kernel
theorem dL_beginOf_8 : decode cL_beginOf 8 = .ok (.i2l, 1) := by decide +kernel
theorem dL_beginOf_9 : decode cL_beginOf 9 = .ok (.lastore, 1) := by decide +kernel
theorem dL_beginOf_10 : decode cL_beginOf 10 = .ok (.goto 7, 3) := by decide +kernel
theorem dL_beginOf_13 : decode cL_beginOf 13 = .ok (.astore 4, 2) := by decide +kernel
theorem dL_beginOf_15 : decode cL_beginOf 15 = .ok (.iconst 1, 1) := by decide +kernel
theorem dL_beginOf_16 : decode cL_beginOf 16 = .ok (.ireturn, 1) := by decide +kernel
theorem dL_beginOf_17 : decode cL_beginOf 17 = .ok (.iconst 0, 1) := by decide +kernel
theorem dL_beginOf_18 : decode cL_beginOf 18 = .ok (.ireturn, 1) := by decide +kernel
theorem dL_length_0 : decode cL_length 0 = .ok (.aload_n 2, 1) := by decide +kernel
theorem dL_length_1 : decode cL_length 1 = .ok (.iconst 0, 1) := by decide +kernel
theorem dL_length_2 : decode cL_length 2 = .ok (.aload_n 0, 1) := by decide +kernel
theorem dL_length_3 : decode cL_length 3 = .ok (.iload_n 1, 1) := by decide +kernel
theorem dL_length_4 : decode cL_length 4 = .ok (.invokevirtual 73, 3) := by decide +kernel
theorem dL_length_7 : decode cL_length 7 = .ok (.i2l, 1) := by decide +kernel
theorem dL_length_8 : decode cL_length 8 = .ok (.lastore, 1) := by decide +kernel
theorem dL_length_9 : decode cL_length 9 = .ok (.goto 6, 3) := by decide +kernel
theorem dL_length_12 : decode cL_length 12 = .ok (.astore_n 3, 1) := by decide +kernel
theorem dL_length_13 : decode cL_length 13 = .ok (.iconst 1, 1) := by decide +kernel
theorem dL_length_14 : decode cL_length 14 = .ok (.ireturn, 1) := by decide +kernel
theorem dL_length_15 : decode cL_length 15 = .ok (.iconst 0, 1) := by decide +kernel
theorem dL_length_16 : decode cL_length 16 = .ok (.ireturn, 1) := by decide +kernel
theorem dL_signAt_0 : decode cL_signAt 0 = .ok (.aload_n 3, 1) := by decide +kernel
theorem dL_signAt_1 : decode cL_signAt 1 = .ok (.iconst 0, 1) := by decide +kernel
theorem dL_signAt_2 : decode cL_signAt 2 = .ok (.aload_n 0, 1) := by decide +kernel
theorem dL_signAt_3 : decode cL_signAt 3 = .ok (.iload_n 1, 1) := by decide +kernel
theorem dL_signAt_4 : decode cL_signAt 4 = .ok (.iload_n 2, 1) := by decide +kernel
theorem dL_signAt_5 : decode cL_signAt 5 = .ok (.invokevirtual 76, 3) := by decide +kernel
theorem dL_signAt_8 : decode cL_signAt 8 = .ok (.i2l, 1) := by decide +kernel
theorem dL_signAt_9 : decode cL_signAt 9 = .ok (.lastore, 1) := by decide +kernel
theorem dL_signAt_10 : decode cL_signAt 10 = .ok (.goto 11, 3) := by decide +kernel
theorem dL_signAt_13 : decode cL_signAt 13 = .ok (.astore 4, 2) := by decide +kernel
theorem dL_signAt_15 : decode cL_signAt 15 = .ok (.iconst 1, 1) := by decide +kernel
theorem dL_signAt_16 : decode cL_signAt 16 = .ok (.ireturn, 1) := by decide +kernel
theorem dL_signAt_17 : decode cL_signAt 17 = .ok (.astore 4, 2) := by decide +kernel
theorem dL_signAt_19 : decode cL_signAt 19 = .ok (.iconst 2, 1) := by decide +kernel
theorem dL_signAt_20 : decode cL_signAt 20 = .ok (.ireturn, 1) := by decide +kernel
theorem dL_signAt_21 : decode cL_signAt 21 = .ok (.iconst 0, 1) := by decide +kernel
theorem dL_signAt_22 : decode cL_signAt 22 = .ok (.ireturn, 1) := by decide +kernel
theorem dL_clefOf_0 : decode cL_clefOf 0 = .ok (.aload_n 2, 1) := by decide +kernel
theorem dL_clefOf_1 : decode cL_clefOf 1 = .ok (.iconst 0, 1) := by decide +kernel
theorem dL_clefOf_2 : decode cL_clefOf 2 = .ok (.aload_n 0, 1) := by decide +kernel
theorem dL_clefOf_3 : decode cL_clefOf 3 = .ok (.iload_n 1, 1) := by decide +kernel
theorem dL_clefOf_4 : decode cL_clefOf 4 = .ok (.invokevirtual 79, 3) := by decide +kernel
theorem dL_clefOf_7 : decode cL_clefOf 7 = .ok (.i2l, 1) := by decide +kernel
theorem dL_clefOf_8 : decode cL_clefOf 8 = .ok (.lastore, 1) := by decide +kernel
theorem dL_clefOf_9 : decode cL_clefOf 9 = .ok (.goto 6, 3) := by decide +kernel
theorem dL_clefOf_12 : decode cL_clefOf 12 = .ok (.astore_n 3, 1) := by decide +kernel
theorem dL_clefOf_13 : decode cL_clefOf 13 = .ok (.iconst 1, 1) := by decide +kernel
theorem dL_clefOf_14 : decode cL_clefOf 14 = .ok (.ireturn, 1) := by decide +kernel
theorem dL_clefOf_15 : decode cL_clefOf 15 = .ok (.iconst 0, 1) := by decide +kernel
theorem dL_clefOf_16 : decode cL_clefOf 16 = .ok (.ireturn, 1) := by decide +kernel
theorem dL_pitchOf_0 : decode cL_pitchOf 0 = .ok (.aload_n 3, 1) := by decide +kernel
theorem dL_pitchOf_1 : decode cL_pitchOf 1 = .ok (.iconst 0, 1) := by decide +kernel
theorem dL_pitchOf_2 : decode cL_pitchOf 2 = .ok (.aload_n 0, 1) := by decide +kernel
theorem dL_pitchOf_3 : decode cL_pitchOf 3 = .ok (.iload_n 1, 1) := by decide +kernel
theorem dL_pitchOf_4 : decode cL_pitchOf 4 = .ok (.iload_n 2, 1) := by decide +kernel
theorem dL_pitchOf_5 : decode cL_pitchOf 5 = .ok (.invokevirtual 82, 3) := by decide +kernel
theorem dL_pitchOf_8 : decode cL_pitchOf 8 = .ok (.i2l, 1) := by decide +kernel
theorem dL_pitchOf_9 : decode cL_pitchOf 9 = .ok (.lastore, 1) := by decide +kernel
theorem dL_pitchOf_10 : decode cL_pitchOf 10 = .ok (.goto 11, 3) := by decide +kernel
theorem dL_pitchOf_13 : decode cL_pitchOf 13 = .ok (.astore 4, 2) := by decide +kernel
theorem dL_pitchOf_15 : decode cL_pitchOf 15 = .ok (.iconst 1, 1) := by decide +kernel
theorem dL_pitchOf_16 : decode cL_pitchOf 16 = .ok (.ireturn, 1) := by decide +kernel
theorem dL_pitchOf_17 : decode cL_pitchOf 17 = .ok (.astore 4, 2) := by decide +kernel
theorem dL_pitchOf_19 : decode cL_pitchOf 19 = .ok (.iconst 2, 1) := by decide +kernel
theorem dL_pitchOf_20 : decode cL_pitchOf 20 = .ok (.ireturn, 1) := by decide +kernel
theorem dL_pitchOf_21 : decode cL_pitchOf 21 = .ok (.iconst 0, 1) := by decide +kernel
theorem dL_pitchOf_22 : decode cL_pitchOf 22 = .ok (.ireturn, 1) := by decide +kernel
theorem dL_fits_0 : decode cL_fits 0 = .ok (.aload_n 3, 1) := by decide +kernel
theorem dL_fits_1 : decode cL_fits 1 = .ok (.iconst 0, 1) := by decide +kernel
theorem dL_fits_2 : decode cL_fits 2 = .ok (.aload_n 0, 1) := by decide +kernel
theorem dL_fits_3 : decode cL_fits 3 = .ok (.iload_n 1, 1) := by decide +kernel
theorem dL_fits_4 : decode cL_fits 4 = .ok (.iload_n 2, 1) := by decide +kernel
theorem dL_fits_5 : decode cL_fits 5 = .ok (.invokevirtual 85, 3) := by decide +kernel
theorem dL_fits_8 : decode cL_fits 8 = .ok (.ifCond .eq 7, 3) := by decide +kernel
theorem dL_fits_11 : decode cL_fits 11 = .ok (.lconst 1, 1) := by decide +kernel
theorem dL_fits_12 : decode cL_fits 12 = .ok (.goto 4, 3) := by decide +kernel
theorem dL_fits_15 : decode cL_fits 15 = .ok (.lconst 0, 1) := by decide +kernel
theorem dL_fits_16 : decode cL_fits 16 = .ok (.lastore, 1) := by decide +kernel
theorem dL_fits_17 : decode cL_fits 17 = .ok (.goto 11, 3) := by decide +kernel
theorem dL_fits_20 : decode cL_fits 20 = .ok (.astore 4, 2) := by decide +kernel
theorem dL_fits_22 : decode cL_fits 22 = .ok (.iconst 1, 1) := by decide +kernel
theorem dL_fits_23 : decode cL_fits 23 = .ok (.ireturn, 1) := by decide +kernel
theorem dL_fits_24 : decode cL_fits 24 = .ok (.astore 4, 2) := by decide +kernel
theorem dL_fits_26 : decode cL_fits 26 = .ok (.iconst 2, 1) := by decide +kernel
theorem dL_fits_27 : decode cL_fits 27 = .ok (.ireturn, 1) := by decide +kernel
theorem dL_fits_28 : decode cL_fits 28 = .ok (.iconst 0, 1) := by decide +kernel
theorem dL_fits_29 : decode cL_fits 29 = .ok (.ireturn, 1) := by decide +kernel
theorem dL_clefsThatFit_0 : decode cL_clefsThatFit 0 = .ok (.aload_n 2, 1) := by decide +kernel
theorem dL_clefsThatFit_1 : decode cL_clefsThatFit 1 = .ok (.iconst 0, 1) := by decide +kernel
theorem dL_clefsThatFit_2 : decode cL_clefsThatFit 2 = .ok (.aload_n 0, 1) := by decide +kernel
theorem dL_clefsThatFit_3 : decode cL_clefsThatFit 3 = .ok (.iload_n 1, 1) := by decide +kernel
theorem dL_clefsThatFit_4 : decode cL_clefsThatFit 4 = .ok (.invokevirtual 88, 3) := by decide +kernel
theorem dL_clefsThatFit_7 : decode cL_clefsThatFit 7 = .ok (.i2l, 1) := by decide +kernel
theorem dL_clefsThatFit_8 : decode cL_clefsThatFit 8 = .ok (.lastore, 1) := by decide +kernel
theorem dL_clefsThatFit_9 : decode cL_clefsThatFit 9 = .ok (.goto 6, 3) := by decide +kernel
theorem dL_clefsThatFit_12 : decode cL_clefsThatFit 12 = .ok (.astore_n 3, 1) := by decide +kernel
theorem dL_clefsThatFit_13 : decode cL_clefsThatFit 13 = .ok (.iconst 1, 1) := by decide +kernel
theorem dL_clefsThatFit_14 : decode cL_clefsThatFit 14 = .ok (.ireturn, 1) := by decide +kernel
theorem dL_clefsThatFit_15 : decode cL_clefsThatFit 15 = .ok (.iconst 0, 1) := by decide +kernel
theorem dL_clefsThatFit_16 : decode cL_clefsThatFit 16 = .ok (.ireturn, 1) := by decide +kernel
theorem dL_clashes_0 : decode cL_clashes 0 = .ok (.aload_n 3, 1) := by decide +kernel
theorem dL_clashes_1 : decode cL_clashes 1 = .ok (.iconst 0, 1) := by decide +kernel
theorem dL_clashes_2 : decode cL_clashes 2 = .ok (.aload_n 0, 1) := by decide +kernel
theorem dL_clashes_3 : decode cL_clashes 3 = .ok (.iload_n 1, 1) := by decide +kernel
theorem dL_clashes_4 : decode cL_clashes 4 = .ok (.iload_n 2, 1) := by decide +kernel
theorem dL_clashes_5 : decode cL_clashes 5 = .ok (.invokevirtual 91, 3) := by decide +kernel
theorem dL_clashes_8 : decode cL_clashes 8 = .ok (.i2l, 1) := by decide +kernel
theorem dL_clashes_9 : decode cL_clashes 9 = .ok (.lastore, 1) := by decide +kernel
theorem dL_clashes_10 : decode cL_clashes 10 = .ok (.goto 11, 3) := by decide +kernel
theorem dL_clashes_13 : decode cL_clashes 13 = .ok (.astore 4, 2) := by decide +kernel
theorem dL_clashes_15 : decode cL_clashes 15 = .ok (.iconst 1, 1) := by decide +kernel
theorem dL_clashes_16 : decode cL_clashes 16 = .ok (.ireturn, 1) := by decide +kernel
theorem dL_clashes_17 : decode cL_clashes 17 = .ok (.astore 4, 2) := by decide +kernel
theorem dL_clashes_19 : decode cL_clashes 19 = .ok (.iconst 2, 1) := by decide +kernel
theorem dL_clashes_20 : decode cL_clashes 20 = .ok (.ireturn, 1) := by decide +kernel
theorem dL_clashes_21 : decode cL_clashes 21 = .ok (.iconst 0, 1) := by decide +kernel
theorem dL_clashes_22 : decode cL_clashes 22 = .ok (.ireturn, 1) := by decide +kernel
theorem dL_firstClash_0 : decode cL_firstClash 0 = .ok (.aload_n 3, 1) := by decide +kernel
theorem dL_firstClash_1 : decode cL_firstClash 1 = .ok (.iconst 0, 1) := by decide +kernel
theorem dL_firstClash_2 : decode cL_firstClash 2 = .ok (.aload_n 0, 1) := by decide +kernel
theorem dL_firstClash_3 : decode cL_firstClash 3 = .ok (.iload_n 1, 1) := by decide +kernel
theorem dL_firstClash_4 : decode cL_firstClash 4 = .ok (.iload_n 2, 1) := by decide +kernel
theorem dL_firstClash_5 : decode cL_firstClash 5 = .ok (.invokevirtual 94, 3) := by decide +kernel
theorem dL_firstClash_8 : decode cL_firstClash 8 = .ok (.i2l, 1) := by decide +kernel
theorem dL_firstClash_9 : decode cL_firstClash 9 = .ok (.lastore, 1) := by decide +kernel
theorem dL_firstClash_10 : decode cL_firstClash 10 = .ok (.goto 11, 3) := by decide +kernel
theorem dL_firstClash_13 : decode cL_firstClash 13 = .ok (.astore 4, 2) := by decide +kernel
theorem dL_firstClash_15 : decode cL_firstClash 15 = .ok (.iconst 1, 1) := by decide +kernel
theorem dL_firstClash_16 : decode cL_firstClash 16 = .ok (.ireturn, 1) := by decide +kernel
theorem dL_firstClash_17 : decode cL_firstClash 17 = .ok (.astore 4, 2) := by decide +kernel
theorem dL_firstClash_19 : decode cL_firstClash 19 = .ok (.iconst 2, 1) := by decide +kernel
theorem dL_firstClash_20 : decode cL_firstClash 20 = .ok (.ireturn, 1) := by decide +kernel
theorem dL_firstClash_21 : decode cL_firstClash 21 = .ok (.iconst 0, 1) := by decide +kernel
theorem dL_firstClash_22 : decode cL_firstClash 22 = .ok (.ireturn, 1) := by decide +kernel
theorem dL_clashesWith_0 : decode cL_clashesWith 0 = .ok (.aload_n 3, 1) := by decide +kernel
theorem dL_clashesWith_1 : decode cL_clashesWith 1 = .ok (.iconst 0, 1) := by decide +kernel
theorem dL_clashesWith_2 : decode cL_clashesWith 2 = .ok (.aload_n 0, 1) := by decide +kernel
theorem dL_clashesWith_3 : decode cL_clashesWith 3 = .ok (.iload_n 1, 1) := by decide +kernel
theorem dL_clashesWith_4 : decode cL_clashesWith 4 = .ok (.iload_n 2, 1) := by decide +kernel
theorem dL_clashesWith_5 : decode cL_clashesWith 5 = .ok (.invokevirtual 97, 3) := by decide +kernel
theorem dL_clashesWith_8 : decode cL_clashesWith 8 = .ok (.i2l, 1) := by decide +kernel
theorem dL_clashesWith_9 : decode cL_clashesWith 9 = .ok (.lastore, 1) := by decide +kernel
theorem dL_clashesWith_10 : decode cL_clashesWith 10 = .ok (.goto 11, 3) := by decide +kernel
theorem dL_clashesWith_13 : decode cL_clashesWith 13 = .ok (.astore 4, 2) := by decide +kernel
theorem dL_clashesWith_15 : decode cL_clashesWith 15 = .ok (.iconst 1, 1) := by decide +kernel
theorem dL_clashesWith_16 : decode cL_clashesWith 16 = .ok (.ireturn, 1) := by decide +kernel
theorem dL_clashesWith_17 : decode cL_clashesWith 17 = .ok (.astore 4, 2) := by decide +kernel
theorem dL_clashesWith_19 : decode cL_clashesWith 19 = .ok (.iconst 2, 1) := by decide +kernel
theorem dL_clashesWith_20 : decode cL_clashesWith 20 = .ok (.ireturn, 1) := by decide +kernel
theorem dL_clashesWith_21 : decode cL_clashesWith 21 = .ok (.iconst 0, 1) := by decide +kernel
theorem dL_clashesWith_22 : decode cL_clashesWith 22 = .ok (.ireturn, 1) := by decide +kernel
theorem dL_bestClef_0 : decode cL_bestClef 0 = .ok (.aload_n 2, 1) := by decide +kernel
theorem dL_bestClef_1 : decode cL_bestClef 1 = .ok (.iconst 0, 1) := by decide +kernel
theorem dL_bestClef_2 : decode cL_bestClef 2 = .ok (.aload_n 0, 1) := by decide +kernel
theorem dL_bestClef_3 : decode cL_bestClef 3 = .ok (.iload_n 1, 1) := by decide +kernel
theorem dL_bestClef_4 : decode cL_bestClef 4 = .ok (.invokevirtual 100, 3) := by decide +kernel
theorem dL_bestClef_7 : decode cL_bestClef 7 = .ok (.i2l, 1) := by decide +kernel
theorem dL_bestClef_8 : decode cL_bestClef 8 = .ok (.lastore, 1) := by decide +kernel
theorem dL_bestClef_9 : decode cL_bestClef 9 = .ok (.goto 6, 3) := by decide +kernel
theorem dL_bestClef_12 : decode cL_bestClef 12 = .ok (.astore_n 3, 1) := by decide +kernel
theorem dL_bestClef_13 : decode cL_bestClef 13 = .ok (.iconst 1, 1) := by decide +kernel
theorem dL_bestClef_14 : decode cL_bestClef 14 = .ok (.ireturn, 1) := by decide +kernel
theorem dL_bestClef_15 : decode cL_bestClef 15 = .ok (.iconst 0, 1) := by decide +kernel
theorem dL_bestClef_16 : decode cL_bestClef 16 = .ok (.ireturn, 1) := by decide +kernel
theorem dL_canonClashes_0 : decode cL_canonClashes 0 = .ok (.aload 4, 2) := by decide +kernel
theorem dL_canonClashes_2 : decode cL_canonClashes 2 = .ok (.iconst 0, 1) := by decide +kernel
theorem dL_canonClashes_3 : decode cL_canonClashes 3 = .ok (.aload_n 0, 1) := by decide +kernel
theorem dL_canonClashes_4 : decode cL_canonClashes 4 = .ok (.iload_n 1, 1) := by decide +kernel
theorem dL_canonClashes_5 : decode cL_canonClashes 5 = .ok (.iload_n 2, 1) := by decide +kernel
theorem dL_canonClashes_6 : decode cL_canonClashes 6 = .ok (.iload_n 3, 1) := by decide +kernel
theorem dL_canonClashes_7 : decode cL_canonClashes 7 = .ok (.invokevirtual 103, 3) := by decide +kernel
theorem dL_canonClashes_10 : decode cL_canonClashes 10 = .ok (.i2l, 1) := by decide +kernel
theorem dL_canonClashes_11 : decode cL_canonClashes 11 = .ok (.lastore, 1) := by decide +kernel
theorem dL_canonClashes_12 : decode cL_canonClashes 12 = .ok (.goto 11, 3) := by decide +kernel
theorem dL_canonClashes_15 : decode cL_canonClashes 15 = .ok (.astore 5, 2) := by decide +kernel
theorem dL_canonClashes_17 : decode cL_canonClashes 17 = .ok (.iconst 1, 1) := by decide +kernel
theorem dL_canonClashes_18 : decode cL_canonClashes 18 = .ok (.ireturn, 1) := by decide +kernel
theorem dL_canonClashes_19 : decode cL_canonClashes 19 = .ok (.astore 5, 2) := by decide +kernel
theorem dL_canonClashes_21 : decode cL_canonClashes 21 = .ok (.iconst 2, 1) := by decide +kernel
theorem dL_canonClashes_22 : decode cL_canonClashes 22 = .ok (.ireturn, 1) := by decide +kernel
theorem dL_canonClashes_23 : decode cL_canonClashes 23 = .ok (.iconst 0, 1) := by decide +kernel
theorem dL_canonClashes_24 : decode cL_canonClashes 24 = .ok (.ireturn, 1) := by decide +kernel
theorem dL_bestDelay_0 : decode cL_bestDelay 0 = .ok (.aload_n 3, 1) := by decide +kernel
theorem dL_bestDelay_1 : decode cL_bestDelay 1 = .ok (.iconst 0, 1) := by decide +kernel
theorem dL_bestDelay_2 : decode cL_bestDelay 2 = .ok (.aload_n 0, 1) := by decide +kernel
theorem dL_bestDelay_3 : decode cL_bestDelay 3 = .ok (.iload_n 1, 1) := by decide +kernel
theorem dL_bestDelay_4 : decode cL_bestDelay 4 = .ok (.iload_n 2, 1) := by decide +kernel
theorem dL_bestDelay_5 : decode cL_bestDelay 5 = .ok (.invokevirtual 106, 3) := by decide +kernel
theorem dL_bestDelay_8 : decode cL_bestDelay 8 = .ok (.i2l, 1) := by decide +kernel
theorem dL_bestDelay_9 : decode cL_bestDelay 9 = .ok (.lastore, 1) := by decide +kernel
theorem dL_bestDelay_10 : decode cL_bestDelay 10 = .ok (.goto 11, 3) := by decide +kernel
theorem dL_bestDelay_13 : decode cL_bestDelay 13 = .ok (.astore 4, 2) := by decide +kernel
theorem dL_bestDelay_15 : decode cL_bestDelay 15 = .ok (.iconst 1, 1) := by decide +kernel
theorem dL_bestDelay_16 : decode cL_bestDelay 16 = .ok (.ireturn, 1) := by decide +kernel
theorem dL_bestDelay_17 : decode cL_bestDelay 17 = .ok (.astore 4, 2) := by decide +kernel
theorem dL_bestDelay_19 : decode cL_bestDelay 19 = .ok (.iconst 2, 1) := by decide +kernel
theorem dL_bestDelay_20 : decode cL_bestDelay 20 = .ok (.ireturn, 1) := by decide +kernel
theorem dL_bestDelay_21 : decode cL_bestDelay 21 = .ok (.iconst 0, 1) := by decide +kernel
theorem dL_bestDelay_22 : decode cL_bestDelay 22 = .ok (.ireturn, 1) := by decide +kernel
