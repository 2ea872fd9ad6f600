theorem dX2_init_0 : decode cX2_init 0 = .ok (.aload_n 0, 1) := by decide +kernel
theorem dX2_init_1 : decode cX2_init 1 = .ok (.invokespecial 1, 3) := by decide +kernel
theorem dX2_init_4 : decode cX2_init 4 = .ok (.aload_n 0, 1) := by decide +kernel
theorem dX2_init_5 : decode cX2_init 5 = .ok (.iconst 4, 1) := by decide +kernel
theorem dX2_init_6 : decode cX2_init 6 = .ok (.newarray .int, 2) := by decide +kernel
theorem dX2_init_8 : decode cX2_init 8 = .ok (.putfield 9, 3) := by decide +kernel
theorem dX2_init_11 : decode cX2_init 11 = .ok (.aload_n 0, 1) := by decide +kernel
theorem dX2_init_12 : decode cX2_init 12 = .ok (.iconst 4, 1) := by decide +kernel
theorem dX2_init_13 : decode cX2_init 13 = .ok (.newarray .int, 2) := by decide +kernel
theorem dX2_init_15 : decode cX2_init 15 = .ok (.putfield 13, 3) := by decide +kernel
theorem dX2_init_18 : decode cX2_init 18 = .ok (.aload_n 0, 1) := by decide +kernel
theorem dX2_init_19 : decode cX2_init 19 = .ok (.bipush 12, 2) := by decide +kernel
theorem dX2_init_21 : decode cX2_init 21 = .ok (.newarray .int, 2) := by decide +kernel
theorem dX2_init_23 : decode cX2_init 23 = .ok (.putfield 16, 3) := by decide +kernel
theorem dX2_init_26 : decode cX2_init 26 = .ok (.aload_n 0, 1) := by decide +kernel
theorem dX2_init_27 : decode cX2_init 27 = .ok (.bipush 96, 2) := by decide +kernel
theorem dX2_init_29 : decode cX2_init 29 = .ok (.newarray .int, 2) := by decide +kernel
theorem dX2_init_31 : decode cX2_init 31 = .ok (.putfield 19, 3) := by decide +kernel
theorem dX2_init_34 : decode cX2_init 34 = .ok (.aload_n 0, 1) := by decide +kernel
theorem dX2_init_35 : decode cX2_init 35 = .ok (.bipush 96, 2) := by decide +kernel
theorem dX2_init_37 : decode cX2_init 37 = .ok (.newarray .int, 2) := by decide +kernel
theorem dX2_init_39 : decode cX2_init 39 = .ok (.putfield 22, 3) := by decide +kernel
theorem dX2_init_42 : decode cX2_init 42 = .ok (.aload_n 0, 1) := by decide +kernel
theorem dX2_init_43 : decode cX2_init 43 = .ok (.bipush 96, 2) := by decide +kernel
theorem dX2_init_45 : decode cX2_init 45 = .ok (.newarray .boolean, 2) := by decide +kernel
theorem dX2_init_47 : decode cX2_init 47 = .ok (.putfield 25, 3) := by decide +kernel
theorem dX2_init_50 : decode cX2_init 50 = .ok (.aload_n 0, 1) := by decide +kernel
theorem dX2_init_51 : decode cX2_init 51 = .ok (.bipush 96, 2) := by decide +kernel
theorem dX2_init_53 : decode cX2_init 53 = .ok (.newarray .int, 2) := by decide +kernel
theorem dX2_init_55 : decode cX2_init 55 = .ok (.putfield 29, 3) := by decide +kernel
theorem dX2_init_58 : decode cX2_init 58 = .ok (.aload_n 0, 1) := by decide +kernel
theorem dX2_init_59 : decode cX2_init 59 = .ok (.sipush 648, 3) := by decide +kernel
theorem dX2_init_62 : decode cX2_init 62 = .ok (.newarray .int, 2) := by decide +kernel
theorem dX2_init_64 : decode cX2_init 64 = .ok (.putfield 32, 3) := by decide +kernel
theorem dX2_init_67 : decode cX2_init 67 = .ok (.aload_n 0, 1) := by decide +kernel
theorem dX2_init_68 : decode cX2_init 68 = .ok (.sipush 648, 3) := by decide +kernel
theorem dX2_init_71 : decode cX2_init 71 = .ok (.newarray .int, 2) := by decide +kernel
theorem dX2_init_73 : decode cX2_init 73 = .ok (.putfield 35, 3) := by decide +kernel
theorem dX2_init_76 : decode cX2_init 76 = .ok (.return_, 1) := by decide +kernel
theorem dX2_thrown_0 : decode cX2_thrown 0 = .ok (.aload_n 0, 1) := by decide +kernel
theorem dX2_thrown_1 : decode cX2_thrown 1 = .ok (.getfield 38, 3) := by decide +kernel
theorem dX2_thrown_4 : decode cX2_thrown 4 = .ok (.ireturn, 1) := by decide +kernel
theorem dX2_fail_0 : decode cX2_fail 0 = .ok (.aload_n 0, 1) := by decide +kernel
theorem dX2_fail_1 : decode cX2_fail 1 = .ok (.iload_n 1, 1) := by decide +kernel
theorem dX2_fail_2 : decode cX2_fail 2 = .ok (.putfield 38, 3) := by decide +kernel
theorem dX2_fail_5 : decode cX2_fail 5 = .ok (.iconst 0, 1) := by decide +kernel
theorem dX2_fail_6 : decode cX2_fail 6 = .ok (.ireturn, 1) := by decide +kernel
theorem dX2_told_0 : decode cX2_told 0 = .ok (.aload_n 0, 1) := by decide +kernel
theorem dX2_told_1 : decode cX2_told 1 = .ok (.iconst 0, 1) := by decide +kernel
theorem dX2_told_2 : decode cX2_told 2 = .ok (.putfield 38, 3) := by decide +kernel
theorem dX2_told_5 : decode cX2_told 5 = .ok (.iload_n 1, 1) := by decide +kernel
theorem dX2_told_6 : decode cX2_told 6 = .ok (.ireturn, 1) := by decide +kernel
theorem dX2_isIn_0 : decode cX2_isIn 0 = .ok (.iload_n 0, 1) := by decide +kernel
theorem dX2_isIn_1 : decode cX2_isIn 1 = .ok (.iload_n 1, 1) := by decide +kernel
theorem dX2_isIn_2 : decode cX2_isIn 2 = .ok (.if_icmp .lt 12, 3) := by decide +kernel
theorem dX2_isIn_5 : decode cX2_isIn 5 = .ok (.iload_n 0, 1) := by decide +kernel
theorem dX2_isIn_6 : decode cX2_isIn 6 = .ok (.iload_n 2, 1) := by decide +kernel
theorem dX2_isIn_7 : decode cX2_isIn 7 = .ok (.if_icmp .gt 7, 3) := by decide +kernel
theorem dX2_isIn_10 : decode cX2_isIn 10 = .ok (.iconst 1, 1) := by decide +kernel
theorem dX2_isIn_11 : decode cX2_isIn 11 = .ok (.goto 4, 3) := by decide +kernel
theorem dX2_isIn_14 : decode cX2_isIn 14 = .ok (.iconst 0, 1) := by decide +kernel
theorem dX2_isIn_15 : decode cX2_isIn 15 = .ok (.ireturn, 1) := by decide +kernel
theorem dX2_isVoice_0 : decode cX2_isVoice 0 = .ok (.iload_n 1, 1) := by decide +kernel
theorem dX2_isVoice_1 : decode cX2_isVoice 1 = .ok (.iconst 0, 1) := by decide +kernel
theorem dX2_isVoice_2 : decode cX2_isVoice 2 = .ok (.aload_n 0, 1) := by decide +kernel
theorem dX2_isVoice_3 : decode cX2_isVoice 3 = .ok (.getfield 42, 3) := by decide +kernel
theorem dX2_isVoice_6 : decode cX2_isVoice 6 = .ok (.iconst 1, 1) := by decide +kernel
theorem dX2_isVoice_7 : decode cX2_isVoice 7 = .ok (.isub, 1) := by decide +kernel
theorem dX2_isVoice_8 : decode cX2_isVoice 8 = .ok (.invokestatic 45, 3) := by decide +kernel
theorem dX2_isVoice_11 : decode cX2_isVoice 11 = .ok (.ireturn, 1) := by decide +kernel
theorem dX2_isSign_0 : decode cX2_isSign 0 = .ok (.aload_n 0, 1) := by decide +kernel
theorem dX2_isSign_1 : decode cX2_isSign 1 = .ok (.iload_n 1, 1) := by decide +kernel
theorem dX2_isSign_2 : decode cX2_isSign 2 = .ok (.invokevirtual 49, 3) := by decide +kernel
theorem dX2_isSign_5 : decode cX2_isSign 5 = .ok (.ifCond .eq 23, 3) := by decide +kernel
theorem dX2_isSign_8 : decode cX2_isSign 8 = .ok (.iload_n 2, 1) := by decide +kernel
theorem dX2_isSign_9 : decode cX2_isSign 9 = .ok (.iconst 0, 1) := by decide +kernel
theorem dX2_isSign_10 : decode cX2_isSign 10 = .ok (.aload_n 0, 1) := by decide +kernel
theorem dX2_isSign_11 : decode cX2_isSign 11 = .ok (.getfield 9, 3) := by decide +kernel
theorem dX2_isSign_14 : decode cX2_isSign 14 = .ok (.iload_n 1, 1) := by decide +kernel
theorem dX2_isSign_15 : decode cX2_isSign 15 = .ok (.iaload, 1) := by decide +kernel
theorem dX2_isSign_16 : decode cX2_isSign 16 = .ok (.iconst 1, 1) := by decide +kernel
theorem dX2_isSign_17 : decode cX2_isSign 17 = .ok (.isub, 1) := by decide +kernel
theorem dX2_isSign_18 : decode cX2_isSign 18 = .ok (.invokestatic 45, 3) := by decide +kernel
theorem dX2_isSign_21 : decode cX2_isSign 21 = .ok (.ifCond .eq 7, 3) := by decide +kernel
theorem dX2_isSign_24 : decode cX2_isSign 24 = .ok (.iconst 1, 1) := by decide +kernel
theorem dX2_isSign_25 : decode cX2_isSign 25 = .ok (.goto 4, 3) := by decide +kernel
theorem dX2_isSign_28 : decode cX2_isSign 28 = .ok (.iconst 0, 1) := by decide +kernel
theorem dX2_isSign_29 : decode cX2_isSign 29 = .ok (.ireturn, 1) := by decide +kernel
theorem dX2_isMeasure_0 : decode cX2_isMeasure 0 = .ok (.iload_n 0, 1) := by decide +kernel
theorem dX2_isMeasure_1 : decode cX2_isMeasure 1 = .ok (.iconst 2, 1) := by decide +kernel
theorem dX2_isMeasure_2 : decode cX2_isMeasure 2 = .ok (.iconst 3, 1) := by decide +kernel
theorem dX2_isMeasure_3 : decode cX2_isMeasure 3 = .ok (.invokestatic 45, 3) := by decide +kernel
theorem dX2_isMeasure_6 : decode cX2_isMeasure 6 = .ok (.ifCond .eq 25, 3) := by decide +kernel
theorem dX2_isMeasure_9 : decode cX2_isMeasure 9 = .ok (.iload_n 1, 1) := by decide +kernel
theorem dX2_isMeasure_10 : decode cX2_isMeasure 10 = .ok (.iconst 2, 1) := by decide +kernel
theorem dX2_isMeasure_11 : decode cX2_isMeasure 11 = .ok (.iconst 3, 1) := by decide +kernel
theorem dX2_isMeasure_12 : decode cX2_isMeasure 12 = .ok (.invokestatic 45, 3) := by decide +kernel
theorem dX2_isMeasure_15 : decode cX2_isMeasure 15 = .ok (.ifCond .eq 16, 3) := by decide +kernel
theorem dX2_isMeasure_18 : decode cX2_isMeasure 18 = .ok (.iload_n 2, 1) := by decide +kernel
theorem dX2_isMeasure_19 : decode cX2_isMeasure 19 = .ok (.iconst 2, 1) := by decide +kernel
theorem dX2_isMeasure_20 : decode cX2_isMeasure 20 = .ok (.iconst 3, 1) := by decide +kernel
theorem dX2_isMeasure_21 : decode cX2_isMeasure 21 = .ok (.invokestatic 45, 3) := by decide +kernel
theorem dX2_isMeasure_24 : decode cX2_isMeasure 24 = .ok (.ifCond .eq 7, 3) := by decide +kernel
theorem dX2_isMeasure_27 : decode cX2_isMeasure 27 = .ok (.iconst 1, 1) := by decide +kernel
theorem dX2_isMeasure_28 : decode cX2_isMeasure 28 = .ok (.goto 4, 3) := by decide +kernel
theorem dX2_isMeasure_31 : decode cX2_isMeasure 31 = .ok (.iconst 0, 1) := by decide +kernel
theorem dX2_isMeasure_32 : decode cX2_isMeasure 32 = .ok (.ireturn, 1) := by decide +kernel
theorem dX2_set_0 : decode cX2_set 0 = .ok (.aload_n 0, 1) := by decide +kernel
theorem dX2_set_1 : decode cX2_set 1 = .ok (.getfield 16, 3) := by decide +kernel
theorem dX2_set_4 : decode cX2_set 4 = .ok (.iconst 3, 1) := by decide +kernel
theorem dX2_set_5 : decode cX2_set 5 = .ok (.iload_n 1, 1) := by decide +kernel
theorem dX2_set_6 : decode cX2_set 6 = .ok (.imul, 1) := by decide +kernel
theorem dX2_set_7 : decode cX2_set 7 = .ok (.iload_n 2, 1) := by decide +kernel
theorem dX2_set_8 : decode cX2_set 8 = .ok (.iastore, 1) := by decide +kernel
theorem dX2_set_9 : decode cX2_set 9 = .ok (.aload_n 0, 1) := by decide +kernel
theorem dX2_set_10 : decode cX2_set 10 = .ok (.getfield 16, 3) := by decide +kernel
theorem dX2_set_13 : decode cX2_set 13 = .ok (.iconst 3, 1) := by decide +kernel
theorem dX2_set_14 : decode cX2_set 14 = .ok (.iload_n 1, 1) := by decide +kernel
theorem dX2_set_15 : decode cX2_set 15 = .ok (.imul, 1) := by decide +kernel
theorem dX2_set_16 : decode cX2_set 16 = .ok (.iconst 1, 1) := by decide +kernel
theorem dX2_set_17 : decode cX2_set 17 = .ok (.iadd, 1) := by decide +kernel
theorem dX2_set_18 : decode cX2_set 18 = .ok (.iload_n 3, 1) := by decide +kernel
theorem dX2_set_19 : decode cX2_set 19 = .ok (.iastore, 1) := by decide +kernel
theorem dX2_set_20 : decode cX2_set 20 = .ok (.aload_n 0, 1) := by decide +kernel
theorem dX2_set_21 : decode cX2_set 21 = .ok (.getfield 16, 3) := by decide +kernel
theorem dX2_set_24 : decode cX2_set 24 = .ok (.iconst 3, 1) := by decide +kernel
theorem dX2_set_25 : decode cX2_set 25 = .ok (.iload_n 1, 1) := by decide +kernel
theorem dX2_set_26 : decode cX2_set 26 = .ok (.imul, 1) := by decide +kernel
theorem dX2_set_27 : decode cX2_set 27 = .ok (.iconst 2, 1) := by decide +kernel
theorem dX2_set_28 : decode cX2_set 28 = .ok (.iadd, 1) := by decide +kernel
theorem dX2_set_29 : decode cX2_set 29 = .ok (.iload 4, 2) := by decide +kernel
theorem dX2_set_31 : decode cX2_set 31 = .ok (.iastore, 1) := by decide +kernel
theorem dX2_set_32 : decode cX2_set 32 = .ok (.return_, 1) := by decide +kernel
theorem dX2_put_0 : decode cX2_put 0 = .ok (.bipush 24, 2) := by decide +kernel
theorem dX2_put_2 : decode cX2_put 2 = .ok (.iload_n 1, 1) := by decide +kernel
theorem dX2_put_3 : decode cX2_put 3 = .ok (.imul, 1) := by decide +kernel
theorem dX2_put_4 : decode cX2_put 4 = .ok (.aload_n 0, 1) := by decide +kernel
theorem dX2_put_5 : decode cX2_put 5 = .ok (.getfield 9, 3) := by decide +kernel
theorem dX2_put_8 : decode cX2_put 8 = .ok (.iload_n 1, 1) := by decide +kernel
theorem dX2_put_9 : decode cX2_put 9 = .ok (.iaload, 1) := by decide +kernel
theorem dX2_put_10 : decode cX2_put 10 = .ok (.iadd, 1) := by decide +kernel
theorem dX2_put_11 : decode cX2_put 11 = .ok (.istore 6, 2) := by decide +kernel
theorem dX2_put_13 : decode cX2_put 13 = .ok (.aload_n 0, 1) := by decide +kernel
theorem dX2_put_14 : decode cX2_put 14 = .ok (.getfield 19, 3) := by decide +kernel
theorem dX2_put_17 : decode cX2_put 17 = .ok (.iload 6, 2) := by decide +kernel
theorem dX2_put_19 : decode cX2_put 19 = .ok (.iload_n 2, 1) := by decide +kernel
theorem dX2_put_20 : decode cX2_put 20 = .ok (.iastore, 1) := by decide +kernel
theorem dX2_put_21 : decode cX2_put 21 = .ok (.aload_n 0, 1) := by decide +kernel
theorem dX2_put_22 : decode cX2_put 22 = .ok (.getfield 22, 3) := by decide +kernel
theorem dX2_put_25 : decode cX2_put 25 = .ok (.iload 6, 2) := by decide +kernel
theorem dX2_put_27 : decode cX2_put 27 = .ok (.iload_n 3, 1) := by decide +kernel
theorem dX2_put_28 : decode cX2_put 28 = .ok (.iastore, 1) := by decide +kernel
theorem dX2_put_29 : decode cX2_put 29 = .ok (.aload_n 0, 1) := by decide +kernel
theorem dX2_put_30 : decode cX2_put 30 = .ok (.getfield 25, 3) := by decide +kernel
theorem dX2_put_33 : decode cX2_put 33 = .ok (.iload 6, 2) := by decide +kernel
theorem dX2_put_35 : decode cX2_put 35 = .ok (.iload 4, 2) := by decide +kernel
theorem dX2_put_37 : decode cX2_put 37 = .ok (.bastore, 1) := by decide +kernel
theorem dX2_put_38 : decode cX2_put 38 = .ok (.aload_n 0, 1) := by decide +kernel
theorem dX2_put_39 : decode cX2_put 39 = .ok (.getfield 29, 3) := by decide +kernel
theorem dX2_put_42 : decode cX2_put 42 = .ok (.iload 6, 2) := by decide +kernel
theorem dX2_put_44 : decode cX2_put 44 = .ok (.iload 5, 2) := by decide +kernel
theorem dX2_put_46 : decode cX2_put 46 = .ok (.iastore, 1) := by decide +kernel
theorem dX2_put_47 : decode cX2_put 47 = .ok (.aload_n 0, 1) := by decide +kernel
theorem dX2_put_48 : decode cX2_put 48 = .ok (.getfield 9, 3) := by decide +kernel
theorem dX2_put_51 : decode cX2_put 51 = .ok (.iload_n 1, 1) := by decide +kernel
theorem dX2_put_52 : decode cX2_put 52 = .ok (.dup2, 1) := by decide +kernel
theorem dX2_put_53 : decode cX2_put 53 = .ok (.iaload, 1) := by decide +kernel
theorem dX2_put_54 : decode cX2_put 54 = .ok (.iconst 1, 1) := by decide +kernel
theorem dX2_put_55 : decode cX2_put 55 = .ok (.iadd, 1) := by decide +kernel
theorem dX2_put_56 : decode cX2_put 56 = .ok (.iastore, 1) := by decide +kernel
theorem dX2_put_57 : decode cX2_put 57 = .ok (.return_, 1) := by decide +kernel
theorem dX2_lasts_0 : decode cX2_lasts 0 = .ok (.bipush 24, 2) := by decide +kernel
theorem dX2_lasts_2 : decode cX2_lasts 2 = .ok (.iload_n 1, 1) := by decide +kernel
theorem dX2_lasts_3 : decode cX2_lasts 3 = .ok (.imul, 1) := by decide +kernel
theorem dX2_lasts_4 : decode cX2_lasts 4 = .ok (.iload_n 2, 1) := by decide +kernel
theorem dX2_lasts_5 : decode cX2_lasts 5 = .ok (.iadd, 1) := by decide +kernel
theorem dX2_lasts_6 : decode cX2_lasts 6 = .ok (.istore_n 3, 1) := by decide +kernel
theorem dX2_lasts_7 : decode cX2_lasts 7 = .ok (.iconst 1, 1) := by decide +kernel
theorem dX2_lasts_8 : decode cX2_lasts 8 = .ok (.istore 4, 2) := by decide +kernel
theorem dX2_lasts_10 : decode cX2_lasts 10 = .ok (.iconst 2, 1) := by decide +kernel
theorem dX2_lasts_11 : decode cX2_lasts 11 = .ok (.istore 5, 2) := by decide +kernel
theorem dX2_lasts_13 : decode cX2_lasts 13 = .ok (.iload 5, 2) := by decide +kernel
theorem dX2_lasts_15 : decode cX2_lasts 15 = .ok (.aload_n 0, 1) := by decide +kernel
theorem dX2_lasts_16 : decode cX2_lasts 16 = .ok (.getfield 19, 3) := by decide +kernel
theorem dX2_lasts_19 : decode cX2_lasts 19 = .ok (.iload_n 3, 1) := by decide +kernel
theorem dX2_lasts_20 : decode cX2_lasts 20 = .ok (.iaload, 1) := by decide +kernel
theorem dX2_lasts_21 : decode cX2_lasts 21 = .ok (.if_icmp .lt 49, 3) := by decide +kernel
theorem dX2_lasts_24 : decode cX2_lasts 24 = .ok (.iload 4, 2) := by decide +kernel
theorem dX2_lasts_26 : decode cX2_lasts 26 = .ok (.aload_n 0, 1) := by decide +kernel
theorem dX2_lasts_27 : decode cX2_lasts 27 = .ok (.getfield 25, 3) := by decide +kernel
theorem dX2_lasts_30 : decode cX2_lasts 30 = .ok (.iload_n 3, 1) := by decide +kernel
theorem dX2_lasts_31 : decode cX2_lasts 31 = .ok (.baload, 1) := by decide +kernel
theorem dX2_lasts_32 : decode cX2_lasts 32 = .ok (.ifCond .eq 18, 3) := by decide +kernel
theorem dX2_lasts_35 : decode cX2_lasts 35 = .ok (.iload 5, 2) := by decide +kernel
theorem dX2_lasts_37 : decode cX2_lasts 37 = .ok (.aload_n 0, 1) := by decide +kernel
theorem dX2_lasts_38 : decode cX2_lasts 38 = .ok (.getfield 19, 3) := by decide +kernel
theorem dX2_lasts_41 : decode cX2_lasts 41 = .ok (.iload_n 3, 1) := by decide +kernel
theorem dX2_lasts_42 : decode cX2_lasts 42 = .ok (.iaload, 1) := by decide +kernel
theorem dX2_lasts_43 : decode cX2_lasts 43 = .ok (.if_icmp .ne 7, 3) := by decide +kernel
theorem dX2_lasts_46 : decode cX2_lasts 46 = .ok (.iconst 2, 1) := by decide +kernel
theorem dX2_lasts_47 : decode cX2_lasts 47 = .ok (.goto 14, 3) := by decide +kernel
theorem dX2_lasts_50 : decode cX2_lasts 50 = .ok (.aload_n 0, 1) := by decide +kernel
theorem dX2_lasts_51 : decode cX2_lasts 51 = .ok (.getfield 16, 3) := by decide +kernel
theorem dX2_lasts_54 : decode cX2_lasts 54 = .ok (.iconst 3, 1) := by decide +kernel
theorem dX2_lasts_55 : decode cX2_lasts 55 = .ok (.iload_n 1, 1) := by decide +kernel
theorem dX2_lasts_56 : decode cX2_lasts 56 = .ok (.imul, 1) := by decide +kernel
theorem dX2_lasts_57 : decode cX2_lasts 57 = .ok (.iload 5, 2) := by decide +kernel
theorem dX2_lasts_59 : decode cX2_lasts 59 = .ok (.iadd, 1) := by decide +kernel
theorem dX2_lasts_60 : decode cX2_lasts 60 = .ok (.iaload, 1) := by decide +kernel
theorem dX2_lasts_61 : decode cX2_lasts 61 = .ok (.imul, 1) := by decide +kernel
theorem dX2_lasts_62 : decode cX2_lasts 62 = .ok (.istore 4, 2) := by decide +kernel
theorem dX2_lasts_64 : decode cX2_lasts 64 = .ok (.iinc 5 (-1), 3) := by decide +kernel
theorem dX2_lasts_67 : decode cX2_lasts 67 = .ok (.goto (-54), 3) := by decide +kernel
theorem dX2_lasts_70 : decode cX2_lasts 70 = .ok (.iload 4, 2) := by decide +kernel
theorem dX2_lasts_72 : decode cX2_lasts 72 = .ok (.ireturn, 1) := by decide +kernel
theorem dX2_all_0 : decode cX2_all 0 = .ok (.iconst 0, 1) := by decide +kernel
theorem dX2_all_1 : decode cX2_all 1 = .ok (.istore_n 2, 1) := by decide +kernel
theorem dX2_all_2 : decode cX2_all 2 = .ok (.iconst 0, 1) := by decide +kernel
theorem dX2_all_3 : decode cX2_all 3 = .ok (.istore_n 3, 1) := by decide +kernel
theorem dX2_all_4 : decode cX2_all 4 = .ok (.iload_n 3, 1) := by decide +kernel
theorem dX2_all_5 : decode cX2_all 5 = .ok (.aload_n 0, 1) := by decide +kernel
theorem dX2_all_6 : decode cX2_all 6 = .ok (.getfield 9, 3) := by decide +kernel
theorem dX2_all_9 : decode cX2_all 9 = .ok (.iload_n 1, 1) := by decide +kernel
theorem dX2_all_10 : decode cX2_all 10 = .ok (.iaload, 1) := by decide +kernel
theorem dX2_all_11 : decode cX2_all 11 = .ok (.if_icmp .ge 18, 3) := by decide +kernel
theorem dX2_all_14 : decode cX2_all 14 = .ok (.iload_n 2, 1) := by decide +kernel
theorem dX2_all_15 : decode cX2_all 15 = .ok (.aload_n 0, 1) := by decide +kernel
theorem dX2_all_16 : decode cX2_all 16 = .ok (.iload_n 1, 1) := by decide +kernel
theorem dX2_all_17 : decode cX2_all 17 = .ok (.iload_n 3, 1) := by decide +kernel
theorem dX2_all_18 : decode cX2_all 18 = .ok (.invokevirtual 53, 3) := by decide +kernel
theorem dX2_all_21 : decode cX2_all 21 = .ok (.iadd, 1) := by decide +kernel
theorem dX2_all_22 : decode cX2_all 22 = .ok (.istore_n 2, 1) := by decide +kernel
theorem dX2_all_23 : decode cX2_all 23 = .ok (.iinc 3 1, 3) := by decide +kernel
theorem dX2_all_26 : decode cX2_all 26 = .ok (.goto (-22), 3) := by decide +kernel
theorem dX2_all_29 : decode cX2_all 29 = .ok (.iload_n 2, 1) := by decide +kernel
theorem dX2_all_30 : decode cX2_all 30 = .ok (.ireturn, 1) := by decide +kernel
theorem dX2_lay_0 : decode cX2_lay 0 = .ok (.iconst 0, 1) := by decide +kernel
theorem dX2_lay_1 : decode cX2_lay 1 = .ok (.istore_n 3, 1) := by decide +kernel
theorem dX2_lay_2 : decode cX2_lay 2 = .ok (.iconst 0, 1) := by decide +kernel
theorem dX2_lay_3 : decode cX2_lay 3 = .ok (.istore 4, 2) := by decide +kernel
theorem dX2_lay_5 : decode cX2_lay 5 = .ok (.iload 4, 2) := by decide +kernel
theorem dX2_lay_7 : decode cX2_lay 7 = .ok (.aload_n 0, 1) := by decide +kernel
theorem dX2_lay_8 : decode cX2_lay 8 = .ok (.getfield 9, 3) := by decide +kernel
theorem dX2_lay_11 : decode cX2_lay 11 = .ok (.iload_n 1, 1) := by decide +kernel
theorem dX2_lay_12 : decode cX2_lay 12 = .ok (.iaload, 1) := by decide +kernel
theorem dX2_lay_13 : decode cX2_lay 13 = .ok (.if_icmp .ge 47, 3) := by decide +kernel
theorem dX2_lay_16 : decode cX2_lay 16 = .ok (.iload_n 3, 1) := by decide +kernel
theorem dX2_lay_17 : decode cX2_lay 17 = .ok (.aload_n 0, 1) := by decide +kernel
theorem dX2_lay_18 : decode cX2_lay 18 = .ok (.iload_n 1, 1) := by decide +kernel
theorem dX2_lay_19 : decode cX2_lay 19 = .ok (.iload 4, 2) := by decide +kernel
theorem dX2_lay_21 : decode cX2_lay 21 = .ok (.invokevirtual 53, 3) := by decide +kernel
theorem dX2_lay_24 : decode cX2_lay 24 = .ok (.iadd, 1) := by decide +kernel
theorem dX2_lay_25 : decode cX2_lay 25 = .ok (.istore 5, 2) := by decide +kernel
theorem dX2_lay_27 : decode cX2_lay 27 = .ok (.iload_n 3, 1) := by decide +kernel
theorem dX2_lay_28 : decode cX2_lay 28 = .ok (.iload 5, 2) := by decide +kernel
theorem dX2_lay_30 : decode cX2_lay 30 = .ok (.if_icmp .ge 24, 3) := by decide +kernel
theorem dX2_lay_33 : decode cX2_lay 33 = .ok (.aload_n 2, 1) := by decide +kernel
theorem dX2_lay_34 : decode cX2_lay 34 = .ok (.iload_n 3, 1) := by decide +kernel
theorem dX2_lay_35 : decode cX2_lay 35 = .ok (.aload_n 0, 1) := by decide +kernel
theorem dX2_lay_36 : decode cX2_lay 36 = .ok (.getfield 22, 3) := by decide +kernel
theorem dX2_lay_39 : decode cX2_lay 39 = .ok (.bipush 24, 2) := by decide +kernel
theorem dX2_lay_41 : decode cX2_lay 41 = .ok (.iload_n 1, 1) := by decide +kernel
theorem dX2_lay_42 : decode cX2_lay 42 = .ok (.imul, 1) := by decide +kernel
theorem dX2_lay_43 : decode cX2_lay 43 = .ok (.iload 4, 2) := by decide +kernel
theorem dX2_lay_45 : decode cX2_lay 45 = .ok (.iadd, 1) := by decide +kernel
theorem dX2_lay_46 : decode cX2_lay 46 = .ok (.iaload, 1) := by decide +kernel
theorem dX2_lay_47 : decode cX2_lay 47 = .ok (.iastore, 1) := by decide +kernel
theorem dX2_lay_48 : decode cX2_lay 48 = .ok (.iinc 3 1, 3) := by decide +kernel
theorem dX2_lay_51 : decode cX2_lay 51 = .ok (.goto (-24), 3) := by decide +kernel
theorem dX2_lay_54 : decode cX2_lay 54 = .ok (.iinc 4 1, 3) := by decide +kernel
theorem dX2_lay_57 : decode cX2_lay 57 = .ok (.goto (-52), 3) := by decide +kernel
theorem dX2_lay_60 : decode cX2_lay 60 = .ok (.iload_n 3, 1) := by decide +kernel
theorem dX2_lay_61 : decode cX2_lay 61 = .ok (.ireturn, 1) := by decide +kernel
theorem dX2_isClash_0 : decode cX2_isClash 0 = .ok (.iload_n 0, 1) := by decide +kernel
theorem dX2_isClash_1 : decode cX2_isClash 1 = .ok (.invokestatic 57, 3) := by decide +kernel
theorem dX2_isClash_4 : decode cX2_isClash 4 = .ok (.bipush 7, 2) := by decide +kernel
theorem dX2_isClash_6 : decode cX2_isClash 6 = .ok (.irem, 1) := by decide +kernel
theorem dX2_isClash_7 : decode cX2_isClash 7 = .ok (.istore_n 1, 1) := by decide +kernel
theorem dX2_isClash_8 : decode cX2_isClash 8 = .ok (.iload_n 1, 1) := by decide +kernel
theorem dX2_isClash_9 : decode cX2_isClash 9 = .ok (.iconst 1, 1) := by decide +kernel
theorem dX2_isClash_10 : decode cX2_isClash 10 = .ok (.if_icmp .eq 14, 3) := by decide +kernel
theorem dX2_isClash_13 : decode cX2_isClash 13 = .ok (.iload_n 1, 1) := by decide +kernel
theorem dX2_isClash_14 : decode cX2_isClash 14 = .ok (.iconst 3, 1) := by decide +kernel
theorem dX2_isClash_15 : decode cX2_isClash 15 = .ok (.if_icmp .eq 9, 3) := by decide +kernel
theorem dX2_isClash_18 : decode cX2_isClash 18 = .ok (.iload_n 1, 1) := by decide +kernel
theorem dX2_isClash_19 : decode cX2_isClash 19 = .ok (.bipush 6, 2) := by decide +kernel
theorem dX2_isClash_21 : decode cX2_isClash 21 = .ok (.if_icmp .ne 7, 3) := by decide +kernel
theorem dX2_isClash_24 : decode cX2_isClash 24 = .ok (.iconst 1, 1) := by decide +kernel
theorem dX2_isClash_25 : decode cX2_isClash 25 = .ok (.goto 4, 3) := by decide +kernel
theorem dX2_isClash_28 : decode cX2_isClash 28 = .ok (.iconst 0, 1) := by decide +kernel
theorem dX2_isClash_29 : decode cX2_isClash 29 = .ok (.ireturn, 1) := by decide +kernel
theorem dX2_clash_0 : decode cX2_clash 0 = .ok (.aload_n 0, 1) := by decide +kernel
theorem dX2_clash_1 : decode cX2_clash 1 = .ok (.iload_n 1, 1) := by decide +kernel
theorem dX2_clash_2 : decode cX2_clash 2 = .ok (.aload_n 0, 1) := by decide +kernel
theorem dX2_clash_3 : decode cX2_clash 3 = .ok (.getfield 32, 3) := by decide +kernel
theorem dX2_clash_6 : decode cX2_clash 6 = .ok (.invokevirtual 63, 3) := by decide +kernel
theorem dX2_clash_9 : decode cX2_clash 9 = .ok (.aload_n 0, 1) := by decide +kernel
theorem dX2_clash_10 : decode cX2_clash 10 = .ok (.iload_n 3, 1) := by decide +kernel
theorem dX2_clash_11 : decode cX2_clash 11 = .ok (.aload_n 0, 1) := by decide +kernel
theorem dX2_clash_12 : decode cX2_clash 12 = .ok (.getfield 35, 3) := by decide +kernel
theorem dX2_clash_15 : decode cX2_clash 15 = .ok (.invokevirtual 63, 3) := by decide +kernel
theorem dX2_clash_18 : decode cX2_clash 18 = .ok (.invokestatic 67, 3) := by decide +kernel
theorem dX2_clash_21 : decode cX2_clash 21 = .ok (.istore 6, 2) := by decide +kernel
theorem dX2_clash_23 : decode cX2_clash 23 = .ok (.iconst 0, 1) := by decide +kernel
theorem dX2_clash_24 : decode cX2_clash 24 = .ok (.istore 7, 2) := by decide +kernel
theorem dX2_clash_26 : decode cX2_clash 26 = .ok (.iconst 0, 1) := by decide +kernel
theorem dX2_clash_27 : decode cX2_clash 27 = .ok (.istore 8, 2) := by decide +kernel
theorem dX2_clash_29 : decode cX2_clash 29 = .ok (.iload 8, 2) := by decide +kernel
theorem dX2_clash_31 : decode cX2_clash 31 = .ok (.iload 6, 2) := by decide +kernel
theorem dX2_clash_33 : decode cX2_clash 33 = .ok (.if_icmp .ge 75, 3) := by decide +kernel
theorem dX2_clash_36 : decode cX2_clash 36 = .ok (.aload_n 0, 1) := by decide +kernel
theorem dX2_clash_37 : decode cX2_clash 37 = .ok (.getfield 32, 3) := by decide +kernel
theorem dX2_clash_40 : decode cX2_clash 40 = .ok (.iload 8, 2) := by decide +kernel
theorem dX2_clash_42 : decode cX2_clash 42 = .ok (.iaload, 1) := by decide +kernel
theorem dX2_clash_43 : decode cX2_clash 43 = .ok (.iconst (-1), 1) := by decide +kernel
theorem dX2_clash_44 : decode cX2_clash 44 = .ok (.if_icmp .eq 58, 3) := by decide +kernel
theorem dX2_clash_47 : decode cX2_clash 47 = .ok (.aload_n 0, 1) := by decide +kernel
theorem dX2_clash_48 : decode cX2_clash 48 = .ok (.getfield 35, 3) := by decide +kernel
theorem dX2_clash_51 : decode cX2_clash 51 = .ok (.iload 8, 2) := by decide +kernel
theorem dX2_clash_53 : decode cX2_clash 53 = .ok (.iaload, 1) := by decide +kernel
theorem dX2_clash_54 : decode cX2_clash 54 = .ok (.iconst (-1), 1) := by decide +kernel
theorem dX2_clash_55 : decode cX2_clash 55 = .ok (.if_icmp .eq 47, 3) := by decide +kernel
theorem dX2_clash_58 : decode cX2_clash 58 = .ok (.aload_n 0, 1) := by decide +kernel
theorem dX2_clash_59 : decode cX2_clash 59 = .ok (.getfield 32, 3) := by decide +kernel
theorem dX2_clash_62 : decode cX2_clash 62 = .ok (.iload 8, 2) := by decide +kernel
theorem dX2_clash_64 : decode cX2_clash 64 = .ok (.iaload, 1) := by decide +kernel
theorem dX2_clash_65 : decode cX2_clash 65 = .ok (.iconst 2, 1) := by decide +kernel
theorem dX2_clash_66 : decode cX2_clash 66 = .ok (.iload_n 2, 1) := by decide +kernel
theorem dX2_clash_67 : decode cX2_clash 67 = .ok (.imul, 1) := by decide +kernel
theorem dX2_clash_68 : decode cX2_clash 68 = .ok (.iadd, 1) := by decide +kernel
theorem dX2_clash_69 : decode cX2_clash 69 = .ok (.aload_n 0, 1) := by decide +kernel
theorem dX2_clash_70 : decode cX2_clash 70 = .ok (.getfield 35, 3) := by decide +kernel
theorem dX2_clash_73 : decode cX2_clash 73 = .ok (.iload 8, 2) := by decide +kernel
theorem dX2_clash_75 : decode cX2_clash 75 = .ok (.iaload, 1) := by decide +kernel
theorem dX2_clash_76 : decode cX2_clash 76 = .ok (.isub, 1) := by decide +kernel
theorem dX2_clash_77 : decode cX2_clash 77 = .ok (.iconst 2, 1) := by decide +kernel
theorem dX2_clash_78 : decode cX2_clash 78 = .ok (.iload 4, 2) := by decide +kernel
theorem dX2_clash_80 : decode cX2_clash 80 = .ok (.imul, 1) := by decide +kernel
theorem dX2_clash_81 : decode cX2_clash 81 = .ok (.isub, 1) := by decide +kernel
theorem dX2_clash_82 : decode cX2_clash 82 = .ok (.invokestatic 70, 3) := by decide +kernel
theorem dX2_clash_85 : decode cX2_clash 85 = .ok (.ifCond .ne 6, 3) := by decide +kernel
theorem dX2_clash_88 : decode cX2_clash 88 = .ok (.goto 14, 3) := by decide +kernel
theorem dX2_clash_91 : decode cX2_clash 91 = .ok (.iload 5, 2) := by decide +kernel
theorem dX2_clash_93 : decode cX2_clash 93 = .ok (.ifCond .eq 6, 3) := by decide +kernel
theorem dX2_clash_96 : decode cX2_clash 96 = .ok (.iload 8, 2) := by decide +kernel
theorem dX2_clash_98 : decode cX2_clash 98 = .ok (.ireturn, 1) := by decide +kernel
theorem dX2_clash_99 : decode cX2_clash 99 = .ok (.iinc 7 1, 3) := by decide +kernel
theorem dX2_clash_102 : decode cX2_clash 102 = .ok (.iinc 8 1, 3) := by decide +kernel
theorem dX2_clash_105 : decode cX2_clash 105 = .ok (.goto (-76), 3) := by decide +kernel
theorem dX2_clash_108 : decode cX2_clash 108 = .ok (.iload 5, 2) := by decide +kernel
theorem dX2_clash_110 : decode cX2_clash 110 = .ok (.ifCond .eq 7, 3) := by decide +kernel
theorem dX2_clash_113 : decode cX2_clash 113 = .ok (.iconst (-1), 1) := by decide +kernel
theorem dX2_clash_114 : decode cX2_clash 114 = .ok (.goto 5, 3) := by decide +kernel
theorem dX2_clash_117 : decode cX2_clash 117 = .ok (.iload 7, 2) := by decide +kernel
theorem dX2_clash_119 : decode cX2_clash 119 = .ok (.ireturn, 1) := by decide +kernel
theorem dX2_addVoice_0 : decode cX2_addVoice 0 = .ok (.aload_n 0, 1) := by decide +kernel
theorem dX2_addVoice_1 : decode cX2_addVoice 1 = .ok (.iconst 0, 1) := by decide +kernel
theorem dX2_addVoice_2 : decode cX2_addVoice 2 = .ok (.putfield 38, 3) := by decide +kernel
theorem dX2_addVoice_5 : decode cX2_addVoice 5 = .ok (.iload_n 1, 1) := by decide +kernel
theorem dX2_addVoice_6 : decode cX2_addVoice 6 = .ok (.iload_n 2, 1) := by decide +kernel
theorem dX2_addVoice_7 : decode cX2_addVoice 7 = .ok (.iload_n 3, 1) := by decide +kernel
theorem dX2_addVoice_8 : decode cX2_addVoice 8 = .ok (.invokestatic 73, 3) := by decide +kernel
theorem dX2_addVoice_11 : decode cX2_addVoice 11 = .ok (.ifCond .ne 9, 3) := by decide +kernel
theorem dX2_addVoice_14 : decode cX2_addVoice 14 = .ok (.aload_n 0, 1) := by decide +kernel
theorem dX2_addVoice_15 : decode cX2_addVoice 15 = .ok (.iconst 1, 1) := by decide +kernel
theorem dX2_addVoice_16 : decode cX2_addVoice 16 = .ok (.invokevirtual 76, 3) := by decide +kernel
theorem dX2_addVoice_19 : decode cX2_addVoice 19 = .ok (.ireturn, 1) := by decide +kernel
theorem dX2_addVoice_20 : decode cX2_addVoice 20 = .ok (.aload_n 0, 1) := by decide +kernel
theorem dX2_addVoice_21 : decode cX2_addVoice 21 = .ok (.getfield 42, 3) := by decide +kernel
theorem dX2_addVoice_24 : decode cX2_addVoice 24 = .ok (.iconst 4, 1) := by decide +kernel
theorem dX2_addVoice_25 : decode cX2_addVoice 25 = .ok (.if_icmp .ne 9, 3) := by decide +kernel
theorem dX2_addVoice_28 : decode cX2_addVoice 28 = .ok (.aload_n 0, 1) := by decide +kernel
theorem dX2_addVoice_29 : decode cX2_addVoice 29 = .ok (.iconst 2, 1) := by decide +kernel
theorem dX2_addVoice_30 : decode cX2_addVoice 30 = .ok (.invokevirtual 76, 3) := by decide +kernel
theorem dX2_addVoice_33 : decode cX2_addVoice 33 = .ok (.ireturn, 1) := by decide +kernel
theorem dX2_addVoice_34 : decode cX2_addVoice 34 = .ok (.aload_n 0, 1) := by decide +kernel
theorem dX2_addVoice_35 : decode cX2_addVoice 35 = .ok (.aload_n 0, 1) := by decide +kernel
theorem dX2_addVoice_36 : decode cX2_addVoice 36 = .ok (.getfield 42, 3) := by decide +kernel
theorem dX2_addVoice_39 : decode cX2_addVoice 39 = .ok (.iload_n 1, 1) := by decide +kernel
theorem dX2_addVoice_40 : decode cX2_addVoice 40 = .ok (.iload_n 2, 1) := by decide +kernel
theorem dX2_addVoice_41 : decode cX2_addVoice 41 = .ok (.iload_n 3, 1) := by decide +kernel
theorem dX2_addVoice_42 : decode cX2_addVoice 42 = .ok (.invokevirtual 79, 3) := by decide +kernel
theorem dX2_addVoice_45 : decode cX2_addVoice 45 = .ok (.aload_n 0, 1) := by decide +kernel
theorem dX2_addVoice_46 : decode cX2_addVoice 46 = .ok (.getfield 13, 3) := by decide +kernel
theorem dX2_addVoice_49 : decode cX2_addVoice 49 = .ok (.aload_n 0, 1) := by decide +kernel
theorem dX2_addVoice_50 : decode cX2_addVoice 50 = .ok (.getfield 42, 3) := by decide +kernel
theorem dX2_addVoice_53 : decode cX2_addVoice 53 = .ok (.iconst (-1), 1) := by decide +kernel
theorem dX2_addVoice_54 : decode cX2_addVoice 54 = .ok (.iastore, 1) := by decide +kernel
theorem dX2_addVoice_55 : decode cX2_addVoice 55 = .ok (.aload_n 0, 1) := by decide +kernel
theorem dX2_addVoice_56 : decode cX2_addVoice 56 = .ok (.dup, 1) := by decide +kernel
theorem dX2_addVoice_57 : decode cX2_addVoice 57 = .ok (.getfield 42, 3) := by decide +kernel
theorem dX2_addVoice_60 : decode cX2_addVoice 60 = .ok (.iconst 1, 1) := by decide +kernel
theorem dX2_addVoice_61 : decode cX2_addVoice 61 = .ok (.iadd, 1) := by decide +kernel
theorem dX2_addVoice_62 : decode cX2_addVoice 62 = .ok (.putfield 42, 3) := by decide +kernel
theorem dX2_addVoice_65 : decode cX2_addVoice 65 = .ok (.aload_n 0, 1) := by decide +kernel
theorem dX2_addVoice_66 : decode cX2_addVoice 66 = .ok (.getfield 42, 3) := by decide +kernel
theorem dX2_addVoice_69 : decode cX2_addVoice 69 = .ok (.iconst 1, 1) := by decide +kernel
theorem dX2_addVoice_70 : decode cX2_addVoice 70 = .ok (.isub, 1) := by decide +kernel
theorem dX2_addVoice_71 : decode cX2_addVoice 71 = .ok (.ireturn, 1) := by decide +kernel
theorem dX2_addNote_0 : decode cX2_addNote 0 = .ok (.aload_n 0, 1) := by decide +kernel
theorem dX2_addNote_1 : decode cX2_addNote 1 = .ok (.iconst 0, 1) := by decide +kernel
theorem dX2_addNote_2 : decode cX2_addNote 2 = .ok (.putfield 38, 3) := by decide +kernel
theorem dX2_addNote_5 : decode cX2_addNote 5 = .ok (.aload_n 0, 1) := by decide +kernel
theorem dX2_addNote_6 : decode cX2_addNote 6 = .ok (.iload_n 1, 1) := by decide +kernel
theorem dX2_addNote_7 : decode cX2_addNote 7 = .ok (.invokevirtual 49, 3) := by decide +kernel
theorem dX2_addNote_10 : decode cX2_addNote 10 = .ok (.ifCond .ne 9, 3) := by decide +kernel
theorem dX2_addNote_13 : decode cX2_addNote 13 = .ok (.aload_n 0, 1) := by decide +kernel
theorem dX2_addNote_14 : decode cX2_addNote 14 = .ok (.iconst 1, 1) := by decide +kernel
theorem dX2_addNote_15 : decode cX2_addNote 15 = .ok (.invokevirtual 76, 3) := by decide +kernel
theorem dX2_addNote_18 : decode cX2_addNote 18 = .ok (.ireturn, 1) := by decide +kernel
theorem dX2_addNote_19 : decode cX2_addNote 19 = .ok (.iload_n 2, 1) := by decide +kernel
theorem dX2_addNote_20 : decode cX2_addNote 20 = .ok (.iconst 0, 1) := by decide +kernel
theorem dX2_addNote_21 : decode cX2_addNote 21 = .ok (.iconst 3, 1) := by decide +kernel
theorem dX2_addNote_22 : decode cX2_addNote 22 = .ok (.invokestatic 45, 3) := by decide +kernel
theorem dX2_addNote_25 : decode cX2_addNote 25 = .ok (.ifCond .eq 13, 3) := by decide +kernel
theorem dX2_addNote_28 : decode cX2_addNote 28 = .ok (.iload_n 3, 1) := by decide +kernel
theorem dX2_addNote_29 : decode cX2_addNote 29 = .ok (.iconst 0, 1) := by decide +kernel
theorem dX2_addNote_30 : decode cX2_addNote 30 = .ok (.bipush 9, 2) := by decide +kernel
theorem dX2_addNote_32 : decode cX2_addNote 32 = .ok (.invokestatic 45, 3) := by decide +kernel
theorem dX2_addNote_35 : decode cX2_addNote 35 = .ok (.ifCond .ne 9, 3) := by decide +kernel
theorem dX2_addNote_38 : decode cX2_addNote 38 = .ok (.aload_n 0, 1) := by decide +kernel
theorem dX2_addNote_39 : decode cX2_addNote 39 = .ok (.iconst 2, 1) := by decide +kernel
theorem dX2_addNote_40 : decode cX2_addNote 40 = .ok (.invokevirtual 76, 3) := by decide +kernel
theorem dX2_addNote_43 : decode cX2_addNote 43 = .ok (.ireturn, 1) := by decide +kernel
theorem dX2_addNote_44 : decode cX2_addNote 44 = .ok (.aload_n 0, 1) := by decide +kernel
theorem dX2_addNote_45 : decode cX2_addNote 45 = .ok (.getfield 9, 3) := by decide +kernel
theorem dX2_addNote_48 : decode cX2_addNote 48 = .ok (.iload_n 1, 1) := by decide +kernel
theorem dX2_addNote_49 : decode cX2_addNote 49 = .ok (.iaload, 1) := by decide +kernel
theorem dX2_addNote_50 : decode cX2_addNote 50 = .ok (.bipush 24, 2) := by decide +kernel
theorem dX2_addNote_52 : decode cX2_addNote 52 = .ok (.if_icmp .ne 9, 3) := by decide +kernel
theorem dX2_addNote_55 : decode cX2_addNote 55 = .ok (.aload_n 0, 1) := by decide +kernel
theorem dX2_addNote_56 : decode cX2_addNote 56 = .ok (.iconst 3, 1) := by decide +kernel
theorem dX2_addNote_57 : decode cX2_addNote 57 = .ok (.invokevirtual 76, 3) := by decide +kernel
theorem dX2_addNote_60 : decode cX2_addNote 60 = .ok (.ireturn, 1) := by decide +kernel
theorem dX2_addNote_61 : decode cX2_addNote 61 = .ok (.aload_n 0, 1) := by decide +kernel
theorem dX2_addNote_62 : decode cX2_addNote 62 = .ok (.iload_n 1, 1) := by decide +kernel
theorem dX2_addNote_63 : decode cX2_addNote 63 = .ok (.iload_n 2, 1) := by decide +kernel
theorem dX2_addNote_64 : decode cX2_addNote 64 = .ok (.iload_n 3, 1) := by decide +kernel
theorem dX2_addNote_65 : decode cX2_addNote 65 = .ok (.iload 4, 2) := by decide +kernel
theorem dX2_addNote_67 : decode cX2_addNote 67 = .ok (.iconst (-1), 1) := by decide +kernel
theorem dX2_addNote_68 : decode cX2_addNote 68 = .ok (.invokevirtual 83, 3) := by decide +kernel
theorem dX2_addNote_71 : decode cX2_addNote 71 = .ok (.aload_n 0, 1) := by decide +kernel
theorem dX2_addNote_72 : decode cX2_addNote 72 = .ok (.getfield 9, 3) := by decide +kernel
theorem dX2_addNote_75 : decode cX2_addNote 75 = .ok (.iload_n 1, 1) := by decide +kernel
theorem dX2_addNote_76 : decode cX2_addNote 76 = .ok (.iaload, 1) := by decide +kernel
theorem dX2_addNote_77 : decode cX2_addNote 77 = .ok (.iconst 1, 1) := by decide +kernel
theorem dX2_addNote_78 : decode cX2_addNote 78 = .ok (.isub, 1) := by decide +kernel
theorem dX2_addNote_79 : decode cX2_addNote 79 = .ok (.ireturn, 1) := by decide +kernel
theorem dX2_addRest_0 : decode cX2_addRest 0 = .ok (.aload_n 0, 1) := by decide +kernel
theorem dX2_addRest_1 : decode cX2_addRest 1 = .ok (.iconst 0, 1) := by decide +kernel
theorem dX2_addRest_2 : decode cX2_addRest 2 = .ok (.putfield 38, 3) := by decide +kernel
theorem dX2_addRest_5 : decode cX2_addRest 5 = .ok (.aload_n 0, 1) := by decide +kernel
theorem dX2_addRest_6 : decode cX2_addRest 6 = .ok (.iload_n 1, 1) := by decide +kernel
theorem dX2_addRest_7 : decode cX2_addRest 7 = .ok (.invokevirtual 49, 3) := by decide +kernel
theorem dX2_addRest_10 : decode cX2_addRest 10 = .ok (.ifCond .ne 9, 3) := by decide +kernel
theorem dX2_addRest_13 : decode cX2_addRest 13 = .ok (.aload_n 0, 1) := by decide +kernel
theorem dX2_addRest_14 : decode cX2_addRest 14 = .ok (.iconst 1, 1) := by decide +kernel
theorem dX2_addRest_15 : decode cX2_addRest 15 = .ok (.invokevirtual 76, 3) := by decide +kernel
theorem dX2_addRest_18 : decode cX2_addRest 18 = .ok (.ireturn, 1) := by decide +kernel
theorem dX2_addRest_19 : decode cX2_addRest 19 = .ok (.iload_n 2, 1) := by decide +kernel
theorem dX2_addRest_20 : decode cX2_addRest 20 = .ok (.iconst 0, 1) := by decide +kernel
theorem dX2_addRest_21 : decode cX2_addRest 21 = .ok (.iconst 3, 1) := by decide +kernel
theorem dX2_addRest_22 : decode cX2_addRest 22 = .ok (.invokestatic 45, 3) := by decide +kernel
theorem dX2_addRest_25 : decode cX2_addRest 25 = .ok (.ifCond .ne 9, 3) := by decide +kernel
theorem dX2_addRest_28 : decode cX2_addRest 28 = .ok (.aload_n 0, 1) := by decide +kernel
theorem dX2_addRest_29 : decode cX2_addRest 29 = .ok (.iconst 2, 1) := by decide +kernel
theorem dX2_addRest_30 : decode cX2_addRest 30 = .ok (.invokevirtual 76, 3) := by decide +kernel
theorem dX2_addRest_33 : decode cX2_addRest 33 = .ok (.ireturn, 1) := by decide +kernel
theorem dX2_addRest_34 : decode cX2_addRest 34 = .ok (.aload_n 0, 1) := by decide +kernel
theorem dX2_addRest_35 : decode cX2_addRest 35 = .ok (.getfield 9, 3) := by decide +kernel
theorem dX2_addRest_38 : decode cX2_addRest 38 = .ok (.iload_n 1, 1) := by decide +kernel
theorem dX2_addRest_39 : decode cX2_addRest 39 = .ok (.iaload, 1) := by decide +kernel
theorem dX2_addRest_40 : decode cX2_addRest 40 = .ok (.bipush 24, 2) := by decide +kernel
theorem dX2_addRest_42 : decode cX2_addRest 42 = .ok (.if_icmp .ne 9, 3) := by decide +kernel
theorem dX2_addRest_45 : decode cX2_addRest 45 = .ok (.aload_n 0, 1) := by decide +kernel
theorem dX2_addRest_46 : decode cX2_addRest 46 = .ok (.iconst 3, 1) := by decide +kernel
theorem dX2_addRest_47 : decode cX2_addRest 47 = .ok (.invokevirtual 76, 3) := by decide +kernel
theorem dX2_addRest_50 : decode cX2_addRest 50 = .ok (.ireturn, 1) := by decide +kernel
theorem dX2_addRest_51 : decode cX2_addRest 51 = .ok (.aload_n 0, 1) := by decide +kernel
theorem dX2_addRest_52 : decode cX2_addRest 52 = .ok (.iload_n 1, 1) := by decide +kernel
theorem dX2_addRest_53 : decode cX2_addRest 53 = .ok (.iload_n 2, 1) := by decide +kernel
theorem dX2_addRest_54 : decode cX2_addRest 54 = .ok (.iconst (-1), 1) := by decide +kernel
theorem dX2_addRest_55 : decode cX2_addRest 55 = .ok (.iconst 0, 1) := by decide +kernel
theorem dX2_addRest_56 : decode cX2_addRest 56 = .ok (.iconst (-1), 1) := by decide +kernel
theorem dX2_addRest_57 : decode cX2_addRest 57 = .ok (.invokevirtual 83, 3) := by decide +kernel
theorem dX2_addRest_60 : decode cX2_addRest 60 = .ok (.aload_n 0, 1) := by decide +kernel
theorem dX2_addRest_61 : decode cX2_addRest 61 = .ok (.getfield 9, 3) := by decide +kernel
theorem dX2_addRest_64 : decode cX2_addRest 64 = .ok (.iload_n 1, 1) := by decide +kernel
theorem dX2_addRest_65 : decode cX2_addRest 65 = .ok (.iaload, 1) := by decide +kernel
theorem dX2_addRest_66 : decode cX2_addRest 66 = .ok (.iconst 1, 1) := by decide +kernel
theorem dX2_addRest_67 : decode cX2_addRest 67 = .ok (.isub, 1) := by decide +kernel
theorem dX2_addRest_68 : decode cX2_addRest 68 = .ok (.ireturn, 1) := by decide +kernel
theorem dX2_addLigature_0 : decode cX2_addLigature 0 = .ok (.aload_n 0, 1) := by decide +kernel
theorem dX2_addLigature_1 : decode cX2_addLigature 1 = .ok (.iconst 0, 1) := by decide +kernel
theorem dX2_addLigature_2 : decode cX2_addLigature 2 = .ok (.putfield 38, 3) := by decide +kernel
theorem dX2_addLigature_5 : decode cX2_addLigature 5 = .ok (.aload_n 0, 1) := by decide +kernel
theorem dX2_addLigature_6 : decode cX2_addLigature 6 = .ok (.iload_n 1, 1) := by decide +kernel
theorem dX2_addLigature_7 : decode cX2_addLigature 7 = .ok (.invokevirtual 49, 3) := by decide +kernel
theorem dX2_addLigature_10 : decode cX2_addLigature 10 = .ok (.ifCond .ne 9, 3) := by decide +kernel
theorem dX2_addLigature_13 : decode cX2_addLigature 13 = .ok (.aload_n 0, 1) := by decide +kernel
theorem dX2_addLigature_14 : decode cX2_addLigature 14 = .ok (.iconst 1, 1) := by decide +kernel
theorem dX2_addLigature_15 : decode cX2_addLigature 15 = .ok (.invokevirtual 76, 3) := by decide +kernel
theorem dX2_addLigature_18 : decode cX2_addLigature 18 = .ok (.ireturn, 1) := by decide +kernel
theorem dX2_addLigature_19 : decode cX2_addLigature 19 = .ok (.iload_n 2, 1) := by decide +kernel
theorem dX2_addLigature_20 : decode cX2_addLigature 20 = .ok (.iconst 0, 1) := by decide +kernel
theorem dX2_addLigature_21 : decode cX2_addLigature 21 = .ok (.bipush 9, 2) := by decide +kernel
theorem dX2_addLigature_23 : decode cX2_addLigature 23 = .ok (.invokestatic 45, 3) := by decide +kernel
theorem dX2_addLigature_26 : decode cX2_addLigature 26 = .ok (.ifCond .eq 35, 3) := by decide +kernel
theorem dX2_addLigature_29 : decode cX2_addLigature 29 = .ok (.iload_n 3, 1) := by decide +kernel
theorem dX2_addLigature_30 : decode cX2_addLigature 30 = .ok (.iconst 0, 1) := by decide +kernel
theorem dX2_addLigature_31 : decode cX2_addLigature 31 = .ok (.bipush 9, 2) := by decide +kernel
theorem dX2_addLigature_33 : decode cX2_addLigature 33 = .ok (.invokestatic 45, 3) := by decide +kernel
theorem dX2_addLigature_36 : decode cX2_addLigature 36 = .ok (.ifCond .eq 25, 3) := by decide +kernel
theorem dX2_addLigature_39 : decode cX2_addLigature 39 = .ok (.iload 4, 2) := by decide +kernel
theorem dX2_addLigature_41 : decode cX2_addLigature 41 = .ok (.iconst (-1), 1) := by decide +kernel
theorem dX2_addLigature_42 : decode cX2_addLigature 42 = .ok (.bipush 9, 2) := by decide +kernel
theorem dX2_addLigature_44 : decode cX2_addLigature 44 = .ok (.invokestatic 45, 3) := by decide +kernel
theorem dX2_addLigature_47 : decode cX2_addLigature 47 = .ok (.ifCond .eq 14, 3) := by decide +kernel
theorem dX2_addLigature_50 : decode cX2_addLigature 50 = .ok (.iload_n 2, 1) := by decide +kernel
theorem dX2_addLigature_51 : decode cX2_addLigature 51 = .ok (.iload_n 3, 1) := by decide +kernel
theorem dX2_addLigature_52 : decode cX2_addLigature 52 = .ok (.if_icmp .eq 9, 3) := by decide +kernel
theorem dX2_addLigature_55 : decode cX2_addLigature 55 = .ok (.iload_n 3, 1) := by decide +kernel
theorem dX2_addLigature_56 : decode cX2_addLigature 56 = .ok (.iload 4, 2) := by decide +kernel
theorem dX2_addLigature_58 : decode cX2_addLigature 58 = .ok (.if_icmp .ne 9, 3) := by decide +kernel
theorem dX2_addLigature_61 : decode cX2_addLigature 61 = .ok (.aload_n 0, 1) := by decide +kernel
theorem dX2_addLigature_62 : decode cX2_addLigature 62 = .ok (.iconst 2, 1) := by decide +kernel
theorem dX2_addLigature_63 : decode cX2_addLigature 63 = .ok (.invokevirtual 76, 3) := by decide +kernel
theorem dX2_addLigature_66 : decode cX2_addLigature 66 = .ok (.ireturn, 1) := by decide +kernel
theorem dX2_addLigature_67 : decode cX2_addLigature 67 = .ok (.iload 4, 2) := by decide +kernel
theorem dX2_addLigature_69 : decode cX2_addLigature 69 = .ok (.iconst (-1), 1) := by decide +kernel
theorem dX2_addLigature_70 : decode cX2_addLigature 70 = .ok (.if_icmp .ne 7, 3) := by decide +kernel
theorem dX2_addLigature_73 : decode cX2_addLigature 73 = .ok (.iconst 2, 1) := by decide +kernel
theorem dX2_addLigature_74 : decode cX2_addLigature 74 = .ok (.goto 4, 3) := by decide +kernel
theorem dX2_addLigature_77 : decode cX2_addLigature 77 = .ok (.iconst 3, 1) := by decide +kernel
theorem dX2_addLigature_78 : decode cX2_addLigature 78 = .ok (.istore 6, 2) := by decide +kernel
theorem dX2_addLigature_80 : decode cX2_addLigature 80 = .ok (.aload_n 0, 1) := by decide +kernel
theorem dX2_addLigature_81 : decode cX2_addLigature 81 = .ok (.getfield 9, 3) := by decide +kernel
theorem dX2_addLigature_84 : decode cX2_addLigature 84 = .ok (.iload_n 1, 1) := by decide +kernel
theorem dX2_addLigature_85 : decode cX2_addLigature 85 = .ok (.iaload, 1) := by decide +kernel
theorem dX2_addLigature_86 : decode cX2_addLigature 86 = .ok (.iload 6, 2) := by decide +kernel
theorem dX2_addLigature_88 : decode cX2_addLigature 88 = .ok (.iadd, 1) := by decide +kernel
theorem dX2_addLigature_89 : decode cX2_addLigature 89 = .ok (.bipush 24, 2) := by decide +kernel
theorem dX2_addLigature_91 : decode cX2_addLigature 91 = .ok (.if_icmp .le 9, 3) := by decide +kernel
theorem dX2_addLigature_94 : decode cX2_addLigature 94 = .ok (.aload_n 0, 1) := by decide +kernel
theorem dX2_addLigature_95 : decode cX2_addLigature 95 = .ok (.iconst 3, 1) := by decide +kernel
theorem dX2_addLigature_96 : decode cX2_addLigature 96 = .ok (.invokevirtual 76, 3) := by decide +kernel
theorem dX2_addLigature_99 : decode cX2_addLigature 99 = .ok (.ireturn, 1) := by decide +kernel
theorem dX2_addLigature_100 : decode cX2_addLigature 100 = .ok (.iload_n 3, 1) := by decide +kernel
theorem dX2_addLigature_101 : decode cX2_addLigature 101 = .ok (.iload_n 2, 1) := by decide +kernel
theorem dX2_addLigature_102 : decode cX2_addLigature 102 = .ok (.if_icmp .ge 7, 3) := by decide +kernel
theorem dX2_addLigature_105 : decode cX2_addLigature 105 = .ok (.iconst 0, 1) := by decide +kernel
theorem dX2_addLigature_106 : decode cX2_addLigature 106 = .ok (.goto 4, 3) := by decide +kernel
theorem dX2_addLigature_109 : decode cX2_addLigature 109 = .ok (.iconst 1, 1) := by decide +kernel
theorem dX2_addLigature_110 : decode cX2_addLigature 110 = .ok (.istore 7, 2) := by decide +kernel
theorem dX2_addLigature_112 : decode cX2_addLigature 112 = .ok (.aload_n 0, 1) := by decide +kernel
theorem dX2_addLigature_113 : decode cX2_addLigature 113 = .ok (.iload_n 1, 1) := by decide +kernel
theorem dX2_addLigature_114 : decode cX2_addLigature 114 = .ok (.iload 5, 2) := by decide +kernel
theorem dX2_addLigature_116 : decode cX2_addLigature 116 = .ok (.ifCond .eq 7, 3) := by decide +kernel
theorem dX2_addLigature_119 : decode cX2_addLigature 119 = .ok (.iconst 2, 1) := by decide +kernel
theorem dX2_addLigature_120 : decode cX2_addLigature 120 = .ok (.goto 5, 3) := by decide +kernel
theorem dX2_addLigature_123 : decode cX2_addLigature 123 = .ok (.iload 7, 2) := by decide +kernel
theorem dX2_addLigature_125 : decode cX2_addLigature 125 = .ok (.iload_n 2, 1) := by decide +kernel
theorem dX2_addLigature_126 : decode cX2_addLigature 126 = .ok (.iconst 0, 1) := by decide +kernel
theorem dX2_addLigature_127 : decode cX2_addLigature 127 = .ok (.iconst 0, 1) := by decide +kernel
theorem dX2_addLigature_128 : decode cX2_addLigature 128 = .ok (.invokevirtual 83, 3) := by decide +kernel
theorem dX2_addLigature_131 : decode cX2_addLigature 131 = .ok (.aload_n 0, 1) := by decide +kernel
theorem dX2_addLigature_132 : decode cX2_addLigature 132 = .ok (.iload_n 1, 1) := by decide +kernel
theorem dX2_addLigature_133 : decode cX2_addLigature 133 = .ok (.iload 5, 2) := by decide +kernel
theorem dX2_addLigature_135 : decode cX2_addLigature 135 = .ok (.ifCond .eq 7, 3) := by decide +kernel
theorem dX2_addLigature_138 : decode cX2_addLigature 138 = .ok (.iconst 2, 1) := by decide +kernel
theorem dX2_addLigature_139 : decode cX2_addLigature 139 = .ok (.goto 15, 3) := by decide +kernel
theorem dX2_addLigature_142 : decode cX2_addLigature 142 = .ok (.iload 6, 2) := by decide +kernel
theorem dX2_addLigature_144 : decode cX2_addLigature 144 = .ok (.iconst 3, 1) := by decide +kernel
theorem dX2_addLigature_145 : decode cX2_addLigature 145 = .ok (.if_icmp .ne 7, 3) := by decide +kernel
theorem dX2_addLigature_148 : decode cX2_addLigature 148 = .ok (.iconst 1, 1) := by decide +kernel
theorem dX2_addLigature_149 : decode cX2_addLigature 149 = .ok (.goto 5, 3) := by decide +kernel
theorem dX2_addLigature_152 : decode cX2_addLigature 152 = .ok (.iload 7, 2) := by decide +kernel
theorem dX2_addLigature_154 : decode cX2_addLigature 154 = .ok (.iload_n 3, 1) := by decide +kernel
theorem dX2_addLigature_155 : decode cX2_addLigature 155 = .ok (.iconst 0, 1) := by decide +kernel
theorem dX2_addLigature_156 : decode cX2_addLigature 156 = .ok (.iconst 1, 1) := by decide +kernel
theorem dX2_addLigature_157 : decode cX2_addLigature 157 = .ok (.invokevirtual 83, 3) := by decide +kernel
theorem dX2_addLigature_160 : decode cX2_addLigature 160 = .ok (.iload 6, 2) := by decide +kernel
theorem dX2_addLigature_162 : decode cX2_addLigature 162 = .ok (.iconst 3, 1) := by decide +kernel
theorem dX2_addLigature_163 : decode cX2_addLigature 163 = .ok (.if_icmp .ne 23, 3) := by decide +kernel
theorem dX2_addLigature_166 : decode cX2_addLigature 166 = .ok (.aload_n 0, 1) := by decide +kernel
theorem dX2_addLigature_167 : decode cX2_addLigature 167 = .ok (.iload_n 1, 1) := by decide +kernel
theorem dX2_addLigature_168 : decode cX2_addLigature 168 = .ok (.iload 4, 2) := by decide +kernel
theorem dX2_addLigature_170 : decode cX2_addLigature 170 = .ok (.iload_n 3, 1) := by decide +kernel
theorem dX2_addLigature_171 : decode cX2_addLigature 171 = .ok (.if_icmp .ge 7, 3) := by decide +kernel
theorem dX2_addLigature_174 : decode cX2_addLigature 174 = .ok (.iconst 0, 1) := by decide +kernel
theorem dX2_addLigature_175 : decode cX2_addLigature 175 = .ok (.goto 4, 3) := by decide +kernel
theorem dX2_addLigature_178 : decode cX2_addLigature 178 = .ok (.iconst 1, 1) := by decide +kernel
theorem dX2_addLigature_179 : decode cX2_addLigature 179 = .ok (.iload 4, 2) := by decide +kernel
theorem dX2_addLigature_181 : decode cX2_addLigature 181 = .ok (.iconst 0, 1) := by decide +kernel
theorem dX2_addLigature_182 : decode cX2_addLigature 182 = .ok (.iconst 2, 1) := by decide +kernel
theorem dX2_addLigature_183 : decode cX2_addLigature 183 = .ok (.invokevirtual 83, 3) := by decide +kernel
theorem dX2_addLigature_186 : decode cX2_addLigature 186 = .ok (.aload_n 0, 1) := by decide +kernel
theorem dX2_addLigature_187 : decode cX2_addLigature 187 = .ok (.getfield 9, 3) := by decide +kernel
theorem dX2_addLigature_190 : decode cX2_addLigature 190 = .ok (.iload_n 1, 1) := by decide +kernel
theorem dX2_addLigature_191 : decode cX2_addLigature 191 = .ok (.iaload, 1) := by decide +kernel
theorem dX2_addLigature_192 : decode cX2_addLigature 192 = .ok (.iload 6, 2) := by decide +kernel
theorem dX2_addLigature_194 : decode cX2_addLigature 194 = .ok (.isub, 1) := by decide +kernel
theorem dX2_addLigature_195 : decode cX2_addLigature 195 = .ok (.ireturn, 1) := by decide +kernel
theorem dX2_erase_0 : decode cX2_erase 0 = .ok (.aload_n 0, 1) := by decide +kernel
theorem dX2_erase_1 : decode cX2_erase 1 = .ok (.iconst 0, 1) := by decide +kernel
theorem dX2_erase_2 : decode cX2_erase 2 = .ok (.putfield 38, 3) := by decide +kernel
theorem dX2_erase_5 : decode cX2_erase 5 = .ok (.aload_n 0, 1) := by decide +kernel
theorem dX2_erase_6 : decode cX2_erase 6 = .ok (.iload_n 1, 1) := by decide +kernel
theorem dX2_erase_7 : decode cX2_erase 7 = .ok (.invokevirtual 49, 3) := by decide +kernel
theorem dX2_erase_10 : decode cX2_erase 10 = .ok (.ifCond .ne 9, 3) := by decide +kernel
theorem dX2_erase_13 : decode cX2_erase 13 = .ok (.aload_n 0, 1) := by decide +kernel
theorem dX2_erase_14 : decode cX2_erase 14 = .ok (.iconst 1, 1) := by decide +kernel
theorem dX2_erase_15 : decode cX2_erase 15 = .ok (.invokevirtual 76, 3) := by decide +kernel
theorem dX2_erase_18 : decode cX2_erase 18 = .ok (.ireturn, 1) := by decide +kernel
theorem dX2_erase_19 : decode cX2_erase 19 = .ok (.aload_n 0, 1) := by decide +kernel
theorem dX2_erase_20 : decode cX2_erase 20 = .ok (.getfield 9, 3) := by decide +kernel
theorem dX2_erase_23 : decode cX2_erase 23 = .ok (.iload_n 1, 1) := by decide +kernel
theorem dX2_erase_24 : decode cX2_erase 24 = .ok (.iaload, 1) := by decide +kernel
theorem dX2_erase_25 : decode cX2_erase 25 = .ok (.ifCond .ne 9, 3) := by decide +kernel
theorem dX2_erase_28 : decode cX2_erase 28 = .ok (.aload_n 0, 1) := by decide +kernel
theorem dX2_erase_29 : decode cX2_erase 29 = .ok (.iconst 2, 1) := by decide +kernel
theorem dX2_erase_30 : decode cX2_erase 30 = .ok (.invokevirtual 76, 3) := by decide +kernel
theorem dX2_erase_33 : decode cX2_erase 33 = .ok (.ireturn, 1) := by decide +kernel
theorem dX2_erase_34 : decode cX2_erase 34 = .ok (.iconst 0, 1) := by decide +kernel
theorem dX2_erase_35 : decode cX2_erase 35 = .ok (.aload_n 0, 1) := by decide +kernel
theorem dX2_erase_36 : decode cX2_erase 36 = .ok (.getfield 29, 3) := by decide +kernel
theorem dX2_erase_39 : decode cX2_erase 39 = .ok (.bipush 24, 2) := by decide +kernel
theorem dX2_erase_41 : decode cX2_erase 41 = .ok (.iload_n 1, 1) := by decide +kernel
theorem dX2_erase_42 : decode cX2_erase 42 = .ok (.imul, 1) := by decide +kernel
theorem dX2_erase_43 : decode cX2_erase 43 = .ok (.aload_n 0, 1) := by decide +kernel
theorem dX2_erase_44 : decode cX2_erase 44 = .ok (.getfield 9, 3) := by decide +kernel
theorem dX2_erase_47 : decode cX2_erase 47 = .ok (.iload_n 1, 1) := by decide +kernel
theorem dX2_erase_48 : decode cX2_erase 48 = .ok (.iaload, 1) := by decide +kernel
theorem dX2_erase_49 : decode cX2_erase 49 = .ok (.iadd, 1) := by decide +kernel
theorem dX2_erase_50 : decode cX2_erase 50 = .ok (.iconst 1, 1) := by decide +kernel
theorem dX2_erase_51 : decode cX2_erase 51 = .ok (.isub, 1) := by decide +kernel
theorem dX2_erase_52 : decode cX2_erase 52 = .ok (.iaload, 1) := by decide +kernel
theorem dX2_erase_53 : decode cX2_erase 53 = .ok (.invokestatic 87, 3) := by decide +kernel
theorem dX2_erase_56 : decode cX2_erase 56 = .ok (.iconst 1, 1) := by decide +kernel
theorem dX2_erase_57 : decode cX2_erase 57 = .ok (.iadd, 1) := by decide +kernel
theorem dX2_erase_58 : decode cX2_erase 58 = .ok (.istore_n 2, 1) := by decide +kernel
theorem dX2_erase_59 : decode cX2_erase 59 = .ok (.aload_n 0, 1) := by decide +kernel
theorem dX2_erase_60 : decode cX2_erase 60 = .ok (.getfield 9, 3) := by decide +kernel
theorem dX2_erase_63 : decode cX2_erase 63 = .ok (.iload_n 1, 1) := by decide +kernel
theorem dX2_erase_64 : decode cX2_erase 64 = .ok (.dup2, 1) := by decide +kernel
theorem dX2_erase_65 : decode cX2_erase 65 = .ok (.iaload, 1) := by decide +kernel
theorem dX2_erase_66 : decode cX2_erase 66 = .ok (.iload_n 2, 1) := by decide +kernel
theorem dX2_erase_67 : decode cX2_erase 67 = .ok (.isub, 1) := by decide +kernel
theorem dX2_erase_68 : decode cX2_erase 68 = .ok (.iastore, 1) := by decide +kernel
theorem dX2_erase_69 : decode cX2_erase 69 = .ok (.iload_n 2, 1) := by decide +kernel
theorem dX2_erase_70 : decode cX2_erase 70 = .ok (.ireturn, 1) := by decide +kernel
theorem dX2_recolour_0 : decode cX2_recolour 0 = .ok (.aload_n 0, 1) := by decide +kernel
theorem dX2_recolour_1 : decode cX2_recolour 1 = .ok (.aload_n 0, 1) := by decide +kernel
theorem dX2_recolour_2 : decode cX2_recolour 2 = .ok (.iload_n 1, 1) := by decide +kernel
theorem dX2_recolour_3 : decode cX2_recolour 3 = .ok (.iload_n 2, 1) := by decide +kernel
theorem dX2_recolour_4 : decode cX2_recolour 4 = .ok (.invokevirtual 90, 3) := by decide +kernel
theorem dX2_recolour_7 : decode cX2_recolour 7 = .ok (.ifCond .ne 7, 3) := by decide +kernel
theorem dX2_recolour_10 : decode cX2_recolour 10 = .ok (.iconst 1, 1) := by decide +kernel
theorem dX2_recolour_11 : decode cX2_recolour 11 = .ok (.goto 23, 3) := by decide +kernel
theorem dX2_recolour_14 : decode cX2_recolour 14 = .ok (.aload_n 0, 1) := by decide +kernel
theorem dX2_recolour_15 : decode cX2_recolour 15 = .ok (.getfield 22, 3) := by decide +kernel
theorem dX2_recolour_18 : decode cX2_recolour 18 = .ok (.bipush 24, 2) := by decide +kernel
theorem dX2_recolour_20 : decode cX2_recolour 20 = .ok (.iload_n 1, 1) := by decide +kernel
theorem dX2_recolour_21 : decode cX2_recolour 21 = .ok (.imul, 1) := by decide +kernel
theorem dX2_recolour_22 : decode cX2_recolour 22 = .ok (.iload_n 2, 1) := by decide +kernel
theorem dX2_recolour_23 : decode cX2_recolour 23 = .ok (.iadd, 1) := by decide +kernel
theorem dX2_recolour_24 : decode cX2_recolour 24 = .ok (.iaload, 1) := by decide +kernel
theorem dX2_recolour_25 : decode cX2_recolour 25 = .ok (.iconst (-1), 1) := by decide +kernel
theorem dX2_recolour_26 : decode cX2_recolour 26 = .ok (.if_icmp .ne 7, 3) := by decide +kernel
theorem dX2_recolour_29 : decode cX2_recolour 29 = .ok (.iconst 2, 1) := by decide +kernel
theorem dX2_recolour_30 : decode cX2_recolour 30 = .ok (.goto 4, 3) := by decide +kernel
theorem dX2_recolour_33 : decode cX2_recolour 33 = .ok (.iconst 0, 1) := by decide +kernel
theorem dX2_recolour_34 : decode cX2_recolour 34 = .ok (.putfield 38, 3) := by decide +kernel
theorem dX2_recolour_37 : decode cX2_recolour 37 = .ok (.aload_n 0, 1) := by decide +kernel
theorem dX2_recolour_38 : decode cX2_recolour 38 = .ok (.getfield 38, 3) := by decide +kernel
theorem dX2_recolour_41 : decode cX2_recolour 41 = .ok (.ifCond .le 5, 3) := by decide +kernel
theorem dX2_recolour_44 : decode cX2_recolour 44 = .ok (.iconst 0, 1) := by decide +kernel
theorem dX2_recolour_45 : decode cX2_recolour 45 = .ok (.ireturn, 1) := by decide +kernel
theorem dX2_recolour_46 : decode cX2_recolour 46 = .ok (.bipush 24, 2) := by decide +kernel
theorem dX2_recolour_48 : decode cX2_recolour 48 = .ok (.iload_n 1, 1) := by decide +kernel
theorem dX2_recolour_49 : decode cX2_recolour 49 = .ok (.imul, 1) := by decide +kernel
theorem dX2_recolour_50 : decode cX2_recolour 50 = .ok (.iload_n 2, 1) := by decide +kernel
theorem dX2_recolour_51 : decode cX2_recolour 51 = .ok (.iadd, 1) := by decide +kernel
theorem dX2_recolour_52 : decode cX2_recolour 52 = .ok (.istore_n 3, 1) := by decide +kernel
theorem dX2_recolour_53 : decode cX2_recolour 53 = .ok (.aload_n 0, 1) := by decide +kernel
theorem dX2_recolour_54 : decode cX2_recolour 54 = .ok (.getfield 25, 3) := by decide +kernel
theorem dX2_recolour_57 : decode cX2_recolour 57 = .ok (.iload_n 3, 1) := by decide +kernel
theorem dX2_recolour_58 : decode cX2_recolour 58 = .ok (.aload_n 0, 1) := by decide +kernel
theorem dX2_recolour_59 : decode cX2_recolour 59 = .ok (.getfield 25, 3) := by decide +kernel
theorem dX2_recolour_62 : decode cX2_recolour 62 = .ok (.iload_n 3, 1) := by decide +kernel
theorem dX2_recolour_63 : decode cX2_recolour 63 = .ok (.baload, 1) := by decide +kernel
theorem dX2_recolour_64 : decode cX2_recolour 64 = .ok (.ifCond .ne 7, 3) := by decide +kernel
theorem dX2_recolour_67 : decode cX2_recolour 67 = .ok (.iconst 1, 1) := by decide +kernel
theorem dX2_recolour_68 : decode cX2_recolour 68 = .ok (.goto 4, 3) := by decide +kernel
theorem dX2_recolour_71 : decode cX2_recolour 71 = .ok (.iconst 0, 1) := by decide +kernel
theorem dX2_recolour_72 : decode cX2_recolour 72 = .ok (.bastore, 1) := by decide +kernel
theorem dX2_recolour_73 : decode cX2_recolour 73 = .ok (.aload_n 0, 1) := by decide +kernel
theorem dX2_recolour_74 : decode cX2_recolour 74 = .ok (.getfield 25, 3) := by decide +kernel
theorem dX2_recolour_77 : decode cX2_recolour 77 = .ok (.iload_n 3, 1) := by decide +kernel
theorem dX2_recolour_78 : decode cX2_recolour 78 = .ok (.baload, 1) := by decide +kernel
theorem dX2_recolour_79 : decode cX2_recolour 79 = .ok (.ireturn, 1) := by decide +kernel
theorem dX2_setClef_0 : decode cX2_setClef 0 = .ok (.aload_n 0, 1) := by decide +kernel
theorem dX2_setClef_1 : decode cX2_setClef 1 = .ok (.iconst 0, 1) := by decide +kernel
theorem dX2_setClef_2 : decode cX2_setClef 2 = .ok (.putfield 38, 3) := by decide +kernel
theorem dX2_setClef_5 : decode cX2_setClef 5 = .ok (.aload_n 0, 1) := by decide +kernel
theorem dX2_setClef_6 : decode cX2_setClef 6 = .ok (.iload_n 1, 1) := by decide +kernel
theorem dX2_setClef_7 : decode cX2_setClef 7 = .ok (.invokevirtual 49, 3) := by decide +kernel
theorem dX2_setClef_10 : decode cX2_setClef 10 = .ok (.ifCond .ne 9, 3) := by decide +kernel
theorem dX2_setClef_13 : decode cX2_setClef 13 = .ok (.aload_n 0, 1) := by decide +kernel
theorem dX2_setClef_14 : decode cX2_setClef 14 = .ok (.iconst 1, 1) := by decide +kernel
theorem dX2_setClef_15 : decode cX2_setClef 15 = .ok (.invokevirtual 76, 3) := by decide +kernel
theorem dX2_setClef_18 : decode cX2_setClef 18 = .ok (.ireturn, 1) := by decide +kernel
theorem dX2_setClef_19 : decode cX2_setClef 19 = .ok (.iload_n 2, 1) := by decide +kernel
theorem dX2_setClef_20 : decode cX2_setClef 20 = .ok (.iconst (-1), 1) := by decide +kernel
theorem dX2_setClef_21 : decode cX2_setClef 21 = .ok (.iconst 5, 1) := by decide +kernel
theorem dX2_setClef_22 : decode cX2_setClef 22 = .ok (.invokestatic 45, 3) := by decide +kernel
theorem dX2_setClef_25 : decode cX2_setClef 25 = .ok (.ifCond .ne 9, 3) := by decide +kernel
theorem dX2_setClef_28 : decode cX2_setClef 28 = .ok (.aload_n 0, 1) := by decide +kernel
theorem dX2_setClef_29 : decode cX2_setClef 29 = .ok (.iconst 2, 1) := by decide +kernel
theorem dX2_setClef_30 : decode cX2_setClef 30 = .ok (.invokevirtual 76, 3) := by decide +kernel
theorem dX2_setClef_33 : decode cX2_setClef 33 = .ok (.ireturn, 1) := by decide +kernel
theorem dX2_setClef_34 : decode cX2_setClef 34 = .ok (.aload_n 0, 1) := by decide +kernel
theorem dX2_setClef_35 : decode cX2_setClef 35 = .ok (.getfield 13, 3) := by decide +kernel
theorem dX2_setClef_38 : decode cX2_setClef 38 = .ok (.iload_n 1, 1) := by decide +kernel
theorem dX2_setClef_39 : decode cX2_setClef 39 = .ok (.iaload, 1) := by decide +kernel
theorem dX2_setClef_40 : decode cX2_setClef 40 = .ok (.istore_n 3, 1) := by decide +kernel
theorem dX2_setClef_41 : decode cX2_setClef 41 = .ok (.aload_n 0, 1) := by decide +kernel
theorem dX2_setClef_42 : decode cX2_setClef 42 = .ok (.getfield 13, 3) := by decide +kernel
theorem dX2_setClef_45 : decode cX2_setClef 45 = .ok (.iload_n 1, 1) := by decide +kernel
theorem dX2_setClef_46 : decode cX2_setClef 46 = .ok (.iload_n 2, 1) := by decide +kernel
theorem dX2_setClef_47 : decode cX2_setClef 47 = .ok (.iastore, 1) := by decide +kernel
theorem dX2_setClef_48 : decode cX2_setClef 48 = .ok (.iload_n 3, 1) := by decide +kernel
theorem dX2_setClef_49 : decode cX2_setClef 49 = .ok (.ireturn, 1) := by decide +kernel
theorem dX2_setMensuration_0 : decode cX2_setMensuration 0 = .ok (.aload_n 0, 1) := by decide +kernel
theorem dX2_setMensuration_1 : decode cX2_setMensuration 1 = .ok (.iconst 0, 1) := by decide +kernel
theorem dX2_setMensuration_2 : decode cX2_setMensuration 2 = .ok (.putfield 38, 3) := by decide +kernel
theorem dX2_setMensuration_5 : decode cX2_setMensuration 5 = .ok (.aload_n 0, 1) := by decide +kernel
theorem dX2_setMensuration_6 : decode cX2_setMensuration 6 = .ok (.iload_n 1, 1) := by decide +kernel
theorem dX2_setMensuration_7 : decode cX2_setMensuration 7 = .ok (.invokevirtual 49, 3) := by decide +kernel
theorem dX2_setMensuration_10 : decode cX2_setMensuration 10 = .ok (.ifCond .ne 9, 3) := by decide +kernel
theorem dX2_setMensuration_13 : decode cX2_setMensuration 13 = .ok (.aload_n 0, 1) := by decide +kernel
theorem dX2_setMensuration_14 : decode cX2_setMensuration 14 = .ok (.iconst 1, 1) := by decide +kernel
theorem dX2_setMensuration_15 : decode cX2_setMensuration 15 = .ok (.invokevirtual 76, 3) := by decide +kernel
theorem dX2_setMensuration_18 : decode cX2_setMensuration 18 = .ok (.ireturn, 1) := by decide +kernel
theorem dX2_setMensuration_19 : decode cX2_setMensuration 19 = .ok (.iload_n 2, 1) := by decide +kernel
theorem dX2_setMensuration_20 : decode cX2_setMensuration 20 = .ok (.iload_n 3, 1) := by decide +kernel
theorem dX2_setMensuration_21 : decode cX2_setMensuration 21 = .ok (.iload 4, 2) := by decide +kernel
theorem dX2_setMensuration_23 : decode cX2_setMensuration 23 = .ok (.invokestatic 73, 3) := by decide +kernel
theorem dX2_setMensuration_26 : decode cX2_setMensuration 26 = .ok (.ifCond .ne 9, 3) := by decide +kernel
theorem dX2_setMensuration_29 : decode cX2_setMensuration 29 = .ok (.aload_n 0, 1) := by decide +kernel
theorem dX2_setMensuration_30 : decode cX2_setMensuration 30 = .ok (.iconst 2, 1) := by decide +kernel
theorem dX2_setMensuration_31 : decode cX2_setMensuration 31 = .ok (.invokevirtual 76, 3) := by decide +kernel
theorem dX2_setMensuration_34 : decode cX2_setMensuration 34 = .ok (.ireturn, 1) := by decide +kernel
theorem dX2_setMensuration_35 : decode cX2_setMensuration 35 = .ok (.aload_n 0, 1) := by decide +kernel
theorem dX2_setMensuration_36 : decode cX2_setMensuration 36 = .ok (.iload_n 1, 1) := by decide +kernel
theorem dX2_setMensuration_37 : decode cX2_setMensuration 37 = .ok (.iload_n 2, 1) := by decide +kernel
theorem dX2_setMensuration_38 : decode cX2_setMensuration 38 = .ok (.iload_n 3, 1) := by decide +kernel
theorem dX2_setMensuration_39 : decode cX2_setMensuration 39 = .ok (.iload 4, 2) := by decide +kernel
theorem dX2_setMensuration_41 : decode cX2_setMensuration 41 = .ok (.invokevirtual 79, 3) := by decide +kernel
theorem dX2_setMensuration_44 : decode cX2_setMensuration 44 = .ok (.aload_n 0, 1) := by decide +kernel
theorem dX2_setMensuration_45 : decode cX2_setMensuration 45 = .ok (.iload_n 1, 1) := by decide +kernel
theorem dX2_setMensuration_46 : decode cX2_setMensuration 46 = .ok (.invokevirtual 94, 3) := by decide +kernel
theorem dX2_setMensuration_49 : decode cX2_setMensuration 49 = .ok (.ireturn, 1) := by decide +kernel
theorem dX2_voices_0 : decode cX2_voices 0 = .ok (.aload_n 0, 1) := by decide +kernel
theorem dX2_voices_1 : decode cX2_voices 1 = .ok (.aload_n 0, 1) := by decide +kernel
theorem dX2_voices_2 : decode cX2_voices 2 = .ok (.getfield 42, 3) := by decide +kernel
theorem dX2_voices_5 : decode cX2_voices 5 = .ok (.invokevirtual 97, 3) := by decide +kernel
theorem dX2_voices_8 : decode cX2_voices 8 = .ok (.ireturn, 1) := by decide +kernel
theorem dX2_signs_0 : decode cX2_signs 0 = .ok (.aload_n 0, 1) := by decide +kernel
theorem dX2_signs_1 : decode cX2_signs 1 = .ok (.iconst 0, 1) := by decide +kernel
theorem dX2_signs_2 : decode cX2_signs 2 = .ok (.putfield 38, 3) := by decide +kernel
theorem dX2_signs_5 : decode cX2_signs 5 = .ok (.aload_n 0, 1) := by decide +kernel
theorem dX2_signs_6 : decode cX2_signs 6 = .ok (.iload_n 1, 1) := by decide +kernel
theorem dX2_signs_7 : decode cX2_signs 7 = .ok (.invokevirtual 49, 3) := by decide +kernel
theorem dX2_signs_10 : decode cX2_signs 10 = .ok (.ifCond .eq 12, 3) := by decide +kernel
theorem dX2_signs_13 : decode cX2_signs 13 = .ok (.aload_n 0, 1) := by decide +kernel
theorem dX2_signs_14 : decode cX2_signs 14 = .ok (.getfield 9, 3) := by decide +kernel
theorem dX2_signs_17 : decode cX2_signs 17 = .ok (.iload_n 1, 1) := by decide +kernel
theorem dX2_signs_18 : decode cX2_signs 18 = .ok (.iaload, 1) := by decide +kernel
theorem dX2_signs_19 : decode cX2_signs 19 = .ok (.goto 8, 3) := by decide +kernel
theorem dX2_signs_22 : decode cX2_signs 22 = .ok (.aload_n 0, 1) := by decide +kernel
theorem dX2_signs_23 : decode cX2_signs 23 = .ok (.iconst 1, 1) := by decide +kernel
theorem dX2_signs_24 : decode cX2_signs 24 = .ok (.invokevirtual 76, 3) := by decide +kernel
theorem dX2_signs_27 : decode cX2_signs 27 = .ok (.ireturn, 1) := by decide +kernel
theorem dX2_count_0 : decode cX2_count 0 = .ok (.iconst 0, 1) := by decide +kernel
theorem dX2_count_1 : decode cX2_count 1 = .ok (.istore_n 3, 1) := by decide +kernel
theorem dX2_count_2 : decode cX2_count 2 = .ok (.bipush 24, 2) := by decide +kernel
theorem dX2_count_4 : decode cX2_count 4 = .ok (.iload_n 1, 1) := by decide +kernel
theorem dX2_count_5 : decode cX2_count 5 = .ok (.imul, 1) := by decide +kernel
theorem dX2_count_6 : decode cX2_count 6 = .ok (.istore 4, 2) := by decide +kernel
theorem dX2_count_8 : decode cX2_count 8 = .ok (.iload 4, 2) := by decide +kernel
theorem dX2_count_10 : decode cX2_count 10 = .ok (.bipush 24, 2) := by decide +kernel
theorem dX2_count_12 : decode cX2_count 12 = .ok (.iload_n 1, 1) := by decide +kernel
theorem dX2_count_13 : decode cX2_count 13 = .ok (.imul, 1) := by decide +kernel
theorem dX2_count_14 : decode cX2_count 14 = .ok (.aload_n 0, 1) := by decide +kernel
theorem dX2_count_15 : decode cX2_count 15 = .ok (.getfield 9, 3) := by decide +kernel
theorem dX2_count_18 : decode cX2_count 18 = .ok (.iload_n 1, 1) := by decide +kernel
theorem dX2_count_19 : decode cX2_count 19 = .ok (.iaload, 1) := by decide +kernel
theorem dX2_count_20 : decode cX2_count 20 = .ok (.iadd, 1) := by decide +kernel
theorem dX2_count_21 : decode cX2_count 21 = .ok (.if_icmp .ge 45, 3) := by decide +kernel
theorem dX2_count_24 : decode cX2_count 24 = .ok (.iload_n 3, 1) := by decide +kernel
theorem dX2_count_25 : decode cX2_count 25 = .ok (.iload_n 2, 1) := by decide +kernel
theorem dX2_count_26 : decode cX2_count 26 = .ok (.ifCond .eq 17, 3) := by decide +kernel
theorem dX2_count_29 : decode cX2_count 29 = .ok (.aload_n 0, 1) := by decide +kernel
theorem dX2_count_30 : decode cX2_count 30 = .ok (.getfield 22, 3) := by decide +kernel
theorem dX2_count_33 : decode cX2_count 33 = .ok (.iload 4, 2) := by decide +kernel
theorem dX2_count_35 : decode cX2_count 35 = .ok (.iaload, 1) := by decide +kernel
theorem dX2_count_36 : decode cX2_count 36 = .ok (.iconst (-1), 1) := by decide +kernel
theorem dX2_count_37 : decode cX2_count 37 = .ok (.if_icmp .eq 20, 3) := by decide +kernel
theorem dX2_count_40 : decode cX2_count 40 = .ok (.goto 13, 3) := by decide +kernel
theorem dX2_count_43 : decode cX2_count 43 = .ok (.aload_n 0, 1) := by decide +kernel
theorem dX2_count_44 : decode cX2_count 44 = .ok (.getfield 29, 3) := by decide +kernel
theorem dX2_count_47 : decode cX2_count 47 = .ok (.iload 4, 2) := by decide +kernel
theorem dX2_count_49 : decode cX2_count 49 = .ok (.iaload, 1) := by decide +kernel
theorem dX2_count_50 : decode cX2_count 50 = .ok (.ifCond .ne 7, 3) := by decide +kernel
theorem dX2_count_53 : decode cX2_count 53 = .ok (.iconst 1, 1) := by decide +kernel
theorem dX2_count_54 : decode cX2_count 54 = .ok (.goto 4, 3) := by decide +kernel
theorem dX2_count_57 : decode cX2_count 57 = .ok (.iconst 0, 1) := by decide +kernel
theorem dX2_count_58 : decode cX2_count 58 = .ok (.iadd, 1) := by decide +kernel
theorem dX2_count_59 : decode cX2_count 59 = .ok (.istore_n 3, 1) := by decide +kernel
theorem dX2_count_60 : decode cX2_count 60 = .ok (.iinc 4 1, 3) := by decide +kernel
theorem dX2_count_63 : decode cX2_count 63 = .ok (.goto (-55), 3) := by decide +kernel
theorem dX2_count_66 : decode cX2_count 66 = .ok (.iload_n 3, 1) := by decide +kernel
theorem dX2_count_67 : decode cX2_count 67 = .ok (.ireturn, 1) := by decide +kernel
theorem dX2_notes_0 : decode cX2_notes 0 = .ok (.aload_n 0, 1) := by decide +kernel
theorem dX2_notes_1 : decode cX2_notes 1 = .ok (.iconst 0, 1) := by decide +kernel
theorem dX2_notes_2 : decode cX2_notes 2 = .ok (.putfield 38, 3) := by decide +kernel
theorem dX2_notes_5 : decode cX2_notes 5 = .ok (.aload_n 0, 1) := by decide +kernel
theorem dX2_notes_6 : decode cX2_notes 6 = .ok (.iload_n 1, 1) := by decide +kernel
theorem dX2_notes_7 : decode cX2_notes 7 = .ok (.invokevirtual 49, 3) := by decide +kernel
theorem dX2_notes_10 : decode cX2_notes 10 = .ok (.ifCond .eq 12, 3) := by decide +kernel
theorem dX2_notes_13 : decode cX2_notes 13 = .ok (.aload_n 0, 1) := by decide +kernel
theorem dX2_notes_14 : decode cX2_notes 14 = .ok (.iload_n 1, 1) := by decide +kernel
theorem dX2_notes_15 : decode cX2_notes 15 = .ok (.iconst 1, 1) := by decide +kernel
theorem dX2_notes_16 : decode cX2_notes 16 = .ok (.invokevirtual 100, 3) := by decide +kernel
theorem dX2_notes_19 : decode cX2_notes 19 = .ok (.goto 8, 3) := by decide +kernel
theorem dX2_notes_22 : decode cX2_notes 22 = .ok (.aload_n 0, 1) := by decide +kernel
theorem dX2_notes_23 : decode cX2_notes 23 = .ok (.iconst 1, 1) := by decide +kernel
theorem dX2_notes_24 : decode cX2_notes 24 = .ok (.invokevirtual 76, 3) := by decide +kernel
theorem dX2_notes_27 : decode cX2_notes 27 = .ok (.ireturn, 1) := by decide +kernel
theorem dX2_ligatures_0 : decode cX2_ligatures 0 = .ok (.aload_n 0, 1) := by decide +kernel
theorem dX2_ligatures_1 : decode cX2_ligatures 1 = .ok (.iconst 0, 1) := by decide +kernel
theorem dX2_ligatures_2 : decode cX2_ligatures 2 = .ok (.putfield 38, 3) := by decide +kernel
theorem dX2_ligatures_5 : decode cX2_ligatures 5 = .ok (.aload_n 0, 1) := by decide +kernel
theorem dX2_ligatures_6 : decode cX2_ligatures 6 = .ok (.iload_n 1, 1) := by decide +kernel
theorem dX2_ligatures_7 : decode cX2_ligatures 7 = .ok (.invokevirtual 49, 3) := by decide +kernel
theorem dX2_ligatures_10 : decode cX2_ligatures 10 = .ok (.ifCond .eq 12, 3) := by decide +kernel
theorem dX2_ligatures_13 : decode cX2_ligatures 13 = .ok (.aload_n 0, 1) := by decide +kernel
theorem dX2_ligatures_14 : decode cX2_ligatures 14 = .ok (.iload_n 1, 1) := by decide +kernel
theorem dX2_ligatures_15 : decode cX2_ligatures 15 = .ok (.iconst 0, 1) := by decide +kernel
theorem dX2_ligatures_16 : decode cX2_ligatures 16 = .ok (.invokevirtual 100, 3) := by decide +kernel
theorem dX2_ligatures_19 : decode cX2_ligatures 19 = .ok (.goto 8, 3) := by decide +kernel
theorem dX2_ligatures_22 : decode cX2_ligatures 22 = .ok (.aload_n 0, 1) := by decide +kernel
theorem dX2_ligatures_23 : decode cX2_ligatures 23 = .ok (.iconst 1, 1) := by decide +kernel
theorem dX2_ligatures_24 : decode cX2_ligatures 24 = .ok (.invokevirtual 76, 3) := by decide +kernel
theorem dX2_ligatures_27 : decode cX2_ligatures 27 = .ok (.ireturn, 1) := by decide +kernel
theorem dX2_of_0 : decode cX2_of 0 = .ok (.aload_n 0, 1) := by decide +kernel
theorem dX2_of_1 : decode cX2_of 1 = .ok (.iconst 0, 1) := by decide +kernel
theorem dX2_of_2 : decode cX2_of 2 = .ok (.putfield 38, 3) := by decide +kernel
theorem dX2_of_5 : decode cX2_of 5 = .ok (.aload_n 0, 1) := by decide +kernel
theorem dX2_of_6 : decode cX2_of 6 = .ok (.iload_n 1, 1) := by decide +kernel
theorem dX2_of_7 : decode cX2_of 7 = .ok (.iload_n 2, 1) := by decide +kernel
theorem dX2_of_8 : decode cX2_of 8 = .ok (.invokevirtual 90, 3) := by decide +kernel
theorem dX2_of_11 : decode cX2_of 11 = .ok (.ifCond .eq 14, 3) := by decide +kernel
theorem dX2_of_14 : decode cX2_of 14 = .ok (.aload_n 3, 1) := by decide +kernel
theorem dX2_of_15 : decode cX2_of 15 = .ok (.bipush 24, 2) := by decide +kernel
theorem dX2_of_17 : decode cX2_of 17 = .ok (.iload_n 1, 1) := by decide +kernel
theorem dX2_of_18 : decode cX2_of 18 = .ok (.imul, 1) := by decide +kernel
theorem dX2_of_19 : decode cX2_of 19 = .ok (.iload_n 2, 1) := by decide +kernel
theorem dX2_of_20 : decode cX2_of 20 = .ok (.iadd, 1) := by decide +kernel
theorem dX2_of_21 : decode cX2_of 21 = .ok (.iaload, 1) := by decide +kernel
theorem dX2_of_22 : decode cX2_of 22 = .ok (.goto 8, 3) := by decide +kernel
theorem dX2_of_25 : decode cX2_of 25 = .ok (.aload_n 0, 1) := by decide +kernel
theorem dX2_of_26 : decode cX2_of 26 = .ok (.iconst 1, 1) := by decide +kernel
theorem dX2_of_27 : decode cX2_of 27 = .ok (.invokevirtual 76, 3) := by decide +kernel
theorem dX2_of_30 : decode cX2_of 30 = .ok (.ireturn, 1) := by decide +kernel
theorem dX2_kindOf_0 : decode cX2_kindOf 0 = .ok (.aload_n 0, 1) := by decide +kernel
theorem dX2_kindOf_1 : decode cX2_kindOf 1 = .ok (.iload_n 1, 1) := by decide +kernel
theorem dX2_kindOf_2 : decode cX2_kindOf 2 = .ok (.iload_n 2, 1) := by decide +kernel
theorem dX2_kindOf_3 : decode cX2_kindOf 3 = .ok (.aload_n 0, 1) := by decide +kernel
theorem dX2_kindOf_4 : decode cX2_kindOf 4 = .ok (.getfield 19, 3) := by decide +kernel
theorem dX2_kindOf_7 : decode cX2_kindOf 7 = .ok (.invokevirtual 104, 3) := by decide +kernel
theorem dX2_kindOf_10 : decode cX2_kindOf 10 = .ok (.ireturn, 1) := by decide +kernel
theorem dX2_placeOf_0 : decode cX2_placeOf 0 = .ok (.aload_n 0, 1) := by decide +kernel
theorem dX2_placeOf_1 : decode cX2_placeOf 1 = .ok (.iload_n 1, 1) := by decide +kernel
theorem dX2_placeOf_2 : decode cX2_placeOf 2 = .ok (.iload_n 2, 1) := by decide +kernel
theorem dX2_placeOf_3 : decode cX2_placeOf 3 = .ok (.aload_n 0, 1) := by decide +kernel
theorem dX2_placeOf_4 : decode cX2_placeOf 4 = .ok (.getfield 22, 3) := by decide +kernel
theorem dX2_placeOf_7 : decode cX2_placeOf 7 = .ok (.invokevirtual 104, 3) := by decide +kernel
theorem dX2_placeOf_10 : decode cX2_placeOf 10 = .ok (.ireturn, 1) := by decide +kernel
theorem dX2_isColoured_0 : decode cX2_isColoured 0 = .ok (.aload_n 0, 1) := by decide +kernel
theorem dX2_isColoured_1 : decode cX2_isColoured 1 = .ok (.aload_n 0, 1) := by decide +kernel
theorem dX2_isColoured_2 : decode cX2_isColoured 2 = .ok (.iload_n 1, 1) := by decide +kernel
theorem dX2_isColoured_3 : decode cX2_isColoured 3 = .ok (.iload_n 2, 1) := by decide +kernel
theorem dX2_isColoured_4 : decode cX2_isColoured 4 = .ok (.invokevirtual 90, 3) := by decide +kernel
theorem dX2_isColoured_7 : decode cX2_isColoured 7 = .ok (.ifCond .eq 7, 3) := by decide +kernel
theorem dX2_isColoured_10 : decode cX2_isColoured 10 = .ok (.iconst 0, 1) := by decide +kernel
theorem dX2_isColoured_11 : decode cX2_isColoured 11 = .ok (.goto 4, 3) := by decide +kernel
theorem dX2_isColoured_14 : decode cX2_isColoured 14 = .ok (.iconst 1, 1) := by decide +kernel
theorem dX2_isColoured_15 : decode cX2_isColoured 15 = .ok (.putfield 38, 3) := by decide +kernel
theorem dX2_isColoured_18 : decode cX2_isColoured 18 = .ok (.aload_n 0, 1) := by decide +kernel
theorem dX2_isColoured_19 : decode cX2_isColoured 19 = .ok (.getfield 38, 3) := by decide +kernel
theorem dX2_isColoured_22 : decode cX2_isColoured 22 = .ok (.ifCond .ne 21, 3) := by decide +kernel
theorem dX2_isColoured_25 : decode cX2_isColoured 25 = .ok (.aload_n 0, 1) := by decide +kernel
theorem dX2_isColoured_26 : decode cX2_isColoured 26 = .ok (.getfield 25, 3) := by decide +kernel
theorem dX2_isColoured_29 : decode cX2_isColoured 29 = .ok (.bipush 24, 2) := by decide +kernel
theorem dX2_isColoured_31 : decode cX2_isColoured 31 = .ok (.iload_n 1, 1) := by decide +kernel
theorem dX2_isColoured_32 : decode cX2_isColoured 32 = .ok (.imul, 1) := by decide +kernel
theorem dX2_isColoured_33 : decode cX2_isColoured 33 = .ok (.iload_n 2, 1) := by decide +kernel
theorem dX2_isColoured_34 : decode cX2_isColoured 34 = .ok (.iadd, 1) := by decide +kernel
theorem dX2_isColoured_35 : decode cX2_isColoured 35 = .ok (.baload, 1) := by decide +kernel
theorem dX2_isColoured_36 : decode cX2_isColoured 36 = .ok (.ifCond .eq 7, 3) := by decide +kernel
theorem dX2_isColoured_39 : decode cX2_isColoured 39 = .ok (.iconst 1, 1) := by decide +kernel
theorem dX2_isColoured_40 : decode cX2_isColoured 40 = .ok (.goto 4, 3) := by decide +kernel
theorem dX2_isColoured_43 : decode cX2_isColoured 43 = .ok (.iconst 0, 1) := by decide +kernel
theorem dX2_isColoured_44 : decode cX2_isColoured 44 = .ok (.ireturn, 1) := by decide +kernel
theorem dX2_placeInLigature_0 : decode cX2_placeInLigature 0 = .ok (.aload_n 0, 1) := by decide +kernel
theorem dX2_placeInLigature_1 : decode cX2_placeInLigature 1 = .ok (.iload_n 1, 1) := by decide +kernel
theorem dX2_placeInLigature_2 : decode cX2_placeInLigature 2 = .ok (.iload_n 2, 1) := by decide +kernel
theorem dX2_placeInLigature_3 : decode cX2_placeInLigature 3 = .ok (.aload_n 0, 1) := by decide +kernel
theorem dX2_placeInLigature_4 : decode cX2_placeInLigature 4 = .ok (.getfield 29, 3) := by decide +kernel
theorem dX2_placeInLigature_7 : decode cX2_placeInLigature 7 = .ok (.invokevirtual 104, 3) := by decide +kernel
theorem dX2_placeInLigature_10 : decode cX2_placeInLigature 10 = .ok (.ireturn, 1) := by decide +kernel
theorem dX2_lengthOf_0 : decode cX2_lengthOf 0 = .ok (.aload_n 0, 1) := by decide +kernel
theorem dX2_lengthOf_1 : decode cX2_lengthOf 1 = .ok (.iconst 0, 1) := by decide +kernel
theorem dX2_lengthOf_2 : decode cX2_lengthOf 2 = .ok (.putfield 38, 3) := by decide +kernel
theorem dX2_lengthOf_5 : decode cX2_lengthOf 5 = .ok (.aload_n 0, 1) := by decide +kernel
theorem dX2_lengthOf_6 : decode cX2_lengthOf 6 = .ok (.iload_n 1, 1) := by decide +kernel
theorem dX2_lengthOf_7 : decode cX2_lengthOf 7 = .ok (.iload_n 2, 1) := by decide +kernel
theorem dX2_lengthOf_8 : decode cX2_lengthOf 8 = .ok (.invokevirtual 90, 3) := by decide +kernel
theorem dX2_lengthOf_11 : decode cX2_lengthOf 11 = .ok (.ifCond .eq 12, 3) := by decide +kernel
theorem dX2_lengthOf_14 : decode cX2_lengthOf 14 = .ok (.aload_n 0, 1) := by decide +kernel
theorem dX2_lengthOf_15 : decode cX2_lengthOf 15 = .ok (.iload_n 1, 1) := by decide +kernel
theorem dX2_lengthOf_16 : decode cX2_lengthOf 16 = .ok (.iload_n 2, 1) := by decide +kernel
theorem dX2_lengthOf_17 : decode cX2_lengthOf 17 = .ok (.invokevirtual 53, 3) := by decide +kernel
theorem dX2_lengthOf_20 : decode cX2_lengthOf 20 = .ok (.goto 8, 3) := by decide +kernel
theorem dX2_lengthOf_23 : decode cX2_lengthOf 23 = .ok (.aload_n 0, 1) := by decide +kernel
theorem dX2_lengthOf_24 : decode cX2_lengthOf 24 = .ok (.iconst 1, 1) := by decide +kernel
theorem dX2_lengthOf_25 : decode cX2_lengthOf 25 = .ok (.invokevirtual 76, 3) := by decide +kernel
theorem dX2_lengthOf_28 : decode cX2_lengthOf 28 = .ok (.ireturn, 1) := by decide +kernel
theorem dX2_begins_0 : decode cX2_begins 0 = .ok (.iconst 0, 1) := by decide +kernel
theorem dX2_begins_1 : decode cX2_begins 1 = .ok (.istore_n 3, 1) := by decide +kernel
theorem dX2_begins_2 : decode cX2_begins 2 = .ok (.iconst 0, 1) := by decide +kernel
theorem dX2_begins_3 : decode cX2_begins 3 = .ok (.istore 4, 2) := by decide +kernel
theorem dX2_begins_5 : decode cX2_begins 5 = .ok (.iload 4, 2) := by decide +kernel
theorem dX2_begins_7 : decode cX2_begins 7 = .ok (.iload_n 2, 1) := by decide +kernel
theorem dX2_begins_8 : decode cX2_begins 8 = .ok (.if_icmp .ge 19, 3) := by decide +kernel
theorem dX2_begins_11 : decode cX2_begins 11 = .ok (.iload_n 3, 1) := by decide +kernel
theorem dX2_begins_12 : decode cX2_begins 12 = .ok (.aload_n 0, 1) := by decide +kernel
theorem dX2_begins_13 : decode cX2_begins 13 = .ok (.iload_n 1, 1) := by decide +kernel
theorem dX2_begins_14 : decode cX2_begins 14 = .ok (.iload 4, 2) := by decide +kernel
theorem dX2_begins_16 : decode cX2_begins 16 = .ok (.invokevirtual 53, 3) := by decide +kernel
theorem dX2_begins_19 : decode cX2_begins 19 = .ok (.iadd, 1) := by decide +kernel
theorem dX2_begins_20 : decode cX2_begins 20 = .ok (.istore_n 3, 1) := by decide +kernel
theorem dX2_begins_21 : decode cX2_begins 21 = .ok (.iinc 4 1, 3) := by decide +kernel
theorem dX2_begins_24 : decode cX2_begins 24 = .ok (.goto (-19), 3) := by decide +kernel
theorem dX2_begins_27 : decode cX2_begins 27 = .ok (.iload_n 3, 1) := by decide +kernel
theorem dX2_begins_28 : decode cX2_begins 28 = .ok (.ireturn, 1) := by decide +kernel
theorem dX2_beginOf_0 : decode cX2_beginOf 0 = .ok (.aload_n 0, 1) := by decide +kernel
theorem dX2_beginOf_1 : decode cX2_beginOf 1 = .ok (.iconst 0, 1) := by decide +kernel
theorem dX2_beginOf_2 : decode cX2_beginOf 2 = .ok (.putfield 38, 3) := by decide +kernel
theorem dX2_beginOf_5 : decode cX2_beginOf 5 = .ok (.aload_n 0, 1) := by decide +kernel
theorem dX2_beginOf_6 : decode cX2_beginOf 6 = .ok (.iload_n 1, 1) := by decide +kernel
theorem dX2_beginOf_7 : decode cX2_beginOf 7 = .ok (.iload_n 2, 1) := by decide +kernel
theorem dX2_beginOf_8 : decode cX2_beginOf 8 = .ok (.invokevirtual 90, 3) := by decide +kernel
theorem dX2_beginOf_11 : decode cX2_beginOf 11 = .ok (.ifCond .eq 12, 3) := by decide +kernel
theorem dX2_beginOf_14 : decode cX2_beginOf 14 = .ok (.aload_n 0, 1) := by decide +kernel
theorem dX2_beginOf_15 : decode cX2_beginOf 15 = .ok (.iload_n 1, 1) := by decide +kernel
theorem dX2_beginOf_16 : decode cX2_beginOf 16 = .ok (.iload_n 2, 1) := by decide +kernel
theorem dX2_beginOf_17 : decode cX2_beginOf 17 = .ok (.invokevirtual 108, 3) := by decide +kernel
theorem dX2_beginOf_20 : decode cX2_beginOf 20 = .ok (.goto 8, 3) := by decide +kernel
theorem dX2_beginOf_23 : decode cX2_beginOf 23 = .ok (.aload_n 0, 1) := by decide +kernel
theorem dX2_beginOf_24 : decode cX2_beginOf 24 = .ok (.iconst 1, 1) := by decide +kernel
theorem dX2_beginOf_25 : decode cX2_beginOf 25 = .ok (.invokevirtual 76, 3) := by decide +kernel
theorem dX2_beginOf_28 : decode cX2_beginOf 28 = .ok (.ireturn, 1) := by decide +kernel
theorem dX2_length_0 : decode cX2_length 0 = .ok (.aload_n 0, 1) := by decide +kernel
theorem dX2_length_1 : decode cX2_length 1 = .ok (.iconst 0, 1) := by decide +kernel
theorem dX2_length_2 : decode cX2_length 2 = .ok (.putfield 38, 3) := by decide +kernel
theorem dX2_length_5 : decode cX2_length 5 = .ok (.aload_n 0, 1) := by decide +kernel
theorem dX2_length_6 : decode cX2_length 6 = .ok (.iload_n 1, 1) := by decide +kernel
theorem dX2_length_7 : decode cX2_length 7 = .ok (.invokevirtual 49, 3) := by decide +kernel
theorem dX2_length_10 : decode cX2_length 10 = .ok (.ifCond .eq 11, 3) := by decide +kernel
theorem dX2_length_13 : decode cX2_length 13 = .ok (.aload_n 0, 1) := by decide +kernel
theorem dX2_length_14 : decode cX2_length 14 = .ok (.iload_n 1, 1) := by decide +kernel
theorem dX2_length_15 : decode cX2_length 15 = .ok (.invokevirtual 94, 3) := by decide +kernel
theorem dX2_length_18 : decode cX2_length 18 = .ok (.goto 8, 3) := by decide +kernel
theorem dX2_length_21 : decode cX2_length 21 = .ok (.aload_n 0, 1) := by decide +kernel
theorem dX2_length_22 : decode cX2_length 22 = .ok (.iconst 1, 1) := by decide +kernel
theorem dX2_length_23 : decode cX2_length 23 = .ok (.invokevirtual 76, 3) := by decide +kernel
theorem dX2_length_26 : decode cX2_length 26 = .ok (.ireturn, 1) := by decide +kernel
theorem dX2_most_0 : decode cX2_most 0 = .ok (.iconst 0, 1) := by decide +kernel
theorem dX2_most_1 : decode cX2_most 1 = .ok (.istore_n 1, 1) := by decide +kernel
theorem dX2_most_2 : decode cX2_most 2 = .ok (.iconst 0, 1) := by decide +kernel
theorem dX2_most_3 : decode cX2_most 3 = .ok (.istore_n 2, 1) := by decide +kernel
theorem dX2_most_4 : decode cX2_most 4 = .ok (.iload_n 2, 1) := by decide +kernel
theorem dX2_most_5 : decode cX2_most 5 = .ok (.aload_n 0, 1) := by decide +kernel
theorem dX2_most_6 : decode cX2_most 6 = .ok (.getfield 42, 3) := by decide +kernel
theorem dX2_most_9 : decode cX2_most 9 = .ok (.if_icmp .ge 19, 3) := by decide +kernel
theorem dX2_most_12 : decode cX2_most 12 = .ok (.iload_n 1, 1) := by decide +kernel
theorem dX2_most_13 : decode cX2_most 13 = .ok (.aload_n 0, 1) := by decide +kernel
theorem dX2_most_14 : decode cX2_most 14 = .ok (.iload_n 2, 1) := by decide +kernel
theorem dX2_most_15 : decode cX2_most 15 = .ok (.invokevirtual 94, 3) := by decide +kernel
theorem dX2_most_18 : decode cX2_most 18 = .ok (.invokestatic 87, 3) := by decide +kernel
theorem dX2_most_21 : decode cX2_most 21 = .ok (.istore_n 1, 1) := by decide +kernel
theorem dX2_most_22 : decode cX2_most 22 = .ok (.iinc 2 1, 3) := by decide +kernel
theorem dX2_most_25 : decode cX2_most 25 = .ok (.goto (-21), 3) := by decide +kernel
theorem dX2_most_28 : decode cX2_most 28 = .ok (.iload_n 1, 1) := by decide +kernel
theorem dX2_most_29 : decode cX2_most 29 = .ok (.ireturn, 1) := by decide +kernel
theorem dX2_longest_0 : decode cX2_longest 0 = .ok (.aload_n 0, 1) := by decide +kernel
theorem dX2_longest_1 : decode cX2_longest 1 = .ok (.aload_n 0, 1) := by decide +kernel
theorem dX2_longest_2 : decode cX2_longest 2 = .ok (.invokevirtual 111, 3) := by decide +kernel
theorem dX2_longest_5 : decode cX2_longest 5 = .ok (.invokevirtual 97, 3) := by decide +kernel
theorem dX2_longest_8 : decode cX2_longest 8 = .ok (.ireturn, 1) := by decide +kernel
theorem dX2_signAt_0 : decode cX2_signAt 0 = .ok (.aload_n 0, 1) := by decide +kernel
theorem dX2_signAt_1 : decode cX2_signAt 1 = .ok (.iconst 0, 1) := by decide +kernel
theorem dX2_signAt_2 : decode cX2_signAt 2 = .ok (.putfield 38, 3) := by decide +kernel
theorem dX2_signAt_5 : decode cX2_signAt 5 = .ok (.aload_n 0, 1) := by decide +kernel
theorem dX2_signAt_6 : decode cX2_signAt 6 = .ok (.iload_n 1, 1) := by decide +kernel
theorem dX2_signAt_7 : decode cX2_signAt 7 = .ok (.invokevirtual 49, 3) := by decide +kernel
theorem dX2_signAt_10 : decode cX2_signAt 10 = .ok (.ifCond .ne 9, 3) := by decide +kernel
theorem dX2_signAt_13 : decode cX2_signAt 13 = .ok (.aload_n 0, 1) := by decide +kernel
theorem dX2_signAt_14 : decode cX2_signAt 14 = .ok (.iconst 1, 1) := by decide +kernel
theorem dX2_signAt_15 : decode cX2_signAt 15 = .ok (.invokevirtual 76, 3) := by decide +kernel
theorem dX2_signAt_18 : decode cX2_signAt 18 = .ok (.ireturn, 1) := by decide +kernel
theorem dX2_signAt_19 : decode cX2_signAt 19 = .ok (.iload_n 2, 1) := by decide +kernel
theorem dX2_signAt_20 : decode cX2_signAt 20 = .ok (.ifCond .ge 9, 3) := by decide +kernel
theorem dX2_signAt_23 : decode cX2_signAt 23 = .ok (.aload_n 0, 1) := by decide +kernel
theorem dX2_signAt_24 : decode cX2_signAt 24 = .ok (.iconst 2, 1) := by decide +kernel
theorem dX2_signAt_25 : decode cX2_signAt 25 = .ok (.invokevirtual 76, 3) := by decide +kernel
theorem dX2_signAt_28 : decode cX2_signAt 28 = .ok (.ireturn, 1) := by decide +kernel
theorem dX2_signAt_29 : decode cX2_signAt 29 = .ok (.iload_n 2, 1) := by decide +kernel
theorem dX2_signAt_30 : decode cX2_signAt 30 = .ok (.istore_n 3, 1) := by decide +kernel
theorem dX2_signAt_31 : decode cX2_signAt 31 = .ok (.iconst 0, 1) := by decide +kernel
theorem dX2_signAt_32 : decode cX2_signAt 32 = .ok (.istore 4, 2) := by decide +kernel
theorem dX2_signAt_34 : decode cX2_signAt 34 = .ok (.iload 4, 2) := by decide +kernel
theorem dX2_signAt_36 : decode cX2_signAt 36 = .ok (.aload_n 0, 1) := by decide +kernel
theorem dX2_signAt_37 : decode cX2_signAt 37 = .ok (.getfield 9, 3) := by decide +kernel
theorem dX2_signAt_40 : decode cX2_signAt 40 = .ok (.iload_n 1, 1) := by decide +kernel
theorem dX2_signAt_41 : decode cX2_signAt 41 = .ok (.iaload, 1) := by decide +kernel
theorem dX2_signAt_42 : decode cX2_signAt 42 = .ok (.if_icmp .ge 26, 3) := by decide +kernel
theorem dX2_signAt_45 : decode cX2_signAt 45 = .ok (.iload_n 3, 1) := by decide +kernel
theorem dX2_signAt_46 : decode cX2_signAt 46 = .ok (.aload_n 0, 1) := by decide +kernel
theorem dX2_signAt_47 : decode cX2_signAt 47 = .ok (.iload_n 1, 1) := by decide +kernel
theorem dX2_signAt_48 : decode cX2_signAt 48 = .ok (.iload 4, 2) := by decide +kernel
theorem dX2_signAt_50 : decode cX2_signAt 50 = .ok (.invokevirtual 53, 3) := by decide +kernel
theorem dX2_signAt_53 : decode cX2_signAt 53 = .ok (.isub, 1) := by decide +kernel
theorem dX2_signAt_54 : decode cX2_signAt 54 = .ok (.istore_n 3, 1) := by decide +kernel
theorem dX2_signAt_55 : decode cX2_signAt 55 = .ok (.iload_n 3, 1) := by decide +kernel
theorem dX2_signAt_56 : decode cX2_signAt 56 = .ok (.ifCond .ge 6, 3) := by decide +kernel
theorem dX2_signAt_59 : decode cX2_signAt 59 = .ok (.iload 4, 2) := by decide +kernel
theorem dX2_signAt_61 : decode cX2_signAt 61 = .ok (.ireturn, 1) := by decide +kernel
theorem dX2_signAt_62 : decode cX2_signAt 62 = .ok (.iinc 4 1, 3) := by decide +kernel
theorem dX2_signAt_65 : decode cX2_signAt 65 = .ok (.goto (-31), 3) := by decide +kernel
theorem dX2_signAt_68 : decode cX2_signAt 68 = .ok (.iconst (-1), 1) := by decide +kernel
theorem dX2_signAt_69 : decode cX2_signAt 69 = .ok (.ireturn, 1) := by decide +kernel
theorem dX2_clefOf_0 : decode cX2_clefOf 0 = .ok (.aload_n 0, 1) := by decide +kernel
theorem dX2_clefOf_1 : decode cX2_clefOf 1 = .ok (.iconst 0, 1) := by decide +kernel
theorem dX2_clefOf_2 : decode cX2_clefOf 2 = .ok (.putfield 38, 3) := by decide +kernel
theorem dX2_clefOf_5 : decode cX2_clefOf 5 = .ok (.aload_n 0, 1) := by decide +kernel
theorem dX2_clefOf_6 : decode cX2_clefOf 6 = .ok (.iload_n 1, 1) := by decide +kernel
theorem dX2_clefOf_7 : decode cX2_clefOf 7 = .ok (.invokevirtual 49, 3) := by decide +kernel
theorem dX2_clefOf_10 : decode cX2_clefOf 10 = .ok (.ifCond .eq 12, 3) := by decide +kernel
theorem dX2_clefOf_13 : decode cX2_clefOf 13 = .ok (.aload_n 0, 1) := by decide +kernel
theorem dX2_clefOf_14 : decode cX2_clefOf 14 = .ok (.getfield 13, 3) := by decide +kernel
theorem dX2_clefOf_17 : decode cX2_clefOf 17 = .ok (.iload_n 1, 1) := by decide +kernel
theorem dX2_clefOf_18 : decode cX2_clefOf 18 = .ok (.iaload, 1) := by decide +kernel
theorem dX2_clefOf_19 : decode cX2_clefOf 19 = .ok (.goto 8, 3) := by decide +kernel
theorem dX2_clefOf_22 : decode cX2_clefOf 22 = .ok (.aload_n 0, 1) := by decide +kernel
theorem dX2_clefOf_23 : decode cX2_clefOf 23 = .ok (.iconst 1, 1) := by decide +kernel
theorem dX2_clefOf_24 : decode cX2_clefOf 24 = .ok (.invokevirtual 76, 3) := by decide +kernel
theorem dX2_clefOf_27 : decode cX2_clefOf 27 = .ok (.ireturn, 1) := by decide +kernel
theorem dX2_pitchOf_0 : decode cX2_pitchOf 0 = .ok (.aload_n 0, 1) := by decide +kernel
theorem dX2_pitchOf_1 : decode cX2_pitchOf 1 = .ok (.iconst 0, 1) := by decide +kernel
theorem dX2_pitchOf_2 : decode cX2_pitchOf 2 = .ok (.putfield 38, 3) := by decide +kernel
theorem dX2_pitchOf_5 : decode cX2_pitchOf 5 = .ok (.aload_n 0, 1) := by decide +kernel
theorem dX2_pitchOf_6 : decode cX2_pitchOf 6 = .ok (.iload_n 1, 1) := by decide +kernel
theorem dX2_pitchOf_7 : decode cX2_pitchOf 7 = .ok (.iload_n 2, 1) := by decide +kernel
theorem dX2_pitchOf_8 : decode cX2_pitchOf 8 = .ok (.invokevirtual 90, 3) := by decide +kernel
theorem dX2_pitchOf_11 : decode cX2_pitchOf 11 = .ok (.ifCond .ne 9, 3) := by decide +kernel
theorem dX2_pitchOf_14 : decode cX2_pitchOf 14 = .ok (.aload_n 0, 1) := by decide +kernel
theorem dX2_pitchOf_15 : decode cX2_pitchOf 15 = .ok (.iconst 1, 1) := by decide +kernel
theorem dX2_pitchOf_16 : decode cX2_pitchOf 16 = .ok (.invokevirtual 76, 3) := by decide +kernel
theorem dX2_pitchOf_19 : decode cX2_pitchOf 19 = .ok (.ireturn, 1) := by decide +kernel
theorem dX2_pitchOf_20 : decode cX2_pitchOf 20 = .ok (.aload_n 0, 1) := by decide +kernel
theorem dX2_pitchOf_21 : decode cX2_pitchOf 21 = .ok (.getfield 13, 3) := by decide +kernel
theorem dX2_pitchOf_24 : decode cX2_pitchOf 24 = .ok (.iload_n 1, 1) := by decide +kernel
theorem dX2_pitchOf_25 : decode cX2_pitchOf 25 = .ok (.iaload, 1) := by decide +kernel
theorem dX2_pitchOf_26 : decode cX2_pitchOf 26 = .ok (.iconst (-1), 1) := by decide +kernel
theorem dX2_pitchOf_27 : decode cX2_pitchOf 27 = .ok (.if_icmp .ne 9, 3) := by decide +kernel
theorem dX2_pitchOf_30 : decode cX2_pitchOf 30 = .ok (.aload_n 0, 1) := by decide +kernel
theorem dX2_pitchOf_31 : decode cX2_pitchOf 31 = .ok (.iconst 2, 1) := by decide +kernel
theorem dX2_pitchOf_32 : decode cX2_pitchOf 32 = .ok (.invokevirtual 76, 3) := by decide +kernel
theorem dX2_pitchOf_35 : decode cX2_pitchOf 35 = .ok (.ireturn, 1) := by decide +kernel
theorem dX2_pitchOf_36 : decode cX2_pitchOf 36 = .ok (.aload_n 0, 1) := by decide +kernel
theorem dX2_pitchOf_37 : decode cX2_pitchOf 37 = .ok (.getfield 22, 3) := by decide +kernel
theorem dX2_pitchOf_40 : decode cX2_pitchOf 40 = .ok (.bipush 24, 2) := by decide +kernel
theorem dX2_pitchOf_42 : decode cX2_pitchOf 42 = .ok (.iload_n 1, 1) := by decide +kernel
theorem dX2_pitchOf_43 : decode cX2_pitchOf 43 = .ok (.imul, 1) := by decide +kernel
theorem dX2_pitchOf_44 : decode cX2_pitchOf 44 = .ok (.iload_n 2, 1) := by decide +kernel
theorem dX2_pitchOf_45 : decode cX2_pitchOf 45 = .ok (.iadd, 1) := by decide +kernel
theorem dX2_pitchOf_46 : decode cX2_pitchOf 46 = .ok (.iaload, 1) := by decide +kernel
theorem dX2_pitchOf_47 : decode cX2_pitchOf 47 = .ok (.istore_n 3, 1) := by decide +kernel
theorem dX2_pitchOf_48 : decode cX2_pitchOf 48 = .ok (.iload_n 3, 1) := by decide +kernel
theorem dX2_pitchOf_49 : decode cX2_pitchOf 49 = .ok (.iconst (-1), 1) := by decide +kernel
theorem dX2_pitchOf_50 : decode cX2_pitchOf 50 = .ok (.if_icmp .ne 7, 3) := by decide +kernel
theorem dX2_pitchOf_53 : decode cX2_pitchOf 53 = .ok (.iconst (-1), 1) := by decide +kernel
theorem dX2_pitchOf_54 : decode cX2_pitchOf 54 = .ok (.goto 13, 3) := by decide +kernel
theorem dX2_pitchOf_57 : decode cX2_pitchOf 57 = .ok (.iload_n 3, 1) := by decide +kernel
theorem dX2_pitchOf_58 : decode cX2_pitchOf 58 = .ok (.iconst 2, 1) := by decide +kernel
theorem dX2_pitchOf_59 : decode cX2_pitchOf 59 = .ok (.aload_n 0, 1) := by decide +kernel
theorem dX2_pitchOf_60 : decode cX2_pitchOf 60 = .ok (.getfield 13, 3) := by decide +kernel
theorem dX2_pitchOf_63 : decode cX2_pitchOf 63 = .ok (.iload_n 1, 1) := by decide +kernel
theorem dX2_pitchOf_64 : decode cX2_pitchOf 64 = .ok (.iaload, 1) := by decide +kernel
theorem dX2_pitchOf_65 : decode cX2_pitchOf 65 = .ok (.imul, 1) := by decide +kernel
theorem dX2_pitchOf_66 : decode cX2_pitchOf 66 = .ok (.iadd, 1) := by decide +kernel
theorem dX2_pitchOf_67 : decode cX2_pitchOf 67 = .ok (.ireturn, 1) := by decide +kernel
theorem dX2_fit_0 : decode cX2_fit 0 = .ok (.bipush 24, 2) := by decide +kernel
theorem dX2_fit_2 : decode cX2_fit 2 = .ok (.iload_n 1, 1) := by decide +kernel
theorem dX2_fit_3 : decode cX2_fit 3 = .ok (.imul, 1) := by decide +kernel
theorem dX2_fit_4 : decode cX2_fit 4 = .ok (.istore_n 3, 1) := by decide +kernel
theorem dX2_fit_5 : decode cX2_fit 5 = .ok (.iload_n 3, 1) := by decide +kernel
theorem dX2_fit_6 : decode cX2_fit 6 = .ok (.bipush 24, 2) := by decide +kernel
theorem dX2_fit_8 : decode cX2_fit 8 = .ok (.iload_n 1, 1) := by decide +kernel
theorem dX2_fit_9 : decode cX2_fit 9 = .ok (.imul, 1) := by decide +kernel
theorem dX2_fit_10 : decode cX2_fit 10 = .ok (.aload_n 0, 1) := by decide +kernel
theorem dX2_fit_11 : decode cX2_fit 11 = .ok (.getfield 9, 3) := by decide +kernel
theorem dX2_fit_14 : decode cX2_fit 14 = .ok (.iload_n 1, 1) := by decide +kernel
theorem dX2_fit_15 : decode cX2_fit 15 = .ok (.iaload, 1) := by decide +kernel
theorem dX2_fit_16 : decode cX2_fit 16 = .ok (.iadd, 1) := by decide +kernel
theorem dX2_fit_17 : decode cX2_fit 17 = .ok (.if_icmp .ge 40, 3) := by decide +kernel
theorem dX2_fit_20 : decode cX2_fit 20 = .ok (.aload_n 0, 1) := by decide +kernel
theorem dX2_fit_21 : decode cX2_fit 21 = .ok (.getfield 22, 3) := by decide +kernel
theorem dX2_fit_24 : decode cX2_fit 24 = .ok (.iload_n 3, 1) := by decide +kernel
theorem dX2_fit_25 : decode cX2_fit 25 = .ok (.iaload, 1) := by decide +kernel
theorem dX2_fit_26 : decode cX2_fit 26 = .ok (.iconst (-1), 1) := by decide +kernel
theorem dX2_fit_27 : decode cX2_fit 27 = .ok (.if_icmp .eq 24, 3) := by decide +kernel
theorem dX2_fit_30 : decode cX2_fit 30 = .ok (.aload_n 0, 1) := by decide +kernel
theorem dX2_fit_31 : decode cX2_fit 31 = .ok (.getfield 22, 3) := by decide +kernel
theorem dX2_fit_34 : decode cX2_fit 34 = .ok (.iload_n 3, 1) := by decide +kernel
theorem dX2_fit_35 : decode cX2_fit 35 = .ok (.iaload, 1) := by decide +kernel
theorem dX2_fit_36 : decode cX2_fit 36 = .ok (.iconst 2, 1) := by decide +kernel
theorem dX2_fit_37 : decode cX2_fit 37 = .ok (.iload_n 2, 1) := by decide +kernel
theorem dX2_fit_38 : decode cX2_fit 38 = .ok (.imul, 1) := by decide +kernel
theorem dX2_fit_39 : decode cX2_fit 39 = .ok (.iadd, 1) := by decide +kernel
theorem dX2_fit_40 : decode cX2_fit 40 = .ok (.iconst 3, 1) := by decide +kernel
theorem dX2_fit_41 : decode cX2_fit 41 = .ok (.bipush 16, 2) := by decide +kernel
theorem dX2_fit_43 : decode cX2_fit 43 = .ok (.invokestatic 45, 3) := by decide +kernel
theorem dX2_fit_46 : decode cX2_fit 46 = .ok (.ifCond .ne 5, 3) := by decide +kernel
theorem dX2_fit_49 : decode cX2_fit 49 = .ok (.iconst 0, 1) := by decide +kernel
theorem dX2_fit_50 : decode cX2_fit 50 = .ok (.ireturn, 1) := by decide +kernel
theorem dX2_fit_51 : decode cX2_fit 51 = .ok (.iinc 3 1, 3) := by decide +kernel
theorem dX2_fit_54 : decode cX2_fit 54 = .ok (.goto (-49), 3) := by decide +kernel
theorem dX2_fit_57 : decode cX2_fit 57 = .ok (.iconst 1, 1) := by decide +kernel
theorem dX2_fit_58 : decode cX2_fit 58 = .ok (.ireturn, 1) := by decide +kernel
theorem dX2_fits_0 : decode cX2_fits 0 = .ok (.aload_n 0, 1) := by decide +kernel
theorem dX2_fits_1 : decode cX2_fits 1 = .ok (.aload_n 0, 1) := by decide +kernel
theorem dX2_fits_2 : decode cX2_fits 2 = .ok (.iload_n 1, 1) := by decide +kernel
theorem dX2_fits_3 : decode cX2_fits 3 = .ok (.invokevirtual 49, 3) := by decide +kernel
theorem dX2_fits_6 : decode cX2_fits 6 = .ok (.ifCond .ne 7, 3) := by decide +kernel
theorem dX2_fits_9 : decode cX2_fits 9 = .ok (.iconst 1, 1) := by decide +kernel
theorem dX2_fits_10 : decode cX2_fits 10 = .ok (.goto 17, 3) := by decide +kernel
theorem dX2_fits_13 : decode cX2_fits 13 = .ok (.iload_n 2, 1) := by decide +kernel
theorem dX2_fits_14 : decode cX2_fits 14 = .ok (.iconst 0, 1) := by decide +kernel
theorem dX2_fits_15 : decode cX2_fits 15 = .ok (.iconst 5, 1) := by decide +kernel
theorem dX2_fits_16 : decode cX2_fits 16 = .ok (.invokestatic 45, 3) := by decide +kernel
theorem dX2_fits_19 : decode cX2_fits 19 = .ok (.ifCond .eq 7, 3) := by decide +kernel
theorem dX2_fits_22 : decode cX2_fits 22 = .ok (.iconst 0, 1) := by decide +kernel
theorem dX2_fits_23 : decode cX2_fits 23 = .ok (.goto 4, 3) := by decide +kernel
theorem dX2_fits_26 : decode cX2_fits 26 = .ok (.iconst 2, 1) := by decide +kernel
theorem dX2_fits_27 : decode cX2_fits 27 = .ok (.putfield 38, 3) := by decide +kernel
theorem dX2_fits_30 : decode cX2_fits 30 = .ok (.aload_n 0, 1) := by decide +kernel
theorem dX2_fits_31 : decode cX2_fits 31 = .ok (.getfield 38, 3) := by decide +kernel
theorem dX2_fits_34 : decode cX2_fits 34 = .ok (.ifCond .ne 16, 3) := by decide +kernel
theorem dX2_fits_37 : decode cX2_fits 37 = .ok (.aload_n 0, 1) := by decide +kernel
theorem dX2_fits_38 : decode cX2_fits 38 = .ok (.iload_n 1, 1) := by decide +kernel
theorem dX2_fits_39 : decode cX2_fits 39 = .ok (.iload_n 2, 1) := by decide +kernel
theorem dX2_fits_40 : decode cX2_fits 40 = .ok (.invokevirtual 115, 3) := by decide +kernel
theorem dX2_fits_43 : decode cX2_fits 43 = .ok (.ifCond .eq 7, 3) := by decide +kernel
theorem dX2_fits_46 : decode cX2_fits 46 = .ok (.iconst 1, 1) := by decide +kernel
theorem dX2_fits_47 : decode cX2_fits 47 = .ok (.goto 4, 3) := by decide +kernel
theorem dX2_fits_50 : decode cX2_fits 50 = .ok (.iconst 0, 1) := by decide +kernel
theorem dX2_fits_51 : decode cX2_fits 51 = .ok (.ireturn, 1) := by decide +kernel
theorem dX2_fitting_0 : decode cX2_fitting 0 = .ok (.iconst 0, 1) := by decide +kernel
theorem dX2_fitting_1 : decode cX2_fitting 1 = .ok (.istore_n 2, 1) := by decide +kernel
theorem dX2_fitting_2 : decode cX2_fitting 2 = .ok (.iconst 0, 1) := by decide +kernel
theorem dX2_fitting_3 : decode cX2_fitting 3 = .ok (.istore_n 3, 1) := by decide +kernel
theorem dX2_fitting_4 : decode cX2_fitting 4 = .ok (.iload_n 3, 1) := by decide +kernel
theorem dX2_fitting_5 : decode cX2_fitting 5 = .ok (.bipush 6, 2) := by decide +kernel
theorem dX2_fitting_7 : decode cX2_fitting 7 = .ok (.if_icmp .ge 26, 3) := by decide +kernel
theorem dX2_fitting_10 : decode cX2_fitting 10 = .ok (.iload_n 2, 1) := by decide +kernel
theorem dX2_fitting_11 : decode cX2_fitting 11 = .ok (.aload_n 0, 1) := by decide +kernel
theorem dX2_fitting_12 : decode cX2_fitting 12 = .ok (.iload_n 1, 1) := by decide +kernel
theorem dX2_fitting_13 : decode cX2_fitting 13 = .ok (.iload_n 3, 1) := by decide +kernel
theorem dX2_fitting_14 : decode cX2_fitting 14 = .ok (.invokevirtual 115, 3) := by decide +kernel
theorem dX2_fitting_17 : decode cX2_fitting 17 = .ok (.ifCond .eq 7, 3) := by decide +kernel
theorem dX2_fitting_20 : decode cX2_fitting 20 = .ok (.iconst 1, 1) := by decide +kernel
theorem dX2_fitting_21 : decode cX2_fitting 21 = .ok (.goto 4, 3) := by decide +kernel
theorem dX2_fitting_24 : decode cX2_fitting 24 = .ok (.iconst 0, 1) := by decide +kernel
theorem dX2_fitting_25 : decode cX2_fitting 25 = .ok (.iadd, 1) := by decide +kernel
theorem dX2_fitting_26 : decode cX2_fitting 26 = .ok (.istore_n 2, 1) := by decide +kernel
theorem dX2_fitting_27 : decode cX2_fitting 27 = .ok (.iinc 3 1, 3) := by decide +kernel
theorem dX2_fitting_30 : decode cX2_fitting 30 = .ok (.goto (-26), 3) := by decide +kernel
theorem dX2_fitting_33 : decode cX2_fitting 33 = .ok (.iload_n 2, 1) := by decide +kernel
theorem dX2_fitting_34 : decode cX2_fitting 34 = .ok (.ireturn, 1) := by decide +kernel
theorem dX2_clefsThatFit_0 : decode cX2_clefsThatFit 0 = .ok (.aload_n 0, 1) := by decide +kernel
theorem dX2_clefsThatFit_1 : decode cX2_clefsThatFit 1 = .ok (.iconst 0, 1) := by decide +kernel
theorem dX2_clefsThatFit_2 : decode cX2_clefsThatFit 2 = .ok (.putfield 38, 3) := by decide +kernel
theorem dX2_clefsThatFit_5 : decode cX2_clefsThatFit 5 = .ok (.aload_n 0, 1) := by decide +kernel
theorem dX2_clefsThatFit_6 : decode cX2_clefsThatFit 6 = .ok (.iload_n 1, 1) := by decide +kernel
theorem dX2_clefsThatFit_7 : decode cX2_clefsThatFit 7 = .ok (.invokevirtual 49, 3) := by decide +kernel
theorem dX2_clefsThatFit_10 : decode cX2_clefsThatFit 10 = .ok (.ifCond .eq 11, 3) := by decide +kernel
theorem dX2_clefsThatFit_13 : decode cX2_clefsThatFit 13 = .ok (.aload_n 0, 1) := by decide +kernel
theorem dX2_clefsThatFit_14 : decode cX2_clefsThatFit 14 = .ok (.iload_n 1, 1) := by decide +kernel
theorem dX2_clefsThatFit_15 : decode cX2_clefsThatFit 15 = .ok (.invokevirtual 118, 3) := by decide +kernel
theorem dX2_clefsThatFit_18 : decode cX2_clefsThatFit 18 = .ok (.goto 8, 3) := by decide +kernel
theorem dX2_clefsThatFit_21 : decode cX2_clefsThatFit 21 = .ok (.aload_n 0, 1) := by decide +kernel
theorem dX2_clefsThatFit_22 : decode cX2_clefsThatFit 22 = .ok (.iconst 1, 1) := by decide +kernel
theorem dX2_clefsThatFit_23 : decode cX2_clefsThatFit 23 = .ok (.invokevirtual 76, 3) := by decide +kernel
theorem dX2_clefsThatFit_26 : decode cX2_clefsThatFit 26 = .ok (.ireturn, 1) := by decide +kernel
theorem dX2_both_0 : decode cX2_both 0 = .ok (.aload_n 0, 1) := by decide +kernel
theorem dX2_both_1 : decode cX2_both 1 = .ok (.iconst 0, 1) := by decide +kernel
theorem dX2_both_2 : decode cX2_both 2 = .ok (.putfield 38, 3) := by decide +kernel
theorem dX2_both_5 : decode cX2_both 5 = .ok (.aload_n 0, 1) := by decide +kernel
theorem dX2_both_6 : decode cX2_both 6 = .ok (.iload_n 1, 1) := by decide +kernel
theorem dX2_both_7 : decode cX2_both 7 = .ok (.invokevirtual 49, 3) := by decide +kernel
theorem dX2_both_10 : decode cX2_both 10 = .ok (.ifCond .eq 11, 3) := by decide +kernel
theorem dX2_both_13 : decode cX2_both 13 = .ok (.aload_n 0, 1) := by decide +kernel
theorem dX2_both_14 : decode cX2_both 14 = .ok (.iload_n 2, 1) := by decide +kernel
theorem dX2_both_15 : decode cX2_both 15 = .ok (.invokevirtual 49, 3) := by decide +kernel
theorem dX2_both_18 : decode cX2_both 18 = .ok (.ifCond .ne 9, 3) := by decide +kernel
theorem dX2_both_21 : decode cX2_both 21 = .ok (.aload_n 0, 1) := by decide +kernel
theorem dX2_both_22 : decode cX2_both 22 = .ok (.iconst 1, 1) := by decide +kernel
theorem dX2_both_23 : decode cX2_both 23 = .ok (.invokevirtual 76, 3) := by decide +kernel
theorem dX2_both_26 : decode cX2_both 26 = .ok (.ireturn, 1) := by decide +kernel
theorem dX2_both_27 : decode cX2_both 27 = .ok (.aload_n 0, 1) := by decide +kernel
theorem dX2_both_28 : decode cX2_both 28 = .ok (.getfield 13, 3) := by decide +kernel
theorem dX2_both_31 : decode cX2_both 31 = .ok (.iload_n 1, 1) := by decide +kernel
theorem dX2_both_32 : decode cX2_both 32 = .ok (.iaload, 1) := by decide +kernel
theorem dX2_both_33 : decode cX2_both 33 = .ok (.iconst (-1), 1) := by decide +kernel
theorem dX2_both_34 : decode cX2_both 34 = .ok (.if_icmp .eq 13, 3) := by decide +kernel
theorem dX2_both_37 : decode cX2_both 37 = .ok (.aload_n 0, 1) := by decide +kernel
theorem dX2_both_38 : decode cX2_both 38 = .ok (.getfield 13, 3) := by decide +kernel
theorem dX2_both_41 : decode cX2_both 41 = .ok (.iload_n 2, 1) := by decide +kernel
theorem dX2_both_42 : decode cX2_both 42 = .ok (.iaload, 1) := by decide +kernel
theorem dX2_both_43 : decode cX2_both 43 = .ok (.iconst (-1), 1) := by decide +kernel
theorem dX2_both_44 : decode cX2_both 44 = .ok (.if_icmp .ne 9, 3) := by decide +kernel
theorem dX2_both_47 : decode cX2_both 47 = .ok (.aload_n 0, 1) := by decide +kernel
theorem dX2_both_48 : decode cX2_both 48 = .ok (.iconst 2, 1) := by decide +kernel
theorem dX2_both_49 : decode cX2_both 49 = .ok (.invokevirtual 76, 3) := by decide +kernel
theorem dX2_both_52 : decode cX2_both 52 = .ok (.ireturn, 1) := by decide +kernel
theorem dX2_both_53 : decode cX2_both 53 = .ok (.aload_n 0, 1) := by decide +kernel
theorem dX2_both_54 : decode cX2_both 54 = .ok (.iload_n 1, 1) := by decide +kernel
theorem dX2_both_55 : decode cX2_both 55 = .ok (.aload_n 0, 1) := by decide +kernel
theorem dX2_both_56 : decode cX2_both 56 = .ok (.getfield 13, 3) := by decide +kernel
theorem dX2_both_59 : decode cX2_both 59 = .ok (.iload_n 1, 1) := by decide +kernel
theorem dX2_both_60 : decode cX2_both 60 = .ok (.iaload, 1) := by decide +kernel
theorem dX2_both_61 : decode cX2_both 61 = .ok (.iload_n 2, 1) := by decide +kernel
theorem dX2_both_62 : decode cX2_both 62 = .ok (.aload_n 0, 1) := by decide +kernel
theorem dX2_both_63 : decode cX2_both 63 = .ok (.getfield 13, 3) := by decide +kernel
theorem dX2_both_66 : decode cX2_both 66 = .ok (.iload_n 2, 1) := by decide +kernel
theorem dX2_both_67 : decode cX2_both 67 = .ok (.iaload, 1) := by decide +kernel
theorem dX2_both_68 : decode cX2_both 68 = .ok (.iload_n 3, 1) := by decide +kernel
theorem dX2_both_69 : decode cX2_both 69 = .ok (.invokevirtual 121, 3) := by decide +kernel
theorem dX2_both_72 : decode cX2_both 72 = .ok (.ireturn, 1) := by decide +kernel
theorem dX2_clashes_0 : decode cX2_clashes 0 = .ok (.aload_n 0, 1) := by decide +kernel
theorem dX2_clashes_1 : decode cX2_clashes 1 = .ok (.iload_n 1, 1) := by decide +kernel
theorem dX2_clashes_2 : decode cX2_clashes 2 = .ok (.iload_n 2, 1) := by decide +kernel
theorem dX2_clashes_3 : decode cX2_clashes 3 = .ok (.iconst 0, 1) := by decide +kernel
theorem dX2_clashes_4 : decode cX2_clashes 4 = .ok (.invokevirtual 125, 3) := by decide +kernel
theorem dX2_clashes_7 : decode cX2_clashes 7 = .ok (.ireturn, 1) := by decide +kernel
theorem dX2_firstClash_0 : decode cX2_firstClash 0 = .ok (.aload_n 0, 1) := by decide +kernel
theorem dX2_firstClash_1 : decode cX2_firstClash 1 = .ok (.iload_n 1, 1) := by decide +kernel
theorem dX2_firstClash_2 : decode cX2_firstClash 2 = .ok (.iload_n 2, 1) := by decide +kernel
theorem dX2_firstClash_3 : decode cX2_firstClash 3 = .ok (.iconst 1, 1) := by decide +kernel
theorem dX2_firstClash_4 : decode cX2_firstClash 4 = .ok (.invokevirtual 125, 3) := by decide +kernel
theorem dX2_firstClash_7 : decode cX2_firstClash 7 = .ok (.ireturn, 1) := by decide +kernel
theorem dX2_withAll_0 : decode cX2_withAll 0 = .ok (.iconst 0, 1) := by decide +kernel
theorem dX2_withAll_1 : decode cX2_withAll 1 = .ok (.istore_n 3, 1) := by decide +kernel
theorem dX2_withAll_2 : decode cX2_withAll 2 = .ok (.iconst 0, 1) := by decide +kernel
theorem dX2_withAll_3 : decode cX2_withAll 3 = .ok (.istore 4, 2) := by decide +kernel
theorem dX2_withAll_5 : decode cX2_withAll 5 = .ok (.iload 4, 2) := by decide +kernel
theorem dX2_withAll_7 : decode cX2_withAll 7 = .ok (.aload_n 0, 1) := by decide +kernel
theorem dX2_withAll_8 : decode cX2_withAll 8 = .ok (.getfield 42, 3) := by decide +kernel
theorem dX2_withAll_11 : decode cX2_withAll 11 = .ok (.if_icmp .ge 45, 3) := by decide +kernel
theorem dX2_withAll_14 : decode cX2_withAll 14 = .ok (.iload 4, 2) := by decide +kernel
theorem dX2_withAll_16 : decode cX2_withAll 16 = .ok (.iload_n 1, 1) := by decide +kernel
theorem dX2_withAll_17 : decode cX2_withAll 17 = .ok (.if_icmp .eq 33, 3) := by decide +kernel
theorem dX2_withAll_20 : decode cX2_withAll 20 = .ok (.aload_n 0, 1) := by decide +kernel
theorem dX2_withAll_21 : decode cX2_withAll 21 = .ok (.getfield 13, 3) := by decide +kernel
theorem dX2_withAll_24 : decode cX2_withAll 24 = .ok (.iload 4, 2) := by decide +kernel
theorem dX2_withAll_26 : decode cX2_withAll 26 = .ok (.iaload, 1) := by decide +kernel
theorem dX2_withAll_27 : decode cX2_withAll 27 = .ok (.iconst (-1), 1) := by decide +kernel
theorem dX2_withAll_28 : decode cX2_withAll 28 = .ok (.if_icmp .eq 22, 3) := by decide +kernel
theorem dX2_withAll_31 : decode cX2_withAll 31 = .ok (.iload_n 3, 1) := by decide +kernel
theorem dX2_withAll_32 : decode cX2_withAll 32 = .ok (.aload_n 0, 1) := by decide +kernel
theorem dX2_withAll_33 : decode cX2_withAll 33 = .ok (.iload_n 1, 1) := by decide +kernel
theorem dX2_withAll_34 : decode cX2_withAll 34 = .ok (.iload_n 2, 1) := by decide +kernel
theorem dX2_withAll_35 : decode cX2_withAll 35 = .ok (.iload 4, 2) := by decide +kernel
theorem dX2_withAll_37 : decode cX2_withAll 37 = .ok (.aload_n 0, 1) := by decide +kernel
theorem dX2_withAll_38 : decode cX2_withAll 38 = .ok (.getfield 13, 3) := by decide +kernel
theorem dX2_withAll_41 : decode cX2_withAll 41 = .ok (.iload 4, 2) := by decide +kernel
theorem dX2_withAll_43 : decode cX2_withAll 43 = .ok (.iaload, 1) := by decide +kernel
theorem dX2_withAll_44 : decode cX2_withAll 44 = .ok (.iconst 0, 1) := by decide +kernel
theorem dX2_withAll_45 : decode cX2_withAll 45 = .ok (.invokevirtual 121, 3) := by decide +kernel
theorem dX2_withAll_48 : decode cX2_withAll 48 = .ok (.iadd, 1) := by decide +kernel
theorem dX2_withAll_49 : decode cX2_withAll 49 = .ok (.istore_n 3, 1) := by decide +kernel
theorem dX2_withAll_50 : decode cX2_withAll 50 = .ok (.iinc 4 1, 3) := by decide +kernel
theorem dX2_withAll_53 : decode cX2_withAll 53 = .ok (.goto (-48), 3) := by decide +kernel
theorem dX2_withAll_56 : decode cX2_withAll 56 = .ok (.iload_n 3, 1) := by decide +kernel
theorem dX2_withAll_57 : decode cX2_withAll 57 = .ok (.ireturn, 1) := by decide +kernel
theorem dX2_clashesWith_0 : decode cX2_clashesWith 0 = .ok (.aload_n 0, 1) := by decide +kernel
theorem dX2_clashesWith_1 : decode cX2_clashesWith 1 = .ok (.iconst 0, 1) := by decide +kernel
theorem dX2_clashesWith_2 : decode cX2_clashesWith 2 = .ok (.putfield 38, 3) := by decide +kernel
theorem dX2_clashesWith_5 : decode cX2_clashesWith 5 = .ok (.aload_n 0, 1) := by decide +kernel
theorem dX2_clashesWith_6 : decode cX2_clashesWith 6 = .ok (.iload_n 1, 1) := by decide +kernel
theorem dX2_clashesWith_7 : decode cX2_clashesWith 7 = .ok (.invokevirtual 49, 3) := by decide +kernel
theorem dX2_clashesWith_10 : decode cX2_clashesWith 10 = .ok (.ifCond .ne 9, 3) := by decide +kernel
theorem dX2_clashesWith_13 : decode cX2_clashesWith 13 = .ok (.aload_n 0, 1) := by decide +kernel
theorem dX2_clashesWith_14 : decode cX2_clashesWith 14 = .ok (.iconst 1, 1) := by decide +kernel
theorem dX2_clashesWith_15 : decode cX2_clashesWith 15 = .ok (.invokevirtual 76, 3) := by decide +kernel
theorem dX2_clashesWith_18 : decode cX2_clashesWith 18 = .ok (.ireturn, 1) := by decide +kernel
theorem dX2_clashesWith_19 : decode cX2_clashesWith 19 = .ok (.iload_n 2, 1) := by decide +kernel
theorem dX2_clashesWith_20 : decode cX2_clashesWith 20 = .ok (.iconst 0, 1) := by decide +kernel
theorem dX2_clashesWith_21 : decode cX2_clashesWith 21 = .ok (.iconst 5, 1) := by decide +kernel
theorem dX2_clashesWith_22 : decode cX2_clashesWith 22 = .ok (.invokestatic 45, 3) := by decide +kernel
theorem dX2_clashesWith_25 : decode cX2_clashesWith 25 = .ok (.ifCond .eq 12, 3) := by decide +kernel
theorem dX2_clashesWith_28 : decode cX2_clashesWith 28 = .ok (.aload_n 0, 1) := by decide +kernel
theorem dX2_clashesWith_29 : decode cX2_clashesWith 29 = .ok (.iload_n 1, 1) := by decide +kernel
theorem dX2_clashesWith_30 : decode cX2_clashesWith 30 = .ok (.iload_n 2, 1) := by decide +kernel
theorem dX2_clashesWith_31 : decode cX2_clashesWith 31 = .ok (.invokevirtual 129, 3) := by decide +kernel
theorem dX2_clashesWith_34 : decode cX2_clashesWith 34 = .ok (.goto 8, 3) := by decide +kernel
theorem dX2_clashesWith_37 : decode cX2_clashesWith 37 = .ok (.aload_n 0, 1) := by decide +kernel
theorem dX2_clashesWith_38 : decode cX2_clashesWith 38 = .ok (.iconst 2, 1) := by decide +kernel
theorem dX2_clashesWith_39 : decode cX2_clashesWith 39 = .ok (.invokevirtual 76, 3) := by decide +kernel
theorem dX2_clashesWith_42 : decode cX2_clashesWith 42 = .ok (.ireturn, 1) := by decide +kernel
theorem dX2_best_0 : decode cX2_best 0 = .ok (.iconst (-1), 1) := by decide +kernel
theorem dX2_best_1 : decode cX2_best 1 = .ok (.istore_n 2, 1) := by decide +kernel
theorem dX2_best_2 : decode cX2_best 2 = .ok (.iconst 0, 1) := by decide +kernel
theorem dX2_best_3 : decode cX2_best 3 = .ok (.istore_n 3, 1) := by decide +kernel
theorem dX2_best_4 : decode cX2_best 4 = .ok (.iconst 0, 1) := by decide +kernel
theorem dX2_best_5 : decode cX2_best 5 = .ok (.istore 4, 2) := by decide +kernel
theorem dX2_best_7 : decode cX2_best 7 = .ok (.iload 4, 2) := by decide +kernel
theorem dX2_best_9 : decode cX2_best 9 = .ok (.bipush 6, 2) := by decide +kernel
theorem dX2_best_11 : decode cX2_best 11 = .ok (.if_icmp .ge 51, 3) := by decide +kernel
theorem dX2_best_14 : decode cX2_best 14 = .ok (.aload_n 0, 1) := by decide +kernel
theorem dX2_best_15 : decode cX2_best 15 = .ok (.iload_n 1, 1) := by decide +kernel
theorem dX2_best_16 : decode cX2_best 16 = .ok (.iload 4, 2) := by decide +kernel
theorem dX2_best_18 : decode cX2_best 18 = .ok (.invokevirtual 115, 3) := by decide +kernel
theorem dX2_best_21 : decode cX2_best 21 = .ok (.ifCond .ne 6, 3) := by decide +kernel
theorem dX2_best_24 : decode cX2_best 24 = .ok (.goto 32, 3) := by decide +kernel
theorem dX2_best_27 : decode cX2_best 27 = .ok (.aload_n 0, 1) := by decide +kernel
theorem dX2_best_28 : decode cX2_best 28 = .ok (.iload_n 1, 1) := by decide +kernel
theorem dX2_best_29 : decode cX2_best 29 = .ok (.iload 4, 2) := by decide +kernel
theorem dX2_best_31 : decode cX2_best 31 = .ok (.invokevirtual 129, 3) := by decide +kernel
theorem dX2_best_34 : decode cX2_best 34 = .ok (.istore 5, 2) := by decide +kernel
theorem dX2_best_36 : decode cX2_best 36 = .ok (.iload_n 2, 1) := by decide +kernel
theorem dX2_best_37 : decode cX2_best 37 = .ok (.iconst (-1), 1) := by decide +kernel
theorem dX2_best_38 : decode cX2_best 38 = .ok (.if_icmp .eq 12, 3) := by decide +kernel
theorem dX2_best_41 : decode cX2_best 41 = .ok (.iload 5, 2) := by decide +kernel
theorem dX2_best_43 : decode cX2_best 43 = .ok (.iload_n 3, 1) := by decide +kernel
theorem dX2_best_44 : decode cX2_best 44 = .ok (.if_icmp .lt 6, 3) := by decide +kernel
theorem dX2_best_47 : decode cX2_best 47 = .ok (.goto 9, 3) := by decide +kernel
theorem dX2_best_50 : decode cX2_best 50 = .ok (.iload 4, 2) := by decide +kernel
theorem dX2_best_52 : decode cX2_best 52 = .ok (.istore_n 2, 1) := by decide +kernel
theorem dX2_best_53 : decode cX2_best 53 = .ok (.iload 5, 2) := by decide +kernel
theorem dX2_best_55 : decode cX2_best 55 = .ok (.istore_n 3, 1) := by decide +kernel
theorem dX2_best_56 : decode cX2_best 56 = .ok (.iinc 4 1, 3) := by decide +kernel
theorem dX2_best_59 : decode cX2_best 59 = .ok (.goto (-52), 3) := by decide +kernel
theorem dX2_best_62 : decode cX2_best 62 = .ok (.iload_n 2, 1) := by decide +kernel
theorem dX2_best_63 : decode cX2_best 63 = .ok (.ireturn, 1) := by decide +kernel
theorem dX2_bestClef_0 : decode cX2_bestClef 0 = .ok (.aload_n 0, 1) := by decide +kernel
theorem dX2_bestClef_1 : decode cX2_bestClef 1 = .ok (.iconst 0, 1) := by decide +kernel
theorem dX2_bestClef_2 : decode cX2_bestClef 2 = .ok (.putfield 38, 3) := by decide +kernel
theorem dX2_bestClef_5 : decode cX2_bestClef 5 = .ok (.aload_n 0, 1) := by decide +kernel
theorem dX2_bestClef_6 : decode cX2_bestClef 6 = .ok (.iload_n 1, 1) := by decide +kernel
theorem dX2_bestClef_7 : decode cX2_bestClef 7 = .ok (.invokevirtual 49, 3) := by decide +kernel
theorem dX2_bestClef_10 : decode cX2_bestClef 10 = .ok (.ifCond .eq 11, 3) := by decide +kernel
theorem dX2_bestClef_13 : decode cX2_bestClef 13 = .ok (.aload_n 0, 1) := by decide +kernel
theorem dX2_bestClef_14 : decode cX2_bestClef 14 = .ok (.iload_n 1, 1) := by decide +kernel
theorem dX2_bestClef_15 : decode cX2_bestClef 15 = .ok (.invokevirtual 132, 3) := by decide +kernel
theorem dX2_bestClef_18 : decode cX2_bestClef 18 = .ok (.goto 8, 3) := by decide +kernel
theorem dX2_bestClef_21 : decode cX2_bestClef 21 = .ok (.aload_n 0, 1) := by decide +kernel
theorem dX2_bestClef_22 : decode cX2_bestClef 22 = .ok (.iconst 1, 1) := by decide +kernel
theorem dX2_bestClef_23 : decode cX2_bestClef 23 = .ok (.invokevirtual 76, 3) := by decide +kernel
theorem dX2_bestClef_26 : decode cX2_bestClef 26 = .ok (.ireturn, 1) := by decide +kernel
theorem dX2_canon_0 : decode cX2_canon 0 = .ok (.iconst 0, 1) := by decide +kernel
theorem dX2_canon_1 : decode cX2_canon 1 = .ok (.istore 4, 2) := by decide +kernel
theorem dX2_canon_3 : decode cX2_canon 3 = .ok (.iload_n 2, 1) := by decide +kernel
theorem dX2_canon_4 : decode cX2_canon 4 = .ok (.istore 5, 2) := by decide +kernel
theorem dX2_canon_6 : decode cX2_canon 6 = .ok (.iload 5, 2) := by decide +kernel
theorem dX2_canon_8 : decode cX2_canon 8 = .ok (.iload_n 1, 1) := by decide +kernel
theorem dX2_canon_9 : decode cX2_canon 9 = .ok (.if_icmp .ge 68, 3) := by decide +kernel
theorem dX2_canon_12 : decode cX2_canon 12 = .ok (.iload 4, 2) := by decide +kernel
theorem dX2_canon_14 : decode cX2_canon 14 = .ok (.aload_n 0, 1) := by decide +kernel
theorem dX2_canon_15 : decode cX2_canon 15 = .ok (.getfield 32, 3) := by decide +kernel
theorem dX2_canon_18 : decode cX2_canon 18 = .ok (.iload 5, 2) := by decide +kernel
theorem dX2_canon_20 : decode cX2_canon 20 = .ok (.iaload, 1) := by decide +kernel
theorem dX2_canon_21 : decode cX2_canon 21 = .ok (.iconst (-1), 1) := by decide +kernel
theorem dX2_canon_22 : decode cX2_canon 22 = .ok (.if_icmp .eq 45, 3) := by decide +kernel
theorem dX2_canon_25 : decode cX2_canon 25 = .ok (.aload_n 0, 1) := by decide +kernel
theorem dX2_canon_26 : decode cX2_canon 26 = .ok (.getfield 32, 3) := by decide +kernel
theorem dX2_canon_29 : decode cX2_canon 29 = .ok (.iload 5, 2) := by decide +kernel
theorem dX2_canon_31 : decode cX2_canon 31 = .ok (.iload_n 2, 1) := by decide +kernel
theorem dX2_canon_32 : decode cX2_canon 32 = .ok (.isub, 1) := by decide +kernel
theorem dX2_canon_33 : decode cX2_canon 33 = .ok (.iaload, 1) := by decide +kernel
theorem dX2_canon_34 : decode cX2_canon 34 = .ok (.iconst (-1), 1) := by decide +kernel
theorem dX2_canon_35 : decode cX2_canon 35 = .ok (.if_icmp .eq 32, 3) := by decide +kernel
theorem dX2_canon_38 : decode cX2_canon 38 = .ok (.aload_n 0, 1) := by decide +kernel
theorem dX2_canon_39 : decode cX2_canon 39 = .ok (.getfield 32, 3) := by decide +kernel
theorem dX2_canon_42 : decode cX2_canon 42 = .ok (.iload 5, 2) := by decide +kernel
theorem dX2_canon_44 : decode cX2_canon 44 = .ok (.iaload, 1) := by decide +kernel
theorem dX2_canon_45 : decode cX2_canon 45 = .ok (.aload_n 0, 1) := by decide +kernel
theorem dX2_canon_46 : decode cX2_canon 46 = .ok (.getfield 32, 3) := by decide +kernel
theorem dX2_canon_49 : decode cX2_canon 49 = .ok (.iload 5, 2) := by decide +kernel
theorem dX2_canon_51 : decode cX2_canon 51 = .ok (.iload_n 2, 1) := by decide +kernel
theorem dX2_canon_52 : decode cX2_canon 52 = .ok (.isub, 1) := by decide +kernel
theorem dX2_canon_53 : decode cX2_canon 53 = .ok (.iaload, 1) := by decide +kernel
theorem dX2_canon_54 : decode cX2_canon 54 = .ok (.isub, 1) := by decide +kernel
theorem dX2_canon_55 : decode cX2_canon 55 = .ok (.iload_n 3, 1) := by decide +kernel
theorem dX2_canon_56 : decode cX2_canon 56 = .ok (.isub, 1) := by decide +kernel
theorem dX2_canon_57 : decode cX2_canon 57 = .ok (.invokestatic 70, 3) := by decide +kernel
theorem dX2_canon_60 : decode cX2_canon 60 = .ok (.ifCond .eq 7, 3) := by decide +kernel
theorem dX2_canon_63 : decode cX2_canon 63 = .ok (.iconst 1, 1) := by decide +kernel
theorem dX2_canon_64 : decode cX2_canon 64 = .ok (.goto 4, 3) := by decide +kernel
theorem dX2_canon_67 : decode cX2_canon 67 = .ok (.iconst 0, 1) := by decide +kernel
theorem dX2_canon_68 : decode cX2_canon 68 = .ok (.iadd, 1) := by decide +kernel
theorem dX2_canon_69 : decode cX2_canon 69 = .ok (.istore 4, 2) := by decide +kernel
theorem dX2_canon_71 : decode cX2_canon 71 = .ok (.iinc 5 1, 3) := by decide +kernel
theorem dX2_canon_74 : decode cX2_canon 74 = .ok (.goto (-68), 3) := by decide +kernel
theorem dX2_canon_77 : decode cX2_canon 77 = .ok (.iload 4, 2) := by decide +kernel
theorem dX2_canon_79 : decode cX2_canon 79 = .ok (.ireturn, 1) := by decide +kernel
theorem dX2_canonClashes_0 : decode cX2_canonClashes 0 = .ok (.aload_n 0, 1) := by decide +kernel
theorem dX2_canonClashes_1 : decode cX2_canonClashes 1 = .ok (.iconst 0, 1) := by decide +kernel
theorem dX2_canonClashes_2 : decode cX2_canonClashes 2 = .ok (.putfield 38, 3) := by decide +kernel
theorem dX2_canonClashes_5 : decode cX2_canonClashes 5 = .ok (.aload_n 0, 1) := by decide +kernel
theorem dX2_canonClashes_6 : decode cX2_canonClashes 6 = .ok (.iload_n 1, 1) := by decide +kernel
theorem dX2_canonClashes_7 : decode cX2_canonClashes 7 = .ok (.invokevirtual 49, 3) := by decide +kernel
theorem dX2_canonClashes_10 : decode cX2_canonClashes 10 = .ok (.ifCond .ne 9, 3) := by decide +kernel
theorem dX2_canonClashes_13 : decode cX2_canonClashes 13 = .ok (.aload_n 0, 1) := by decide +kernel
theorem dX2_canonClashes_14 : decode cX2_canonClashes 14 = .ok (.iconst 1, 1) := by decide +kernel
theorem dX2_canonClashes_15 : decode cX2_canonClashes 15 = .ok (.invokevirtual 76, 3) := by decide +kernel
theorem dX2_canonClashes_18 : decode cX2_canonClashes 18 = .ok (.ireturn, 1) := by decide +kernel
theorem dX2_canonClashes_19 : decode cX2_canonClashes 19 = .ok (.iload_n 2, 1) := by decide +kernel
theorem dX2_canonClashes_20 : decode cX2_canonClashes 20 = .ok (.iconst 1, 1) := by decide +kernel
theorem dX2_canonClashes_21 : decode cX2_canonClashes 21 = .ok (.bipush 48, 2) := by decide +kernel
theorem dX2_canonClashes_23 : decode cX2_canonClashes 23 = .ok (.invokestatic 45, 3) := by decide +kernel
theorem dX2_canonClashes_26 : decode cX2_canonClashes 26 = .ok (.ifCond .eq 32, 3) := by decide +kernel
theorem dX2_canonClashes_29 : decode cX2_canonClashes 29 = .ok (.iload_n 3, 1) := by decide +kernel
theorem dX2_canonClashes_30 : decode cX2_canonClashes 30 = .ok (.bipush (-7), 2) := by decide +kernel
theorem dX2_canonClashes_32 : decode cX2_canonClashes 32 = .ok (.bipush 7, 2) := by decide +kernel
theorem dX2_canonClashes_34 : decode cX2_canonClashes 34 = .ok (.invokestatic 45, 3) := by decide +kernel
theorem dX2_canonClashes_37 : decode cX2_canonClashes 37 = .ok (.ifCond .eq 21, 3) := by decide +kernel
theorem dX2_canonClashes_40 : decode cX2_canonClashes 40 = .ok (.aload_n 0, 1) := by decide +kernel
theorem dX2_canonClashes_41 : decode cX2_canonClashes 41 = .ok (.aload_n 0, 1) := by decide +kernel
theorem dX2_canonClashes_42 : decode cX2_canonClashes 42 = .ok (.iload_n 1, 1) := by decide +kernel
theorem dX2_canonClashes_43 : decode cX2_canonClashes 43 = .ok (.aload_n 0, 1) := by decide +kernel
theorem dX2_canonClashes_44 : decode cX2_canonClashes 44 = .ok (.getfield 32, 3) := by decide +kernel
theorem dX2_canonClashes_47 : decode cX2_canonClashes 47 = .ok (.invokevirtual 63, 3) := by decide +kernel
theorem dX2_canonClashes_50 : decode cX2_canonClashes 50 = .ok (.iload_n 2, 1) := by decide +kernel
theorem dX2_canonClashes_51 : decode cX2_canonClashes 51 = .ok (.iload_n 3, 1) := by decide +kernel
theorem dX2_canonClashes_52 : decode cX2_canonClashes 52 = .ok (.invokevirtual 135, 3) := by decide +kernel
theorem dX2_canonClashes_55 : decode cX2_canonClashes 55 = .ok (.goto 8, 3) := by decide +kernel
theorem dX2_canonClashes_58 : decode cX2_canonClashes 58 = .ok (.aload_n 0, 1) := by decide +kernel
theorem dX2_canonClashes_59 : decode cX2_canonClashes 59 = .ok (.iconst 2, 1) := by decide +kernel
theorem dX2_canonClashes_60 : decode cX2_canonClashes 60 = .ok (.invokevirtual 76, 3) := by decide +kernel
theorem dX2_canonClashes_63 : decode cX2_canonClashes 63 = .ok (.ireturn, 1) := by decide +kernel
theorem dX2_delay_0 : decode cX2_delay 0 = .ok (.aload_n 0, 1) := by decide +kernel
theorem dX2_delay_1 : decode cX2_delay 1 = .ok (.iload_n 1, 1) := by decide +kernel
theorem dX2_delay_2 : decode cX2_delay 2 = .ok (.aload_n 0, 1) := by decide +kernel
theorem dX2_delay_3 : decode cX2_delay 3 = .ok (.getfield 32, 3) := by decide +kernel
theorem dX2_delay_6 : decode cX2_delay 6 = .ok (.invokevirtual 63, 3) := by decide +kernel
theorem dX2_delay_9 : decode cX2_delay 9 = .ok (.istore_n 3, 1) := by decide +kernel
theorem dX2_delay_10 : decode cX2_delay 10 = .ok (.iconst 1, 1) := by decide +kernel
theorem dX2_delay_11 : decode cX2_delay 11 = .ok (.istore 4, 2) := by decide +kernel
theorem dX2_delay_13 : decode cX2_delay 13 = .ok (.aload_n 0, 1) := by decide +kernel
theorem dX2_delay_14 : decode cX2_delay 14 = .ok (.iload_n 3, 1) := by decide +kernel
theorem dX2_delay_15 : decode cX2_delay 15 = .ok (.iconst 1, 1) := by decide +kernel
theorem dX2_delay_16 : decode cX2_delay 16 = .ok (.iload_n 2, 1) := by decide +kernel
theorem dX2_delay_17 : decode cX2_delay 17 = .ok (.invokevirtual 135, 3) := by decide +kernel
theorem dX2_delay_20 : decode cX2_delay 20 = .ok (.istore 5, 2) := by decide +kernel
theorem dX2_delay_22 : decode cX2_delay 22 = .ok (.iconst 2, 1) := by decide +kernel
theorem dX2_delay_23 : decode cX2_delay 23 = .ok (.istore 6, 2) := by decide +kernel
theorem dX2_delay_25 : decode cX2_delay 25 = .ok (.iload 6, 2) := by decide +kernel
theorem dX2_delay_27 : decode cX2_delay 27 = .ok (.bipush 48, 2) := by decide +kernel
theorem dX2_delay_29 : decode cX2_delay 29 = .ok (.if_icmp .gt 37, 3) := by decide +kernel
theorem dX2_delay_32 : decode cX2_delay 32 = .ok (.aload_n 0, 1) := by decide +kernel
theorem dX2_delay_33 : decode cX2_delay 33 = .ok (.iload_n 3, 1) := by decide +kernel
theorem dX2_delay_34 : decode cX2_delay 34 = .ok (.iload 6, 2) := by decide +kernel
theorem dX2_delay_36 : decode cX2_delay 36 = .ok (.iload_n 2, 1) := by decide +kernel
theorem dX2_delay_37 : decode cX2_delay 37 = .ok (.invokevirtual 135, 3) := by decide +kernel
theorem dX2_delay_40 : decode cX2_delay 40 = .ok (.istore 7, 2) := by decide +kernel
theorem dX2_delay_42 : decode cX2_delay 42 = .ok (.iload 7, 2) := by decide +kernel
theorem dX2_delay_44 : decode cX2_delay 44 = .ok (.iload 5, 2) := by decide +kernel
theorem dX2_delay_46 : decode cX2_delay 46 = .ok (.if_icmp .lt 6, 3) := by decide +kernel
theorem dX2_delay_49 : decode cX2_delay 49 = .ok (.goto 11, 3) := by decide +kernel
theorem dX2_delay_52 : decode cX2_delay 52 = .ok (.iload 6, 2) := by decide +kernel
theorem dX2_delay_54 : decode cX2_delay 54 = .ok (.istore 4, 2) := by decide +kernel
theorem dX2_delay_56 : decode cX2_delay 56 = .ok (.iload 7, 2) := by decide +kernel
theorem dX2_delay_58 : decode cX2_delay 58 = .ok (.istore 5, 2) := by decide +kernel
theorem dX2_delay_60 : decode cX2_delay 60 = .ok (.iinc 6 1, 3) := by decide +kernel
theorem dX2_delay_63 : decode cX2_delay 63 = .ok (.goto (-38), 3) := by decide +kernel
theorem dX2_delay_66 : decode cX2_delay 66 = .ok (.iload 4, 2) := by decide +kernel
theorem dX2_delay_68 : decode cX2_delay 68 = .ok (.ireturn, 1) := by decide +kernel
theorem dX2_bestDelay_0 : decode cX2_bestDelay 0 = .ok (.aload_n 0, 1) := by decide +kernel
theorem dX2_bestDelay_1 : decode cX2_bestDelay 1 = .ok (.iconst 0, 1) := by decide +kernel
theorem dX2_bestDelay_2 : decode cX2_bestDelay 2 = .ok (.putfield 38, 3) := by decide +kernel
theorem dX2_bestDelay_5 : decode cX2_bestDelay 5 = .ok (.aload_n 0, 1) := by decide +kernel
theorem dX2_bestDelay_6 : decode cX2_bestDelay 6 = .ok (.iload_n 1, 1) := by decide +kernel
theorem dX2_bestDelay_7 : decode cX2_bestDelay 7 = .ok (.invokevirtual 49, 3) := by decide +kernel
theorem dX2_bestDelay_10 : decode cX2_bestDelay 10 = .ok (.ifCond .ne 9, 3) := by decide +kernel
theorem dX2_bestDelay_13 : decode cX2_bestDelay 13 = .ok (.aload_n 0, 1) := by decide +kernel
theorem dX2_bestDelay_14 : decode cX2_bestDelay 14 = .ok (.iconst 1, 1) := by decide +kernel
theorem dX2_bestDelay_15 : decode cX2_bestDelay 15 = .ok (.invokevirtual 76, 3) := by decide +kernel
theorem dX2_bestDelay_18 : decode cX2_bestDelay 18 = .ok (.ireturn, 1) := by decide +kernel
theorem dX2_bestDelay_19 : decode cX2_bestDelay 19 = .ok (.iload_n 2, 1) := by decide +kernel
theorem dX2_bestDelay_20 : decode cX2_bestDelay 20 = .ok (.bipush (-7), 2) := by decide +kernel
theorem dX2_bestDelay_22 : decode cX2_bestDelay 22 = .ok (.bipush 7, 2) := by decide +kernel
theorem dX2_bestDelay_24 : decode cX2_bestDelay 24 = .ok (.invokestatic 45, 3) := by decide +kernel
theorem dX2_bestDelay_27 : decode cX2_bestDelay 27 = .ok (.ifCond .eq 12, 3) := by decide +kernel
theorem dX2_bestDelay_30 : decode cX2_bestDelay 30 = .ok (.aload_n 0, 1) := by decide +kernel
theorem dX2_bestDelay_31 : decode cX2_bestDelay 31 = .ok (.iload_n 1, 1) := by decide +kernel
theorem dX2_bestDelay_32 : decode cX2_bestDelay 32 = .ok (.iload_n 2, 1) := by decide +kernel
theorem dX2_bestDelay_33 : decode cX2_bestDelay 33 = .ok (.invokevirtual 139, 3) := by decide +kernel
theorem dX2_bestDelay_36 : decode cX2_bestDelay 36 = .ok (.goto 8, 3) := by decide +kernel
theorem dX2_bestDelay_39 : decode cX2_bestDelay 39 = .ok (.aload_n 0, 1) := by decide +kernel
theorem dX2_bestDelay_40 : decode cX2_bestDelay 40 = .ok (.iconst 2, 1) := by decide +kernel
theorem dX2_bestDelay_41 : decode cX2_bestDelay 41 = .ok (.invokevirtual 76, 3) := by decide +kernel
theorem dX2_bestDelay_44 : decode cX2_bestDelay 44 = .ok (.ireturn, 1) := by decide +kernel
theorem dX2_meanLength_0 : decode cX2_meanLength 0 = .ok (.aload_n 0, 1) := by decide +kernel
theorem dX2_meanLength_1 : decode cX2_meanLength 1 = .ok (.iconst 0, 1) := by decide +kernel
theorem dX2_meanLength_2 : decode cX2_meanLength 2 = .ok (.putfield 38, 3) := by decide +kernel
theorem dX2_meanLength_5 : decode cX2_meanLength 5 = .ok (.iconst 0, 1) := by decide +kernel
theorem dX2_meanLength_6 : decode cX2_meanLength 6 = .ok (.istore_n 1, 1) := by decide +kernel
theorem dX2_meanLength_7 : decode cX2_meanLength 7 = .ok (.iconst 0, 1) := by decide +kernel
theorem dX2_meanLength_8 : decode cX2_meanLength 8 = .ok (.istore_n 2, 1) := by decide +kernel
theorem dX2_meanLength_9 : decode cX2_meanLength 9 = .ok (.iload_n 2, 1) := by decide +kernel
theorem dX2_meanLength_10 : decode cX2_meanLength 10 = .ok (.aload_n 0, 1) := by decide +kernel
theorem dX2_meanLength_11 : decode cX2_meanLength 11 = .ok (.getfield 42, 3) := by decide +kernel
theorem dX2_meanLength_14 : decode cX2_meanLength 14 = .ok (.if_icmp .ge 17, 3) := by decide +kernel
theorem dX2_meanLength_17 : decode cX2_meanLength 17 = .ok (.iload_n 1, 1) := by decide +kernel
theorem dX2_meanLength_18 : decode cX2_meanLength 18 = .ok (.aload_n 0, 1) := by decide +kernel
theorem dX2_meanLength_19 : decode cX2_meanLength 19 = .ok (.iload_n 2, 1) := by decide +kernel
theorem dX2_meanLength_20 : decode cX2_meanLength 20 = .ok (.invokevirtual 94, 3) := by decide +kernel
theorem dX2_meanLength_23 : decode cX2_meanLength 23 = .ok (.iadd, 1) := by decide +kernel
theorem dX2_meanLength_24 : decode cX2_meanLength 24 = .ok (.istore_n 1, 1) := by decide +kernel
theorem dX2_meanLength_25 : decode cX2_meanLength 25 = .ok (.iinc 2 1, 3) := by decide +kernel
theorem dX2_meanLength_28 : decode cX2_meanLength 28 = .ok (.goto (-19), 3) := by decide +kernel
theorem dX2_meanLength_31 : decode cX2_meanLength 31 = .ok (.aload_n 0, 1) := by decide +kernel
theorem dX2_meanLength_32 : decode cX2_meanLength 32 = .ok (.getfield 42, 3) := by decide +kernel
theorem dX2_meanLength_35 : decode cX2_meanLength 35 = .ok (.ifCond .ne 7, 3) := by decide +kernel
theorem dX2_meanLength_38 : decode cX2_meanLength 38 = .ok (.dconst 0, 1) := by decide +kernel
theorem dX2_meanLength_39 : decode cX2_meanLength 39 = .ok (.goto 11, 3) := by decide +kernel
theorem dX2_meanLength_42 : decode cX2_meanLength 42 = .ok (.iload_n 1, 1) := by decide +kernel
theorem dX2_meanLength_43 : decode cX2_meanLength 43 = .ok (.i2d, 1) := by decide +kernel
theorem dX2_meanLength_44 : decode cX2_meanLength 44 = .ok (.aload_n 0, 1) := by decide +kernel
theorem dX2_meanLength_45 : decode cX2_meanLength 45 = .ok (.getfield 42, 3) := by decide +kernel
theorem dX2_meanLength_48 : decode cX2_meanLength 48 = .ok (.i2d, 1) := by decide +kernel
theorem dX2_meanLength_49 : decode cX2_meanLength 49 = .ok (.ddiv, 1) := by decide +kernel
theorem dX2_meanLength_50 : decode cX2_meanLength 50 = .ok (.dreturn, 1) := by decide +kernel
theorem dX2_digest_0 : decode cX2_digest 0 = .ok (.aload_n 0, 1) := by decide +kernel
theorem dX2_digest_1 : decode cX2_digest 1 = .ok (.iconst 0, 1) := by decide +kernel
theorem dX2_digest_2 : decode cX2_digest 2 = .ok (.putfield 38, 3) := by decide +kernel
theorem dX2_digest_5 : decode cX2_digest 5 = .ok (.ldc2_w 142, 3) := by decide +kernel
theorem dX2_digest_8 : decode cX2_digest 8 = .ok (.lstore_n 1, 1) := by decide +kernel
theorem dX2_digest_9 : decode cX2_digest 9 = .ok (.lload_n 1, 1) := by decide +kernel
theorem dX2_digest_10 : decode cX2_digest 10 = .ok (.ldc2_w 144, 3) := by decide +kernel
theorem dX2_digest_13 : decode cX2_digest 13 = .ok (.lmul, 1) := by decide +kernel
theorem dX2_digest_14 : decode cX2_digest 14 = .ok (.aload_n 0, 1) := by decide +kernel
theorem dX2_digest_15 : decode cX2_digest 15 = .ok (.getfield 42, 3) := by decide +kernel
theorem dX2_digest_18 : decode cX2_digest 18 = .ok (.i2l, 1) := by decide +kernel
theorem dX2_digest_19 : decode cX2_digest 19 = .ok (.ladd, 1) := by decide +kernel
theorem dX2_digest_20 : decode cX2_digest 20 = .ok (.lstore_n 1, 1) := by decide +kernel
theorem dX2_digest_21 : decode cX2_digest 21 = .ok (.lload_n 1, 1) := by decide +kernel
theorem dX2_digest_22 : decode cX2_digest 22 = .ok (.ldc2_w 144, 3) := by decide +kernel
theorem dX2_digest_25 : decode cX2_digest 25 = .ok (.lmul, 1) := by decide +kernel
theorem dX2_digest_26 : decode cX2_digest 26 = .ok (.aload_n 0, 1) := by decide +kernel
theorem dX2_digest_27 : decode cX2_digest 27 = .ok (.invokevirtual 111, 3) := by decide +kernel
theorem dX2_digest_30 : decode cX2_digest 30 = .ok (.i2l, 1) := by decide +kernel
theorem dX2_digest_31 : decode cX2_digest 31 = .ok (.ladd, 1) := by decide +kernel
theorem dX2_digest_32 : decode cX2_digest 32 = .ok (.lstore_n 1, 1) := by decide +kernel
theorem dX2_digest_33 : decode cX2_digest 33 = .ok (.iconst 0, 1) := by decide +kernel
theorem dX2_digest_34 : decode cX2_digest 34 = .ok (.istore_n 3, 1) := by decide +kernel
theorem dX2_digest_35 : decode cX2_digest 35 = .ok (.iload_n 3, 1) := by decide +kernel
theorem dX2_digest_36 : decode cX2_digest 36 = .ok (.aload_n 0, 1) := by decide +kernel
theorem dX2_digest_37 : decode cX2_digest 37 = .ok (.getfield 42, 3) := by decide +kernel
theorem dX2_digest_40 : decode cX2_digest 40 = .ok (.if_icmp .ge 273, 3) := by decide +kernel
theorem dX2_digest_43 : decode cX2_digest 43 = .ok (.bipush 9, 2) := by decide +kernel
theorem dX2_digest_45 : decode cX2_digest 45 = .ok (.newarray .int, 2) := by decide +kernel
theorem dX2_digest_47 : decode cX2_digest 47 = .ok (.dup, 1) := by decide +kernel
theorem dX2_digest_48 : decode cX2_digest 48 = .ok (.iconst 0, 1) := by decide +kernel
theorem dX2_digest_49 : decode cX2_digest 49 = .ok (.aload_n 0, 1) := by decide +kernel
theorem dX2_digest_50 : decode cX2_digest 50 = .ok (.getfield 9, 3) := by decide +kernel
theorem dX2_digest_53 : decode cX2_digest 53 = .ok (.iload_n 3, 1) := by decide +kernel
theorem dX2_digest_54 : decode cX2_digest 54 = .ok (.iaload, 1) := by decide +kernel
theorem dX2_digest_55 : decode cX2_digest 55 = .ok (.iastore, 1) := by decide +kernel
theorem dX2_digest_56 : decode cX2_digest 56 = .ok (.dup, 1) := by decide +kernel
theorem dX2_digest_57 : decode cX2_digest 57 = .ok (.iconst 1, 1) := by decide +kernel
theorem dX2_digest_58 : decode cX2_digest 58 = .ok (.aload_n 0, 1) := by decide +kernel
theorem dX2_digest_59 : decode cX2_digest 59 = .ok (.iload_n 3, 1) := by decide +kernel
theorem dX2_digest_60 : decode cX2_digest 60 = .ok (.iconst 1, 1) := by decide +kernel
theorem dX2_digest_61 : decode cX2_digest 61 = .ok (.invokevirtual 100, 3) := by decide +kernel
theorem dX2_digest_64 : decode cX2_digest 64 = .ok (.iastore, 1) := by decide +kernel
theorem dX2_digest_65 : decode cX2_digest 65 = .ok (.dup, 1) := by decide +kernel
theorem dX2_digest_66 : decode cX2_digest 66 = .ok (.iconst 2, 1) := by decide +kernel
theorem dX2_digest_67 : decode cX2_digest 67 = .ok (.aload_n 0, 1) := by decide +kernel
theorem dX2_digest_68 : decode cX2_digest 68 = .ok (.iload_n 3, 1) := by decide +kernel
theorem dX2_digest_69 : decode cX2_digest 69 = .ok (.iconst 0, 1) := by decide +kernel
theorem dX2_digest_70 : decode cX2_digest 70 = .ok (.invokevirtual 100, 3) := by decide +kernel
theorem dX2_digest_73 : decode cX2_digest 73 = .ok (.iastore, 1) := by decide +kernel
theorem dX2_digest_74 : decode cX2_digest 74 = .ok (.dup, 1) := by decide +kernel
theorem dX2_digest_75 : decode cX2_digest 75 = .ok (.iconst 3, 1) := by decide +kernel
theorem dX2_digest_76 : decode cX2_digest 76 = .ok (.aload_n 0, 1) := by decide +kernel
theorem dX2_digest_77 : decode cX2_digest 77 = .ok (.iload_n 3, 1) := by decide +kernel
theorem dX2_digest_78 : decode cX2_digest 78 = .ok (.invokevirtual 94, 3) := by decide +kernel
theorem dX2_digest_81 : decode cX2_digest 81 = .ok (.iastore, 1) := by decide +kernel
theorem dX2_digest_82 : decode cX2_digest 82 = .ok (.dup, 1) := by decide +kernel
theorem dX2_digest_83 : decode cX2_digest 83 = .ok (.iconst 4, 1) := by decide +kernel
theorem dX2_digest_84 : decode cX2_digest 84 = .ok (.aload_n 0, 1) := by decide +kernel
theorem dX2_digest_85 : decode cX2_digest 85 = .ok (.getfield 13, 3) := by decide +kernel
theorem dX2_digest_88 : decode cX2_digest 88 = .ok (.iload_n 3, 1) := by decide +kernel
theorem dX2_digest_89 : decode cX2_digest 89 = .ok (.iaload, 1) := by decide +kernel
theorem dX2_digest_90 : decode cX2_digest 90 = .ok (.iastore, 1) := by decide +kernel
theorem dX2_digest_91 : decode cX2_digest 91 = .ok (.dup, 1) := by decide +kernel
theorem dX2_digest_92 : decode cX2_digest 92 = .ok (.iconst 5, 1) := by decide +kernel
theorem dX2_digest_93 : decode cX2_digest 93 = .ok (.aload_n 0, 1) := by decide +kernel
theorem dX2_digest_94 : decode cX2_digest 94 = .ok (.iload_n 3, 1) := by decide +kernel
theorem dX2_digest_95 : decode cX2_digest 95 = .ok (.invokevirtual 118, 3) := by decide +kernel
theorem dX2_digest_98 : decode cX2_digest 98 = .ok (.iastore, 1) := by decide +kernel
theorem dX2_digest_99 : decode cX2_digest 99 = .ok (.dup, 1) := by decide +kernel
theorem dX2_digest_100 : decode cX2_digest 100 = .ok (.bipush 6, 2) := by decide +kernel
theorem dX2_digest_102 : decode cX2_digest 102 = .ok (.aload_n 0, 1) := by decide +kernel
theorem dX2_digest_103 : decode cX2_digest 103 = .ok (.iload_n 3, 1) := by decide +kernel
theorem dX2_digest_104 : decode cX2_digest 104 = .ok (.invokevirtual 132, 3) := by decide +kernel
theorem dX2_digest_107 : decode cX2_digest 107 = .ok (.iastore, 1) := by decide +kernel
theorem dX2_digest_108 : decode cX2_digest 108 = .ok (.dup, 1) := by decide +kernel
theorem dX2_digest_109 : decode cX2_digest 109 = .ok (.bipush 7, 2) := by decide +kernel
theorem dX2_digest_111 : decode cX2_digest 111 = .ok (.aload_n 0, 1) := by decide +kernel
theorem dX2_digest_112 : decode cX2_digest 112 = .ok (.aload_n 0, 1) := by decide +kernel
theorem dX2_digest_113 : decode cX2_digest 113 = .ok (.iload_n 3, 1) := by decide +kernel
theorem dX2_digest_114 : decode cX2_digest 114 = .ok (.aload_n 0, 1) := by decide +kernel
theorem dX2_digest_115 : decode cX2_digest 115 = .ok (.getfield 32, 3) := by decide +kernel
theorem dX2_digest_118 : decode cX2_digest 118 = .ok (.invokevirtual 63, 3) := by decide +kernel
theorem dX2_digest_121 : decode cX2_digest 121 = .ok (.iconst 4, 1) := by decide +kernel
theorem dX2_digest_122 : decode cX2_digest 122 = .ok (.iconst 0, 1) := by decide +kernel
theorem dX2_digest_123 : decode cX2_digest 123 = .ok (.invokevirtual 135, 3) := by decide +kernel
theorem dX2_digest_126 : decode cX2_digest 126 = .ok (.iastore, 1) := by decide +kernel
theorem dX2_digest_127 : decode cX2_digest 127 = .ok (.dup, 1) := by decide +kernel
theorem dX2_digest_128 : decode cX2_digest 128 = .ok (.bipush 8, 2) := by decide +kernel
theorem dX2_digest_130 : decode cX2_digest 130 = .ok (.aload_n 0, 1) := by decide +kernel
theorem dX2_digest_131 : decode cX2_digest 131 = .ok (.iload_n 3, 1) := by decide +kernel
theorem dX2_digest_132 : decode cX2_digest 132 = .ok (.iconst 4, 1) := by decide +kernel
theorem dX2_digest_133 : decode cX2_digest 133 = .ok (.invokevirtual 139, 3) := by decide +kernel
theorem dX2_digest_136 : decode cX2_digest 136 = .ok (.iastore, 1) := by decide +kernel
theorem dX2_digest_137 : decode cX2_digest 137 = .ok (.astore 4, 2) := by decide +kernel
theorem dX2_digest_139 : decode cX2_digest 139 = .ok (.aload 4, 2) := by decide +kernel
theorem dX2_digest_141 : decode cX2_digest 141 = .ok (.astore 5, 2) := by decide +kernel
theorem dX2_digest_143 : decode cX2_digest 143 = .ok (.aload 5, 2) := by decide +kernel
theorem dX2_digest_145 : decode cX2_digest 145 = .ok (.arraylength, 1) := by decide +kernel
theorem dX2_digest_146 : decode cX2_digest 146 = .ok (.istore 6, 2) := by decide +kernel
theorem dX2_digest_148 : decode cX2_digest 148 = .ok (.iconst 0, 1) := by decide +kernel
theorem dX2_digest_149 : decode cX2_digest 149 = .ok (.istore 7, 2) := by decide +kernel
theorem dX2_digest_151 : decode cX2_digest 151 = .ok (.iload 7, 2) := by decide +kernel
theorem dX2_digest_153 : decode cX2_digest 153 = .ok (.iload 6, 2) := by decide +kernel
theorem dX2_digest_155 : decode cX2_digest 155 = .ok (.if_icmp .ge 26, 3) := by decide +kernel
theorem dX2_digest_158 : decode cX2_digest 158 = .ok (.aload 5, 2) := by decide +kernel
theorem dX2_digest_160 : decode cX2_digest 160 = .ok (.iload 7, 2) := by decide +kernel
theorem dX2_digest_162 : decode cX2_digest 162 = .ok (.iaload, 1) := by decide +kernel
theorem dX2_digest_163 : decode cX2_digest 163 = .ok (.istore 8, 2) := by decide +kernel
theorem dX2_digest_165 : decode cX2_digest 165 = .ok (.lload_n 1, 1) := by decide +kernel
theorem dX2_digest_166 : decode cX2_digest 166 = .ok (.ldc2_w 144, 3) := by decide +kernel
theorem dX2_digest_169 : decode cX2_digest 169 = .ok (.lmul, 1) := by decide +kernel
theorem dX2_digest_170 : decode cX2_digest 170 = .ok (.iload 8, 2) := by decide +kernel
theorem dX2_digest_172 : decode cX2_digest 172 = .ok (.i2l, 1) := by decide +kernel
theorem dX2_digest_173 : decode cX2_digest 173 = .ok (.ladd, 1) := by decide +kernel
theorem dX2_digest_174 : decode cX2_digest 174 = .ok (.lstore_n 1, 1) := by decide +kernel
theorem dX2_digest_175 : decode cX2_digest 175 = .ok (.iinc 7 1, 3) := by decide +kernel
theorem dX2_digest_178 : decode cX2_digest 178 = .ok (.goto (-27), 3) := by decide +kernel
theorem dX2_digest_181 : decode cX2_digest 181 = .ok (.iconst 0, 1) := by decide +kernel
theorem dX2_digest_182 : decode cX2_digest 182 = .ok (.istore 5, 2) := by decide +kernel
theorem dX2_digest_184 : decode cX2_digest 184 = .ok (.iload 5, 2) := by decide +kernel
theorem dX2_digest_186 : decode cX2_digest 186 = .ok (.aload_n 0, 1) := by decide +kernel
theorem dX2_digest_187 : decode cX2_digest 187 = .ok (.getfield 9, 3) := by decide +kernel
theorem dX2_digest_190 : decode cX2_digest 190 = .ok (.iload_n 3, 1) := by decide +kernel
theorem dX2_digest_191 : decode cX2_digest 191 = .ok (.iaload, 1) := by decide +kernel
theorem dX2_digest_192 : decode cX2_digest 192 = .ok (.if_icmp .ge 115, 3) := by decide +kernel
theorem dX2_digest_195 : decode cX2_digest 195 = .ok (.bipush 24, 2) := by decide +kernel
theorem dX2_digest_197 : decode cX2_digest 197 = .ok (.iload_n 3, 1) := by decide +kernel
theorem dX2_digest_198 : decode cX2_digest 198 = .ok (.imul, 1) := by decide +kernel
theorem dX2_digest_199 : decode cX2_digest 199 = .ok (.iload 5, 2) := by decide +kernel
theorem dX2_digest_201 : decode cX2_digest 201 = .ok (.iadd, 1) := by decide +kernel
theorem dX2_digest_202 : decode cX2_digest 202 = .ok (.istore 6, 2) := by decide +kernel
theorem dX2_digest_204 : decode cX2_digest 204 = .ok (.iconst 5, 1) := by decide +kernel
theorem dX2_digest_205 : decode cX2_digest 205 = .ok (.newarray .int, 2) := by decide +kernel
theorem dX2_digest_207 : decode cX2_digest 207 = .ok (.dup, 1) := by decide +kernel
theorem dX2_digest_208 : decode cX2_digest 208 = .ok (.iconst 0, 1) := by decide +kernel
theorem dX2_digest_209 : decode cX2_digest 209 = .ok (.aload_n 0, 1) := by decide +kernel
theorem dX2_digest_210 : decode cX2_digest 210 = .ok (.getfield 19, 3) := by decide +kernel
theorem dX2_digest_213 : decode cX2_digest 213 = .ok (.iload 6, 2) := by decide +kernel
theorem dX2_digest_215 : decode cX2_digest 215 = .ok (.iaload, 1) := by decide +kernel
theorem dX2_digest_216 : decode cX2_digest 216 = .ok (.iastore, 1) := by decide +kernel
theorem dX2_digest_217 : decode cX2_digest 217 = .ok (.dup, 1) := by decide +kernel
theorem dX2_digest_218 : decode cX2_digest 218 = .ok (.iconst 1, 1) := by decide +kernel
theorem dX2_digest_219 : decode cX2_digest 219 = .ok (.aload_n 0, 1) := by decide +kernel
theorem dX2_digest_220 : decode cX2_digest 220 = .ok (.getfield 22, 3) := by decide +kernel
theorem dX2_digest_223 : decode cX2_digest 223 = .ok (.iload 6, 2) := by decide +kernel
theorem dX2_digest_225 : decode cX2_digest 225 = .ok (.iaload, 1) := by decide +kernel
theorem dX2_digest_226 : decode cX2_digest 226 = .ok (.iastore, 1) := by decide +kernel
theorem dX2_digest_227 : decode cX2_digest 227 = .ok (.dup, 1) := by decide +kernel
theorem dX2_digest_228 : decode cX2_digest 228 = .ok (.iconst 2, 1) := by decide +kernel
theorem dX2_digest_229 : decode cX2_digest 229 = .ok (.aload_n 0, 1) := by decide +kernel
theorem dX2_digest_230 : decode cX2_digest 230 = .ok (.getfield 29, 3) := by decide +kernel
theorem dX2_digest_233 : decode cX2_digest 233 = .ok (.iload 6, 2) := by decide +kernel
theorem dX2_digest_235 : decode cX2_digest 235 = .ok (.iaload, 1) := by decide +kernel
theorem dX2_digest_236 : decode cX2_digest 236 = .ok (.iastore, 1) := by decide +kernel
theorem dX2_digest_237 : decode cX2_digest 237 = .ok (.dup, 1) := by decide +kernel
theorem dX2_digest_238 : decode cX2_digest 238 = .ok (.iconst 3, 1) := by decide +kernel
theorem dX2_digest_239 : decode cX2_digest 239 = .ok (.aload_n 0, 1) := by decide +kernel
theorem dX2_digest_240 : decode cX2_digest 240 = .ok (.iload_n 3, 1) := by decide +kernel
theorem dX2_digest_241 : decode cX2_digest 241 = .ok (.iload 5, 2) := by decide +kernel
theorem dX2_digest_243 : decode cX2_digest 243 = .ok (.invokevirtual 53, 3) := by decide +kernel
theorem dX2_digest_246 : decode cX2_digest 246 = .ok (.iastore, 1) := by decide +kernel
theorem dX2_digest_247 : decode cX2_digest 247 = .ok (.dup, 1) := by decide +kernel
theorem dX2_digest_248 : decode cX2_digest 248 = .ok (.iconst 4, 1) := by decide +kernel
theorem dX2_digest_249 : decode cX2_digest 249 = .ok (.aload_n 0, 1) := by decide +kernel
theorem dX2_digest_250 : decode cX2_digest 250 = .ok (.iload_n 3, 1) := by decide +kernel
theorem dX2_digest_251 : decode cX2_digest 251 = .ok (.iload 5, 2) := by decide +kernel
theorem dX2_digest_253 : decode cX2_digest 253 = .ok (.invokevirtual 108, 3) := by decide +kernel
theorem dX2_digest_256 : decode cX2_digest 256 = .ok (.iastore, 1) := by decide +kernel
theorem dX2_digest_257 : decode cX2_digest 257 = .ok (.astore 7, 2) := by decide +kernel
theorem dX2_digest_259 : decode cX2_digest 259 = .ok (.aload 7, 2) := by decide +kernel
theorem dX2_digest_261 : decode cX2_digest 261 = .ok (.astore 8, 2) := by decide +kernel
theorem dX2_digest_263 : decode cX2_digest 263 = .ok (.aload 8, 2) := by decide +kernel
theorem dX2_digest_265 : decode cX2_digest 265 = .ok (.arraylength, 1) := by decide +kernel
theorem dX2_digest_266 : decode cX2_digest 266 = .ok (.istore 9, 2) := by decide +kernel
theorem dX2_digest_268 : decode cX2_digest 268 = .ok (.iconst 0, 1) := by decide +kernel
theorem dX2_digest_269 : decode cX2_digest 269 = .ok (.istore 10, 2) := by decide +kernel
theorem dX2_digest_271 : decode cX2_digest 271 = .ok (.iload 10, 2) := by decide +kernel
theorem dX2_digest_273 : decode cX2_digest 273 = .ok (.iload 9, 2) := by decide +kernel
theorem dX2_digest_275 : decode cX2_digest 275 = .ok (.if_icmp .ge 26, 3) := by decide +kernel
theorem dX2_digest_278 : decode cX2_digest 278 = .ok (.aload 8, 2) := by decide +kernel
theorem dX2_digest_280 : decode cX2_digest 280 = .ok (.iload 10, 2) := by decide +kernel
theorem dX2_digest_282 : decode cX2_digest 282 = .ok (.iaload, 1) := by decide +kernel
theorem dX2_digest_283 : decode cX2_digest 283 = .ok (.istore 11, 2) := by decide +kernel
theorem dX2_digest_285 : decode cX2_digest 285 = .ok (.lload_n 1, 1) := by decide +kernel
theorem dX2_digest_286 : decode cX2_digest 286 = .ok (.ldc2_w 144, 3) := by decide +kernel
theorem dX2_digest_289 : decode cX2_digest 289 = .ok (.lmul, 1) := by decide +kernel
theorem dX2_digest_290 : decode cX2_digest 290 = .ok (.iload 11, 2) := by decide +kernel
theorem dX2_digest_292 : decode cX2_digest 292 = .ok (.i2l, 1) := by decide +kernel
theorem dX2_digest_293 : decode cX2_digest 293 = .ok (.ladd, 1) := by decide +kernel
theorem dX2_digest_294 : decode cX2_digest 294 = .ok (.lstore_n 1, 1) := by decide +kernel
theorem dX2_digest_295 : decode cX2_digest 295 = .ok (.iinc 10 1, 3) := by decide +kernel
theorem dX2_digest_298 : decode cX2_digest 298 = .ok (.goto (-27), 3) := by decide +kernel
theorem dX2_digest_301 : decode cX2_digest 301 = .ok (.iinc 5 1, 3) := by decide +kernel
theorem dX2_digest_304 : decode cX2_digest 304 = .ok (.goto (-120), 3) := by decide +kernel
theorem dX2_digest_307 : decode cX2_digest 307 = .ok (.iinc 3 1, 3) := by decide +kernel
theorem dX2_digest_310 : decode cX2_digest 310 = .ok (.goto (-275), 3) := by decide +kernel
theorem dX2_digest_313 : decode cX2_digest 313 = .ok (.lload_n 1, 1) := by decide +kernel
theorem dX2_digest_314 : decode cX2_digest 314 = .ok (.lreturn, 1) := by decide +kernel
