theorem dX0_init_0 : decode cX0_init 0 = .ok (.aload_n 0, 1) := by decide +kernel
theorem dX0_init_1 : decode cX0_init 1 = .ok (.invokespecial 3, 3) := by decide +kernel
theorem dX0_init_4 : decode cX0_init 4 = .ok (.aload_n 0, 1) := by decide +kernel
theorem dX0_init_5 : decode cX0_init 5 = .ok (.iconst (-1), 1) := by decide +kernel
theorem dX0_init_6 : decode cX0_init 6 = .ok (.putfield 9, 3) := by decide +kernel
theorem dX0_init_9 : decode cX0_init 9 = .ok (.aload_n 0, 1) := by decide +kernel
theorem dX0_init_10 : decode cX0_init 10 = .ok (.bipush 24, 2) := by decide +kernel
theorem dX0_init_12 : decode cX0_init 12 = .ok (.newarray .int, 2) := by decide +kernel
theorem dX0_init_14 : decode cX0_init 14 = .ok (.putfield 15, 3) := by decide +kernel
theorem dX0_init_17 : decode cX0_init 17 = .ok (.aload_n 0, 1) := by decide +kernel
theorem dX0_init_18 : decode cX0_init 18 = .ok (.bipush 24, 2) := by decide +kernel
theorem dX0_init_20 : decode cX0_init 20 = .ok (.newarray .int, 2) := by decide +kernel
theorem dX0_init_22 : decode cX0_init 22 = .ok (.putfield 19, 3) := by decide +kernel
theorem dX0_init_25 : decode cX0_init 25 = .ok (.aload_n 0, 1) := by decide +kernel
theorem dX0_init_26 : decode cX0_init 26 = .ok (.bipush 24, 2) := by decide +kernel
theorem dX0_init_28 : decode cX0_init 28 = .ok (.newarray .boolean, 2) := by decide +kernel
theorem dX0_init_30 : decode cX0_init 30 = .ok (.putfield 22, 3) := by decide +kernel
theorem dX0_init_33 : decode cX0_init 33 = .ok (.aload_n 0, 1) := by decide +kernel
theorem dX0_init_34 : decode cX0_init 34 = .ok (.bipush 24, 2) := by decide +kernel
theorem dX0_init_36 : decode cX0_init 36 = .ok (.newarray .int, 2) := by decide +kernel
theorem dX0_init_38 : decode cX0_init 38 = .ok (.putfield 26, 3) := by decide +kernel
theorem dX0_init_41 : decode cX0_init 41 = .ok (.aload_n 0, 1) := by decide +kernel
theorem dX0_init_42 : decode cX0_init 42 = .ok (.bipush 25, 2) := by decide +kernel
theorem dX0_init_44 : decode cX0_init 44 = .ok (.newarray .int, 2) := by decide +kernel
theorem dX0_init_46 : decode cX0_init 46 = .ok (.putfield 29, 3) := by decide +kernel
theorem dX0_init_49 : decode cX0_init 49 = .ok (.return_, 1) := by decide +kernel
theorem dX0_measure_0 : decode cX0_measure 0 = .ok (.aload_n 0, 1) := by decide +kernel
theorem dX0_measure_1 : decode cX0_measure 1 = .ok (.iload_n 1, 1) := by decide +kernel
theorem dX0_measure_2 : decode cX0_measure 2 = .ok (.putfield 32, 3) := by decide +kernel
theorem dX0_measure_5 : decode cX0_measure 5 = .ok (.aload_n 0, 1) := by decide +kernel
theorem dX0_measure_6 : decode cX0_measure 6 = .ok (.iload_n 2, 1) := by decide +kernel
theorem dX0_measure_7 : decode cX0_measure 7 = .ok (.putfield 35, 3) := by decide +kernel
theorem dX0_measure_10 : decode cX0_measure 10 = .ok (.aload_n 0, 1) := by decide +kernel
theorem dX0_measure_11 : decode cX0_measure 11 = .ok (.iload_n 3, 1) := by decide +kernel
theorem dX0_measure_12 : decode cX0_measure 12 = .ok (.putfield 38, 3) := by decide +kernel
theorem dX0_measure_15 : decode cX0_measure 15 = .ok (.aload_n 0, 1) := by decide +kernel
theorem dX0_measure_16 : decode cX0_measure 16 = .ok (.iconst 0, 1) := by decide +kernel
theorem dX0_measure_17 : decode cX0_measure 17 = .ok (.invokevirtual 41, 3) := by decide +kernel
theorem dX0_measure_20 : decode cX0_measure 20 = .ok (.return_, 1) := by decide +kernel
theorem dX0_append_0 : decode cX0_append 0 = .ok (.aload_n 0, 1) := by decide +kernel
theorem dX0_append_1 : decode cX0_append 1 = .ok (.getfield 45, 3) := by decide +kernel
theorem dX0_append_4 : decode cX0_append 4 = .ok (.istore 5, 2) := by decide +kernel
theorem dX0_append_6 : decode cX0_append 6 = .ok (.aload_n 0, 1) := by decide +kernel
theorem dX0_append_7 : decode cX0_append 7 = .ok (.getfield 15, 3) := by decide +kernel
theorem dX0_append_10 : decode cX0_append 10 = .ok (.iload 5, 2) := by decide +kernel
theorem dX0_append_12 : decode cX0_append 12 = .ok (.iload_n 1, 1) := by decide +kernel
theorem dX0_append_13 : decode cX0_append 13 = .ok (.iastore, 1) := by decide +kernel
theorem dX0_append_14 : decode cX0_append 14 = .ok (.aload_n 0, 1) := by decide +kernel
theorem dX0_append_15 : decode cX0_append 15 = .ok (.getfield 19, 3) := by decide +kernel
theorem dX0_append_18 : decode cX0_append 18 = .ok (.iload 5, 2) := by decide +kernel
theorem dX0_append_20 : decode cX0_append 20 = .ok (.iload_n 2, 1) := by decide +kernel
theorem dX0_append_21 : decode cX0_append 21 = .ok (.iastore, 1) := by decide +kernel
theorem dX0_append_22 : decode cX0_append 22 = .ok (.aload_n 0, 1) := by decide +kernel
theorem dX0_append_23 : decode cX0_append 23 = .ok (.getfield 22, 3) := by decide +kernel
theorem dX0_append_26 : decode cX0_append 26 = .ok (.iload 5, 2) := by decide +kernel
theorem dX0_append_28 : decode cX0_append 28 = .ok (.iload_n 3, 1) := by decide +kernel
theorem dX0_append_29 : decode cX0_append 29 = .ok (.bastore, 1) := by decide +kernel
theorem dX0_append_30 : decode cX0_append 30 = .ok (.aload_n 0, 1) := by decide +kernel
theorem dX0_append_31 : decode cX0_append 31 = .ok (.getfield 26, 3) := by decide +kernel
theorem dX0_append_34 : decode cX0_append 34 = .ok (.iload 5, 2) := by decide +kernel
theorem dX0_append_36 : decode cX0_append 36 = .ok (.iload 4, 2) := by decide +kernel
theorem dX0_append_38 : decode cX0_append 38 = .ok (.iastore, 1) := by decide +kernel
theorem dX0_append_39 : decode cX0_append 39 = .ok (.aload_n 0, 1) := by decide +kernel
theorem dX0_append_40 : decode cX0_append 40 = .ok (.dup, 1) := by decide +kernel
theorem dX0_append_41 : decode cX0_append 41 = .ok (.getfield 45, 3) := by decide +kernel
theorem dX0_append_44 : decode cX0_append 44 = .ok (.iconst 1, 1) := by decide +kernel
theorem dX0_append_45 : decode cX0_append 45 = .ok (.iadd, 1) := by decide +kernel
theorem dX0_append_46 : decode cX0_append 46 = .ok (.putfield 45, 3) := by decide +kernel
theorem dX0_append_49 : decode cX0_append 49 = .ok (.aload_n 0, 1) := by decide +kernel
theorem dX0_append_50 : decode cX0_append 50 = .ok (.iload 5, 2) := by decide +kernel
theorem dX0_append_52 : decode cX0_append 52 = .ok (.invokevirtual 41, 3) := by decide +kernel
theorem dX0_append_55 : decode cX0_append 55 = .ok (.iload 5, 2) := by decide +kernel
theorem dX0_append_57 : decode cX0_append 57 = .ok (.ireturn, 1) := by decide +kernel
theorem dX0_dropLast_0 : decode cX0_dropLast 0 = .ok (.aload_n 0, 1) := by decide +kernel
theorem dX0_dropLast_1 : decode cX0_dropLast 1 = .ok (.getfield 26, 3) := by decide +kernel
theorem dX0_dropLast_4 : decode cX0_dropLast 4 = .ok (.aload_n 0, 1) := by decide +kernel
theorem dX0_dropLast_5 : decode cX0_dropLast 5 = .ok (.getfield 45, 3) := by decide +kernel
theorem dX0_dropLast_8 : decode cX0_dropLast 8 = .ok (.iconst 1, 1) := by decide +kernel
theorem dX0_dropLast_9 : decode cX0_dropLast 9 = .ok (.isub, 1) := by decide +kernel
theorem dX0_dropLast_10 : decode cX0_dropLast 10 = .ok (.iaload, 1) := by decide +kernel
theorem dX0_dropLast_11 : decode cX0_dropLast 11 = .ok (.istore_n 1, 1) := by decide +kernel
theorem dX0_dropLast_12 : decode cX0_dropLast 12 = .ok (.iload_n 1, 1) := by decide +kernel
theorem dX0_dropLast_13 : decode cX0_dropLast 13 = .ok (.iconst (-1), 1) := by decide +kernel
theorem dX0_dropLast_14 : decode cX0_dropLast 14 = .ok (.if_icmp .ne 7, 3) := by decide +kernel
theorem dX0_dropLast_17 : decode cX0_dropLast 17 = .ok (.iconst 1, 1) := by decide +kernel
theorem dX0_dropLast_18 : decode cX0_dropLast 18 = .ok (.goto 6, 3) := by decide +kernel
theorem dX0_dropLast_21 : decode cX0_dropLast 21 = .ok (.iload_n 1, 1) := by decide +kernel
theorem dX0_dropLast_22 : decode cX0_dropLast 22 = .ok (.iconst 1, 1) := by decide +kernel
theorem dX0_dropLast_23 : decode cX0_dropLast 23 = .ok (.iadd, 1) := by decide +kernel
theorem dX0_dropLast_24 : decode cX0_dropLast 24 = .ok (.istore_n 2, 1) := by decide +kernel
theorem dX0_dropLast_25 : decode cX0_dropLast 25 = .ok (.aload_n 0, 1) := by decide +kernel
theorem dX0_dropLast_26 : decode cX0_dropLast 26 = .ok (.dup, 1) := by decide +kernel
theorem dX0_dropLast_27 : decode cX0_dropLast 27 = .ok (.getfield 45, 3) := by decide +kernel
theorem dX0_dropLast_30 : decode cX0_dropLast 30 = .ok (.iload_n 2, 1) := by decide +kernel
theorem dX0_dropLast_31 : decode cX0_dropLast 31 = .ok (.isub, 1) := by decide +kernel
theorem dX0_dropLast_32 : decode cX0_dropLast 32 = .ok (.putfield 45, 3) := by decide +kernel
theorem dX0_dropLast_35 : decode cX0_dropLast 35 = .ok (.iload_n 2, 1) := by decide +kernel
theorem dX0_dropLast_36 : decode cX0_dropLast 36 = .ok (.ireturn, 1) := by decide +kernel
theorem dX0_turnColour_0 : decode cX0_turnColour 0 = .ok (.aload_n 0, 1) := by decide +kernel
theorem dX0_turnColour_1 : decode cX0_turnColour 1 = .ok (.getfield 22, 3) := by decide +kernel
theorem dX0_turnColour_4 : decode cX0_turnColour 4 = .ok (.iload_n 1, 1) := by decide +kernel
theorem dX0_turnColour_5 : decode cX0_turnColour 5 = .ok (.aload_n 0, 1) := by decide +kernel
theorem dX0_turnColour_6 : decode cX0_turnColour 6 = .ok (.getfield 22, 3) := by decide +kernel
theorem dX0_turnColour_9 : decode cX0_turnColour 9 = .ok (.iload_n 1, 1) := by decide +kernel
theorem dX0_turnColour_10 : decode cX0_turnColour 10 = .ok (.baload, 1) := by decide +kernel
theorem dX0_turnColour_11 : decode cX0_turnColour 11 = .ok (.ifCond .ne 7, 3) := by decide +kernel
theorem dX0_turnColour_14 : decode cX0_turnColour 14 = .ok (.iconst 1, 1) := by decide +kernel
theorem dX0_turnColour_15 : decode cX0_turnColour 15 = .ok (.goto 4, 3) := by decide +kernel
theorem dX0_turnColour_18 : decode cX0_turnColour 18 = .ok (.iconst 0, 1) := by decide +kernel
theorem dX0_turnColour_19 : decode cX0_turnColour 19 = .ok (.bastore, 1) := by decide +kernel
theorem dX0_turnColour_20 : decode cX0_turnColour 20 = .ok (.aload_n 0, 1) := by decide +kernel
theorem dX0_turnColour_21 : decode cX0_turnColour 21 = .ok (.iload_n 1, 1) := by decide +kernel
theorem dX0_turnColour_22 : decode cX0_turnColour 22 = .ok (.invokevirtual 41, 3) := by decide +kernel
theorem dX0_turnColour_25 : decode cX0_turnColour 25 = .ok (.aload_n 0, 1) := by decide +kernel
theorem dX0_turnColour_26 : decode cX0_turnColour 26 = .ok (.getfield 22, 3) := by decide +kernel
theorem dX0_turnColour_29 : decode cX0_turnColour 29 = .ok (.iload_n 1, 1) := by decide +kernel
theorem dX0_turnColour_30 : decode cX0_turnColour 30 = .ok (.baload, 1) := by decide +kernel
theorem dX0_turnColour_31 : decode cX0_turnColour 31 = .ok (.ireturn, 1) := by decide +kernel
theorem dX0_timeFrom_0 : decode cX0_timeFrom 0 = .ok (.iload_n 1, 1) := by decide +kernel
theorem dX0_timeFrom_1 : decode cX0_timeFrom 1 = .ok (.istore_n 2, 1) := by decide +kernel
theorem dX0_timeFrom_2 : decode cX0_timeFrom 2 = .ok (.iload_n 2, 1) := by decide +kernel
theorem dX0_timeFrom_3 : decode cX0_timeFrom 3 = .ok (.aload_n 0, 1) := by decide +kernel
theorem dX0_timeFrom_4 : decode cX0_timeFrom 4 = .ok (.getfield 45, 3) := by decide +kernel
theorem dX0_timeFrom_7 : decode cX0_timeFrom 7 = .ok (.if_icmp .ge 40, 3) := by decide +kernel
theorem dX0_timeFrom_10 : decode cX0_timeFrom 10 = .ok (.aload_n 0, 1) := by decide +kernel
theorem dX0_timeFrom_11 : decode cX0_timeFrom 11 = .ok (.getfield 29, 3) := by decide +kernel
theorem dX0_timeFrom_14 : decode cX0_timeFrom 14 = .ok (.iload_n 2, 1) := by decide +kernel
theorem dX0_timeFrom_15 : decode cX0_timeFrom 15 = .ok (.iconst 1, 1) := by decide +kernel
theorem dX0_timeFrom_16 : decode cX0_timeFrom 16 = .ok (.iadd, 1) := by decide +kernel
theorem dX0_timeFrom_17 : decode cX0_timeFrom 17 = .ok (.aload_n 0, 1) := by decide +kernel
theorem dX0_timeFrom_18 : decode cX0_timeFrom 18 = .ok (.getfield 29, 3) := by decide +kernel
theorem dX0_timeFrom_21 : decode cX0_timeFrom 21 = .ok (.iload_n 2, 1) := by decide +kernel
theorem dX0_timeFrom_22 : decode cX0_timeFrom 22 = .ok (.iaload, 1) := by decide +kernel
theorem dX0_timeFrom_23 : decode cX0_timeFrom 23 = .ok (.aload_n 0, 1) := by decide +kernel
theorem dX0_timeFrom_24 : decode cX0_timeFrom 24 = .ok (.aload_n 0, 1) := by decide +kernel
theorem dX0_timeFrom_25 : decode cX0_timeFrom 25 = .ok (.getfield 15, 3) := by decide +kernel
theorem dX0_timeFrom_28 : decode cX0_timeFrom 28 = .ok (.iload_n 2, 1) := by decide +kernel
theorem dX0_timeFrom_29 : decode cX0_timeFrom 29 = .ok (.iaload, 1) := by decide +kernel
theorem dX0_timeFrom_30 : decode cX0_timeFrom 30 = .ok (.aload_n 0, 1) := by decide +kernel
theorem dX0_timeFrom_31 : decode cX0_timeFrom 31 = .ok (.getfield 22, 3) := by decide +kernel
theorem dX0_timeFrom_34 : decode cX0_timeFrom 34 = .ok (.iload_n 2, 1) := by decide +kernel
theorem dX0_timeFrom_35 : decode cX0_timeFrom 35 = .ok (.baload, 1) := by decide +kernel
theorem dX0_timeFrom_36 : decode cX0_timeFrom 36 = .ok (.invokevirtual 48, 3) := by decide +kernel
theorem dX0_timeFrom_39 : decode cX0_timeFrom 39 = .ok (.iadd, 1) := by decide +kernel
theorem dX0_timeFrom_40 : decode cX0_timeFrom 40 = .ok (.iastore, 1) := by decide +kernel
theorem dX0_timeFrom_41 : decode cX0_timeFrom 41 = .ok (.iinc 2 1, 3) := by decide +kernel
theorem dX0_timeFrom_44 : decode cX0_timeFrom 44 = .ok (.goto (-42), 3) := by decide +kernel
theorem dX0_timeFrom_47 : decode cX0_timeFrom 47 = .ok (.return_, 1) := by decide +kernel
theorem dX0_minimsByKind_0 : decode cX0_minimsByKind 0 = .ok (.iload_n 1, 1) := by decide +kernel
theorem dX0_minimsByKind_1 : decode cX0_minimsByKind 1 = .ok (.tableswitch 81 0 2 #[27, 50, 68], 27) := by decide +kernel
theorem dX0_minimsByKind_28 : decode cX0_minimsByKind 28 = .ok (.iload_n 2, 1) := by decide +kernel
theorem dX0_minimsByKind_29 : decode cX0_minimsByKind 29 = .ok (.ifCond .eq 7, 3) := by decide +kernel
theorem dX0_minimsByKind_32 : decode cX0_minimsByKind 32 = .ok (.iconst 2, 1) := by decide +kernel
theorem dX0_minimsByKind_33 : decode cX0_minimsByKind 33 = .ok (.goto 7, 3) := by decide +kernel
theorem dX0_minimsByKind_36 : decode cX0_minimsByKind 36 = .ok (.aload_n 0, 1) := by decide +kernel
theorem dX0_minimsByKind_37 : decode cX0_minimsByKind 37 = .ok (.getfield 32, 3) := by decide +kernel
theorem dX0_minimsByKind_40 : decode cX0_minimsByKind 40 = .ok (.aload_n 0, 1) := by decide +kernel
theorem dX0_minimsByKind_41 : decode cX0_minimsByKind 41 = .ok (.getfield 35, 3) := by decide +kernel
theorem dX0_minimsByKind_44 : decode cX0_minimsByKind 44 = .ok (.imul, 1) := by decide +kernel
theorem dX0_minimsByKind_45 : decode cX0_minimsByKind 45 = .ok (.aload_n 0, 1) := by decide +kernel
theorem dX0_minimsByKind_46 : decode cX0_minimsByKind 46 = .ok (.getfield 38, 3) := by decide +kernel
theorem dX0_minimsByKind_49 : decode cX0_minimsByKind 49 = .ok (.imul, 1) := by decide +kernel
theorem dX0_minimsByKind_50 : decode cX0_minimsByKind 50 = .ok (.ireturn, 1) := by decide +kernel
theorem dX0_minimsByKind_51 : decode cX0_minimsByKind 51 = .ok (.iload_n 2, 1) := by decide +kernel
theorem dX0_minimsByKind_52 : decode cX0_minimsByKind 52 = .ok (.ifCond .eq 7, 3) := by decide +kernel
theorem dX0_minimsByKind_55 : decode cX0_minimsByKind 55 = .ok (.iconst 2, 1) := by decide +kernel
theorem dX0_minimsByKind_56 : decode cX0_minimsByKind 56 = .ok (.goto 7, 3) := by decide +kernel
theorem dX0_minimsByKind_59 : decode cX0_minimsByKind 59 = .ok (.aload_n 0, 1) := by decide +kernel
theorem dX0_minimsByKind_60 : decode cX0_minimsByKind 60 = .ok (.getfield 35, 3) := by decide +kernel
theorem dX0_minimsByKind_63 : decode cX0_minimsByKind 63 = .ok (.aload_n 0, 1) := by decide +kernel
theorem dX0_minimsByKind_64 : decode cX0_minimsByKind 64 = .ok (.getfield 38, 3) := by decide +kernel
theorem dX0_minimsByKind_67 : decode cX0_minimsByKind 67 = .ok (.imul, 1) := by decide +kernel
theorem dX0_minimsByKind_68 : decode cX0_minimsByKind 68 = .ok (.ireturn, 1) := by decide +kernel
theorem dX0_minimsByKind_69 : decode cX0_minimsByKind 69 = .ok (.iload_n 2, 1) := by decide +kernel
theorem dX0_minimsByKind_70 : decode cX0_minimsByKind 70 = .ok (.ifCond .eq 7, 3) := by decide +kernel
theorem dX0_minimsByKind_73 : decode cX0_minimsByKind 73 = .ok (.iconst 2, 1) := by decide +kernel
theorem dX0_minimsByKind_74 : decode cX0_minimsByKind 74 = .ok (.goto 7, 3) := by decide +kernel
theorem dX0_minimsByKind_77 : decode cX0_minimsByKind 77 = .ok (.aload_n 0, 1) := by decide +kernel
theorem dX0_minimsByKind_78 : decode cX0_minimsByKind 78 = .ok (.getfield 38, 3) := by decide +kernel
theorem dX0_minimsByKind_81 : decode cX0_minimsByKind 81 = .ok (.ireturn, 1) := by decide +kernel
theorem dX0_minimsByKind_82 : decode cX0_minimsByKind 82 = .ok (.iconst 1, 1) := by decide +kernel
theorem dX0_minimsByKind_83 : decode cX0_minimsByKind 83 = .ok (.ireturn, 1) := by decide +kernel
theorem dX0_minimsOf_0 : decode cX0_minimsOf 0 = .ok (.aload_n 0, 1) := by decide +kernel
theorem dX0_minimsOf_1 : decode cX0_minimsOf 1 = .ok (.getfield 29, 3) := by decide +kernel
theorem dX0_minimsOf_4 : decode cX0_minimsOf 4 = .ok (.iload_n 1, 1) := by decide +kernel
theorem dX0_minimsOf_5 : decode cX0_minimsOf 5 = .ok (.iconst 1, 1) := by decide +kernel
theorem dX0_minimsOf_6 : decode cX0_minimsOf 6 = .ok (.iadd, 1) := by decide +kernel
theorem dX0_minimsOf_7 : decode cX0_minimsOf 7 = .ok (.iaload, 1) := by decide +kernel
theorem dX0_minimsOf_8 : decode cX0_minimsOf 8 = .ok (.aload_n 0, 1) := by decide +kernel
theorem dX0_minimsOf_9 : decode cX0_minimsOf 9 = .ok (.getfield 29, 3) := by decide +kernel
theorem dX0_minimsOf_12 : decode cX0_minimsOf 12 = .ok (.iload_n 1, 1) := by decide +kernel
theorem dX0_minimsOf_13 : decode cX0_minimsOf 13 = .ok (.iaload, 1) := by decide +kernel
theorem dX0_minimsOf_14 : decode cX0_minimsOf 14 = .ok (.isub, 1) := by decide +kernel
theorem dX0_minimsOf_15 : decode cX0_minimsOf 15 = .ok (.ireturn, 1) := by decide +kernel
theorem dX0_end_0 : decode cX0_end 0 = .ok (.aload_n 0, 1) := by decide +kernel
theorem dX0_end_1 : decode cX0_end 1 = .ok (.getfield 29, 3) := by decide +kernel
theorem dX0_end_4 : decode cX0_end 4 = .ok (.aload_n 0, 1) := by decide +kernel
theorem dX0_end_5 : decode cX0_end 5 = .ok (.getfield 45, 3) := by decide +kernel
theorem dX0_end_8 : decode cX0_end 8 = .ok (.iaload, 1) := by decide +kernel
theorem dX0_end_9 : decode cX0_end 9 = .ok (.ireturn, 1) := by decide +kernel
theorem dX0_signLastingAt_0 : decode cX0_signLastingAt 0 = .ok (.iconst 0, 1) := by decide +kernel
theorem dX0_signLastingAt_1 : decode cX0_signLastingAt 1 = .ok (.istore_n 2, 1) := by decide +kernel
theorem dX0_signLastingAt_2 : decode cX0_signLastingAt 2 = .ok (.iload_n 2, 1) := by decide +kernel
theorem dX0_signLastingAt_3 : decode cX0_signLastingAt 3 = .ok (.aload_n 0, 1) := by decide +kernel
theorem dX0_signLastingAt_4 : decode cX0_signLastingAt 4 = .ok (.getfield 45, 3) := by decide +kernel
theorem dX0_signLastingAt_7 : decode cX0_signLastingAt 7 = .ok (.if_icmp .ge 23, 3) := by decide +kernel
theorem dX0_signLastingAt_10 : decode cX0_signLastingAt 10 = .ok (.iload_n 1, 1) := by decide +kernel
theorem dX0_signLastingAt_11 : decode cX0_signLastingAt 11 = .ok (.aload_n 0, 1) := by decide +kernel
theorem dX0_signLastingAt_12 : decode cX0_signLastingAt 12 = .ok (.getfield 29, 3) := by decide +kernel
theorem dX0_signLastingAt_15 : decode cX0_signLastingAt 15 = .ok (.iload_n 2, 1) := by decide +kernel
theorem dX0_signLastingAt_16 : decode cX0_signLastingAt 16 = .ok (.iconst 1, 1) := by decide +kernel
theorem dX0_signLastingAt_17 : decode cX0_signLastingAt 17 = .ok (.iadd, 1) := by decide +kernel
theorem dX0_signLastingAt_18 : decode cX0_signLastingAt 18 = .ok (.iaload, 1) := by decide +kernel
theorem dX0_signLastingAt_19 : decode cX0_signLastingAt 19 = .ok (.if_icmp .ge 5, 3) := by decide +kernel
theorem dX0_signLastingAt_22 : decode cX0_signLastingAt 22 = .ok (.iload_n 2, 1) := by decide +kernel
theorem dX0_signLastingAt_23 : decode cX0_signLastingAt 23 = .ok (.ireturn, 1) := by decide +kernel
theorem dX0_signLastingAt_24 : decode cX0_signLastingAt 24 = .ok (.iinc 2 1, 3) := by decide +kernel
theorem dX0_signLastingAt_27 : decode cX0_signLastingAt 27 = .ok (.goto (-25), 3) := by decide +kernel
theorem dX0_signLastingAt_30 : decode cX0_signLastingAt 30 = .ok (.iconst (-1), 1) := by decide +kernel
theorem dX0_signLastingAt_31 : decode cX0_signLastingAt 31 = .ok (.ireturn, 1) := by decide +kernel
theorem dX0_isRest_0 : decode cX0_isRest 0 = .ok (.aload_n 0, 1) := by decide +kernel
theorem dX0_isRest_1 : decode cX0_isRest 1 = .ok (.getfield 19, 3) := by decide +kernel
theorem dX0_isRest_4 : decode cX0_isRest 4 = .ok (.iload_n 1, 1) := by decide +kernel
theorem dX0_isRest_5 : decode cX0_isRest 5 = .ok (.iaload, 1) := by decide +kernel
theorem dX0_isRest_6 : decode cX0_isRest 6 = .ok (.iconst (-1), 1) := by decide +kernel
theorem dX0_isRest_7 : decode cX0_isRest 7 = .ok (.if_icmp .ne 7, 3) := by decide +kernel
theorem dX0_isRest_10 : decode cX0_isRest 10 = .ok (.iconst 1, 1) := by decide +kernel
theorem dX0_isRest_11 : decode cX0_isRest 11 = .ok (.goto 4, 3) := by decide +kernel
theorem dX0_isRest_14 : decode cX0_isRest 14 = .ok (.iconst 0, 1) := by decide +kernel
theorem dX0_isRest_15 : decode cX0_isRest 15 = .ok (.ireturn, 1) := by decide +kernel
theorem dX0_countNotes_0 : decode cX0_countNotes 0 = .ok (.iconst 0, 1) := by decide +kernel
theorem dX0_countNotes_1 : decode cX0_countNotes 1 = .ok (.istore_n 1, 1) := by decide +kernel
theorem dX0_countNotes_2 : decode cX0_countNotes 2 = .ok (.iconst 0, 1) := by decide +kernel
theorem dX0_countNotes_3 : decode cX0_countNotes 3 = .ok (.istore_n 2, 1) := by decide +kernel
theorem dX0_countNotes_4 : decode cX0_countNotes 4 = .ok (.iload_n 2, 1) := by decide +kernel
theorem dX0_countNotes_5 : decode cX0_countNotes 5 = .ok (.aload_n 0, 1) := by decide +kernel
theorem dX0_countNotes_6 : decode cX0_countNotes 6 = .ok (.getfield 45, 3) := by decide +kernel
theorem dX0_countNotes_9 : decode cX0_countNotes 9 = .ok (.if_icmp .ge 20, 3) := by decide +kernel
theorem dX0_countNotes_12 : decode cX0_countNotes 12 = .ok (.aload_n 0, 1) := by decide +kernel
theorem dX0_countNotes_13 : decode cX0_countNotes 13 = .ok (.iload_n 2, 1) := by decide +kernel
theorem dX0_countNotes_14 : decode cX0_countNotes 14 = .ok (.invokevirtual 52, 3) := by decide +kernel
theorem dX0_countNotes_17 : decode cX0_countNotes 17 = .ok (.ifCond .ne 6, 3) := by decide +kernel
theorem dX0_countNotes_20 : decode cX0_countNotes 20 = .ok (.iinc 1 1, 3) := by decide +kernel
theorem dX0_countNotes_23 : decode cX0_countNotes 23 = .ok (.iinc 2 1, 3) := by decide +kernel
theorem dX0_countNotes_26 : decode cX0_countNotes 26 = .ok (.goto (-22), 3) := by decide +kernel
theorem dX0_countNotes_29 : decode cX0_countNotes 29 = .ok (.iload_n 1, 1) := by decide +kernel
theorem dX0_countNotes_30 : decode cX0_countNotes 30 = .ok (.ireturn, 1) := by decide +kernel
theorem dX0_countLigatures_0 : decode cX0_countLigatures 0 = .ok (.iconst 0, 1) := by decide +kernel
theorem dX0_countLigatures_1 : decode cX0_countLigatures 1 = .ok (.istore_n 1, 1) := by decide +kernel
theorem dX0_countLigatures_2 : decode cX0_countLigatures 2 = .ok (.iconst 0, 1) := by decide +kernel
theorem dX0_countLigatures_3 : decode cX0_countLigatures 3 = .ok (.istore_n 2, 1) := by decide +kernel
theorem dX0_countLigatures_4 : decode cX0_countLigatures 4 = .ok (.iload_n 2, 1) := by decide +kernel
theorem dX0_countLigatures_5 : decode cX0_countLigatures 5 = .ok (.aload_n 0, 1) := by decide +kernel
theorem dX0_countLigatures_6 : decode cX0_countLigatures 6 = .ok (.getfield 45, 3) := by decide +kernel
theorem dX0_countLigatures_9 : decode cX0_countLigatures 9 = .ok (.if_icmp .ge 21, 3) := by decide +kernel
theorem dX0_countLigatures_12 : decode cX0_countLigatures 12 = .ok (.aload_n 0, 1) := by decide +kernel
theorem dX0_countLigatures_13 : decode cX0_countLigatures 13 = .ok (.getfield 26, 3) := by decide +kernel
theorem dX0_countLigatures_16 : decode cX0_countLigatures 16 = .ok (.iload_n 2, 1) := by decide +kernel
theorem dX0_countLigatures_17 : decode cX0_countLigatures 17 = .ok (.iaload, 1) := by decide +kernel
theorem dX0_countLigatures_18 : decode cX0_countLigatures 18 = .ok (.ifCond .ne 6, 3) := by decide +kernel
theorem dX0_countLigatures_21 : decode cX0_countLigatures 21 = .ok (.iinc 1 1, 3) := by decide +kernel
theorem dX0_countLigatures_24 : decode cX0_countLigatures 24 = .ok (.iinc 2 1, 3) := by decide +kernel
theorem dX0_countLigatures_27 : decode cX0_countLigatures 27 = .ok (.goto (-23), 3) := by decide +kernel
theorem dX0_countLigatures_30 : decode cX0_countLigatures 30 = .ok (.iload_n 1, 1) := by decide +kernel
theorem dX0_countLigatures_31 : decode cX0_countLigatures 31 = .ok (.ireturn, 1) := by decide +kernel
theorem dX0_wouldFit_0 : decode cX0_wouldFit 0 = .ok (.iconst 0, 1) := by decide +kernel
theorem dX0_wouldFit_1 : decode cX0_wouldFit 1 = .ok (.istore_n 2, 1) := by decide +kernel
theorem dX0_wouldFit_2 : decode cX0_wouldFit 2 = .ok (.iload_n 2, 1) := by decide +kernel
theorem dX0_wouldFit_3 : decode cX0_wouldFit 3 = .ok (.aload_n 0, 1) := by decide +kernel
theorem dX0_wouldFit_4 : decode cX0_wouldFit 4 = .ok (.getfield 45, 3) := by decide +kernel
theorem dX0_wouldFit_7 : decode cX0_wouldFit 7 = .ok (.if_icmp .ge 41, 3) := by decide +kernel
theorem dX0_wouldFit_10 : decode cX0_wouldFit 10 = .ok (.aload_n 0, 1) := by decide +kernel
theorem dX0_wouldFit_11 : decode cX0_wouldFit 11 = .ok (.getfield 19, 3) := by decide +kernel
theorem dX0_wouldFit_14 : decode cX0_wouldFit 14 = .ok (.iload_n 2, 1) := by decide +kernel
theorem dX0_wouldFit_15 : decode cX0_wouldFit 15 = .ok (.iaload, 1) := by decide +kernel
theorem dX0_wouldFit_16 : decode cX0_wouldFit 16 = .ok (.iconst 2, 1) := by decide +kernel
theorem dX0_wouldFit_17 : decode cX0_wouldFit 17 = .ok (.iload_n 1, 1) := by decide +kernel
theorem dX0_wouldFit_18 : decode cX0_wouldFit 18 = .ok (.imul, 1) := by decide +kernel
theorem dX0_wouldFit_19 : decode cX0_wouldFit 19 = .ok (.iadd, 1) := by decide +kernel
theorem dX0_wouldFit_20 : decode cX0_wouldFit 20 = .ok (.istore_n 3, 1) := by decide +kernel
theorem dX0_wouldFit_21 : decode cX0_wouldFit 21 = .ok (.aload_n 0, 1) := by decide +kernel
theorem dX0_wouldFit_22 : decode cX0_wouldFit 22 = .ok (.iload_n 2, 1) := by decide +kernel
theorem dX0_wouldFit_23 : decode cX0_wouldFit 23 = .ok (.invokevirtual 52, 3) := by decide +kernel
theorem dX0_wouldFit_26 : decode cX0_wouldFit 26 = .ok (.ifCond .ne 16, 3) := by decide +kernel
theorem dX0_wouldFit_29 : decode cX0_wouldFit 29 = .ok (.iload_n 3, 1) := by decide +kernel
theorem dX0_wouldFit_30 : decode cX0_wouldFit 30 = .ok (.iconst 3, 1) := by decide +kernel
theorem dX0_wouldFit_31 : decode cX0_wouldFit 31 = .ok (.if_icmp .lt 9, 3) := by decide +kernel
theorem dX0_wouldFit_34 : decode cX0_wouldFit 34 = .ok (.iload_n 3, 1) := by decide +kernel
theorem dX0_wouldFit_35 : decode cX0_wouldFit 35 = .ok (.bipush 16, 2) := by decide +kernel
theorem dX0_wouldFit_37 : decode cX0_wouldFit 37 = .ok (.if_icmp .le 5, 3) := by decide +kernel
theorem dX0_wouldFit_40 : decode cX0_wouldFit 40 = .ok (.iconst 0, 1) := by decide +kernel
theorem dX0_wouldFit_41 : decode cX0_wouldFit 41 = .ok (.ireturn, 1) := by decide +kernel
theorem dX0_wouldFit_42 : decode cX0_wouldFit 42 = .ok (.iinc 2 1, 3) := by decide +kernel
theorem dX0_wouldFit_45 : decode cX0_wouldFit 45 = .ok (.goto (-43), 3) := by decide +kernel
theorem dX0_wouldFit_48 : decode cX0_wouldFit 48 = .ok (.iconst 1, 1) := by decide +kernel
theorem dX0_wouldFit_49 : decode cX0_wouldFit 49 = .ok (.ireturn, 1) := by decide +kernel
theorem dX0_countFittingClefs_0 : decode cX0_countFittingClefs 0 = .ok (.iconst 0, 1) := by decide +kernel
theorem dX0_countFittingClefs_1 : decode cX0_countFittingClefs 1 = .ok (.istore_n 1, 1) := by decide +kernel
theorem dX0_countFittingClefs_2 : decode cX0_countFittingClefs 2 = .ok (.iconst 0, 1) := by decide +kernel
theorem dX0_countFittingClefs_3 : decode cX0_countFittingClefs 3 = .ok (.istore_n 2, 1) := by decide +kernel
theorem dX0_countFittingClefs_4 : decode cX0_countFittingClefs 4 = .ok (.iload_n 2, 1) := by decide +kernel
theorem dX0_countFittingClefs_5 : decode cX0_countFittingClefs 5 = .ok (.iconst 5, 1) := by decide +kernel
theorem dX0_countFittingClefs_6 : decode cX0_countFittingClefs 6 = .ok (.if_icmp .gt 20, 3) := by decide +kernel
theorem dX0_countFittingClefs_9 : decode cX0_countFittingClefs 9 = .ok (.aload_n 0, 1) := by decide +kernel
theorem dX0_countFittingClefs_10 : decode cX0_countFittingClefs 10 = .ok (.iload_n 2, 1) := by decide +kernel
theorem dX0_countFittingClefs_11 : decode cX0_countFittingClefs 11 = .ok (.invokevirtual 56, 3) := by decide +kernel
theorem dX0_countFittingClefs_14 : decode cX0_countFittingClefs 14 = .ok (.ifCond .eq 6, 3) := by decide +kernel
theorem dX0_countFittingClefs_17 : decode cX0_countFittingClefs 17 = .ok (.iinc 1 1, 3) := by decide +kernel
theorem dX0_countFittingClefs_20 : decode cX0_countFittingClefs 20 = .ok (.iinc 2 1, 3) := by decide +kernel
theorem dX0_countFittingClefs_23 : decode cX0_countFittingClefs 23 = .ok (.goto (-19), 3) := by decide +kernel
theorem dX0_countFittingClefs_26 : decode cX0_countFittingClefs 26 = .ok (.iload_n 1, 1) := by decide +kernel
theorem dX0_countFittingClefs_27 : decode cX0_countFittingClefs 27 = .ok (.ireturn, 1) := by decide +kernel
theorem dX1_init_0 : decode cX1_init 0 = .ok (.aload_n 0, 1) := by decide +kernel
theorem dX1_init_1 : decode cX1_init 1 = .ok (.invokespecial 1, 3) := by decide +kernel
theorem dX1_init_4 : decode cX1_init 4 = .ok (.aload_n 0, 1) := by decide +kernel
theorem dX1_init_5 : decode cX1_init 5 = .ok (.iconst 4, 1) := by decide +kernel
theorem dX1_init_6 : decode cX1_init 6 = .ok (.anewarray 9, 3) := by decide +kernel
theorem dX1_init_9 : decode cX1_init 9 = .ok (.putfield 11, 3) := by decide +kernel
theorem dX1_init_12 : decode cX1_init 12 = .ok (.iconst 0, 1) := by decide +kernel
theorem dX1_init_13 : decode cX1_init 13 = .ok (.istore_n 1, 1) := by decide +kernel
theorem dX1_init_14 : decode cX1_init 14 = .ok (.iload_n 1, 1) := by decide +kernel
theorem dX1_init_15 : decode cX1_init 15 = .ok (.iconst 4, 1) := by decide +kernel
theorem dX1_init_16 : decode cX1_init 16 = .ok (.if_icmp .ge 22, 3) := by decide +kernel
theorem dX1_init_19 : decode cX1_init 19 = .ok (.aload_n 0, 1) := by decide +kernel
theorem dX1_init_20 : decode cX1_init 20 = .ok (.getfield 11, 3) := by decide +kernel
theorem dX1_init_23 : decode cX1_init 23 = .ok (.iload_n 1, 1) := by decide +kernel
theorem dX1_init_24 : decode cX1_init 24 = .ok (.new 9, 3) := by decide +kernel
theorem dX1_init_27 : decode cX1_init 27 = .ok (.dup, 1) := by decide +kernel
theorem dX1_init_28 : decode cX1_init 28 = .ok (.invokespecial 15, 3) := by decide +kernel
theorem dX1_init_31 : decode cX1_init 31 = .ok (.aastore, 1) := by decide +kernel
theorem dX1_init_32 : decode cX1_init 32 = .ok (.iinc 1 1, 3) := by decide +kernel
theorem dX1_init_35 : decode cX1_init 35 = .ok (.goto (-21), 3) := by decide +kernel
theorem dX1_init_38 : decode cX1_init 38 = .ok (.return_, 1) := by decide +kernel
theorem dX1_addVoice_0 : decode cX1_addVoice 0 = .ok (.iload_n 1, 1) := by decide +kernel
theorem dX1_addVoice_1 : decode cX1_addVoice 1 = .ok (.iload_n 2, 1) := by decide +kernel
theorem dX1_addVoice_2 : decode cX1_addVoice 2 = .ok (.iload_n 3, 1) := by decide +kernel
theorem dX1_addVoice_3 : decode cX1_addVoice 3 = .ok (.invokestatic 16, 3) := by decide +kernel
theorem dX1_addVoice_6 : decode cX1_addVoice 6 = .ok (.aload_n 0, 1) := by decide +kernel
theorem dX1_addVoice_7 : decode cX1_addVoice 7 = .ok (.getfield 20, 3) := by decide +kernel
theorem dX1_addVoice_10 : decode cX1_addVoice 10 = .ok (.iconst 4, 1) := by decide +kernel
theorem dX1_addVoice_11 : decode cX1_addVoice 11 = .ok (.if_icmp .lt 13, 3) := by decide +kernel
theorem dX1_addVoice_14 : decode cX1_addVoice 14 = .ok (.new 24, 3) := by decide +kernel
theorem dX1_addVoice_17 : decode cX1_addVoice 17 = .ok (.dup, 1) := by decide +kernel
theorem dX1_addVoice_18 : decode cX1_addVoice 18 = .ok (.ldc 26, 2) := by decide +kernel
theorem dX1_addVoice_20 : decode cX1_addVoice 20 = .ok (.invokespecial 28, 3) := by decide +kernel
theorem dX1_addVoice_23 : decode cX1_addVoice 23 = .ok (.athrow, 1) := by decide +kernel
theorem dX1_addVoice_24 : decode cX1_addVoice 24 = .ok (.aload_n 0, 1) := by decide +kernel
theorem dX1_addVoice_25 : decode cX1_addVoice 25 = .ok (.getfield 11, 3) := by decide +kernel
theorem dX1_addVoice_28 : decode cX1_addVoice 28 = .ok (.aload_n 0, 1) := by decide +kernel
theorem dX1_addVoice_29 : decode cX1_addVoice 29 = .ok (.getfield 20, 3) := by decide +kernel
theorem dX1_addVoice_32 : decode cX1_addVoice 32 = .ok (.aaload, 1) := by decide +kernel
theorem dX1_addVoice_33 : decode cX1_addVoice 33 = .ok (.iload_n 1, 1) := by decide +kernel
theorem dX1_addVoice_34 : decode cX1_addVoice 34 = .ok (.iload_n 2, 1) := by decide +kernel
theorem dX1_addVoice_35 : decode cX1_addVoice 35 = .ok (.iload_n 3, 1) := by decide +kernel
theorem dX1_addVoice_36 : decode cX1_addVoice 36 = .ok (.invokevirtual 31, 3) := by decide +kernel
theorem dX1_addVoice_39 : decode cX1_addVoice 39 = .ok (.aload_n 0, 1) := by decide +kernel
theorem dX1_addVoice_40 : decode cX1_addVoice 40 = .ok (.dup, 1) := by decide +kernel
theorem dX1_addVoice_41 : decode cX1_addVoice 41 = .ok (.getfield 20, 3) := by decide +kernel
theorem dX1_addVoice_44 : decode cX1_addVoice 44 = .ok (.iconst 1, 1) := by decide +kernel
theorem dX1_addVoice_45 : decode cX1_addVoice 45 = .ok (.iadd, 1) := by decide +kernel
theorem dX1_addVoice_46 : decode cX1_addVoice 46 = .ok (.putfield 20, 3) := by decide +kernel
theorem dX1_addVoice_49 : decode cX1_addVoice 49 = .ok (.aload_n 0, 1) := by decide +kernel
theorem dX1_addVoice_50 : decode cX1_addVoice 50 = .ok (.getfield 20, 3) := by decide +kernel
theorem dX1_addVoice_53 : decode cX1_addVoice 53 = .ok (.iconst 1, 1) := by decide +kernel
theorem dX1_addVoice_54 : decode cX1_addVoice 54 = .ok (.isub, 1) := by decide +kernel
theorem dX1_addVoice_55 : decode cX1_addVoice 55 = .ok (.ireturn, 1) := by decide +kernel
theorem dX1_addNote_0 : decode cX1_addNote 0 = .ok (.aload_n 0, 1) := by decide +kernel
theorem dX1_addNote_1 : decode cX1_addNote 1 = .ok (.iload_n 1, 1) := by decide +kernel
theorem dX1_addNote_2 : decode cX1_addNote 2 = .ok (.invokevirtual 34, 3) := by decide +kernel
theorem dX1_addNote_5 : decode cX1_addNote 5 = .ok (.astore 5, 2) := by decide +kernel
theorem dX1_addNote_7 : decode cX1_addNote 7 = .ok (.iload_n 2, 1) := by decide +kernel
theorem dX1_addNote_8 : decode cX1_addNote 8 = .ok (.iconst 0, 1) := by decide +kernel
theorem dX1_addNote_9 : decode cX1_addNote 9 = .ok (.iconst 3, 1) := by decide +kernel
theorem dX1_addNote_10 : decode cX1_addNote 10 = .ok (.invokestatic 38, 3) := by decide +kernel
theorem dX1_addNote_13 : decode cX1_addNote 13 = .ok (.iload_n 3, 1) := by decide +kernel
theorem dX1_addNote_14 : decode cX1_addNote 14 = .ok (.iconst 0, 1) := by decide +kernel
theorem dX1_addNote_15 : decode cX1_addNote 15 = .ok (.bipush 9, 2) := by decide +kernel
theorem dX1_addNote_17 : decode cX1_addNote 17 = .ok (.invokestatic 38, 3) := by decide +kernel
theorem dX1_addNote_20 : decode cX1_addNote 20 = .ok (.aload 5, 2) := by decide +kernel
theorem dX1_addNote_22 : decode cX1_addNote 22 = .ok (.iconst 1, 1) := by decide +kernel
theorem dX1_addNote_23 : decode cX1_addNote 23 = .ok (.invokestatic 41, 3) := by decide +kernel
theorem dX1_addNote_26 : decode cX1_addNote 26 = .ok (.aload 5, 2) := by decide +kernel
theorem dX1_addNote_28 : decode cX1_addNote 28 = .ok (.iload_n 2, 1) := by decide +kernel
theorem dX1_addNote_29 : decode cX1_addNote 29 = .ok (.iload_n 3, 1) := by decide +kernel
theorem dX1_addNote_30 : decode cX1_addNote 30 = .ok (.iload 4, 2) := by decide +kernel
theorem dX1_addNote_32 : decode cX1_addNote 32 = .ok (.iconst (-1), 1) := by decide +kernel
theorem dX1_addNote_33 : decode cX1_addNote 33 = .ok (.invokevirtual 45, 3) := by decide +kernel
theorem dX1_addNote_36 : decode cX1_addNote 36 = .ok (.ireturn, 1) := by decide +kernel
theorem dX1_addRest_0 : decode cX1_addRest 0 = .ok (.aload_n 0, 1) := by decide +kernel
theorem dX1_addRest_1 : decode cX1_addRest 1 = .ok (.iload_n 1, 1) := by decide +kernel
theorem dX1_addRest_2 : decode cX1_addRest 2 = .ok (.invokevirtual 34, 3) := by decide +kernel
theorem dX1_addRest_5 : decode cX1_addRest 5 = .ok (.astore_n 3, 1) := by decide +kernel
theorem dX1_addRest_6 : decode cX1_addRest 6 = .ok (.iload_n 2, 1) := by decide +kernel
theorem dX1_addRest_7 : decode cX1_addRest 7 = .ok (.iconst 0, 1) := by decide +kernel
theorem dX1_addRest_8 : decode cX1_addRest 8 = .ok (.iconst 3, 1) := by decide +kernel
theorem dX1_addRest_9 : decode cX1_addRest 9 = .ok (.invokestatic 38, 3) := by decide +kernel
theorem dX1_addRest_12 : decode cX1_addRest 12 = .ok (.aload_n 3, 1) := by decide +kernel
theorem dX1_addRest_13 : decode cX1_addRest 13 = .ok (.iconst 1, 1) := by decide +kernel
theorem dX1_addRest_14 : decode cX1_addRest 14 = .ok (.invokestatic 41, 3) := by decide +kernel
theorem dX1_addRest_17 : decode cX1_addRest 17 = .ok (.aload_n 3, 1) := by decide +kernel
theorem dX1_addRest_18 : decode cX1_addRest 18 = .ok (.iload_n 2, 1) := by decide +kernel
theorem dX1_addRest_19 : decode cX1_addRest 19 = .ok (.iconst (-1), 1) := by decide +kernel
theorem dX1_addRest_20 : decode cX1_addRest 20 = .ok (.iconst 0, 1) := by decide +kernel
theorem dX1_addRest_21 : decode cX1_addRest 21 = .ok (.iconst (-1), 1) := by decide +kernel
theorem dX1_addRest_22 : decode cX1_addRest 22 = .ok (.invokevirtual 45, 3) := by decide +kernel
theorem dX1_addRest_25 : decode cX1_addRest 25 = .ok (.ireturn, 1) := by decide +kernel
theorem dX1_addLigature_0 : decode cX1_addLigature 0 = .ok (.aload_n 0, 1) := by decide +kernel
theorem dX1_addLigature_1 : decode cX1_addLigature 1 = .ok (.iload_n 1, 1) := by decide +kernel
theorem dX1_addLigature_2 : decode cX1_addLigature 2 = .ok (.invokevirtual 34, 3) := by decide +kernel
theorem dX1_addLigature_5 : decode cX1_addLigature 5 = .ok (.astore 6, 2) := by decide +kernel
theorem dX1_addLigature_7 : decode cX1_addLigature 7 = .ok (.iload_n 2, 1) := by decide +kernel
theorem dX1_addLigature_8 : decode cX1_addLigature 8 = .ok (.iload_n 3, 1) := by decide +kernel
theorem dX1_addLigature_9 : decode cX1_addLigature 9 = .ok (.iload 4, 2) := by decide +kernel
theorem dX1_addLigature_11 : decode cX1_addLigature 11 = .ok (.invokestatic 49, 3) := by decide +kernel
theorem dX1_addLigature_14 : decode cX1_addLigature 14 = .ok (.iload 4, 2) := by decide +kernel
theorem dX1_addLigature_16 : decode cX1_addLigature 16 = .ok (.iconst (-1), 1) := by decide +kernel
theorem dX1_addLigature_17 : decode cX1_addLigature 17 = .ok (.if_icmp .eq 7, 3) := by decide +kernel
theorem dX1_addLigature_20 : decode cX1_addLigature 20 = .ok (.iconst 1, 1) := by decide +kernel
theorem dX1_addLigature_21 : decode cX1_addLigature 21 = .ok (.goto 4, 3) := by decide +kernel
theorem dX1_addLigature_24 : decode cX1_addLigature 24 = .ok (.iconst 0, 1) := by decide +kernel
theorem dX1_addLigature_25 : decode cX1_addLigature 25 = .ok (.istore 7, 2) := by decide +kernel
theorem dX1_addLigature_27 : decode cX1_addLigature 27 = .ok (.aload 6, 2) := by decide +kernel
theorem dX1_addLigature_29 : decode cX1_addLigature 29 = .ok (.iload 7, 2) := by decide +kernel
theorem dX1_addLigature_31 : decode cX1_addLigature 31 = .ok (.ifCond .eq 7, 3) := by decide +kernel
theorem dX1_addLigature_34 : decode cX1_addLigature 34 = .ok (.iconst 3, 1) := by decide +kernel
theorem dX1_addLigature_35 : decode cX1_addLigature 35 = .ok (.goto 4, 3) := by decide +kernel
theorem dX1_addLigature_38 : decode cX1_addLigature 38 = .ok (.iconst 2, 1) := by decide +kernel
theorem dX1_addLigature_39 : decode cX1_addLigature 39 = .ok (.invokestatic 41, 3) := by decide +kernel
theorem dX1_addLigature_42 : decode cX1_addLigature 42 = .ok (.aload 6, 2) := by decide +kernel
theorem dX1_addLigature_44 : decode cX1_addLigature 44 = .ok (.iload_n 2, 1) := by decide +kernel
theorem dX1_addLigature_45 : decode cX1_addLigature 45 = .ok (.iload_n 3, 1) := by decide +kernel
theorem dX1_addLigature_46 : decode cX1_addLigature 46 = .ok (.iload 5, 2) := by decide +kernel
theorem dX1_addLigature_48 : decode cX1_addLigature 48 = .ok (.invokestatic 52, 3) := by decide +kernel
theorem dX1_addLigature_51 : decode cX1_addLigature 51 = .ok (.iload_n 2, 1) := by decide +kernel
theorem dX1_addLigature_52 : decode cX1_addLigature 52 = .ok (.iconst 0, 1) := by decide +kernel
theorem dX1_addLigature_53 : decode cX1_addLigature 53 = .ok (.iconst 0, 1) := by decide +kernel
theorem dX1_addLigature_54 : decode cX1_addLigature 54 = .ok (.invokevirtual 45, 3) := by decide +kernel
theorem dX1_addLigature_57 : decode cX1_addLigature 57 = .ok (.istore 8, 2) := by decide +kernel
theorem dX1_addLigature_59 : decode cX1_addLigature 59 = .ok (.aload 6, 2) := by decide +kernel
theorem dX1_addLigature_61 : decode cX1_addLigature 61 = .ok (.iload_n 2, 1) := by decide +kernel
theorem dX1_addLigature_62 : decode cX1_addLigature 62 = .ok (.iload_n 3, 1) := by decide +kernel
theorem dX1_addLigature_63 : decode cX1_addLigature 63 = .ok (.iload 7, 2) := by decide +kernel
theorem dX1_addLigature_65 : decode cX1_addLigature 65 = .ok (.iload 5, 2) := by decide +kernel
theorem dX1_addLigature_67 : decode cX1_addLigature 67 = .ok (.invokestatic 56, 3) := by decide +kernel
theorem dX1_addLigature_70 : decode cX1_addLigature 70 = .ok (.iload_n 3, 1) := by decide +kernel
theorem dX1_addLigature_71 : decode cX1_addLigature 71 = .ok (.iconst 0, 1) := by decide +kernel
theorem dX1_addLigature_72 : decode cX1_addLigature 72 = .ok (.iconst 1, 1) := by decide +kernel
theorem dX1_addLigature_73 : decode cX1_addLigature 73 = .ok (.invokevirtual 45, 3) := by decide +kernel
theorem dX1_addLigature_76 : decode cX1_addLigature 76 = .ok (.pop, 1) := by decide +kernel
theorem dX1_addLigature_77 : decode cX1_addLigature 77 = .ok (.iload 7, 2) := by decide +kernel
theorem dX1_addLigature_79 : decode cX1_addLigature 79 = .ok (.ifCond .eq 19, 3) := by decide +kernel
theorem dX1_addLigature_82 : decode cX1_addLigature 82 = .ok (.aload 6, 2) := by decide +kernel
theorem dX1_addLigature_84 : decode cX1_addLigature 84 = .ok (.iload_n 3, 1) := by decide +kernel
theorem dX1_addLigature_85 : decode cX1_addLigature 85 = .ok (.iload 4, 2) := by decide +kernel
theorem dX1_addLigature_87 : decode cX1_addLigature 87 = .ok (.invokestatic 60, 3) := by decide +kernel
theorem dX1_addLigature_90 : decode cX1_addLigature 90 = .ok (.iload 4, 2) := by decide +kernel
theorem dX1_addLigature_92 : decode cX1_addLigature 92 = .ok (.iconst 0, 1) := by decide +kernel
theorem dX1_addLigature_93 : decode cX1_addLigature 93 = .ok (.iconst 2, 1) := by decide +kernel
theorem dX1_addLigature_94 : decode cX1_addLigature 94 = .ok (.invokevirtual 45, 3) := by decide +kernel
theorem dX1_addLigature_97 : decode cX1_addLigature 97 = .ok (.pop, 1) := by decide +kernel
theorem dX1_addLigature_98 : decode cX1_addLigature 98 = .ok (.iload 8, 2) := by decide +kernel
theorem dX1_addLigature_100 : decode cX1_addLigature 100 = .ok (.ireturn, 1) := by decide +kernel
theorem dX1_erase_0 : decode cX1_erase 0 = .ok (.aload_n 0, 1) := by decide +kernel
theorem dX1_erase_1 : decode cX1_erase 1 = .ok (.iload_n 1, 1) := by decide +kernel
theorem dX1_erase_2 : decode cX1_erase 2 = .ok (.invokevirtual 34, 3) := by decide +kernel
theorem dX1_erase_5 : decode cX1_erase 5 = .ok (.astore_n 2, 1) := by decide +kernel
theorem dX1_erase_6 : decode cX1_erase 6 = .ok (.aload_n 2, 1) := by decide +kernel
theorem dX1_erase_7 : decode cX1_erase 7 = .ok (.getfield 64, 3) := by decide +kernel
theorem dX1_erase_10 : decode cX1_erase 10 = .ok (.ifCond .ne 13, 3) := by decide +kernel
theorem dX1_erase_13 : decode cX1_erase 13 = .ok (.new 24, 3) := by decide +kernel
theorem dX1_erase_16 : decode cX1_erase 16 = .ok (.dup, 1) := by decide +kernel
theorem dX1_erase_17 : decode cX1_erase 17 = .ok (.ldc 67, 2) := by decide +kernel
theorem dX1_erase_19 : decode cX1_erase 19 = .ok (.invokespecial 28, 3) := by decide +kernel
theorem dX1_erase_22 : decode cX1_erase 22 = .ok (.athrow, 1) := by decide +kernel
theorem dX1_erase_23 : decode cX1_erase 23 = .ok (.aload_n 2, 1) := by decide +kernel
theorem dX1_erase_24 : decode cX1_erase 24 = .ok (.invokevirtual 69, 3) := by decide +kernel
theorem dX1_erase_27 : decode cX1_erase 27 = .ok (.ireturn, 1) := by decide +kernel
theorem dX1_recolour_0 : decode cX1_recolour 0 = .ok (.aload_n 0, 1) := by decide +kernel
theorem dX1_recolour_1 : decode cX1_recolour 1 = .ok (.iload_n 1, 1) := by decide +kernel
theorem dX1_recolour_2 : decode cX1_recolour 2 = .ok (.iload_n 2, 1) := by decide +kernel
theorem dX1_recolour_3 : decode cX1_recolour 3 = .ok (.invokevirtual 73, 3) := by decide +kernel
theorem dX1_recolour_6 : decode cX1_recolour 6 = .ok (.astore_n 3, 1) := by decide +kernel
theorem dX1_recolour_7 : decode cX1_recolour 7 = .ok (.aload_n 3, 1) := by decide +kernel
theorem dX1_recolour_8 : decode cX1_recolour 8 = .ok (.iload_n 2, 1) := by decide +kernel
theorem dX1_recolour_9 : decode cX1_recolour 9 = .ok (.invokevirtual 77, 3) := by decide +kernel
theorem dX1_recolour_12 : decode cX1_recolour 12 = .ok (.ifCond .eq 13, 3) := by decide +kernel
theorem dX1_recolour_15 : decode cX1_recolour 15 = .ok (.new 24, 3) := by decide +kernel
theorem dX1_recolour_18 : decode cX1_recolour 18 = .ok (.dup, 1) := by decide +kernel
theorem dX1_recolour_19 : decode cX1_recolour 19 = .ok (.ldc 81, 2) := by decide +kernel
theorem dX1_recolour_21 : decode cX1_recolour 21 = .ok (.invokespecial 28, 3) := by decide +kernel
theorem dX1_recolour_24 : decode cX1_recolour 24 = .ok (.athrow, 1) := by decide +kernel
theorem dX1_recolour_25 : decode cX1_recolour 25 = .ok (.aload_n 3, 1) := by decide +kernel
theorem dX1_recolour_26 : decode cX1_recolour 26 = .ok (.iload_n 2, 1) := by decide +kernel
theorem dX1_recolour_27 : decode cX1_recolour 27 = .ok (.invokevirtual 83, 3) := by decide +kernel
theorem dX1_recolour_30 : decode cX1_recolour 30 = .ok (.ireturn, 1) := by decide +kernel
theorem dX1_setClef_0 : decode cX1_setClef 0 = .ok (.aload_n 0, 1) := by decide +kernel
theorem dX1_setClef_1 : decode cX1_setClef 1 = .ok (.iload_n 1, 1) := by decide +kernel
theorem dX1_setClef_2 : decode cX1_setClef 2 = .ok (.invokevirtual 34, 3) := by decide +kernel
theorem dX1_setClef_5 : decode cX1_setClef 5 = .ok (.astore_n 3, 1) := by decide +kernel
theorem dX1_setClef_6 : decode cX1_setClef 6 = .ok (.iload_n 2, 1) := by decide +kernel
theorem dX1_setClef_7 : decode cX1_setClef 7 = .ok (.iconst (-1), 1) := by decide +kernel
theorem dX1_setClef_8 : decode cX1_setClef 8 = .ok (.iconst 5, 1) := by decide +kernel
theorem dX1_setClef_9 : decode cX1_setClef 9 = .ok (.invokestatic 38, 3) := by decide +kernel
theorem dX1_setClef_12 : decode cX1_setClef 12 = .ok (.aload_n 3, 1) := by decide +kernel
theorem dX1_setClef_13 : decode cX1_setClef 13 = .ok (.getfield 86, 3) := by decide +kernel
theorem dX1_setClef_16 : decode cX1_setClef 16 = .ok (.istore 4, 2) := by decide +kernel
theorem dX1_setClef_18 : decode cX1_setClef 18 = .ok (.aload_n 3, 1) := by decide +kernel
theorem dX1_setClef_19 : decode cX1_setClef 19 = .ok (.iload_n 2, 1) := by decide +kernel
theorem dX1_setClef_20 : decode cX1_setClef 20 = .ok (.putfield 86, 3) := by decide +kernel
theorem dX1_setClef_23 : decode cX1_setClef 23 = .ok (.iload 4, 2) := by decide +kernel
theorem dX1_setClef_25 : decode cX1_setClef 25 = .ok (.ireturn, 1) := by decide +kernel
theorem dX1_setMensuration_0 : decode cX1_setMensuration 0 = .ok (.aload_n 0, 1) := by decide +kernel
theorem dX1_setMensuration_1 : decode cX1_setMensuration 1 = .ok (.iload_n 1, 1) := by decide +kernel
theorem dX1_setMensuration_2 : decode cX1_setMensuration 2 = .ok (.invokevirtual 34, 3) := by decide +kernel
theorem dX1_setMensuration_5 : decode cX1_setMensuration 5 = .ok (.astore 5, 2) := by decide +kernel
theorem dX1_setMensuration_7 : decode cX1_setMensuration 7 = .ok (.iload_n 2, 1) := by decide +kernel
theorem dX1_setMensuration_8 : decode cX1_setMensuration 8 = .ok (.iload_n 3, 1) := by decide +kernel
theorem dX1_setMensuration_9 : decode cX1_setMensuration 9 = .ok (.iload 4, 2) := by decide +kernel
theorem dX1_setMensuration_11 : decode cX1_setMensuration 11 = .ok (.invokestatic 16, 3) := by decide +kernel
theorem dX1_setMensuration_14 : decode cX1_setMensuration 14 = .ok (.aload 5, 2) := by decide +kernel
theorem dX1_setMensuration_16 : decode cX1_setMensuration 16 = .ok (.iload_n 2, 1) := by decide +kernel
theorem dX1_setMensuration_17 : decode cX1_setMensuration 17 = .ok (.iload_n 3, 1) := by decide +kernel
theorem dX1_setMensuration_18 : decode cX1_setMensuration 18 = .ok (.iload 4, 2) := by decide +kernel
theorem dX1_setMensuration_20 : decode cX1_setMensuration 20 = .ok (.invokevirtual 31, 3) := by decide +kernel
theorem dX1_setMensuration_23 : decode cX1_setMensuration 23 = .ok (.aload 5, 2) := by decide +kernel
theorem dX1_setMensuration_25 : decode cX1_setMensuration 25 = .ok (.invokevirtual 89, 3) := by decide +kernel
theorem dX1_setMensuration_28 : decode cX1_setMensuration 28 = .ok (.ireturn, 1) := by decide +kernel
theorem dX1_voices_0 : decode cX1_voices 0 = .ok (.aload_n 0, 1) := by decide +kernel
theorem dX1_voices_1 : decode cX1_voices 1 = .ok (.getfield 20, 3) := by decide +kernel
theorem dX1_voices_4 : decode cX1_voices 4 = .ok (.ireturn, 1) := by decide +kernel
theorem dX1_signs_0 : decode cX1_signs 0 = .ok (.aload_n 0, 1) := by decide +kernel
theorem dX1_signs_1 : decode cX1_signs 1 = .ok (.iload_n 1, 1) := by decide +kernel
theorem dX1_signs_2 : decode cX1_signs 2 = .ok (.invokevirtual 34, 3) := by decide +kernel
theorem dX1_signs_5 : decode cX1_signs 5 = .ok (.getfield 64, 3) := by decide +kernel
theorem dX1_signs_8 : decode cX1_signs 8 = .ok (.ireturn, 1) := by decide +kernel
theorem dX1_notes_0 : decode cX1_notes 0 = .ok (.aload_n 0, 1) := by decide +kernel
theorem dX1_notes_1 : decode cX1_notes 1 = .ok (.iload_n 1, 1) := by decide +kernel
theorem dX1_notes_2 : decode cX1_notes 2 = .ok (.invokevirtual 34, 3) := by decide +kernel
theorem dX1_notes_5 : decode cX1_notes 5 = .ok (.invokevirtual 92, 3) := by decide +kernel
theorem dX1_notes_8 : decode cX1_notes 8 = .ok (.ireturn, 1) := by decide +kernel
theorem dX1_ligatures_0 : decode cX1_ligatures 0 = .ok (.aload_n 0, 1) := by decide +kernel
theorem dX1_ligatures_1 : decode cX1_ligatures 1 = .ok (.iload_n 1, 1) := by decide +kernel
theorem dX1_ligatures_2 : decode cX1_ligatures 2 = .ok (.invokevirtual 34, 3) := by decide +kernel
theorem dX1_ligatures_5 : decode cX1_ligatures 5 = .ok (.invokevirtual 95, 3) := by decide +kernel
theorem dX1_ligatures_8 : decode cX1_ligatures 8 = .ok (.ireturn, 1) := by decide +kernel
theorem dX1_kindOf_0 : decode cX1_kindOf 0 = .ok (.aload_n 0, 1) := by decide +kernel
theorem dX1_kindOf_1 : decode cX1_kindOf 1 = .ok (.iload_n 1, 1) := by decide +kernel
theorem dX1_kindOf_2 : decode cX1_kindOf 2 = .ok (.iload_n 2, 1) := by decide +kernel
theorem dX1_kindOf_3 : decode cX1_kindOf 3 = .ok (.invokevirtual 73, 3) := by decide +kernel
theorem dX1_kindOf_6 : decode cX1_kindOf 6 = .ok (.getfield 98, 3) := by decide +kernel
theorem dX1_kindOf_9 : decode cX1_kindOf 9 = .ok (.iload_n 2, 1) := by decide +kernel
theorem dX1_kindOf_10 : decode cX1_kindOf 10 = .ok (.iaload, 1) := by decide +kernel
theorem dX1_kindOf_11 : decode cX1_kindOf 11 = .ok (.ireturn, 1) := by decide +kernel
theorem dX1_placeOf_0 : decode cX1_placeOf 0 = .ok (.aload_n 0, 1) := by decide +kernel
theorem dX1_placeOf_1 : decode cX1_placeOf 1 = .ok (.iload_n 1, 1) := by decide +kernel
theorem dX1_placeOf_2 : decode cX1_placeOf 2 = .ok (.iload_n 2, 1) := by decide +kernel
theorem dX1_placeOf_3 : decode cX1_placeOf 3 = .ok (.invokevirtual 73, 3) := by decide +kernel
theorem dX1_placeOf_6 : decode cX1_placeOf 6 = .ok (.getfield 102, 3) := by decide +kernel
theorem dX1_placeOf_9 : decode cX1_placeOf 9 = .ok (.iload_n 2, 1) := by decide +kernel
theorem dX1_placeOf_10 : decode cX1_placeOf 10 = .ok (.iaload, 1) := by decide +kernel
theorem dX1_placeOf_11 : decode cX1_placeOf 11 = .ok (.ireturn, 1) := by decide +kernel
theorem dX1_isColoured_0 : decode cX1_isColoured 0 = .ok (.aload_n 0, 1) := by decide +kernel
theorem dX1_isColoured_1 : decode cX1_isColoured 1 = .ok (.iload_n 1, 1) := by decide +kernel
theorem dX1_isColoured_2 : decode cX1_isColoured 2 = .ok (.iload_n 2, 1) := by decide +kernel
theorem dX1_isColoured_3 : decode cX1_isColoured 3 = .ok (.invokevirtual 73, 3) := by decide +kernel
theorem dX1_isColoured_6 : decode cX1_isColoured 6 = .ok (.getfield 105, 3) := by decide +kernel
theorem dX1_isColoured_9 : decode cX1_isColoured 9 = .ok (.iload_n 2, 1) := by decide +kernel
theorem dX1_isColoured_10 : decode cX1_isColoured 10 = .ok (.baload, 1) := by decide +kernel
theorem dX1_isColoured_11 : decode cX1_isColoured 11 = .ok (.ireturn, 1) := by decide +kernel
theorem dX1_placeInLigature_0 : decode cX1_placeInLigature 0 = .ok (.aload_n 0, 1) := by decide +kernel
theorem dX1_placeInLigature_1 : decode cX1_placeInLigature 1 = .ok (.iload_n 1, 1) := by decide +kernel
theorem dX1_placeInLigature_2 : decode cX1_placeInLigature 2 = .ok (.iload_n 2, 1) := by decide +kernel
theorem dX1_placeInLigature_3 : decode cX1_placeInLigature 3 = .ok (.invokevirtual 73, 3) := by decide +kernel
theorem dX1_placeInLigature_6 : decode cX1_placeInLigature 6 = .ok (.getfield 109, 3) := by decide +kernel
theorem dX1_placeInLigature_9 : decode cX1_placeInLigature 9 = .ok (.iload_n 2, 1) := by decide +kernel
theorem dX1_placeInLigature_10 : decode cX1_placeInLigature 10 = .ok (.iaload, 1) := by decide +kernel
theorem dX1_placeInLigature_11 : decode cX1_placeInLigature 11 = .ok (.ireturn, 1) := by decide +kernel
theorem dX1_lengthOf_0 : decode cX1_lengthOf 0 = .ok (.aload_n 0, 1) := by decide +kernel
theorem dX1_lengthOf_1 : decode cX1_lengthOf 1 = .ok (.iload_n 1, 1) := by decide +kernel
theorem dX1_lengthOf_2 : decode cX1_lengthOf 2 = .ok (.iload_n 2, 1) := by decide +kernel
theorem dX1_lengthOf_3 : decode cX1_lengthOf 3 = .ok (.invokevirtual 73, 3) := by decide +kernel
theorem dX1_lengthOf_6 : decode cX1_lengthOf 6 = .ok (.iload_n 2, 1) := by decide +kernel
theorem dX1_lengthOf_7 : decode cX1_lengthOf 7 = .ok (.invokevirtual 112, 3) := by decide +kernel
theorem dX1_lengthOf_10 : decode cX1_lengthOf 10 = .ok (.ireturn, 1) := by decide +kernel
theorem dX1_beginOf_0 : decode cX1_beginOf 0 = .ok (.aload_n 0, 1) := by decide +kernel
theorem dX1_beginOf_1 : decode cX1_beginOf 1 = .ok (.iload_n 1, 1) := by decide +kernel
theorem dX1_beginOf_2 : decode cX1_beginOf 2 = .ok (.iload_n 2, 1) := by decide +kernel
theorem dX1_beginOf_3 : decode cX1_beginOf 3 = .ok (.invokevirtual 73, 3) := by decide +kernel
theorem dX1_beginOf_6 : decode cX1_beginOf 6 = .ok (.getfield 116, 3) := by decide +kernel
theorem dX1_beginOf_9 : decode cX1_beginOf 9 = .ok (.iload_n 2, 1) := by decide +kernel
theorem dX1_beginOf_10 : decode cX1_beginOf 10 = .ok (.iaload, 1) := by decide +kernel
theorem dX1_beginOf_11 : decode cX1_beginOf 11 = .ok (.ireturn, 1) := by decide +kernel
theorem dX1_length_0 : decode cX1_length 0 = .ok (.aload_n 0, 1) := by decide +kernel
theorem dX1_length_1 : decode cX1_length 1 = .ok (.iload_n 1, 1) := by decide +kernel
theorem dX1_length_2 : decode cX1_length 2 = .ok (.invokevirtual 34, 3) := by decide +kernel
theorem dX1_length_5 : decode cX1_length 5 = .ok (.invokevirtual 89, 3) := by decide +kernel
theorem dX1_length_8 : decode cX1_length 8 = .ok (.ireturn, 1) := by decide +kernel
theorem dX1_longest_0 : decode cX1_longest 0 = .ok (.iconst 0, 1) := by decide +kernel
theorem dX1_longest_1 : decode cX1_longest 1 = .ok (.istore_n 1, 1) := by decide +kernel
theorem dX1_longest_2 : decode cX1_longest 2 = .ok (.iconst 0, 1) := by decide +kernel
theorem dX1_longest_3 : decode cX1_longest 3 = .ok (.istore_n 2, 1) := by decide +kernel
theorem dX1_longest_4 : decode cX1_longest 4 = .ok (.iload_n 2, 1) := by decide +kernel
theorem dX1_longest_5 : decode cX1_longest 5 = .ok (.aload_n 0, 1) := by decide +kernel
theorem dX1_longest_6 : decode cX1_longest 6 = .ok (.getfield 20, 3) := by decide +kernel
theorem dX1_longest_9 : decode cX1_longest 9 = .ok (.if_icmp .ge 23, 3) := by decide +kernel
theorem dX1_longest_12 : decode cX1_longest 12 = .ok (.iload_n 1, 1) := by decide +kernel
theorem dX1_longest_13 : decode cX1_longest 13 = .ok (.aload_n 0, 1) := by decide +kernel
theorem dX1_longest_14 : decode cX1_longest 14 = .ok (.getfield 11, 3) := by decide +kernel
theorem dX1_longest_17 : decode cX1_longest 17 = .ok (.iload_n 2, 1) := by decide +kernel
theorem dX1_longest_18 : decode cX1_longest 18 = .ok (.aaload, 1) := by decide +kernel
theorem dX1_longest_19 : decode cX1_longest 19 = .ok (.invokevirtual 89, 3) := by decide +kernel
theorem dX1_longest_22 : decode cX1_longest 22 = .ok (.invokestatic 119, 3) := by decide +kernel
theorem dX1_longest_25 : decode cX1_longest 25 = .ok (.istore_n 1, 1) := by decide +kernel
theorem dX1_longest_26 : decode cX1_longest 26 = .ok (.iinc 2 1, 3) := by decide +kernel
theorem dX1_longest_29 : decode cX1_longest 29 = .ok (.goto (-25), 3) := by decide +kernel
theorem dX1_longest_32 : decode cX1_longest 32 = .ok (.iload_n 1, 1) := by decide +kernel
theorem dX1_longest_33 : decode cX1_longest 33 = .ok (.ireturn, 1) := by decide +kernel
theorem dX1_signAt_0 : decode cX1_signAt 0 = .ok (.aload_n 0, 1) := by decide +kernel
theorem dX1_signAt_1 : decode cX1_signAt 1 = .ok (.iload_n 1, 1) := by decide +kernel
theorem dX1_signAt_2 : decode cX1_signAt 2 = .ok (.invokevirtual 34, 3) := by decide +kernel
theorem dX1_signAt_5 : decode cX1_signAt 5 = .ok (.astore_n 3, 1) := by decide +kernel
theorem dX1_signAt_6 : decode cX1_signAt 6 = .ok (.iload_n 2, 1) := by decide +kernel
theorem dX1_signAt_7 : decode cX1_signAt 7 = .ok (.iconst 0, 1) := by decide +kernel
theorem dX1_signAt_8 : decode cX1_signAt 8 = .ok (.ldc 126, 2) := by decide +kernel
theorem dX1_signAt_10 : decode cX1_signAt 10 = .ok (.invokestatic 38, 3) := by decide +kernel
theorem dX1_signAt_13 : decode cX1_signAt 13 = .ok (.aload_n 3, 1) := by decide +kernel
theorem dX1_signAt_14 : decode cX1_signAt 14 = .ok (.iload_n 2, 1) := by decide +kernel
theorem dX1_signAt_15 : decode cX1_signAt 15 = .ok (.invokevirtual 127, 3) := by decide +kernel
theorem dX1_signAt_18 : decode cX1_signAt 18 = .ok (.ireturn, 1) := by decide +kernel
theorem dX1_clefOf_0 : decode cX1_clefOf 0 = .ok (.aload_n 0, 1) := by decide +kernel
theorem dX1_clefOf_1 : decode cX1_clefOf 1 = .ok (.iload_n 1, 1) := by decide +kernel
theorem dX1_clefOf_2 : decode cX1_clefOf 2 = .ok (.invokevirtual 34, 3) := by decide +kernel
theorem dX1_clefOf_5 : decode cX1_clefOf 5 = .ok (.getfield 86, 3) := by decide +kernel
theorem dX1_clefOf_8 : decode cX1_clefOf 8 = .ok (.ireturn, 1) := by decide +kernel
theorem dX1_pitchOf_0 : decode cX1_pitchOf 0 = .ok (.aload_n 0, 1) := by decide +kernel
theorem dX1_pitchOf_1 : decode cX1_pitchOf 1 = .ok (.iload_n 1, 1) := by decide +kernel
theorem dX1_pitchOf_2 : decode cX1_pitchOf 2 = .ok (.iload_n 2, 1) := by decide +kernel
theorem dX1_pitchOf_3 : decode cX1_pitchOf 3 = .ok (.invokevirtual 73, 3) := by decide +kernel
theorem dX1_pitchOf_6 : decode cX1_pitchOf 6 = .ok (.astore_n 3, 1) := by decide +kernel
theorem dX1_pitchOf_7 : decode cX1_pitchOf 7 = .ok (.aload_n 3, 1) := by decide +kernel
theorem dX1_pitchOf_8 : decode cX1_pitchOf 8 = .ok (.invokestatic 130, 3) := by decide +kernel
theorem dX1_pitchOf_11 : decode cX1_pitchOf 11 = .ok (.aload_n 3, 1) := by decide +kernel
theorem dX1_pitchOf_12 : decode cX1_pitchOf 12 = .ok (.iload_n 2, 1) := by decide +kernel
theorem dX1_pitchOf_13 : decode cX1_pitchOf 13 = .ok (.invokevirtual 77, 3) := by decide +kernel
theorem dX1_pitchOf_16 : decode cX1_pitchOf 16 = .ok (.ifCond .eq 7, 3) := by decide +kernel
theorem dX1_pitchOf_19 : decode cX1_pitchOf 19 = .ok (.iconst (-1), 1) := by decide +kernel
theorem dX1_pitchOf_20 : decode cX1_pitchOf 20 = .ok (.goto 16, 3) := by decide +kernel
theorem dX1_pitchOf_23 : decode cX1_pitchOf 23 = .ok (.aload_n 3, 1) := by decide +kernel
theorem dX1_pitchOf_24 : decode cX1_pitchOf 24 = .ok (.getfield 102, 3) := by decide +kernel
theorem dX1_pitchOf_27 : decode cX1_pitchOf 27 = .ok (.iload_n 2, 1) := by decide +kernel
theorem dX1_pitchOf_28 : decode cX1_pitchOf 28 = .ok (.iaload, 1) := by decide +kernel
theorem dX1_pitchOf_29 : decode cX1_pitchOf 29 = .ok (.iconst 2, 1) := by decide +kernel
theorem dX1_pitchOf_30 : decode cX1_pitchOf 30 = .ok (.aload_n 3, 1) := by decide +kernel
theorem dX1_pitchOf_31 : decode cX1_pitchOf 31 = .ok (.getfield 86, 3) := by decide +kernel
theorem dX1_pitchOf_34 : decode cX1_pitchOf 34 = .ok (.imul, 1) := by decide +kernel
theorem dX1_pitchOf_35 : decode cX1_pitchOf 35 = .ok (.iadd, 1) := by decide +kernel
theorem dX1_pitchOf_36 : decode cX1_pitchOf 36 = .ok (.ireturn, 1) := by decide +kernel
theorem dX1_fits_0 : decode cX1_fits 0 = .ok (.aload_n 0, 1) := by decide +kernel
theorem dX1_fits_1 : decode cX1_fits 1 = .ok (.iload_n 1, 1) := by decide +kernel
theorem dX1_fits_2 : decode cX1_fits 2 = .ok (.invokevirtual 34, 3) := by decide +kernel
theorem dX1_fits_5 : decode cX1_fits 5 = .ok (.astore_n 3, 1) := by decide +kernel
theorem dX1_fits_6 : decode cX1_fits 6 = .ok (.iload_n 2, 1) := by decide +kernel
theorem dX1_fits_7 : decode cX1_fits 7 = .ok (.iconst 0, 1) := by decide +kernel
theorem dX1_fits_8 : decode cX1_fits 8 = .ok (.iconst 5, 1) := by decide +kernel
theorem dX1_fits_9 : decode cX1_fits 9 = .ok (.invokestatic 38, 3) := by decide +kernel
theorem dX1_fits_12 : decode cX1_fits 12 = .ok (.aload_n 3, 1) := by decide +kernel
theorem dX1_fits_13 : decode cX1_fits 13 = .ok (.iload_n 2, 1) := by decide +kernel
theorem dX1_fits_14 : decode cX1_fits 14 = .ok (.invokevirtual 134, 3) := by decide +kernel
theorem dX1_fits_17 : decode cX1_fits 17 = .ok (.ireturn, 1) := by decide +kernel
theorem dX1_clefsThatFit_0 : decode cX1_clefsThatFit 0 = .ok (.aload_n 0, 1) := by decide +kernel
theorem dX1_clefsThatFit_1 : decode cX1_clefsThatFit 1 = .ok (.iload_n 1, 1) := by decide +kernel
theorem dX1_clefsThatFit_2 : decode cX1_clefsThatFit 2 = .ok (.invokevirtual 34, 3) := by decide +kernel
theorem dX1_clefsThatFit_5 : decode cX1_clefsThatFit 5 = .ok (.invokevirtual 137, 3) := by decide +kernel
theorem dX1_clefsThatFit_8 : decode cX1_clefsThatFit 8 = .ok (.ireturn, 1) := by decide +kernel
theorem dX1_clashes_0 : decode cX1_clashes 0 = .ok (.aload_n 0, 1) := by decide +kernel
theorem dX1_clashes_1 : decode cX1_clashes 1 = .ok (.iload_n 1, 1) := by decide +kernel
theorem dX1_clashes_2 : decode cX1_clashes 2 = .ok (.invokevirtual 34, 3) := by decide +kernel
theorem dX1_clashes_5 : decode cX1_clashes 5 = .ok (.astore_n 3, 1) := by decide +kernel
theorem dX1_clashes_6 : decode cX1_clashes 6 = .ok (.aload_n 0, 1) := by decide +kernel
theorem dX1_clashes_7 : decode cX1_clashes 7 = .ok (.iload_n 2, 1) := by decide +kernel
theorem dX1_clashes_8 : decode cX1_clashes 8 = .ok (.invokevirtual 34, 3) := by decide +kernel
theorem dX1_clashes_11 : decode cX1_clashes 11 = .ok (.astore 4, 2) := by decide +kernel
theorem dX1_clashes_13 : decode cX1_clashes 13 = .ok (.aload_n 3, 1) := by decide +kernel
theorem dX1_clashes_14 : decode cX1_clashes 14 = .ok (.invokestatic 130, 3) := by decide +kernel
theorem dX1_clashes_17 : decode cX1_clashes 17 = .ok (.aload 4, 2) := by decide +kernel
theorem dX1_clashes_19 : decode cX1_clashes 19 = .ok (.invokestatic 130, 3) := by decide +kernel
theorem dX1_clashes_22 : decode cX1_clashes 22 = .ok (.aload_n 3, 1) := by decide +kernel
theorem dX1_clashes_23 : decode cX1_clashes 23 = .ok (.aload 4, 2) := by decide +kernel
theorem dX1_clashes_25 : decode cX1_clashes 25 = .ok (.iconst 0, 1) := by decide +kernel
theorem dX1_clashes_26 : decode cX1_clashes 26 = .ok (.iconst 2, 1) := by decide +kernel
theorem dX1_clashes_27 : decode cX1_clashes 27 = .ok (.aload 4, 2) := by decide +kernel
theorem dX1_clashes_29 : decode cX1_clashes 29 = .ok (.getfield 86, 3) := by decide +kernel
theorem dX1_clashes_32 : decode cX1_clashes 32 = .ok (.aload_n 3, 1) := by decide +kernel
theorem dX1_clashes_33 : decode cX1_clashes 33 = .ok (.getfield 86, 3) := by decide +kernel
theorem dX1_clashes_36 : decode cX1_clashes 36 = .ok (.isub, 1) := by decide +kernel
theorem dX1_clashes_37 : decode cX1_clashes 37 = .ok (.imul, 1) := by decide +kernel
theorem dX1_clashes_38 : decode cX1_clashes 38 = .ok (.invokestatic 140, 3) := by decide +kernel
theorem dX1_clashes_41 : decode cX1_clashes 41 = .ok (.ireturn, 1) := by decide +kernel
theorem dX1_firstClash_0 : decode cX1_firstClash 0 = .ok (.aload_n 0, 1) := by decide +kernel
theorem dX1_firstClash_1 : decode cX1_firstClash 1 = .ok (.iload_n 1, 1) := by decide +kernel
theorem dX1_firstClash_2 : decode cX1_firstClash 2 = .ok (.invokevirtual 34, 3) := by decide +kernel
theorem dX1_firstClash_5 : decode cX1_firstClash 5 = .ok (.astore_n 3, 1) := by decide +kernel
theorem dX1_firstClash_6 : decode cX1_firstClash 6 = .ok (.aload_n 0, 1) := by decide +kernel
theorem dX1_firstClash_7 : decode cX1_firstClash 7 = .ok (.iload_n 2, 1) := by decide +kernel
theorem dX1_firstClash_8 : decode cX1_firstClash 8 = .ok (.invokevirtual 34, 3) := by decide +kernel
theorem dX1_firstClash_11 : decode cX1_firstClash 11 = .ok (.astore 4, 2) := by decide +kernel
theorem dX1_firstClash_13 : decode cX1_firstClash 13 = .ok (.aload_n 3, 1) := by decide +kernel
theorem dX1_firstClash_14 : decode cX1_firstClash 14 = .ok (.invokestatic 130, 3) := by decide +kernel
theorem dX1_firstClash_17 : decode cX1_firstClash 17 = .ok (.aload 4, 2) := by decide +kernel
theorem dX1_firstClash_19 : decode cX1_firstClash 19 = .ok (.invokestatic 130, 3) := by decide +kernel
theorem dX1_firstClash_22 : decode cX1_firstClash 22 = .ok (.aload_n 3, 1) := by decide +kernel
theorem dX1_firstClash_23 : decode cX1_firstClash 23 = .ok (.aload 4, 2) := by decide +kernel
theorem dX1_firstClash_25 : decode cX1_firstClash 25 = .ok (.iconst 2, 1) := by decide +kernel
theorem dX1_firstClash_26 : decode cX1_firstClash 26 = .ok (.aload 4, 2) := by decide +kernel
theorem dX1_firstClash_28 : decode cX1_firstClash 28 = .ok (.getfield 86, 3) := by decide +kernel
theorem dX1_firstClash_31 : decode cX1_firstClash 31 = .ok (.aload_n 3, 1) := by decide +kernel
theorem dX1_firstClash_32 : decode cX1_firstClash 32 = .ok (.getfield 86, 3) := by decide +kernel
theorem dX1_firstClash_35 : decode cX1_firstClash 35 = .ok (.isub, 1) := by decide +kernel
theorem dX1_firstClash_36 : decode cX1_firstClash 36 = .ok (.imul, 1) := by decide +kernel
theorem dX1_firstClash_37 : decode cX1_firstClash 37 = .ok (.invokestatic 144, 3) := by decide +kernel
theorem dX1_firstClash_40 : decode cX1_firstClash 40 = .ok (.ireturn, 1) := by decide +kernel
theorem dX1_clashesWith_0 : decode cX1_clashesWith 0 = .ok (.aload_n 0, 1) := by decide +kernel
theorem dX1_clashesWith_1 : decode cX1_clashesWith 1 = .ok (.iload_n 1, 1) := by decide +kernel
theorem dX1_clashesWith_2 : decode cX1_clashesWith 2 = .ok (.invokevirtual 34, 3) := by decide +kernel
theorem dX1_clashesWith_5 : decode cX1_clashesWith 5 = .ok (.astore_n 3, 1) := by decide +kernel
theorem dX1_clashesWith_6 : decode cX1_clashesWith 6 = .ok (.iload_n 2, 1) := by decide +kernel
theorem dX1_clashesWith_7 : decode cX1_clashesWith 7 = .ok (.iconst 0, 1) := by decide +kernel
theorem dX1_clashesWith_8 : decode cX1_clashesWith 8 = .ok (.iconst 5, 1) := by decide +kernel
theorem dX1_clashesWith_9 : decode cX1_clashesWith 9 = .ok (.invokestatic 38, 3) := by decide +kernel
theorem dX1_clashesWith_12 : decode cX1_clashesWith 12 = .ok (.aload_n 0, 1) := by decide +kernel
theorem dX1_clashesWith_13 : decode cX1_clashesWith 13 = .ok (.aload_n 3, 1) := by decide +kernel
theorem dX1_clashesWith_14 : decode cX1_clashesWith 14 = .ok (.iload_n 2, 1) := by decide +kernel
theorem dX1_clashesWith_15 : decode cX1_clashesWith 15 = .ok (.invokevirtual 148, 3) := by decide +kernel
theorem dX1_clashesWith_18 : decode cX1_clashesWith 18 = .ok (.ireturn, 1) := by decide +kernel
theorem dX1_bestClef_0 : decode cX1_bestClef 0 = .ok (.aload_n 0, 1) := by decide +kernel
theorem dX1_bestClef_1 : decode cX1_bestClef 1 = .ok (.aload_n 0, 1) := by decide +kernel
theorem dX1_bestClef_2 : decode cX1_bestClef 2 = .ok (.iload_n 1, 1) := by decide +kernel
theorem dX1_bestClef_3 : decode cX1_bestClef 3 = .ok (.invokevirtual 34, 3) := by decide +kernel
theorem dX1_bestClef_6 : decode cX1_bestClef 6 = .ok (.invokevirtual 152, 3) := by decide +kernel
theorem dX1_bestClef_9 : decode cX1_bestClef 9 = .ok (.ireturn, 1) := by decide +kernel
theorem dX1_canonClashes_0 : decode cX1_canonClashes 0 = .ok (.aload_n 0, 1) := by decide +kernel
theorem dX1_canonClashes_1 : decode cX1_canonClashes 1 = .ok (.iload_n 1, 1) := by decide +kernel
theorem dX1_canonClashes_2 : decode cX1_canonClashes 2 = .ok (.invokevirtual 34, 3) := by decide +kernel
theorem dX1_canonClashes_5 : decode cX1_canonClashes 5 = .ok (.astore 4, 2) := by decide +kernel
theorem dX1_canonClashes_7 : decode cX1_canonClashes 7 = .ok (.iload_n 2, 1) := by decide +kernel
theorem dX1_canonClashes_8 : decode cX1_canonClashes 8 = .ok (.iconst 1, 1) := by decide +kernel
theorem dX1_canonClashes_9 : decode cX1_canonClashes 9 = .ok (.bipush 48, 2) := by decide +kernel
theorem dX1_canonClashes_11 : decode cX1_canonClashes 11 = .ok (.invokestatic 38, 3) := by decide +kernel
theorem dX1_canonClashes_14 : decode cX1_canonClashes 14 = .ok (.iload_n 3, 1) := by decide +kernel
theorem dX1_canonClashes_15 : decode cX1_canonClashes 15 = .ok (.bipush (-7), 2) := by decide +kernel
theorem dX1_canonClashes_17 : decode cX1_canonClashes 17 = .ok (.bipush 7, 2) := by decide +kernel
theorem dX1_canonClashes_19 : decode cX1_canonClashes 19 = .ok (.invokestatic 38, 3) := by decide +kernel
theorem dX1_canonClashes_22 : decode cX1_canonClashes 22 = .ok (.aload 4, 2) := by decide +kernel
theorem dX1_canonClashes_24 : decode cX1_canonClashes 24 = .ok (.aload 4, 2) := by decide +kernel
theorem dX1_canonClashes_26 : decode cX1_canonClashes 26 = .ok (.iload_n 2, 1) := by decide +kernel
theorem dX1_canonClashes_27 : decode cX1_canonClashes 27 = .ok (.iload_n 3, 1) := by decide +kernel
theorem dX1_canonClashes_28 : decode cX1_canonClashes 28 = .ok (.invokestatic 140, 3) := by decide +kernel
theorem dX1_canonClashes_31 : decode cX1_canonClashes 31 = .ok (.ireturn, 1) := by decide +kernel
theorem dX1_bestDelay_0 : decode cX1_bestDelay 0 = .ok (.aload_n 0, 1) := by decide +kernel
theorem dX1_bestDelay_1 : decode cX1_bestDelay 1 = .ok (.iload_n 1, 1) := by decide +kernel
theorem dX1_bestDelay_2 : decode cX1_bestDelay 2 = .ok (.invokevirtual 34, 3) := by decide +kernel
theorem dX1_bestDelay_5 : decode cX1_bestDelay 5 = .ok (.astore_n 3, 1) := by decide +kernel
theorem dX1_bestDelay_6 : decode cX1_bestDelay 6 = .ok (.iload_n 2, 1) := by decide +kernel
theorem dX1_bestDelay_7 : decode cX1_bestDelay 7 = .ok (.bipush (-7), 2) := by decide +kernel
theorem dX1_bestDelay_9 : decode cX1_bestDelay 9 = .ok (.bipush 7, 2) := by decide +kernel
theorem dX1_bestDelay_11 : decode cX1_bestDelay 11 = .ok (.invokestatic 38, 3) := by decide +kernel
theorem dX1_bestDelay_14 : decode cX1_bestDelay 14 = .ok (.aload_n 3, 1) := by decide +kernel
theorem dX1_bestDelay_15 : decode cX1_bestDelay 15 = .ok (.iload_n 2, 1) := by decide +kernel
theorem dX1_bestDelay_16 : decode cX1_bestDelay 16 = .ok (.invokestatic 156, 3) := by decide +kernel
theorem dX1_bestDelay_19 : decode cX1_bestDelay 19 = .ok (.ireturn, 1) := by decide +kernel
theorem dX1_meanLength_0 : decode cX1_meanLength 0 = .ok (.aload_n 0, 1) := by decide +kernel
theorem dX1_meanLength_1 : decode cX1_meanLength 1 = .ok (.getfield 20, 3) := by decide +kernel
theorem dX1_meanLength_4 : decode cX1_meanLength 4 = .ok (.ifCond .ne 5, 3) := by decide +kernel
theorem dX1_meanLength_7 : decode cX1_meanLength 7 = .ok (.dconst 0, 1) := by decide +kernel
theorem dX1_meanLength_8 : decode cX1_meanLength 8 = .ok (.dreturn, 1) := by decide +kernel
theorem dX1_meanLength_9 : decode cX1_meanLength 9 = .ok (.iconst 0, 1) := by decide +kernel
theorem dX1_meanLength_10 : decode cX1_meanLength 10 = .ok (.istore_n 1, 1) := by decide +kernel
theorem dX1_meanLength_11 : decode cX1_meanLength 11 = .ok (.iconst 0, 1) := by decide +kernel
theorem dX1_meanLength_12 : decode cX1_meanLength 12 = .ok (.istore_n 2, 1) := by decide +kernel
theorem dX1_meanLength_13 : decode cX1_meanLength 13 = .ok (.iload_n 2, 1) := by decide +kernel
theorem dX1_meanLength_14 : decode cX1_meanLength 14 = .ok (.aload_n 0, 1) := by decide +kernel
theorem dX1_meanLength_15 : decode cX1_meanLength 15 = .ok (.getfield 20, 3) := by decide +kernel
theorem dX1_meanLength_18 : decode cX1_meanLength 18 = .ok (.if_icmp .ge 21, 3) := by decide +kernel
theorem dX1_meanLength_21 : decode cX1_meanLength 21 = .ok (.iload_n 1, 1) := by decide +kernel
theorem dX1_meanLength_22 : decode cX1_meanLength 22 = .ok (.aload_n 0, 1) := by decide +kernel
theorem dX1_meanLength_23 : decode cX1_meanLength 23 = .ok (.getfield 11, 3) := by decide +kernel
theorem dX1_meanLength_26 : decode cX1_meanLength 26 = .ok (.iload_n 2, 1) := by decide +kernel
theorem dX1_meanLength_27 : decode cX1_meanLength 27 = .ok (.aaload, 1) := by decide +kernel
theorem dX1_meanLength_28 : decode cX1_meanLength 28 = .ok (.invokevirtual 89, 3) := by decide +kernel
theorem dX1_meanLength_31 : decode cX1_meanLength 31 = .ok (.iadd, 1) := by decide +kernel
theorem dX1_meanLength_32 : decode cX1_meanLength 32 = .ok (.istore_n 1, 1) := by decide +kernel
theorem dX1_meanLength_33 : decode cX1_meanLength 33 = .ok (.iinc 2 1, 3) := by decide +kernel
theorem dX1_meanLength_36 : decode cX1_meanLength 36 = .ok (.goto (-23), 3) := by decide +kernel
theorem dX1_meanLength_39 : decode cX1_meanLength 39 = .ok (.iload_n 1, 1) := by decide +kernel
theorem dX1_meanLength_40 : decode cX1_meanLength 40 = .ok (.i2d, 1) := by decide +kernel
theorem dX1_meanLength_41 : decode cX1_meanLength 41 = .ok (.aload_n 0, 1) := by decide +kernel
theorem dX1_meanLength_42 : decode cX1_meanLength 42 = .ok (.getfield 20, 3) := by decide +kernel
theorem dX1_meanLength_45 : decode cX1_meanLength 45 = .ok (.i2d, 1) := by decide +kernel
theorem dX1_meanLength_46 : decode cX1_meanLength 46 = .ok (.ddiv, 1) := by decide +kernel
theorem dX1_meanLength_47 : decode cX1_meanLength 47 = .ok (.dreturn, 1) := by decide +kernel
theorem dX1_digest_0 : decode cX1_digest 0 = .ok (.ldc2_w 159, 3) := by decide +kernel
theorem dX1_digest_3 : decode cX1_digest 3 = .ok (.aload_n 0, 1) := by decide +kernel
theorem dX1_digest_4 : decode cX1_digest 4 = .ok (.getfield 20, 3) := by decide +kernel
theorem dX1_digest_7 : decode cX1_digest 7 = .ok (.invokestatic 161, 3) := by decide +kernel
theorem dX1_digest_10 : decode cX1_digest 10 = .ok (.lstore_n 1, 1) := by decide +kernel
theorem dX1_digest_11 : decode cX1_digest 11 = .ok (.lload_n 1, 1) := by decide +kernel
theorem dX1_digest_12 : decode cX1_digest 12 = .ok (.aload_n 0, 1) := by decide +kernel
theorem dX1_digest_13 : decode cX1_digest 13 = .ok (.invokevirtual 165, 3) := by decide +kernel
theorem dX1_digest_16 : decode cX1_digest 16 = .ok (.invokestatic 161, 3) := by decide +kernel
theorem dX1_digest_19 : decode cX1_digest 19 = .ok (.lstore_n 1, 1) := by decide +kernel
theorem dX1_digest_20 : decode cX1_digest 20 = .ok (.iconst 0, 1) := by decide +kernel
theorem dX1_digest_21 : decode cX1_digest 21 = .ok (.istore_n 3, 1) := by decide +kernel
theorem dX1_digest_22 : decode cX1_digest 22 = .ok (.iload_n 3, 1) := by decide +kernel
theorem dX1_digest_23 : decode cX1_digest 23 = .ok (.aload_n 0, 1) := by decide +kernel
theorem dX1_digest_24 : decode cX1_digest 24 = .ok (.getfield 20, 3) := by decide +kernel
theorem dX1_digest_27 : decode cX1_digest 27 = .ok (.if_icmp .ge 21, 3) := by decide +kernel
theorem dX1_digest_30 : decode cX1_digest 30 = .ok (.aload_n 0, 1) := by decide +kernel
theorem dX1_digest_31 : decode cX1_digest 31 = .ok (.lload_n 1, 1) := by decide +kernel
theorem dX1_digest_32 : decode cX1_digest 32 = .ok (.aload_n 0, 1) := by decide +kernel
theorem dX1_digest_33 : decode cX1_digest 33 = .ok (.getfield 11, 3) := by decide +kernel
theorem dX1_digest_36 : decode cX1_digest 36 = .ok (.iload_n 3, 1) := by decide +kernel
theorem dX1_digest_37 : decode cX1_digest 37 = .ok (.aaload, 1) := by decide +kernel
theorem dX1_digest_38 : decode cX1_digest 38 = .ok (.invokevirtual 168, 3) := by decide +kernel
theorem dX1_digest_41 : decode cX1_digest 41 = .ok (.lstore_n 1, 1) := by decide +kernel
theorem dX1_digest_42 : decode cX1_digest 42 = .ok (.iinc 3 1, 3) := by decide +kernel
theorem dX1_digest_45 : decode cX1_digest 45 = .ok (.goto (-23), 3) := by decide +kernel
theorem dX1_digest_48 : decode cX1_digest 48 = .ok (.lload_n 1, 1) := by decide +kernel
theorem dX1_digest_49 : decode cX1_digest 49 = .ok (.lreturn, 1) := by decide +kernel
theorem dX1_knownVoice_0 : decode cX1_knownVoice 0 = .ok (.iload_n 1, 1) := by decide +kernel
theorem dX1_knownVoice_1 : decode cX1_knownVoice 1 = .ok (.ifCond .lt 11, 3) := by decide +kernel
theorem dX1_knownVoice_4 : decode cX1_knownVoice 4 = .ok (.iload_n 1, 1) := by decide +kernel
theorem dX1_knownVoice_5 : decode cX1_knownVoice 5 = .ok (.aload_n 0, 1) := by decide +kernel
theorem dX1_knownVoice_6 : decode cX1_knownVoice 6 = .ok (.getfield 20, 3) := by decide +kernel
theorem dX1_knownVoice_9 : decode cX1_knownVoice 9 = .ok (.if_icmp .lt 13, 3) := by decide +kernel
theorem dX1_knownVoice_12 : decode cX1_knownVoice 12 = .ok (.new 172, 3) := by decide +kernel
theorem dX1_knownVoice_15 : decode cX1_knownVoice 15 = .ok (.dup, 1) := by decide +kernel
theorem dX1_knownVoice_16 : decode cX1_knownVoice 16 = .ok (.ldc 174, 2) := by decide +kernel
theorem dX1_knownVoice_18 : decode cX1_knownVoice 18 = .ok (.invokespecial 176, 3) := by decide +kernel
theorem dX1_knownVoice_21 : decode cX1_knownVoice 21 = .ok (.athrow, 1) := by decide +kernel
theorem dX1_knownVoice_22 : decode cX1_knownVoice 22 = .ok (.aload_n 0, 1) := by decide +kernel
theorem dX1_knownVoice_23 : decode cX1_knownVoice 23 = .ok (.getfield 11, 3) := by decide +kernel
theorem dX1_knownVoice_26 : decode cX1_knownVoice 26 = .ok (.iload_n 1, 1) := by decide +kernel
theorem dX1_knownVoice_27 : decode cX1_knownVoice 27 = .ok (.aaload, 1) := by decide +kernel
theorem dX1_knownVoice_28 : decode cX1_knownVoice 28 = .ok (.areturn, 1) := by decide +kernel
theorem dX1_voiceWithSign_0 : decode cX1_voiceWithSign 0 = .ok (.aload_n 0, 1) := by decide +kernel
theorem dX1_voiceWithSign_1 : decode cX1_voiceWithSign 1 = .ok (.iload_n 1, 1) := by decide +kernel
theorem dX1_voiceWithSign_2 : decode cX1_voiceWithSign 2 = .ok (.invokevirtual 34, 3) := by decide +kernel
theorem dX1_voiceWithSign_5 : decode cX1_voiceWithSign 5 = .ok (.astore_n 3, 1) := by decide +kernel
theorem dX1_voiceWithSign_6 : decode cX1_voiceWithSign 6 = .ok (.iload_n 2, 1) := by decide +kernel
theorem dX1_voiceWithSign_7 : decode cX1_voiceWithSign 7 = .ok (.ifCond .lt 11, 3) := by decide +kernel
theorem dX1_voiceWithSign_10 : decode cX1_voiceWithSign 10 = .ok (.iload_n 2, 1) := by decide +kernel
theorem dX1_voiceWithSign_11 : decode cX1_voiceWithSign 11 = .ok (.aload_n 3, 1) := by decide +kernel
theorem dX1_voiceWithSign_12 : decode cX1_voiceWithSign 12 = .ok (.getfield 64, 3) := by decide +kernel
theorem dX1_voiceWithSign_15 : decode cX1_voiceWithSign 15 = .ok (.if_icmp .lt 13, 3) := by decide +kernel
theorem dX1_voiceWithSign_18 : decode cX1_voiceWithSign 18 = .ok (.new 172, 3) := by decide +kernel
theorem dX1_voiceWithSign_21 : decode cX1_voiceWithSign 21 = .ok (.dup, 1) := by decide +kernel
theorem dX1_voiceWithSign_22 : decode cX1_voiceWithSign 22 = .ok (.ldc 177, 2) := by decide +kernel
theorem dX1_voiceWithSign_24 : decode cX1_voiceWithSign 24 = .ok (.invokespecial 176, 3) := by decide +kernel
theorem dX1_voiceWithSign_27 : decode cX1_voiceWithSign 27 = .ok (.athrow, 1) := by decide +kernel
theorem dX1_voiceWithSign_28 : decode cX1_voiceWithSign 28 = .ok (.aload_n 3, 1) := by decide +kernel
theorem dX1_voiceWithSign_29 : decode cX1_voiceWithSign 29 = .ok (.areturn, 1) := by decide +kernel
theorem dX1_checkRange_0 : decode cX1_checkRange 0 = .ok (.iload_n 0, 1) := by decide +kernel
theorem dX1_checkRange_1 : decode cX1_checkRange 1 = .ok (.iload_n 1, 1) := by decide +kernel
theorem dX1_checkRange_2 : decode cX1_checkRange 2 = .ok (.if_icmp .lt 8, 3) := by decide +kernel
theorem dX1_checkRange_5 : decode cX1_checkRange 5 = .ok (.iload_n 0, 1) := by decide +kernel
theorem dX1_checkRange_6 : decode cX1_checkRange 6 = .ok (.iload_n 2, 1) := by decide +kernel
theorem dX1_checkRange_7 : decode cX1_checkRange 7 = .ok (.if_icmp .le 13, 3) := by decide +kernel
theorem dX1_checkRange_10 : decode cX1_checkRange 10 = .ok (.new 179, 3) := by decide +kernel
theorem dX1_checkRange_13 : decode cX1_checkRange 13 = .ok (.dup, 1) := by decide +kernel
theorem dX1_checkRange_14 : decode cX1_checkRange 14 = .ok (.ldc 181, 2) := by decide +kernel
theorem dX1_checkRange_16 : decode cX1_checkRange 16 = .ok (.invokespecial 183, 3) := by decide +kernel
theorem dX1_checkRange_19 : decode cX1_checkRange 19 = .ok (.athrow, 1) := by decide +kernel
theorem dX1_checkRange_20 : decode cX1_checkRange 20 = .ok (.return_, 1) := by decide +kernel
theorem dX1_checkMensuration_0 : decode cX1_checkMensuration 0 = .ok (.iload_n 0, 1) := by decide +kernel
theorem dX1_checkMensuration_1 : decode cX1_checkMensuration 1 = .ok (.iconst 2, 1) := by decide +kernel
theorem dX1_checkMensuration_2 : decode cX1_checkMensuration 2 = .ok (.iconst 3, 1) := by decide +kernel
theorem dX1_checkMensuration_3 : decode cX1_checkMensuration 3 = .ok (.invokestatic 38, 3) := by decide +kernel
theorem dX1_checkMensuration_6 : decode cX1_checkMensuration 6 = .ok (.iload_n 1, 1) := by decide +kernel
theorem dX1_checkMensuration_7 : decode cX1_checkMensuration 7 = .ok (.iconst 2, 1) := by decide +kernel
theorem dX1_checkMensuration_8 : decode cX1_checkMensuration 8 = .ok (.iconst 3, 1) := by decide +kernel
theorem dX1_checkMensuration_9 : decode cX1_checkMensuration 9 = .ok (.invokestatic 38, 3) := by decide +kernel
theorem dX1_checkMensuration_12 : decode cX1_checkMensuration 12 = .ok (.iload_n 2, 1) := by decide +kernel
theorem dX1_checkMensuration_13 : decode cX1_checkMensuration 13 = .ok (.iconst 2, 1) := by decide +kernel
theorem dX1_checkMensuration_14 : decode cX1_checkMensuration 14 = .ok (.iconst 3, 1) := by decide +kernel
theorem dX1_checkMensuration_15 : decode cX1_checkMensuration 15 = .ok (.invokestatic 38, 3) := by decide +kernel
theorem dX1_checkMensuration_18 : decode cX1_checkMensuration 18 = .ok (.return_, 1) := by decide +kernel
theorem dX1_checkLigature_0 : decode cX1_checkLigature 0 = .ok (.iload_n 0, 1) := by decide +kernel
theorem dX1_checkLigature_1 : decode cX1_checkLigature 1 = .ok (.iconst 0, 1) := by decide +kernel
theorem dX1_checkLigature_2 : decode cX1_checkLigature 2 = .ok (.bipush 9, 2) := by decide +kernel
theorem dX1_checkLigature_4 : decode cX1_checkLigature 4 = .ok (.invokestatic 38, 3) := by decide +kernel
theorem dX1_checkLigature_7 : decode cX1_checkLigature 7 = .ok (.iload_n 1, 1) := by decide +kernel
theorem dX1_checkLigature_8 : decode cX1_checkLigature 8 = .ok (.iconst 0, 1) := by decide +kernel
theorem dX1_checkLigature_9 : decode cX1_checkLigature 9 = .ok (.bipush 9, 2) := by decide +kernel
theorem dX1_checkLigature_11 : decode cX1_checkLigature 11 = .ok (.invokestatic 38, 3) := by decide +kernel
theorem dX1_checkLigature_14 : decode cX1_checkLigature 14 = .ok (.iload_n 2, 1) := by decide +kernel
theorem dX1_checkLigature_15 : decode cX1_checkLigature 15 = .ok (.iconst (-1), 1) := by decide +kernel
theorem dX1_checkLigature_16 : decode cX1_checkLigature 16 = .ok (.bipush 9, 2) := by decide +kernel
theorem dX1_checkLigature_18 : decode cX1_checkLigature 18 = .ok (.invokestatic 38, 3) := by decide +kernel
theorem dX1_checkLigature_21 : decode cX1_checkLigature 21 = .ok (.iload_n 1, 1) := by decide +kernel
theorem dX1_checkLigature_22 : decode cX1_checkLigature 22 = .ok (.iload_n 0, 1) := by decide +kernel
theorem dX1_checkLigature_23 : decode cX1_checkLigature 23 = .ok (.if_icmp .eq 8, 3) := by decide +kernel
theorem dX1_checkLigature_26 : decode cX1_checkLigature 26 = .ok (.iload_n 2, 1) := by decide +kernel
theorem dX1_checkLigature_27 : decode cX1_checkLigature 27 = .ok (.iload_n 1, 1) := by decide +kernel
theorem dX1_checkLigature_28 : decode cX1_checkLigature 28 = .ok (.if_icmp .ne 13, 3) := by decide +kernel
theorem dX1_checkLigature_31 : decode cX1_checkLigature 31 = .ok (.new 179, 3) := by decide +kernel
theorem dX1_checkLigature_34 : decode cX1_checkLigature 34 = .ok (.dup, 1) := by decide +kernel
theorem dX1_checkLigature_35 : decode cX1_checkLigature 35 = .ok (.ldc 184, 2) := by decide +kernel
theorem dX1_checkLigature_37 : decode cX1_checkLigature 37 = .ok (.invokespecial 183, 3) := by decide +kernel
theorem dX1_checkLigature_40 : decode cX1_checkLigature 40 = .ok (.athrow, 1) := by decide +kernel
theorem dX1_checkLigature_41 : decode cX1_checkLigature 41 = .ok (.return_, 1) := by decide +kernel
theorem dX1_checkRoom_0 : decode cX1_checkRoom 0 = .ok (.aload_n 0, 1) := by decide +kernel
theorem dX1_checkRoom_1 : decode cX1_checkRoom 1 = .ok (.getfield 64, 3) := by decide +kernel
theorem dX1_checkRoom_4 : decode cX1_checkRoom 4 = .ok (.iload_n 1, 1) := by decide +kernel
theorem dX1_checkRoom_5 : decode cX1_checkRoom 5 = .ok (.iadd, 1) := by decide +kernel
theorem dX1_checkRoom_6 : decode cX1_checkRoom 6 = .ok (.bipush 24, 2) := by decide +kernel
theorem dX1_checkRoom_8 : decode cX1_checkRoom 8 = .ok (.if_icmp .le 13, 3) := by decide +kernel
theorem dX1_checkRoom_11 : decode cX1_checkRoom 11 = .ok (.new 24, 3) := by decide +kernel
theorem dX1_checkRoom_14 : decode cX1_checkRoom 14 = .ok (.dup, 1) := by decide +kernel
theorem dX1_checkRoom_15 : decode cX1_checkRoom 15 = .ok (.ldc 186, 2) := by decide +kernel
theorem dX1_checkRoom_17 : decode cX1_checkRoom 17 = .ok (.invokespecial 28, 3) := by decide +kernel
theorem dX1_checkRoom_20 : decode cX1_checkRoom 20 = .ok (.athrow, 1) := by decide +kernel
theorem dX1_checkRoom_21 : decode cX1_checkRoom 21 = .ok (.return_, 1) := by decide +kernel
theorem dX1_checkHasClef_0 : decode cX1_checkHasClef 0 = .ok (.aload_n 0, 1) := by decide +kernel
theorem dX1_checkHasClef_1 : decode cX1_checkHasClef 1 = .ok (.getfield 86, 3) := by decide +kernel
theorem dX1_checkHasClef_4 : decode cX1_checkHasClef 4 = .ok (.iconst (-1), 1) := by decide +kernel
theorem dX1_checkHasClef_5 : decode cX1_checkHasClef 5 = .ok (.if_icmp .ne 13, 3) := by decide +kernel
theorem dX1_checkHasClef_8 : decode cX1_checkHasClef 8 = .ok (.new 24, 3) := by decide +kernel
theorem dX1_checkHasClef_11 : decode cX1_checkHasClef 11 = .ok (.dup, 1) := by decide +kernel
theorem dX1_checkHasClef_12 : decode cX1_checkHasClef 12 = .ok (.ldc 188, 2) := by decide +kernel
theorem dX1_checkHasClef_14 : decode cX1_checkHasClef 14 = .ok (.invokespecial 28, 3) := by decide +kernel
theorem dX1_checkHasClef_17 : decode cX1_checkHasClef 17 = .ok (.athrow, 1) := by decide +kernel
theorem dX1_checkHasClef_18 : decode cX1_checkHasClef 18 = .ok (.return_, 1) := by decide +kernel
theorem dX1_firstKind_0 : decode cX1_firstKind 0 = .ok (.iload_n 2, 1) := by decide +kernel
theorem dX1_firstKind_1 : decode cX1_firstKind 1 = .ok (.ifCond .eq 7, 3) := by decide +kernel
theorem dX1_firstKind_4 : decode cX1_firstKind 4 = .ok (.iconst 2, 1) := by decide +kernel
theorem dX1_firstKind_5 : decode cX1_firstKind 5 = .ok (.goto 8, 3) := by decide +kernel
theorem dX1_firstKind_8 : decode cX1_firstKind 8 = .ok (.iload_n 0, 1) := by decide +kernel
theorem dX1_firstKind_9 : decode cX1_firstKind 9 = .ok (.iload_n 1, 1) := by decide +kernel
theorem dX1_firstKind_10 : decode cX1_firstKind 10 = .ok (.invokestatic 60, 3) := by decide +kernel
theorem dX1_firstKind_13 : decode cX1_firstKind 13 = .ok (.ireturn, 1) := by decide +kernel
theorem dX1_secondKind_0 : decode cX1_secondKind 0 = .ok (.iload_n 3, 1) := by decide +kernel
theorem dX1_secondKind_1 : decode cX1_secondKind 1 = .ok (.ifCond .eq 5, 3) := by decide +kernel
theorem dX1_secondKind_4 : decode cX1_secondKind 4 = .ok (.iconst 2, 1) := by decide +kernel
theorem dX1_secondKind_5 : decode cX1_secondKind 5 = .ok (.ireturn, 1) := by decide +kernel
theorem dX1_secondKind_6 : decode cX1_secondKind 6 = .ok (.iload_n 2, 1) := by decide +kernel
theorem dX1_secondKind_7 : decode cX1_secondKind 7 = .ok (.ifCond .eq 7, 3) := by decide +kernel
theorem dX1_secondKind_10 : decode cX1_secondKind 10 = .ok (.iconst 1, 1) := by decide +kernel
theorem dX1_secondKind_11 : decode cX1_secondKind 11 = .ok (.goto 8, 3) := by decide +kernel
theorem dX1_secondKind_14 : decode cX1_secondKind 14 = .ok (.iload_n 0, 1) := by decide +kernel
theorem dX1_secondKind_15 : decode cX1_secondKind 15 = .ok (.iload_n 1, 1) := by decide +kernel
theorem dX1_secondKind_16 : decode cX1_secondKind 16 = .ok (.invokestatic 60, 3) := by decide +kernel
theorem dX1_secondKind_19 : decode cX1_secondKind 19 = .ok (.ireturn, 1) := by decide +kernel
theorem dX1_lastKind_0 : decode cX1_lastKind 0 = .ok (.iload_n 1, 1) := by decide +kernel
theorem dX1_lastKind_1 : decode cX1_lastKind 1 = .ok (.iload_n 0, 1) := by decide +kernel
theorem dX1_lastKind_2 : decode cX1_lastKind 2 = .ok (.if_icmp .ge 7, 3) := by decide +kernel
theorem dX1_lastKind_5 : decode cX1_lastKind 5 = .ok (.iconst 0, 1) := by decide +kernel
theorem dX1_lastKind_6 : decode cX1_lastKind 6 = .ok (.goto 4, 3) := by decide +kernel
theorem dX1_lastKind_9 : decode cX1_lastKind 9 = .ok (.iconst 1, 1) := by decide +kernel
theorem dX1_lastKind_10 : decode cX1_lastKind 10 = .ok (.ireturn, 1) := by decide +kernel
theorem dX1_clashingMinims_0 : decode cX1_clashingMinims 0 = .ok (.iconst 0, 1) := by decide +kernel
theorem dX1_clashingMinims_1 : decode cX1_clashingMinims 1 = .ok (.istore 4, 2) := by decide +kernel
theorem dX1_clashingMinims_3 : decode cX1_clashingMinims 3 = .ok (.iconst 0, 1) := by decide +kernel
theorem dX1_clashingMinims_4 : decode cX1_clashingMinims 4 = .ok (.istore 5, 2) := by decide +kernel
theorem dX1_clashingMinims_6 : decode cX1_clashingMinims 6 = .ok (.iconst 0, 1) := by decide +kernel
theorem dX1_clashingMinims_7 : decode cX1_clashingMinims 7 = .ok (.istore 6, 2) := by decide +kernel
theorem dX1_clashingMinims_9 : decode cX1_clashingMinims 9 = .ok (.iload 5, 2) := by decide +kernel
theorem dX1_clashingMinims_11 : decode cX1_clashingMinims 11 = .ok (.aload_n 0, 1) := by decide +kernel
theorem dX1_clashingMinims_12 : decode cX1_clashingMinims 12 = .ok (.getfield 64, 3) := by decide +kernel
theorem dX1_clashingMinims_15 : decode cX1_clashingMinims 15 = .ok (.if_icmp .ge 115, 3) := by decide +kernel
theorem dX1_clashingMinims_18 : decode cX1_clashingMinims 18 = .ok (.iload 6, 2) := by decide +kernel
theorem dX1_clashingMinims_20 : decode cX1_clashingMinims 20 = .ok (.aload_n 1, 1) := by decide +kernel
theorem dX1_clashingMinims_21 : decode cX1_clashingMinims 21 = .ok (.getfield 64, 3) := by decide +kernel
theorem dX1_clashingMinims_24 : decode cX1_clashingMinims 24 = .ok (.if_icmp .ge 106, 3) := by decide +kernel
theorem dX1_clashingMinims_27 : decode cX1_clashingMinims 27 = .ok (.aload_n 0, 1) := by decide +kernel
theorem dX1_clashingMinims_28 : decode cX1_clashingMinims 28 = .ok (.getfield 116, 3) := by decide +kernel
theorem dX1_clashingMinims_31 : decode cX1_clashingMinims 31 = .ok (.iload 5, 2) := by decide +kernel
theorem dX1_clashingMinims_33 : decode cX1_clashingMinims 33 = .ok (.iconst 1, 1) := by decide +kernel
theorem dX1_clashingMinims_34 : decode cX1_clashingMinims 34 = .ok (.iadd, 1) := by decide +kernel
theorem dX1_clashingMinims_35 : decode cX1_clashingMinims 35 = .ok (.iaload, 1) := by decide +kernel
theorem dX1_clashingMinims_36 : decode cX1_clashingMinims 36 = .ok (.istore 7, 2) := by decide +kernel
theorem dX1_clashingMinims_38 : decode cX1_clashingMinims 38 = .ok (.aload_n 1, 1) := by decide +kernel
theorem dX1_clashingMinims_39 : decode cX1_clashingMinims 39 = .ok (.getfield 116, 3) := by decide +kernel
theorem dX1_clashingMinims_42 : decode cX1_clashingMinims 42 = .ok (.iload 6, 2) := by decide +kernel
theorem dX1_clashingMinims_44 : decode cX1_clashingMinims 44 = .ok (.iconst 1, 1) := by decide +kernel
theorem dX1_clashingMinims_45 : decode cX1_clashingMinims 45 = .ok (.iadd, 1) := by decide +kernel
theorem dX1_clashingMinims_46 : decode cX1_clashingMinims 46 = .ok (.iaload, 1) := by decide +kernel
theorem dX1_clashingMinims_47 : decode cX1_clashingMinims 47 = .ok (.iload_n 2, 1) := by decide +kernel
theorem dX1_clashingMinims_48 : decode cX1_clashingMinims 48 = .ok (.iadd, 1) := by decide +kernel
theorem dX1_clashingMinims_49 : decode cX1_clashingMinims 49 = .ok (.istore 8, 2) := by decide +kernel
theorem dX1_clashingMinims_51 : decode cX1_clashingMinims 51 = .ok (.aload_n 0, 1) := by decide +kernel
theorem dX1_clashingMinims_52 : decode cX1_clashingMinims 52 = .ok (.getfield 116, 3) := by decide +kernel
theorem dX1_clashingMinims_55 : decode cX1_clashingMinims 55 = .ok (.iload 5, 2) := by decide +kernel
theorem dX1_clashingMinims_57 : decode cX1_clashingMinims 57 = .ok (.iaload, 1) := by decide +kernel
theorem dX1_clashingMinims_58 : decode cX1_clashingMinims 58 = .ok (.aload_n 1, 1) := by decide +kernel
theorem dX1_clashingMinims_59 : decode cX1_clashingMinims 59 = .ok (.getfield 116, 3) := by decide +kernel
theorem dX1_clashingMinims_62 : decode cX1_clashingMinims 62 = .ok (.iload 6, 2) := by decide +kernel
theorem dX1_clashingMinims_64 : decode cX1_clashingMinims 64 = .ok (.iaload, 1) := by decide +kernel
theorem dX1_clashingMinims_65 : decode cX1_clashingMinims 65 = .ok (.iload_n 2, 1) := by decide +kernel
theorem dX1_clashingMinims_66 : decode cX1_clashingMinims 66 = .ok (.iadd, 1) := by decide +kernel
theorem dX1_clashingMinims_67 : decode cX1_clashingMinims 67 = .ok (.invokestatic 119, 3) := by decide +kernel
theorem dX1_clashingMinims_70 : decode cX1_clashingMinims 70 = .ok (.istore 9, 2) := by decide +kernel
theorem dX1_clashingMinims_72 : decode cX1_clashingMinims 72 = .ok (.iload 7, 2) := by decide +kernel
theorem dX1_clashingMinims_74 : decode cX1_clashingMinims 74 = .ok (.iload 8, 2) := by decide +kernel
theorem dX1_clashingMinims_76 : decode cX1_clashingMinims 76 = .ok (.invokestatic 190, 3) := by decide +kernel
theorem dX1_clashingMinims_79 : decode cX1_clashingMinims 79 = .ok (.istore 10, 2) := by decide +kernel
theorem dX1_clashingMinims_81 : decode cX1_clashingMinims 81 = .ok (.iload 9, 2) := by decide +kernel
theorem dX1_clashingMinims_83 : decode cX1_clashingMinims 83 = .ok (.iload 10, 2) := by decide +kernel
theorem dX1_clashingMinims_85 : decode cX1_clashingMinims 85 = .ok (.if_icmp .ge 26, 3) := by decide +kernel
theorem dX1_clashingMinims_88 : decode cX1_clashingMinims 88 = .ok (.aload_n 0, 1) := by decide +kernel
theorem dX1_clashingMinims_89 : decode cX1_clashingMinims 89 = .ok (.iload 5, 2) := by decide +kernel
theorem dX1_clashingMinims_91 : decode cX1_clashingMinims 91 = .ok (.aload_n 1, 1) := by decide +kernel
theorem dX1_clashingMinims_92 : decode cX1_clashingMinims 92 = .ok (.iload 6, 2) := by decide +kernel
theorem dX1_clashingMinims_94 : decode cX1_clashingMinims 94 = .ok (.iload_n 3, 1) := by decide +kernel
theorem dX1_clashingMinims_95 : decode cX1_clashingMinims 95 = .ok (.invokestatic 193, 3) := by decide +kernel
theorem dX1_clashingMinims_98 : decode cX1_clashingMinims 98 = .ok (.ifCond .eq 13, 3) := by decide +kernel
theorem dX1_clashingMinims_101 : decode cX1_clashingMinims 101 = .ok (.iload 4, 2) := by decide +kernel
theorem dX1_clashingMinims_103 : decode cX1_clashingMinims 103 = .ok (.iload 10, 2) := by decide +kernel
theorem dX1_clashingMinims_105 : decode cX1_clashingMinims 105 = .ok (.iload 9, 2) := by decide +kernel
theorem dX1_clashingMinims_107 : decode cX1_clashingMinims 107 = .ok (.isub, 1) := by decide +kernel
theorem dX1_clashingMinims_108 : decode cX1_clashingMinims 108 = .ok (.iadd, 1) := by decide +kernel
theorem dX1_clashingMinims_109 : decode cX1_clashingMinims 109 = .ok (.istore 4, 2) := by decide +kernel
theorem dX1_clashingMinims_111 : decode cX1_clashingMinims 111 = .ok (.iload 7, 2) := by decide +kernel
theorem dX1_clashingMinims_113 : decode cX1_clashingMinims 113 = .ok (.iload 8, 2) := by decide +kernel
theorem dX1_clashingMinims_115 : decode cX1_clashingMinims 115 = .ok (.if_icmp .gt 9, 3) := by decide +kernel
theorem dX1_clashingMinims_118 : decode cX1_clashingMinims 118 = .ok (.iinc 5 1, 3) := by decide +kernel
theorem dX1_clashingMinims_121 : decode cX1_clashingMinims 121 = .ok (.goto 6, 3) := by decide +kernel
theorem dX1_clashingMinims_124 : decode cX1_clashingMinims 124 = .ok (.iinc 6 1, 3) := by decide +kernel
theorem dX1_clashingMinims_127 : decode cX1_clashingMinims 127 = .ok (.goto (-118), 3) := by decide +kernel
theorem dX1_clashingMinims_130 : decode cX1_clashingMinims 130 = .ok (.iload 4, 2) := by decide +kernel
theorem dX1_clashingMinims_132 : decode cX1_clashingMinims 132 = .ok (.ireturn, 1) := by decide +kernel
theorem dX1_firstClashingMinim_0 : decode cX1_firstClashingMinim 0 = .ok (.iconst 0, 1) := by decide +kernel
theorem dX1_firstClashingMinim_1 : decode cX1_firstClashingMinim 1 = .ok (.istore_n 3, 1) := by decide +kernel
theorem dX1_firstClashingMinim_2 : decode cX1_firstClashingMinim 2 = .ok (.iconst 0, 1) := by decide +kernel
theorem dX1_firstClashingMinim_3 : decode cX1_firstClashingMinim 3 = .ok (.istore 4, 2) := by decide +kernel
theorem dX1_firstClashingMinim_5 : decode cX1_firstClashingMinim 5 = .ok (.iload_n 3, 1) := by decide +kernel
theorem dX1_firstClashingMinim_6 : decode cX1_firstClashingMinim 6 = .ok (.aload_n 0, 1) := by decide +kernel
theorem dX1_firstClashingMinim_7 : decode cX1_firstClashingMinim 7 = .ok (.getfield 64, 3) := by decide +kernel
theorem dX1_firstClashingMinim_10 : decode cX1_firstClashingMinim 10 = .ok (.if_icmp .ge 101, 3) := by decide +kernel
theorem dX1_firstClashingMinim_13 : decode cX1_firstClashingMinim 13 = .ok (.iload 4, 2) := by decide +kernel
theorem dX1_firstClashingMinim_15 : decode cX1_firstClashingMinim 15 = .ok (.aload_n 1, 1) := by decide +kernel
theorem dX1_firstClashingMinim_16 : decode cX1_firstClashingMinim 16 = .ok (.getfield 64, 3) := by decide +kernel
theorem dX1_firstClashingMinim_19 : decode cX1_firstClashingMinim 19 = .ok (.if_icmp .ge 92, 3) := by decide +kernel
theorem dX1_firstClashingMinim_22 : decode cX1_firstClashingMinim 22 = .ok (.aload_n 0, 1) := by decide +kernel
theorem dX1_firstClashingMinim_23 : decode cX1_firstClashingMinim 23 = .ok (.getfield 116, 3) := by decide +kernel
theorem dX1_firstClashingMinim_26 : decode cX1_firstClashingMinim 26 = .ok (.iload_n 3, 1) := by decide +kernel
theorem dX1_firstClashingMinim_27 : decode cX1_firstClashingMinim 27 = .ok (.iconst 1, 1) := by decide +kernel
theorem dX1_firstClashingMinim_28 : decode cX1_firstClashingMinim 28 = .ok (.iadd, 1) := by decide +kernel
theorem dX1_firstClashingMinim_29 : decode cX1_firstClashingMinim 29 = .ok (.iaload, 1) := by decide +kernel
theorem dX1_firstClashingMinim_30 : decode cX1_firstClashingMinim 30 = .ok (.istore 5, 2) := by decide +kernel
theorem dX1_firstClashingMinim_32 : decode cX1_firstClashingMinim 32 = .ok (.aload_n 1, 1) := by decide +kernel
theorem dX1_firstClashingMinim_33 : decode cX1_firstClashingMinim 33 = .ok (.getfield 116, 3) := by decide +kernel
theorem dX1_firstClashingMinim_36 : decode cX1_firstClashingMinim 36 = .ok (.iload 4, 2) := by decide +kernel
theorem dX1_firstClashingMinim_38 : decode cX1_firstClashingMinim 38 = .ok (.iconst 1, 1) := by decide +kernel
theorem dX1_firstClashingMinim_39 : decode cX1_firstClashingMinim 39 = .ok (.iadd, 1) := by decide +kernel
theorem dX1_firstClashingMinim_40 : decode cX1_firstClashingMinim 40 = .ok (.iaload, 1) := by decide +kernel
theorem dX1_firstClashingMinim_41 : decode cX1_firstClashingMinim 41 = .ok (.istore 6, 2) := by decide +kernel
theorem dX1_firstClashingMinim_43 : decode cX1_firstClashingMinim 43 = .ok (.aload_n 0, 1) := by decide +kernel
theorem dX1_firstClashingMinim_44 : decode cX1_firstClashingMinim 44 = .ok (.getfield 116, 3) := by decide +kernel
theorem dX1_firstClashingMinim_47 : decode cX1_firstClashingMinim 47 = .ok (.iload_n 3, 1) := by decide +kernel
theorem dX1_firstClashingMinim_48 : decode cX1_firstClashingMinim 48 = .ok (.iaload, 1) := by decide +kernel
theorem dX1_firstClashingMinim_49 : decode cX1_firstClashingMinim 49 = .ok (.aload_n 1, 1) := by decide +kernel
theorem dX1_firstClashingMinim_50 : decode cX1_firstClashingMinim 50 = .ok (.getfield 116, 3) := by decide +kernel
theorem dX1_firstClashingMinim_53 : decode cX1_firstClashingMinim 53 = .ok (.iload 4, 2) := by decide +kernel
theorem dX1_firstClashingMinim_55 : decode cX1_firstClashingMinim 55 = .ok (.iaload, 1) := by decide +kernel
theorem dX1_firstClashingMinim_56 : decode cX1_firstClashingMinim 56 = .ok (.invokestatic 119, 3) := by decide +kernel
theorem dX1_firstClashingMinim_59 : decode cX1_firstClashingMinim 59 = .ok (.istore 7, 2) := by decide +kernel
theorem dX1_firstClashingMinim_61 : decode cX1_firstClashingMinim 61 = .ok (.iload 5, 2) := by decide +kernel
theorem dX1_firstClashingMinim_63 : decode cX1_firstClashingMinim 63 = .ok (.iload 6, 2) := by decide +kernel
theorem dX1_firstClashingMinim_65 : decode cX1_firstClashingMinim 65 = .ok (.invokestatic 190, 3) := by decide +kernel
theorem dX1_firstClashingMinim_68 : decode cX1_firstClashingMinim 68 = .ok (.istore 8, 2) := by decide +kernel
theorem dX1_firstClashingMinim_70 : decode cX1_firstClashingMinim 70 = .ok (.iload 7, 2) := by decide +kernel
theorem dX1_firstClashingMinim_72 : decode cX1_firstClashingMinim 72 = .ok (.iload 8, 2) := by decide +kernel
theorem dX1_firstClashingMinim_74 : decode cX1_firstClashingMinim 74 = .ok (.if_icmp .ge 18, 3) := by decide +kernel
theorem dX1_firstClashingMinim_77 : decode cX1_firstClashingMinim 77 = .ok (.aload_n 0, 1) := by decide +kernel
theorem dX1_firstClashingMinim_78 : decode cX1_firstClashingMinim 78 = .ok (.iload_n 3, 1) := by decide +kernel
theorem dX1_firstClashingMinim_79 : decode cX1_firstClashingMinim 79 = .ok (.aload_n 1, 1) := by decide +kernel
theorem dX1_firstClashingMinim_80 : decode cX1_firstClashingMinim 80 = .ok (.iload 4, 2) := by decide +kernel
theorem dX1_firstClashingMinim_82 : decode cX1_firstClashingMinim 82 = .ok (.iload_n 2, 1) := by decide +kernel
theorem dX1_firstClashingMinim_83 : decode cX1_firstClashingMinim 83 = .ok (.invokestatic 193, 3) := by decide +kernel
theorem dX1_firstClashingMinim_86 : decode cX1_firstClashingMinim 86 = .ok (.ifCond .eq 6, 3) := by decide +kernel
theorem dX1_firstClashingMinim_89 : decode cX1_firstClashingMinim 89 = .ok (.iload 7, 2) := by decide +kernel
theorem dX1_firstClashingMinim_91 : decode cX1_firstClashingMinim 91 = .ok (.ireturn, 1) := by decide +kernel
theorem dX1_firstClashingMinim_92 : decode cX1_firstClashingMinim 92 = .ok (.iload 5, 2) := by decide +kernel
theorem dX1_firstClashingMinim_94 : decode cX1_firstClashingMinim 94 = .ok (.iload 6, 2) := by decide +kernel
theorem dX1_firstClashingMinim_96 : decode cX1_firstClashingMinim 96 = .ok (.if_icmp .gt 9, 3) := by decide +kernel
theorem dX1_firstClashingMinim_99 : decode cX1_firstClashingMinim 99 = .ok (.iinc 3 1, 3) := by decide +kernel
theorem dX1_firstClashingMinim_102 : decode cX1_firstClashingMinim 102 = .ok (.goto 6, 3) := by decide +kernel
theorem dX1_firstClashingMinim_105 : decode cX1_firstClashingMinim 105 = .ok (.iinc 4 1, 3) := by decide +kernel
theorem dX1_firstClashingMinim_108 : decode cX1_firstClashingMinim 108 = .ok (.goto (-103), 3) := by decide +kernel
theorem dX1_firstClashingMinim_111 : decode cX1_firstClashingMinim 111 = .ok (.iconst (-1), 1) := by decide +kernel
theorem dX1_firstClashingMinim_112 : decode cX1_firstClashingMinim 112 = .ok (.ireturn, 1) := by decide +kernel
theorem dX1_signsClash_0 : decode cX1_signsClash 0 = .ok (.aload_n 0, 1) := by decide +kernel
theorem dX1_signsClash_1 : decode cX1_signsClash 1 = .ok (.iload_n 1, 1) := by decide +kernel
theorem dX1_signsClash_2 : decode cX1_signsClash 2 = .ok (.invokevirtual 77, 3) := by decide +kernel
theorem dX1_signsClash_5 : decode cX1_signsClash 5 = .ok (.ifCond .ne 11, 3) := by decide +kernel
theorem dX1_signsClash_8 : decode cX1_signsClash 8 = .ok (.aload_n 2, 1) := by decide +kernel
theorem dX1_signsClash_9 : decode cX1_signsClash 9 = .ok (.iload_n 3, 1) := by decide +kernel
theorem dX1_signsClash_10 : decode cX1_signsClash 10 = .ok (.invokevirtual 77, 3) := by decide +kernel
theorem dX1_signsClash_13 : decode cX1_signsClash 13 = .ok (.ifCond .eq 5, 3) := by decide +kernel
theorem dX1_signsClash_16 : decode cX1_signsClash 16 = .ok (.iconst 0, 1) := by decide +kernel
theorem dX1_signsClash_17 : decode cX1_signsClash 17 = .ok (.ireturn, 1) := by decide +kernel
theorem dX1_signsClash_18 : decode cX1_signsClash 18 = .ok (.aload_n 0, 1) := by decide +kernel
theorem dX1_signsClash_19 : decode cX1_signsClash 19 = .ok (.getfield 102, 3) := by decide +kernel
theorem dX1_signsClash_22 : decode cX1_signsClash 22 = .ok (.iload_n 1, 1) := by decide +kernel
theorem dX1_signsClash_23 : decode cX1_signsClash 23 = .ok (.iaload, 1) := by decide +kernel
theorem dX1_signsClash_24 : decode cX1_signsClash 24 = .ok (.aload_n 2, 1) := by decide +kernel
theorem dX1_signsClash_25 : decode cX1_signsClash 25 = .ok (.getfield 102, 3) := by decide +kernel
theorem dX1_signsClash_28 : decode cX1_signsClash 28 = .ok (.iload_n 3, 1) := by decide +kernel
theorem dX1_signsClash_29 : decode cX1_signsClash 29 = .ok (.iaload, 1) := by decide +kernel
theorem dX1_signsClash_30 : decode cX1_signsClash 30 = .ok (.isub, 1) := by decide +kernel
theorem dX1_signsClash_31 : decode cX1_signsClash 31 = .ok (.iload 4, 2) := by decide +kernel
theorem dX1_signsClash_33 : decode cX1_signsClash 33 = .ok (.isub, 1) := by decide +kernel
theorem dX1_signsClash_34 : decode cX1_signsClash 34 = .ok (.invokestatic 197, 3) := by decide +kernel
theorem dX1_signsClash_37 : decode cX1_signsClash 37 = .ok (.bipush 7, 2) := by decide +kernel
theorem dX1_signsClash_39 : decode cX1_signsClash 39 = .ok (.irem, 1) := by decide +kernel
theorem dX1_signsClash_40 : decode cX1_signsClash 40 = .ok (.istore 5, 2) := by decide +kernel
theorem dX1_signsClash_42 : decode cX1_signsClash 42 = .ok (.iload 5, 2) := by decide +kernel
theorem dX1_signsClash_44 : decode cX1_signsClash 44 = .ok (.iconst 1, 1) := by decide +kernel
theorem dX1_signsClash_45 : decode cX1_signsClash 45 = .ok (.if_icmp .eq 16, 3) := by decide +kernel
theorem dX1_signsClash_48 : decode cX1_signsClash 48 = .ok (.iload 5, 2) := by decide +kernel
theorem dX1_signsClash_50 : decode cX1_signsClash 50 = .ok (.iconst 3, 1) := by decide +kernel
theorem dX1_signsClash_51 : decode cX1_signsClash 51 = .ok (.if_icmp .eq 10, 3) := by decide +kernel
theorem dX1_signsClash_54 : decode cX1_signsClash 54 = .ok (.iload 5, 2) := by decide +kernel
theorem dX1_signsClash_56 : decode cX1_signsClash 56 = .ok (.bipush 6, 2) := by decide +kernel
theorem dX1_signsClash_58 : decode cX1_signsClash 58 = .ok (.if_icmp .ne 7, 3) := by decide +kernel
theorem dX1_signsClash_61 : decode cX1_signsClash 61 = .ok (.iconst 1, 1) := by decide +kernel
theorem dX1_signsClash_62 : decode cX1_signsClash 62 = .ok (.goto 4, 3) := by decide +kernel
theorem dX1_signsClash_65 : decode cX1_signsClash 65 = .ok (.iconst 0, 1) := by decide +kernel
theorem dX1_signsClash_66 : decode cX1_signsClash 66 = .ok (.ireturn, 1) := by decide +kernel
theorem dX1_clashesIfClef_0 : decode cX1_clashesIfClef 0 = .ok (.iconst 0, 1) := by decide +kernel
theorem dX1_clashesIfClef_1 : decode cX1_clashesIfClef 1 = .ok (.istore_n 3, 1) := by decide +kernel
theorem dX1_clashesIfClef_2 : decode cX1_clashesIfClef 2 = .ok (.iconst 0, 1) := by decide +kernel
theorem dX1_clashesIfClef_3 : decode cX1_clashesIfClef 3 = .ok (.istore 4, 2) := by decide +kernel
theorem dX1_clashesIfClef_5 : decode cX1_clashesIfClef 5 = .ok (.iload 4, 2) := by decide +kernel
theorem dX1_clashesIfClef_7 : decode cX1_clashesIfClef 7 = .ok (.aload_n 0, 1) := by decide +kernel
theorem dX1_clashesIfClef_8 : decode cX1_clashesIfClef 8 = .ok (.getfield 20, 3) := by decide +kernel
theorem dX1_clashesIfClef_11 : decode cX1_clashesIfClef 11 = .ok (.if_icmp .ge 52, 3) := by decide +kernel
theorem dX1_clashesIfClef_14 : decode cX1_clashesIfClef 14 = .ok (.aload_n 0, 1) := by decide +kernel
theorem dX1_clashesIfClef_15 : decode cX1_clashesIfClef 15 = .ok (.getfield 11, 3) := by decide +kernel
theorem dX1_clashesIfClef_18 : decode cX1_clashesIfClef 18 = .ok (.iload 4, 2) := by decide +kernel
theorem dX1_clashesIfClef_20 : decode cX1_clashesIfClef 20 = .ok (.aaload, 1) := by decide +kernel
theorem dX1_clashesIfClef_21 : decode cX1_clashesIfClef 21 = .ok (.astore 5, 2) := by decide +kernel
theorem dX1_clashesIfClef_23 : decode cX1_clashesIfClef 23 = .ok (.aload 5, 2) := by decide +kernel
theorem dX1_clashesIfClef_25 : decode cX1_clashesIfClef 25 = .ok (.aload_n 1, 1) := by decide +kernel
theorem dX1_clashesIfClef_26 : decode cX1_clashesIfClef 26 = .ok (.if_acmp .eq 31, 3) := by decide +kernel
theorem dX1_clashesIfClef_29 : decode cX1_clashesIfClef 29 = .ok (.aload 5, 2) := by decide +kernel
theorem dX1_clashesIfClef_31 : decode cX1_clashesIfClef 31 = .ok (.getfield 86, 3) := by decide +kernel
theorem dX1_clashesIfClef_34 : decode cX1_clashesIfClef 34 = .ok (.iconst (-1), 1) := by decide +kernel
theorem dX1_clashesIfClef_35 : decode cX1_clashesIfClef 35 = .ok (.if_icmp .eq 22, 3) := by decide +kernel
theorem dX1_clashesIfClef_38 : decode cX1_clashesIfClef 38 = .ok (.iload_n 3, 1) := by decide +kernel
theorem dX1_clashesIfClef_39 : decode cX1_clashesIfClef 39 = .ok (.aload_n 1, 1) := by decide +kernel
theorem dX1_clashesIfClef_40 : decode cX1_clashesIfClef 40 = .ok (.aload 5, 2) := by decide +kernel
theorem dX1_clashesIfClef_42 : decode cX1_clashesIfClef 42 = .ok (.iconst 0, 1) := by decide +kernel
theorem dX1_clashesIfClef_43 : decode cX1_clashesIfClef 43 = .ok (.iconst 2, 1) := by decide +kernel
theorem dX1_clashesIfClef_44 : decode cX1_clashesIfClef 44 = .ok (.aload 5, 2) := by decide +kernel
theorem dX1_clashesIfClef_46 : decode cX1_clashesIfClef 46 = .ok (.getfield 86, 3) := by decide +kernel
theorem dX1_clashesIfClef_49 : decode cX1_clashesIfClef 49 = .ok (.iload_n 2, 1) := by decide +kernel
theorem dX1_clashesIfClef_50 : decode cX1_clashesIfClef 50 = .ok (.isub, 1) := by decide +kernel
theorem dX1_clashesIfClef_51 : decode cX1_clashesIfClef 51 = .ok (.imul, 1) := by decide +kernel
theorem dX1_clashesIfClef_52 : decode cX1_clashesIfClef 52 = .ok (.invokestatic 140, 3) := by decide +kernel
theorem dX1_clashesIfClef_55 : decode cX1_clashesIfClef 55 = .ok (.iadd, 1) := by decide +kernel
theorem dX1_clashesIfClef_56 : decode cX1_clashesIfClef 56 = .ok (.istore_n 3, 1) := by decide +kernel
theorem dX1_clashesIfClef_57 : decode cX1_clashesIfClef 57 = .ok (.iinc 4 1, 3) := by decide +kernel
theorem dX1_clashesIfClef_60 : decode cX1_clashesIfClef 60 = .ok (.goto (-55), 3) := by decide +kernel
theorem dX1_clashesIfClef_63 : decode cX1_clashesIfClef 63 = .ok (.iload_n 3, 1) := by decide +kernel
theorem dX1_clashesIfClef_64 : decode cX1_clashesIfClef 64 = .ok (.ireturn, 1) := by decide +kernel
theorem dX1_clefWithFewestClashes_0 : decode cX1_clefWithFewestClashes 0 = .ok (.iconst (-1), 1) := by decide +kernel
theorem dX1_clefWithFewestClashes_1 : decode cX1_clefWithFewestClashes 1 = .ok (.istore_n 2, 1) := by decide +kernel
theorem dX1_clefWithFewestClashes_2 : decode cX1_clefWithFewestClashes 2 = .ok (.ldc 126, 2) := by decide +kernel
theorem dX1_clefWithFewestClashes_4 : decode cX1_clefWithFewestClashes 4 = .ok (.istore_n 3, 1) := by decide +kernel
theorem dX1_clefWithFewestClashes_5 : decode cX1_clefWithFewestClashes 5 = .ok (.iconst 0, 1) := by decide +kernel
theorem dX1_clefWithFewestClashes_6 : decode cX1_clefWithFewestClashes 6 = .ok (.istore 4, 2) := by decide +kernel
theorem dX1_clefWithFewestClashes_8 : decode cX1_clefWithFewestClashes 8 = .ok (.iload 4, 2) := by decide +kernel
theorem dX1_clefWithFewestClashes_10 : decode cX1_clefWithFewestClashes 10 = .ok (.iconst 5, 1) := by decide +kernel
theorem dX1_clefWithFewestClashes_11 : decode cX1_clefWithFewestClashes 11 = .ok (.if_icmp .gt 39, 3) := by decide +kernel
theorem dX1_clefWithFewestClashes_14 : decode cX1_clefWithFewestClashes 14 = .ok (.aload_n 1, 1) := by decide +kernel
theorem dX1_clefWithFewestClashes_15 : decode cX1_clefWithFewestClashes 15 = .ok (.iload 4, 2) := by decide +kernel
theorem dX1_clefWithFewestClashes_17 : decode cX1_clefWithFewestClashes 17 = .ok (.invokevirtual 134, 3) := by decide +kernel
theorem dX1_clefWithFewestClashes_20 : decode cX1_clefWithFewestClashes 20 = .ok (.ifCond .eq 24, 3) := by decide +kernel
theorem dX1_clefWithFewestClashes_23 : decode cX1_clefWithFewestClashes 23 = .ok (.aload_n 0, 1) := by decide +kernel
theorem dX1_clefWithFewestClashes_24 : decode cX1_clefWithFewestClashes 24 = .ok (.aload_n 1, 1) := by decide +kernel
theorem dX1_clefWithFewestClashes_25 : decode cX1_clefWithFewestClashes 25 = .ok (.iload 4, 2) := by decide +kernel
theorem dX1_clefWithFewestClashes_27 : decode cX1_clefWithFewestClashes 27 = .ok (.invokevirtual 148, 3) := by decide +kernel
theorem dX1_clefWithFewestClashes_30 : decode cX1_clefWithFewestClashes 30 = .ok (.istore 5, 2) := by decide +kernel
theorem dX1_clefWithFewestClashes_32 : decode cX1_clefWithFewestClashes 32 = .ok (.iload 5, 2) := by decide +kernel
theorem dX1_clefWithFewestClashes_34 : decode cX1_clefWithFewestClashes 34 = .ok (.iload_n 3, 1) := by decide +kernel
theorem dX1_clefWithFewestClashes_35 : decode cX1_clefWithFewestClashes 35 = .ok (.if_icmp .ge 9, 3) := by decide +kernel
theorem dX1_clefWithFewestClashes_38 : decode cX1_clefWithFewestClashes 38 = .ok (.iload 4, 2) := by decide +kernel
theorem dX1_clefWithFewestClashes_40 : decode cX1_clefWithFewestClashes 40 = .ok (.istore_n 2, 1) := by decide +kernel
theorem dX1_clefWithFewestClashes_41 : decode cX1_clefWithFewestClashes 41 = .ok (.iload 5, 2) := by decide +kernel
theorem dX1_clefWithFewestClashes_43 : decode cX1_clefWithFewestClashes 43 = .ok (.istore_n 3, 1) := by decide +kernel
theorem dX1_clefWithFewestClashes_44 : decode cX1_clefWithFewestClashes 44 = .ok (.iinc 4 1, 3) := by decide +kernel
theorem dX1_clefWithFewestClashes_47 : decode cX1_clefWithFewestClashes 47 = .ok (.goto (-39), 3) := by decide +kernel
theorem dX1_clefWithFewestClashes_50 : decode cX1_clefWithFewestClashes 50 = .ok (.iload_n 2, 1) := by decide +kernel
theorem dX1_clefWithFewestClashes_51 : decode cX1_clefWithFewestClashes 51 = .ok (.ireturn, 1) := by decide +kernel
theorem dX1_delayWithFewestClashes_0 : decode cX1_delayWithFewestClashes 0 = .ok (.iconst (-1), 1) := by decide +kernel
theorem dX1_delayWithFewestClashes_1 : decode cX1_delayWithFewestClashes 1 = .ok (.istore_n 2, 1) := by decide +kernel
theorem dX1_delayWithFewestClashes_2 : decode cX1_delayWithFewestClashes 2 = .ok (.ldc 126, 2) := by decide +kernel
theorem dX1_delayWithFewestClashes_4 : decode cX1_delayWithFewestClashes 4 = .ok (.istore_n 3, 1) := by decide +kernel
theorem dX1_delayWithFewestClashes_5 : decode cX1_delayWithFewestClashes 5 = .ok (.iconst 1, 1) := by decide +kernel
theorem dX1_delayWithFewestClashes_6 : decode cX1_delayWithFewestClashes 6 = .ok (.istore 4, 2) := by decide +kernel
theorem dX1_delayWithFewestClashes_8 : decode cX1_delayWithFewestClashes 8 = .ok (.iload 4, 2) := by decide +kernel
theorem dX1_delayWithFewestClashes_10 : decode cX1_delayWithFewestClashes 10 = .ok (.bipush 48, 2) := by decide +kernel
theorem dX1_delayWithFewestClashes_12 : decode cX1_delayWithFewestClashes 12 = .ok (.if_icmp .gt 31, 3) := by decide +kernel
theorem dX1_delayWithFewestClashes_15 : decode cX1_delayWithFewestClashes 15 = .ok (.aload_n 0, 1) := by decide +kernel
theorem dX1_delayWithFewestClashes_16 : decode cX1_delayWithFewestClashes 16 = .ok (.aload_n 0, 1) := by decide +kernel
theorem dX1_delayWithFewestClashes_17 : decode cX1_delayWithFewestClashes 17 = .ok (.iload 4, 2) := by decide +kernel
theorem dX1_delayWithFewestClashes_19 : decode cX1_delayWithFewestClashes 19 = .ok (.iload_n 1, 1) := by decide +kernel
theorem dX1_delayWithFewestClashes_20 : decode cX1_delayWithFewestClashes 20 = .ok (.invokestatic 140, 3) := by decide +kernel
theorem dX1_delayWithFewestClashes_23 : decode cX1_delayWithFewestClashes 23 = .ok (.istore 5, 2) := by decide +kernel
theorem dX1_delayWithFewestClashes_25 : decode cX1_delayWithFewestClashes 25 = .ok (.iload 5, 2) := by decide +kernel
theorem dX1_delayWithFewestClashes_27 : decode cX1_delayWithFewestClashes 27 = .ok (.iload_n 3, 1) := by decide +kernel
theorem dX1_delayWithFewestClashes_28 : decode cX1_delayWithFewestClashes 28 = .ok (.if_icmp .ge 9, 3) := by decide +kernel
theorem dX1_delayWithFewestClashes_31 : decode cX1_delayWithFewestClashes 31 = .ok (.iload 4, 2) := by decide +kernel
theorem dX1_delayWithFewestClashes_33 : decode cX1_delayWithFewestClashes 33 = .ok (.istore_n 2, 1) := by decide +kernel
theorem dX1_delayWithFewestClashes_34 : decode cX1_delayWithFewestClashes 34 = .ok (.iload 5, 2) := by decide +kernel
theorem dX1_delayWithFewestClashes_36 : decode cX1_delayWithFewestClashes 36 = .ok (.istore_n 3, 1) := by decide +kernel
theorem dX1_delayWithFewestClashes_37 : decode cX1_delayWithFewestClashes 37 = .ok (.iinc 4 1, 3) := by decide +kernel
theorem dX1_delayWithFewestClashes_40 : decode cX1_delayWithFewestClashes 40 = .ok (.goto (-32), 3) := by decide +kernel
theorem dX1_delayWithFewestClashes_43 : decode cX1_delayWithFewestClashes 43 = .ok (.iload_n 2, 1) := by decide +kernel
theorem dX1_delayWithFewestClashes_44 : decode cX1_delayWithFewestClashes 44 = .ok (.ireturn, 1) := by decide +kernel
theorem dX1_mix_0 : decode cX1_mix 0 = .ok (.lload_n 0, 1) := by decide +kernel
theorem dX1_mix_1 : decode cX1_mix 1 = .ok (.ldc2_w 200, 3) := by decide +kernel
theorem dX1_mix_4 : decode cX1_mix 4 = .ok (.lmul, 1) := by decide +kernel
theorem dX1_mix_5 : decode cX1_mix 5 = .ok (.iload_n 2, 1) := by decide +kernel
theorem dX1_mix_6 : decode cX1_mix 6 = .ok (.i2l, 1) := by decide +kernel
theorem dX1_mix_7 : decode cX1_mix 7 = .ok (.ladd, 1) := by decide +kernel
theorem dX1_mix_8 : decode cX1_mix 8 = .ok (.lreturn, 1) := by decide +kernel
theorem dX1_mixVoice_0 : decode cX1_mixVoice 0 = .ok (.lload_n 1, 1) := by decide +kernel
theorem dX1_mixVoice_1 : decode cX1_mixVoice 1 = .ok (.aload_n 3, 1) := by decide +kernel
theorem dX1_mixVoice_2 : decode cX1_mixVoice 2 = .ok (.getfield 64, 3) := by decide +kernel
theorem dX1_mixVoice_5 : decode cX1_mixVoice 5 = .ok (.invokestatic 161, 3) := by decide +kernel
theorem dX1_mixVoice_8 : decode cX1_mixVoice 8 = .ok (.lstore 4, 2) := by decide +kernel
theorem dX1_mixVoice_10 : decode cX1_mixVoice 10 = .ok (.lload 4, 2) := by decide +kernel
theorem dX1_mixVoice_12 : decode cX1_mixVoice 12 = .ok (.aload_n 3, 1) := by decide +kernel
theorem dX1_mixVoice_13 : decode cX1_mixVoice 13 = .ok (.invokevirtual 92, 3) := by decide +kernel
theorem dX1_mixVoice_16 : decode cX1_mixVoice 16 = .ok (.invokestatic 161, 3) := by decide +kernel
theorem dX1_mixVoice_19 : decode cX1_mixVoice 19 = .ok (.lstore 4, 2) := by decide +kernel
theorem dX1_mixVoice_21 : decode cX1_mixVoice 21 = .ok (.lload 4, 2) := by decide +kernel
theorem dX1_mixVoice_23 : decode cX1_mixVoice 23 = .ok (.aload_n 3, 1) := by decide +kernel
theorem dX1_mixVoice_24 : decode cX1_mixVoice 24 = .ok (.invokevirtual 95, 3) := by decide +kernel
theorem dX1_mixVoice_27 : decode cX1_mixVoice 27 = .ok (.invokestatic 161, 3) := by decide +kernel
theorem dX1_mixVoice_30 : decode cX1_mixVoice 30 = .ok (.lstore 4, 2) := by decide +kernel
theorem dX1_mixVoice_32 : decode cX1_mixVoice 32 = .ok (.lload 4, 2) := by decide +kernel
theorem dX1_mixVoice_34 : decode cX1_mixVoice 34 = .ok (.aload_n 3, 1) := by decide +kernel
theorem dX1_mixVoice_35 : decode cX1_mixVoice 35 = .ok (.invokevirtual 89, 3) := by decide +kernel
theorem dX1_mixVoice_38 : decode cX1_mixVoice 38 = .ok (.invokestatic 161, 3) := by decide +kernel
theorem dX1_mixVoice_41 : decode cX1_mixVoice 41 = .ok (.lstore 4, 2) := by decide +kernel
theorem dX1_mixVoice_43 : decode cX1_mixVoice 43 = .ok (.lload 4, 2) := by decide +kernel
theorem dX1_mixVoice_45 : decode cX1_mixVoice 45 = .ok (.aload_n 3, 1) := by decide +kernel
theorem dX1_mixVoice_46 : decode cX1_mixVoice 46 = .ok (.getfield 86, 3) := by decide +kernel
theorem dX1_mixVoice_49 : decode cX1_mixVoice 49 = .ok (.invokestatic 161, 3) := by decide +kernel
theorem dX1_mixVoice_52 : decode cX1_mixVoice 52 = .ok (.lstore 4, 2) := by decide +kernel
theorem dX1_mixVoice_54 : decode cX1_mixVoice 54 = .ok (.lload 4, 2) := by decide +kernel
theorem dX1_mixVoice_56 : decode cX1_mixVoice 56 = .ok (.aload_n 3, 1) := by decide +kernel
theorem dX1_mixVoice_57 : decode cX1_mixVoice 57 = .ok (.invokevirtual 137, 3) := by decide +kernel
theorem dX1_mixVoice_60 : decode cX1_mixVoice 60 = .ok (.invokestatic 161, 3) := by decide +kernel
theorem dX1_mixVoice_63 : decode cX1_mixVoice 63 = .ok (.lstore 4, 2) := by decide +kernel
theorem dX1_mixVoice_65 : decode cX1_mixVoice 65 = .ok (.lload 4, 2) := by decide +kernel
theorem dX1_mixVoice_67 : decode cX1_mixVoice 67 = .ok (.aload_n 0, 1) := by decide +kernel
theorem dX1_mixVoice_68 : decode cX1_mixVoice 68 = .ok (.aload_n 3, 1) := by decide +kernel
theorem dX1_mixVoice_69 : decode cX1_mixVoice 69 = .ok (.invokevirtual 152, 3) := by decide +kernel
theorem dX1_mixVoice_72 : decode cX1_mixVoice 72 = .ok (.invokestatic 161, 3) := by decide +kernel
theorem dX1_mixVoice_75 : decode cX1_mixVoice 75 = .ok (.lstore 4, 2) := by decide +kernel
theorem dX1_mixVoice_77 : decode cX1_mixVoice 77 = .ok (.lload 4, 2) := by decide +kernel
theorem dX1_mixVoice_79 : decode cX1_mixVoice 79 = .ok (.aload_n 3, 1) := by decide +kernel
theorem dX1_mixVoice_80 : decode cX1_mixVoice 80 = .ok (.aload_n 3, 1) := by decide +kernel
theorem dX1_mixVoice_81 : decode cX1_mixVoice 81 = .ok (.iconst 4, 1) := by decide +kernel
theorem dX1_mixVoice_82 : decode cX1_mixVoice 82 = .ok (.iconst 0, 1) := by decide +kernel
theorem dX1_mixVoice_83 : decode cX1_mixVoice 83 = .ok (.invokestatic 140, 3) := by decide +kernel
theorem dX1_mixVoice_86 : decode cX1_mixVoice 86 = .ok (.invokestatic 161, 3) := by decide +kernel
theorem dX1_mixVoice_89 : decode cX1_mixVoice 89 = .ok (.lstore 4, 2) := by decide +kernel
theorem dX1_mixVoice_91 : decode cX1_mixVoice 91 = .ok (.lload 4, 2) := by decide +kernel
theorem dX1_mixVoice_93 : decode cX1_mixVoice 93 = .ok (.aload_n 3, 1) := by decide +kernel
theorem dX1_mixVoice_94 : decode cX1_mixVoice 94 = .ok (.iconst 4, 1) := by decide +kernel
theorem dX1_mixVoice_95 : decode cX1_mixVoice 95 = .ok (.invokestatic 156, 3) := by decide +kernel
theorem dX1_mixVoice_98 : decode cX1_mixVoice 98 = .ok (.invokestatic 161, 3) := by decide +kernel
theorem dX1_mixVoice_101 : decode cX1_mixVoice 101 = .ok (.lstore 4, 2) := by decide +kernel
theorem dX1_mixVoice_103 : decode cX1_mixVoice 103 = .ok (.iconst 0, 1) := by decide +kernel
theorem dX1_mixVoice_104 : decode cX1_mixVoice 104 = .ok (.istore 6, 2) := by decide +kernel
theorem dX1_mixVoice_106 : decode cX1_mixVoice 106 = .ok (.iload 6, 2) := by decide +kernel
theorem dX1_mixVoice_108 : decode cX1_mixVoice 108 = .ok (.aload_n 3, 1) := by decide +kernel
theorem dX1_mixVoice_109 : decode cX1_mixVoice 109 = .ok (.getfield 64, 3) := by decide +kernel
theorem dX1_mixVoice_112 : decode cX1_mixVoice 112 = .ok (.if_icmp .ge 19, 3) := by decide +kernel
theorem dX1_mixVoice_115 : decode cX1_mixVoice 115 = .ok (.lload 4, 2) := by decide +kernel
theorem dX1_mixVoice_117 : decode cX1_mixVoice 117 = .ok (.aload_n 3, 1) := by decide +kernel
theorem dX1_mixVoice_118 : decode cX1_mixVoice 118 = .ok (.iload 6, 2) := by decide +kernel
theorem dX1_mixVoice_120 : decode cX1_mixVoice 120 = .ok (.invokestatic 202, 3) := by decide +kernel
theorem dX1_mixVoice_123 : decode cX1_mixVoice 123 = .ok (.lstore 4, 2) := by decide +kernel
theorem dX1_mixVoice_125 : decode cX1_mixVoice 125 = .ok (.iinc 6 1, 3) := by decide +kernel
theorem dX1_mixVoice_128 : decode cX1_mixVoice 128 = .ok (.goto (-22), 3) := by decide +kernel
theorem dX1_mixVoice_131 : decode cX1_mixVoice 131 = .ok (.lload 4, 2) := by decide +kernel
theorem dX1_mixVoice_133 : decode cX1_mixVoice 133 = .ok (.lreturn, 1) := by decide +kernel
theorem dX1_mixSign_0 : decode cX1_mixSign 0 = .ok (.lload_n 0, 1) := by decide +kernel
theorem dX1_mixSign_1 : decode cX1_mixSign 1 = .ok (.aload_n 2, 1) := by decide +kernel
theorem dX1_mixSign_2 : decode cX1_mixSign 2 = .ok (.getfield 98, 3) := by decide +kernel
theorem dX1_mixSign_5 : decode cX1_mixSign 5 = .ok (.iload_n 3, 1) := by decide +kernel
theorem dX1_mixSign_6 : decode cX1_mixSign 6 = .ok (.iaload, 1) := by decide +kernel
theorem dX1_mixSign_7 : decode cX1_mixSign 7 = .ok (.invokestatic 161, 3) := by decide +kernel
theorem dX1_mixSign_10 : decode cX1_mixSign 10 = .ok (.lstore 4, 2) := by decide +kernel
theorem dX1_mixSign_12 : decode cX1_mixSign 12 = .ok (.lload 4, 2) := by decide +kernel
theorem dX1_mixSign_14 : decode cX1_mixSign 14 = .ok (.aload_n 2, 1) := by decide +kernel
theorem dX1_mixSign_15 : decode cX1_mixSign 15 = .ok (.getfield 102, 3) := by decide +kernel
theorem dX1_mixSign_18 : decode cX1_mixSign 18 = .ok (.iload_n 3, 1) := by decide +kernel
theorem dX1_mixSign_19 : decode cX1_mixSign 19 = .ok (.iaload, 1) := by decide +kernel
theorem dX1_mixSign_20 : decode cX1_mixSign 20 = .ok (.invokestatic 161, 3) := by decide +kernel
theorem dX1_mixSign_23 : decode cX1_mixSign 23 = .ok (.lstore 4, 2) := by decide +kernel
theorem dX1_mixSign_25 : decode cX1_mixSign 25 = .ok (.lload 4, 2) := by decide +kernel
theorem dX1_mixSign_27 : decode cX1_mixSign 27 = .ok (.aload_n 2, 1) := by decide +kernel
theorem dX1_mixSign_28 : decode cX1_mixSign 28 = .ok (.getfield 109, 3) := by decide +kernel
theorem dX1_mixSign_31 : decode cX1_mixSign 31 = .ok (.iload_n 3, 1) := by decide +kernel
theorem dX1_mixSign_32 : decode cX1_mixSign 32 = .ok (.iaload, 1) := by decide +kernel
theorem dX1_mixSign_33 : decode cX1_mixSign 33 = .ok (.invokestatic 161, 3) := by decide +kernel
theorem dX1_mixSign_36 : decode cX1_mixSign 36 = .ok (.lstore 4, 2) := by decide +kernel
theorem dX1_mixSign_38 : decode cX1_mixSign 38 = .ok (.lload 4, 2) := by decide +kernel
theorem dX1_mixSign_40 : decode cX1_mixSign 40 = .ok (.aload_n 2, 1) := by decide +kernel
theorem dX1_mixSign_41 : decode cX1_mixSign 41 = .ok (.iload_n 3, 1) := by decide +kernel
theorem dX1_mixSign_42 : decode cX1_mixSign 42 = .ok (.invokevirtual 112, 3) := by decide +kernel
theorem dX1_mixSign_45 : decode cX1_mixSign 45 = .ok (.invokestatic 161, 3) := by decide +kernel
theorem dX1_mixSign_48 : decode cX1_mixSign 48 = .ok (.lstore 4, 2) := by decide +kernel
theorem dX1_mixSign_50 : decode cX1_mixSign 50 = .ok (.lload 4, 2) := by decide +kernel
theorem dX1_mixSign_52 : decode cX1_mixSign 52 = .ok (.aload_n 2, 1) := by decide +kernel
theorem dX1_mixSign_53 : decode cX1_mixSign 53 = .ok (.getfield 116, 3) := by decide +kernel
theorem dX1_mixSign_56 : decode cX1_mixSign 56 = .ok (.iload_n 3, 1) := by decide +kernel
theorem dX1_mixSign_57 : decode cX1_mixSign 57 = .ok (.iaload, 1) := by decide +kernel
theorem dX1_mixSign_58 : decode cX1_mixSign 58 = .ok (.invokestatic 161, 3) := by decide +kernel
theorem dX1_mixSign_61 : decode cX1_mixSign 61 = .ok (.lreturn, 1) := by decide +kernel
