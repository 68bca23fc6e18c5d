theorem dX0_init_0 : decode cX0_init 0 = .ok (.aload_n 0, 1) := by decide +kernel
theorem dX0_init_1 : decode cX0_init 1 = .ok (.invokespecial 1, 3) := by decide +kernel
theorem dX0_init_4 : decode cX0_init 4 = .ok (.aload_n 0, 1) := by decide +kernel
theorem dX0_init_5 : decode cX0_init 5 = .ok (.aload_n 1, 1) := by decide +kernel
theorem dX0_init_6 : decode cX0_init 6 = .ok (.putfield 7, 3) := by decide +kernel
theorem dX0_init_9 : decode cX0_init 9 = .ok (.aload_n 0, 1) := by decide +kernel
theorem dX0_init_10 : decode cX0_init 10 = .ok (.aload_n 2, 1) := by decide +kernel
theorem dX0_init_11 : decode cX0_init 11 = .ok (.putfield 13, 3) := by decide +kernel
theorem dX0_init_14 : decode cX0_init 14 = .ok (.aload_n 0, 1) := by decide +kernel
theorem dX0_init_15 : decode cX0_init 15 = .ok (.aload_n 3, 1) := by decide +kernel
theorem dX0_init_16 : decode cX0_init 16 = .ok (.putfield 17, 3) := by decide +kernel
theorem dX0_init_19 : decode cX0_init 19 = .ok (.aload_n 0, 1) := by decide +kernel
theorem dX0_init_20 : decode cX0_init 20 = .ok (.aload_n 1, 1) := by decide +kernel
theorem dX0_init_21 : decode cX0_init 21 = .ok (.invokevirtual 21, 3) := by decide +kernel
theorem dX0_init_24 : decode cX0_init 24 = .ok (.invokevirtual 27, 3) := by decide +kernel
theorem dX0_init_27 : decode cX0_init 27 = .ok (.aload_n 0, 1) := by decide +kernel
theorem dX0_init_28 : decode cX0_init 28 = .ok (.invokevirtual 31, 3) := by decide +kernel
theorem dX0_init_31 : decode cX0_init 31 = .ok (.return_, 1) := by decide +kernel
theorem dX0_makeRows_0 : decode cX0_makeRows 0 = .ok (.aload_n 0, 1) := by decide +kernel
theorem dX0_makeRows_1 : decode cX0_makeRows 1 = .ok (.iconst 2, 1) := by decide +kernel
theorem dX0_makeRows_2 : decode cX0_makeRows 2 = .ok (.iload_n 1, 1) := by decide +kernel
theorem dX0_makeRows_3 : decode cX0_makeRows 3 = .ok (.imul, 1) := by decide +kernel
theorem dX0_makeRows_4 : decode cX0_makeRows 4 = .ok (.newarray .int, 2) := by decide +kernel
theorem dX0_makeRows_6 : decode cX0_makeRows 6 = .ok (.putfield 34, 3) := by decide +kernel
theorem dX0_makeRows_9 : decode cX0_makeRows 9 = .ok (.aload_n 0, 1) := by decide +kernel
theorem dX0_makeRows_10 : decode cX0_makeRows 10 = .ok (.iload_n 1, 1) := by decide +kernel
theorem dX0_makeRows_11 : decode cX0_makeRows 11 = .ok (.iconst 1, 1) := by decide +kernel
theorem dX0_makeRows_12 : decode cX0_makeRows 12 = .ok (.iadd, 1) := by decide +kernel
theorem dX0_makeRows_13 : decode cX0_makeRows 13 = .ok (.newarray .int, 2) := by decide +kernel
theorem dX0_makeRows_15 : decode cX0_makeRows 15 = .ok (.putfield 38, 3) := by decide +kernel
theorem dX0_makeRows_18 : decode cX0_makeRows 18 = .ok (.aload_n 0, 1) := by decide +kernel
theorem dX0_makeRows_19 : decode cX0_makeRows 19 = .ok (.iload_n 1, 1) := by decide +kernel
theorem dX0_makeRows_20 : decode cX0_makeRows 20 = .ok (.iconst 1, 1) := by decide +kernel
theorem dX0_makeRows_21 : decode cX0_makeRows 21 = .ok (.iadd, 1) := by decide +kernel
theorem dX0_makeRows_22 : decode cX0_makeRows 22 = .ok (.newarray .int, 2) := by decide +kernel
theorem dX0_makeRows_24 : decode cX0_makeRows 24 = .ok (.putfield 41, 3) := by decide +kernel
theorem dX0_makeRows_27 : decode cX0_makeRows 27 = .ok (.aload_n 0, 1) := by decide +kernel
theorem dX0_makeRows_28 : decode cX0_makeRows 28 = .ok (.iload_n 1, 1) := by decide +kernel
theorem dX0_makeRows_29 : decode cX0_makeRows 29 = .ok (.iconst 1, 1) := by decide +kernel
theorem dX0_makeRows_30 : decode cX0_makeRows 30 = .ok (.iadd, 1) := by decide +kernel
theorem dX0_makeRows_31 : decode cX0_makeRows 31 = .ok (.newarray .int, 2) := by decide +kernel
theorem dX0_makeRows_33 : decode cX0_makeRows 33 = .ok (.putfield 44, 3) := by decide +kernel
theorem dX0_makeRows_36 : decode cX0_makeRows 36 = .ok (.aload_n 0, 1) := by decide +kernel
theorem dX0_makeRows_37 : decode cX0_makeRows 37 = .ok (.iload_n 1, 1) := by decide +kernel
theorem dX0_makeRows_38 : decode cX0_makeRows 38 = .ok (.iconst 1, 1) := by decide +kernel
theorem dX0_makeRows_39 : decode cX0_makeRows 39 = .ok (.iadd, 1) := by decide +kernel
theorem dX0_makeRows_40 : decode cX0_makeRows 40 = .ok (.newarray .int, 2) := by decide +kernel
theorem dX0_makeRows_42 : decode cX0_makeRows 42 = .ok (.putfield 47, 3) := by decide +kernel
theorem dX0_makeRows_45 : decode cX0_makeRows 45 = .ok (.aload_n 0, 1) := by decide +kernel
theorem dX0_makeRows_46 : decode cX0_makeRows 46 = .ok (.iload_n 1, 1) := by decide +kernel
theorem dX0_makeRows_47 : decode cX0_makeRows 47 = .ok (.iconst 1, 1) := by decide +kernel
theorem dX0_makeRows_48 : decode cX0_makeRows 48 = .ok (.iadd, 1) := by decide +kernel
theorem dX0_makeRows_49 : decode cX0_makeRows 49 = .ok (.newarray .long, 2) := by decide +kernel
theorem dX0_makeRows_51 : decode cX0_makeRows 51 = .ok (.putfield 50, 3) := by decide +kernel
theorem dX0_makeRows_54 : decode cX0_makeRows 54 = .ok (.return_, 1) := by decide +kernel
theorem dX0_clear_0 : decode cX0_clear 0 = .ok (.aload_n 0, 1) := by decide +kernel
theorem dX0_clear_1 : decode cX0_clear 1 = .ok (.getfield 34, 3) := by decide +kernel
theorem dX0_clear_4 : decode cX0_clear 4 = .ok (.iconst (-1), 1) := by decide +kernel
theorem dX0_clear_5 : decode cX0_clear 5 = .ok (.invokestatic 54, 3) := by decide +kernel
theorem dX0_clear_8 : decode cX0_clear 8 = .ok (.aload_n 0, 1) := by decide +kernel
theorem dX0_clear_9 : decode cX0_clear 9 = .ok (.iconst 0, 1) := by decide +kernel
theorem dX0_clear_10 : decode cX0_clear 10 = .ok (.putfield 60, 3) := by decide +kernel
theorem dX0_clear_13 : decode cX0_clear 13 = .ok (.aload_n 0, 1) := by decide +kernel
theorem dX0_clear_14 : decode cX0_clear 14 = .ok (.iconst 0, 1) := by decide +kernel
theorem dX0_clear_15 : decode cX0_clear 15 = .ok (.putfield 64, 3) := by decide +kernel
theorem dX0_clear_18 : decode cX0_clear 18 = .ok (.aload_n 0, 1) := by decide +kernel
theorem dX0_clear_19 : decode cX0_clear 19 = .ok (.iconst (-1), 1) := by decide +kernel
theorem dX0_clear_20 : decode cX0_clear 20 = .ok (.iconst (-1), 1) := by decide +kernel
theorem dX0_clear_21 : decode cX0_clear 21 = .ok (.invokevirtual 67, 3) := by decide +kernel
theorem dX0_clear_24 : decode cX0_clear 24 = .ok (.pop, 1) := by decide +kernel
theorem dX0_clear_25 : decode cX0_clear 25 = .ok (.return_, 1) := by decide +kernel
theorem dX0_addFace_0 : decode cX0_addFace 0 = .ok (.aload_n 0, 1) := by decide +kernel
theorem dX0_addFace_1 : decode cX0_addFace 1 = .ok (.getfield 60, 3) := by decide +kernel
theorem dX0_addFace_4 : decode cX0_addFace 4 = .ok (.istore_n 3, 1) := by decide +kernel
theorem dX0_addFace_5 : decode cX0_addFace 5 = .ok (.aload_n 0, 1) := by decide +kernel
theorem dX0_addFace_6 : decode cX0_addFace 6 = .ok (.getfield 38, 3) := by decide +kernel
theorem dX0_addFace_9 : decode cX0_addFace 9 = .ok (.iload_n 3, 1) := by decide +kernel
theorem dX0_addFace_10 : decode cX0_addFace 10 = .ok (.iconst 0, 1) := by decide +kernel
theorem dX0_addFace_11 : decode cX0_addFace 11 = .ok (.iastore, 1) := by decide +kernel
theorem dX0_addFace_12 : decode cX0_addFace 12 = .ok (.aload_n 0, 1) := by decide +kernel
theorem dX0_addFace_13 : decode cX0_addFace 13 = .ok (.getfield 41, 3) := by decide +kernel
theorem dX0_addFace_16 : decode cX0_addFace 16 = .ok (.iload_n 3, 1) := by decide +kernel
theorem dX0_addFace_17 : decode cX0_addFace 17 = .ok (.iconst 0, 1) := by decide +kernel
theorem dX0_addFace_18 : decode cX0_addFace 18 = .ok (.iastore, 1) := by decide +kernel
theorem dX0_addFace_19 : decode cX0_addFace 19 = .ok (.aload_n 0, 1) := by decide +kernel
theorem dX0_addFace_20 : decode cX0_addFace 20 = .ok (.getfield 50, 3) := by decide +kernel
theorem dX0_addFace_23 : decode cX0_addFace 23 = .ok (.iload_n 3, 1) := by decide +kernel
theorem dX0_addFace_24 : decode cX0_addFace 24 = .ok (.lconst 0, 1) := by decide +kernel
theorem dX0_addFace_25 : decode cX0_addFace 25 = .ok (.lastore, 1) := by decide +kernel
theorem dX0_addFace_26 : decode cX0_addFace 26 = .ok (.aload_n 0, 1) := by decide +kernel
theorem dX0_addFace_27 : decode cX0_addFace 27 = .ok (.getfield 44, 3) := by decide +kernel
theorem dX0_addFace_30 : decode cX0_addFace 30 = .ok (.iload_n 3, 1) := by decide +kernel
theorem dX0_addFace_31 : decode cX0_addFace 31 = .ok (.iload_n 1, 1) := by decide +kernel
theorem dX0_addFace_32 : decode cX0_addFace 32 = .ok (.iastore, 1) := by decide +kernel
theorem dX0_addFace_33 : decode cX0_addFace 33 = .ok (.aload_n 0, 1) := by decide +kernel
theorem dX0_addFace_34 : decode cX0_addFace 34 = .ok (.getfield 47, 3) := by decide +kernel
theorem dX0_addFace_37 : decode cX0_addFace 37 = .ok (.iload_n 3, 1) := by decide +kernel
theorem dX0_addFace_38 : decode cX0_addFace 38 = .ok (.iload_n 2, 1) := by decide +kernel
theorem dX0_addFace_39 : decode cX0_addFace 39 = .ok (.iastore, 1) := by decide +kernel
theorem dX0_addFace_40 : decode cX0_addFace 40 = .ok (.aload_n 0, 1) := by decide +kernel
theorem dX0_addFace_41 : decode cX0_addFace 41 = .ok (.dup, 1) := by decide +kernel
theorem dX0_addFace_42 : decode cX0_addFace 42 = .ok (.getfield 60, 3) := by decide +kernel
theorem dX0_addFace_45 : decode cX0_addFace 45 = .ok (.iconst 1, 1) := by decide +kernel
theorem dX0_addFace_46 : decode cX0_addFace 46 = .ok (.iadd, 1) := by decide +kernel
theorem dX0_addFace_47 : decode cX0_addFace 47 = .ok (.putfield 60, 3) := by decide +kernel
theorem dX0_addFace_50 : decode cX0_addFace 50 = .ok (.iload_n 3, 1) := by decide +kernel
theorem dX0_addFace_51 : decode cX0_addFace 51 = .ok (.ireturn, 1) := by decide +kernel
theorem dX0_has_0 : decode cX0_has 0 = .ok (.iload_n 1, 1) := by decide +kernel
theorem dX0_has_1 : decode cX0_has 1 = .ok (.ifCond .lt 15, 3) := by decide +kernel
theorem dX0_has_4 : decode cX0_has 4 = .ok (.iload_n 1, 1) := by decide +kernel
theorem dX0_has_5 : decode cX0_has 5 = .ok (.aload_n 0, 1) := by decide +kernel
theorem dX0_has_6 : decode cX0_has 6 = .ok (.getfield 60, 3) := by decide +kernel
theorem dX0_has_9 : decode cX0_has 9 = .ok (.if_icmp .ge 7, 3) := by decide +kernel
theorem dX0_has_12 : decode cX0_has 12 = .ok (.iconst 1, 1) := by decide +kernel
theorem dX0_has_13 : decode cX0_has 13 = .ok (.goto 4, 3) := by decide +kernel
theorem dX0_has_16 : decode cX0_has 16 = .ok (.iconst 0, 1) := by decide +kernel
theorem dX0_has_17 : decode cX0_has 17 = .ok (.ireturn, 1) := by decide +kernel
theorem dX0_above_0 : decode cX0_above 0 = .ok (.iload_n 1, 1) := by decide +kernel
theorem dX0_above_1 : decode cX0_above 1 = .ok (.ifCond .ge 7, 3) := by decide +kernel
theorem dX0_above_4 : decode cX0_above 4 = .ok (.iconst 0, 1) := by decide +kernel
theorem dX0_above_5 : decode cX0_above 5 = .ok (.goto 12, 3) := by decide +kernel
theorem dX0_above_17 : decode cX0_above 17 = .ok (.ireturn, 1) := by decide +kernel
theorem dX0_piecesBetween_0 : decode cX0_piecesBetween 0 = .ok (.iconst 0, 1) := by decide +kernel
theorem dX0_piecesBetween_1 : decode cX0_piecesBetween 1 = .ok (.istore_n 3, 1) := by decide +kernel
theorem dX0_piecesBetween_2 : decode cX0_piecesBetween 2 = .ok (.iconst 0, 1) := by decide +kernel
theorem dX0_piecesBetween_3 : decode cX0_piecesBetween 3 = .ok (.istore 4, 2) := by decide +kernel
theorem dX0_piecesBetween_5 : decode cX0_piecesBetween 5 = .ok (.iload 4, 2) := by decide +kernel
theorem dX0_piecesBetween_7 : decode cX0_piecesBetween 7 = .ok (.aload_n 0, 1) := by decide +kernel
theorem dX0_piecesBetween_8 : decode cX0_piecesBetween 8 = .ok (.getfield 7, 3) := by decide +kernel
theorem dX0_piecesBetween_11 : decode cX0_piecesBetween 11 = .ok (.getfield 71, 3) := by decide +kernel
theorem dX0_piecesBetween_14 : decode cX0_piecesBetween 14 = .ok (.if_icmp .ge 60, 3) := by decide +kernel
theorem dX0_piecesBetween_74 : decode cX0_piecesBetween 74 = .ok (.iload_n 3, 1) := by decide +kernel
theorem dX0_piecesBetween_75 : decode cX0_piecesBetween 75 = .ok (.ireturn, 1) := by decide +kernel
theorem dX1_init_0 : decode cX1_init 0 = .ok (.aload_n 0, 1) := by decide +kernel
theorem dX1_init_1 : decode cX1_init 1 = .ok (.invokespecial 1, 3) := by decide +kernel
theorem dX1_init_4 : decode cX1_init 4 = .ok (.aload_n 0, 1) := by decide +kernel
theorem dX1_init_5 : decode cX1_init 5 = .ok (.bipush 16, 2) := by decide +kernel
theorem dX1_init_7 : decode cX1_init 7 = .ok (.newarray .long, 2) := by decide +kernel
theorem dX1_init_9 : decode cX1_init 9 = .ok (.putfield 9, 3) := by decide +kernel
theorem dX1_init_12 : decode cX1_init 12 = .ok (.aload_n 0, 1) := by decide +kernel
theorem dX1_init_13 : decode cX1_init 13 = .ok (.bipush 16, 2) := by decide +kernel
theorem dX1_init_15 : decode cX1_init 15 = .ok (.newarray .int, 2) := by decide +kernel
theorem dX1_init_17 : decode cX1_init 17 = .ok (.putfield 13, 3) := by decide +kernel
theorem dX1_init_20 : decode cX1_init 20 = .ok (.aload_n 0, 1) := by decide +kernel
theorem dX1_init_21 : decode cX1_init 21 = .ok (.iconst 0, 1) := by decide +kernel
theorem dX1_init_22 : decode cX1_init 22 = .ok (.putfield 17, 3) := by decide +kernel
theorem dX1_init_25 : decode cX1_init 25 = .ok (.return_, 1) := by decide +kernel
theorem dX1_rank_0 : decode cX1_rank 0 = .ok (.iconst 0, 1) := by decide +kernel
theorem dX1_rank_1 : decode cX1_rank 1 = .ok (.istore_n 3, 1) := by decide +kernel
theorem dX1_rank_2 : decode cX1_rank 2 = .ok (.aload_n 0, 1) := by decide +kernel
theorem dX1_rank_3 : decode cX1_rank 3 = .ok (.getfield 17, 3) := by decide +kernel
theorem dX1_rank_6 : decode cX1_rank 6 = .ok (.istore 4, 2) := by decide +kernel
theorem dX1_rank_8 : decode cX1_rank 8 = .ok (.iload_n 3, 1) := by decide +kernel
theorem dX1_rank_9 : decode cX1_rank 9 = .ok (.iload 4, 2) := by decide +kernel
theorem dX1_rank_11 : decode cX1_rank 11 = .ok (.if_icmp .ge 38, 3) := by decide +kernel
theorem dX1_rank_14 : decode cX1_rank 14 = .ok (.iload_n 3, 1) := by decide +kernel
theorem dX1_rank_15 : decode cX1_rank 15 = .ok (.iload 4, 2) := by decide +kernel
theorem dX1_rank_17 : decode cX1_rank 17 = .ok (.iadd, 1) := by decide +kernel
theorem dX1_rank_18 : decode cX1_rank 18 = .ok (.iconst 1, 1) := by decide +kernel
theorem dX1_rank_19 : decode cX1_rank 19 = .ok (.iushr, 1) := by decide +kernel
theorem dX1_rank_20 : decode cX1_rank 20 = .ok (.istore 5, 2) := by decide +kernel
theorem dX1_rank_22 : decode cX1_rank 22 = .ok (.aload_n 0, 1) := by decide +kernel
theorem dX1_rank_23 : decode cX1_rank 23 = .ok (.getfield 9, 3) := by decide +kernel
theorem dX1_rank_26 : decode cX1_rank 26 = .ok (.iload 5, 2) := by decide +kernel
theorem dX1_rank_28 : decode cX1_rank 28 = .ok (.laload, 1) := by decide +kernel
theorem dX1_rank_29 : decode cX1_rank 29 = .ok (.lload_n 1, 1) := by decide +kernel
theorem dX1_rank_30 : decode cX1_rank 30 = .ok (.lcmp, 1) := by decide +kernel
theorem dX1_rank_31 : decode cX1_rank 31 = .ok (.ifCond .ge 11, 3) := by decide +kernel
theorem dX1_rank_34 : decode cX1_rank 34 = .ok (.iload 5, 2) := by decide +kernel
theorem dX1_rank_36 : decode cX1_rank 36 = .ok (.iconst 1, 1) := by decide +kernel
theorem dX1_rank_37 : decode cX1_rank 37 = .ok (.iadd, 1) := by decide +kernel
theorem dX1_rank_38 : decode cX1_rank 38 = .ok (.istore_n 3, 1) := by decide +kernel
theorem dX1_rank_39 : decode cX1_rank 39 = .ok (.goto 7, 3) := by decide +kernel
theorem dX1_rank_46 : decode cX1_rank 46 = .ok (.goto (-38), 3) := by decide +kernel
theorem dX1_rank_49 : decode cX1_rank 49 = .ok (.iload_n 3, 1) := by decide +kernel
theorem dX1_rank_50 : decode cX1_rank 50 = .ok (.ireturn, 1) := by decide +kernel
theorem dX1_isAt_0 : decode cX1_isAt 0 = .ok (.iload_n 1, 1) := by decide +kernel
theorem dX1_isAt_1 : decode cX1_isAt 1 = .ok (.aload_n 0, 1) := by decide +kernel
theorem dX1_isAt_2 : decode cX1_isAt 2 = .ok (.getfield 17, 3) := by decide +kernel
theorem dX1_isAt_5 : decode cX1_isAt 5 = .ok (.if_icmp .ge 18, 3) := by decide +kernel
theorem dX1_isAt_23 : decode cX1_isAt 23 = .ok (.iconst 0, 1) := by decide +kernel
theorem dX1_isAt_24 : decode cX1_isAt 24 = .ok (.ireturn, 1) := by decide +kernel
theorem dX1_addEnd_0 : decode cX1_addEnd 0 = .ok (.aload_n 0, 1) := by decide +kernel
theorem dX1_addEnd_1 : decode cX1_addEnd 1 = .ok (.lload_n 1, 1) := by decide +kernel
theorem dX1_addEnd_2 : decode cX1_addEnd 2 = .ok (.invokevirtual 21, 3) := by decide +kernel
theorem dX1_addEnd_5 : decode cX1_addEnd 5 = .ok (.istore_n 3, 1) := by decide +kernel
theorem dX1_addEnd_6 : decode cX1_addEnd 6 = .ok (.aload_n 0, 1) := by decide +kernel
theorem dX1_addEnd_7 : decode cX1_addEnd 7 = .ok (.iload_n 3, 1) := by decide +kernel
theorem dX1_addEnd_8 : decode cX1_addEnd 8 = .ok (.lload_n 1, 1) := by decide +kernel
theorem dX1_addEnd_9 : decode cX1_addEnd 9 = .ok (.invokevirtual 25, 3) := by decide +kernel
theorem dX1_addEnd_12 : decode cX1_addEnd 12 = .ok (.ifCond .ne 9, 3) := by decide +kernel
theorem dX1_addEnd_15 : decode cX1_addEnd 15 = .ok (.aload_n 0, 1) := by decide +kernel
theorem dX1_addEnd_16 : decode cX1_addEnd 16 = .ok (.iload_n 3, 1) := by decide +kernel
theorem dX1_addEnd_17 : decode cX1_addEnd 17 = .ok (.lload_n 1, 1) := by decide +kernel
theorem dX1_addEnd_18 : decode cX1_addEnd 18 = .ok (.invokevirtual 29, 3) := by decide +kernel
theorem dX1_addEnd_21 : decode cX1_addEnd 21 = .ok (.aload_n 0, 1) := by decide +kernel
theorem dX1_addEnd_22 : decode cX1_addEnd 22 = .ok (.getfield 13, 3) := by decide +kernel
theorem dX1_addEnd_25 : decode cX1_addEnd 25 = .ok (.iload_n 3, 1) := by decide +kernel
theorem dX1_addEnd_26 : decode cX1_addEnd 26 = .ok (.dup2, 1) := by decide +kernel
theorem dX1_addEnd_27 : decode cX1_addEnd 27 = .ok (.iaload, 1) := by decide +kernel
theorem dX1_addEnd_28 : decode cX1_addEnd 28 = .ok (.iconst 1, 1) := by decide +kernel
theorem dX1_addEnd_29 : decode cX1_addEnd 29 = .ok (.iadd, 1) := by decide +kernel
theorem dX1_addEnd_30 : decode cX1_addEnd 30 = .ok (.iastore, 1) := by decide +kernel
theorem dX1_addEnd_31 : decode cX1_addEnd 31 = .ok (.return_, 1) := by decide +kernel
theorem dX1_insert_0 : decode cX1_insert 0 = .ok (.aload_n 0, 1) := by decide +kernel
theorem dX1_insert_1 : decode cX1_insert 1 = .ok (.getfield 17, 3) := by decide +kernel
theorem dX1_insert_4 : decode cX1_insert 4 = .ok (.aload_n 0, 1) := by decide +kernel
theorem dX1_insert_5 : decode cX1_insert 5 = .ok (.getfield 9, 3) := by decide +kernel
theorem dX1_insert_8 : decode cX1_insert 8 = .ok (.arraylength, 1) := by decide +kernel
theorem dX1_insert_9 : decode cX1_insert 9 = .ok (.if_icmp .ne 37, 3) := by decide +kernel
theorem dX1_insert_46 : decode cX1_insert 46 = .ok (.aload_n 0, 1) := by decide +kernel
theorem dX1_insert_47 : decode cX1_insert 47 = .ok (.getfield 9, 3) := by decide +kernel
theorem dX1_insert_50 : decode cX1_insert 50 = .ok (.iload_n 1, 1) := by decide +kernel
theorem dX1_insert_51 : decode cX1_insert 51 = .ok (.aload_n 0, 1) := by decide +kernel
theorem dX1_insert_52 : decode cX1_insert 52 = .ok (.getfield 9, 3) := by decide +kernel
theorem dX1_insert_55 : decode cX1_insert 55 = .ok (.iload_n 1, 1) := by decide +kernel
theorem dX1_insert_56 : decode cX1_insert 56 = .ok (.iconst 1, 1) := by decide +kernel
theorem dX1_insert_57 : decode cX1_insert 57 = .ok (.iadd, 1) := by decide +kernel
theorem dX1_insert_58 : decode cX1_insert 58 = .ok (.aload_n 0, 1) := by decide +kernel
theorem dX1_insert_59 : decode cX1_insert 59 = .ok (.getfield 17, 3) := by decide +kernel
theorem dX1_insert_62 : decode cX1_insert 62 = .ok (.iload_n 1, 1) := by decide +kernel
theorem dX1_insert_63 : decode cX1_insert 63 = .ok (.isub, 1) := by decide +kernel
theorem dX1_insert_64 : decode cX1_insert 64 = .ok (.invokestatic 42, 3) := by decide +kernel
theorem dX1_insert_67 : decode cX1_insert 67 = .ok (.aload_n 0, 1) := by decide +kernel
theorem dX1_insert_68 : decode cX1_insert 68 = .ok (.getfield 13, 3) := by decide +kernel
theorem dX1_insert_71 : decode cX1_insert 71 = .ok (.iload_n 1, 1) := by decide +kernel
theorem dX1_insert_72 : decode cX1_insert 72 = .ok (.aload_n 0, 1) := by decide +kernel
theorem dX1_insert_73 : decode cX1_insert 73 = .ok (.getfield 13, 3) := by decide +kernel
theorem dX1_insert_76 : decode cX1_insert 76 = .ok (.iload_n 1, 1) := by decide +kernel
theorem dX1_insert_77 : decode cX1_insert 77 = .ok (.iconst 1, 1) := by decide +kernel
theorem dX1_insert_78 : decode cX1_insert 78 = .ok (.iadd, 1) := by decide +kernel
theorem dX1_insert_79 : decode cX1_insert 79 = .ok (.aload_n 0, 1) := by decide +kernel
theorem dX1_insert_80 : decode cX1_insert 80 = .ok (.getfield 17, 3) := by decide +kernel
theorem dX1_insert_83 : decode cX1_insert 83 = .ok (.iload_n 1, 1) := by decide +kernel
theorem dX1_insert_84 : decode cX1_insert 84 = .ok (.isub, 1) := by decide +kernel
theorem dX1_insert_85 : decode cX1_insert 85 = .ok (.invokestatic 42, 3) := by decide +kernel
theorem dX1_insert_88 : decode cX1_insert 88 = .ok (.aload_n 0, 1) := by decide +kernel
theorem dX1_insert_89 : decode cX1_insert 89 = .ok (.getfield 9, 3) := by decide +kernel
theorem dX1_insert_92 : decode cX1_insert 92 = .ok (.iload_n 1, 1) := by decide +kernel
theorem dX1_insert_93 : decode cX1_insert 93 = .ok (.lload_n 2, 1) := by decide +kernel
theorem dX1_insert_94 : decode cX1_insert 94 = .ok (.lastore, 1) := by decide +kernel
theorem dX1_insert_95 : decode cX1_insert 95 = .ok (.aload_n 0, 1) := by decide +kernel
theorem dX1_insert_96 : decode cX1_insert 96 = .ok (.getfield 13, 3) := by decide +kernel
theorem dX1_insert_99 : decode cX1_insert 99 = .ok (.iload_n 1, 1) := by decide +kernel
theorem dX1_insert_100 : decode cX1_insert 100 = .ok (.iconst 0, 1) := by decide +kernel
theorem dX1_insert_101 : decode cX1_insert 101 = .ok (.iastore, 1) := by decide +kernel
theorem dX1_insert_102 : decode cX1_insert 102 = .ok (.aload_n 0, 1) := by decide +kernel
theorem dX1_insert_103 : decode cX1_insert 103 = .ok (.dup, 1) := by decide +kernel
theorem dX1_insert_104 : decode cX1_insert 104 = .ok (.getfield 17, 3) := by decide +kernel
theorem dX1_insert_107 : decode cX1_insert 107 = .ok (.iconst 1, 1) := by decide +kernel
theorem dX1_insert_108 : decode cX1_insert 108 = .ok (.iadd, 1) := by decide +kernel
theorem dX1_insert_109 : decode cX1_insert 109 = .ok (.putfield 17, 3) := by decide +kernel
theorem dX1_insert_112 : decode cX1_insert 112 = .ok (.return_, 1) := by decide +kernel
theorem dX2_init_0 : decode cX2_init 0 = .ok (.aload_n 0, 1) := by decide +kernel
theorem dX2_init_1 : decode cX2_init 1 = .ok (.invokespecial 1, 3) := by decide +kernel
theorem dX2_init_4 : decode cX2_init 4 = .ok (.aload_n 0, 1) := by decide +kernel
theorem dX2_init_5 : decode cX2_init 5 = .ok (.bipush 8, 2) := by decide +kernel
theorem dX2_init_7 : decode cX2_init 7 = .ok (.newarray .long, 2) := by decide +kernel
theorem dX2_init_9 : decode cX2_init 9 = .ok (.putfield 9, 3) := by decide +kernel
theorem dX2_init_12 : decode cX2_init 12 = .ok (.aload_n 0, 1) := by decide +kernel
