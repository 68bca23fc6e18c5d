theorem dX2_init_13 : decode cX2_init 13 = .ok (.bipush 8, 2) := by decide +kernel
theorem dX2_init_15 : decode cX2_init 15 = .ok (.newarray .long, 2) := by decide +kernel
theorem dX2_init_17 : decode cX2_init 17 = .ok (.putfield 13, 3) := by decide +kernel
theorem dX2_init_20 : decode cX2_init 20 = .ok (.aload_n 0, 1) := by decide +kernel
theorem dX2_init_21 : decode cX2_init 21 = .ok (.iconst 0, 1) := by decide +kernel
theorem dX2_init_22 : decode cX2_init 22 = .ok (.putfield 16, 3) := by decide +kernel
theorem dX2_init_25 : decode cX2_init 25 = .ok (.return_, 1) := by decide +kernel
theorem dX2_room_0 : decode cX2_room 0 = .ok (.aload_n 0, 1) := by decide +kernel
theorem dX2_room_1 : decode cX2_room 1 = .ok (.getfield 9, 3) := by decide +kernel
theorem dX2_room_4 : decode cX2_room 4 = .ok (.arraylength, 1) := by decide +kernel
theorem dX2_room_5 : decode cX2_room 5 = .ok (.ireturn, 1) := by decide +kernel
theorem dX2_rank_0 : decode cX2_rank 0 = .ok (.iconst 0, 1) := by decide +kernel
theorem dX2_rank_1 : decode cX2_rank 1 = .ok (.istore 5, 2) := by decide +kernel
theorem dX2_rank_3 : decode cX2_rank 3 = .ok (.aload_n 0, 1) := by decide +kernel
theorem dX2_rank_4 : decode cX2_rank 4 = .ok (.getfield 16, 3) := by decide +kernel
theorem dX2_rank_7 : decode cX2_rank 7 = .ok (.istore 6, 2) := by decide +kernel
theorem dX2_rank_9 : decode cX2_rank 9 = .ok (.iload 5, 2) := by decide +kernel
theorem dX2_rank_11 : decode cX2_rank 11 = .ok (.iload 6, 2) := by decide +kernel
theorem dX2_rank_13 : decode cX2_rank 13 = .ok (.if_icmp .ge 64, 3) := by decide +kernel
theorem dX2_rank_77 : decode cX2_rank 77 = .ok (.iload 5, 2) := by decide +kernel
theorem dX2_rank_79 : decode cX2_rank 79 = .ok (.ireturn, 1) := by decide +kernel
theorem dX2_has_0 : decode cX2_has 0 = .ok (.aload_n 0, 1) := by decide +kernel
theorem dX2_has_1 : decode cX2_has 1 = .ok (.lload_n 1, 1) := by decide +kernel
theorem dX2_has_2 : decode cX2_has 2 = .ok (.lload_n 3, 1) := by decide +kernel
theorem dX2_has_3 : decode cX2_has 3 = .ok (.invokevirtual 20, 3) := by decide +kernel
theorem dX2_has_6 : decode cX2_has 6 = .ok (.istore 5, 2) := by decide +kernel
theorem dX2_has_8 : decode cX2_has 8 = .ok (.iload 5, 2) := by decide +kernel
theorem dX2_has_10 : decode cX2_has 10 = .ok (.aload_n 0, 1) := by decide +kernel
theorem dX2_has_11 : decode cX2_has 11 = .ok (.getfield 16, 3) := by decide +kernel
theorem dX2_has_14 : decode cX2_has 14 = .ok (.if_icmp .ge 31, 3) := by decide +kernel
theorem dX2_has_45 : decode cX2_has 45 = .ok (.iconst 0, 1) := by decide +kernel
theorem dX2_has_46 : decode cX2_has 46 = .ok (.ireturn, 1) := by decide +kernel
theorem dX2_clashWith_0 : decode cX2_clashWith 0 = .ok (.iconst 0, 1) := by decide +kernel
theorem dX2_clashWith_1 : decode cX2_clashWith 1 = .ok (.istore 5, 2) := by decide +kernel
theorem dX2_clashWith_3 : decode cX2_clashWith 3 = .ok (.iload 5, 2) := by decide +kernel
theorem dX2_clashWith_5 : decode cX2_clashWith 5 = .ok (.aload_n 0, 1) := by decide +kernel
theorem dX2_clashWith_6 : decode cX2_clashWith 6 = .ok (.getfield 16, 3) := by decide +kernel
theorem dX2_clashWith_9 : decode cX2_clashWith 9 = .ok (.if_icmp .ge 57, 3) := by decide +kernel
theorem dX2_clashWith_66 : decode cX2_clashWith 66 = .ok (.iconst 0, 1) := by decide +kernel
theorem dX2_clashWith_67 : decode cX2_clashWith 67 = .ok (.ireturn, 1) := by decide +kernel
theorem dX2_add_0 : decode cX2_add 0 = .ok (.aload_n 0, 1) := by decide +kernel
theorem dX2_add_1 : decode cX2_add 1 = .ok (.getfield 16, 3) := by decide +kernel
theorem dX2_add_4 : decode cX2_add 4 = .ok (.aload_n 0, 1) := by decide +kernel
theorem dX2_add_5 : decode cX2_add 5 = .ok (.getfield 9, 3) := by decide +kernel
theorem dX2_add_8 : decode cX2_add 8 = .ok (.arraylength, 1) := by decide +kernel
theorem dX2_add_9 : decode cX2_add 9 = .ok (.if_icmp .ne 37, 3) := by decide +kernel
theorem dX2_add_46 : decode cX2_add 46 = .ok (.aload_n 0, 1) := by decide +kernel
theorem dX2_add_47 : decode cX2_add 47 = .ok (.lload_n 1, 1) := by decide +kernel
theorem dX2_add_48 : decode cX2_add 48 = .ok (.lload_n 3, 1) := by decide +kernel
theorem dX2_add_49 : decode cX2_add 49 = .ok (.invokevirtual 20, 3) := by decide +kernel
theorem dX2_add_52 : decode cX2_add 52 = .ok (.istore 5, 2) := by decide +kernel
theorem dX2_add_54 : decode cX2_add 54 = .ok (.aload_n 0, 1) := by decide +kernel
theorem dX2_add_55 : decode cX2_add 55 = .ok (.getfield 9, 3) := by decide +kernel
theorem dX2_add_58 : decode cX2_add 58 = .ok (.iload 5, 2) := by decide +kernel
theorem dX2_add_60 : decode cX2_add 60 = .ok (.aload_n 0, 1) := by decide +kernel
theorem dX2_add_61 : decode cX2_add 61 = .ok (.getfield 9, 3) := by decide +kernel
theorem dX2_add_64 : decode cX2_add 64 = .ok (.iload 5, 2) := by decide +kernel
theorem dX2_add_66 : decode cX2_add 66 = .ok (.iconst 1, 1) := by decide +kernel
theorem dX2_add_67 : decode cX2_add 67 = .ok (.iadd, 1) := by decide +kernel
theorem dX2_add_68 : decode cX2_add 68 = .ok (.aload_n 0, 1) := by decide +kernel
theorem dX2_add_69 : decode cX2_add 69 = .ok (.getfield 16, 3) := by decide +kernel
theorem dX2_add_72 : decode cX2_add 72 = .ok (.iload 5, 2) := by decide +kernel
theorem dX2_add_74 : decode cX2_add 74 = .ok (.isub, 1) := by decide +kernel
theorem dX2_add_75 : decode cX2_add 75 = .ok (.invokestatic 36, 3) := by decide +kernel
theorem dX2_add_78 : decode cX2_add 78 = .ok (.aload_n 0, 1) := by decide +kernel
theorem dX2_add_79 : decode cX2_add 79 = .ok (.getfield 13, 3) := by decide +kernel
theorem dX2_add_82 : decode cX2_add 82 = .ok (.iload 5, 2) := by decide +kernel
theorem dX2_add_84 : decode cX2_add 84 = .ok (.aload_n 0, 1) := by decide +kernel
theorem dX2_add_85 : decode cX2_add 85 = .ok (.getfield 13, 3) := by decide +kernel
theorem dX2_add_88 : decode cX2_add 88 = .ok (.iload 5, 2) := by decide +kernel
theorem dX2_add_90 : decode cX2_add 90 = .ok (.iconst 1, 1) := by decide +kernel
theorem dX2_add_91 : decode cX2_add 91 = .ok (.iadd, 1) := by decide +kernel
theorem dX2_add_92 : decode cX2_add 92 = .ok (.aload_n 0, 1) := by decide +kernel
theorem dX2_add_93 : decode cX2_add 93 = .ok (.getfield 16, 3) := by decide +kernel
theorem dX2_add_96 : decode cX2_add 96 = .ok (.iload 5, 2) := by decide +kernel
theorem dX2_add_98 : decode cX2_add 98 = .ok (.isub, 1) := by decide +kernel
theorem dX2_add_99 : decode cX2_add 99 = .ok (.invokestatic 36, 3) := by decide +kernel
theorem dX2_add_102 : decode cX2_add 102 = .ok (.aload_n 0, 1) := by decide +kernel
theorem dX2_add_103 : decode cX2_add 103 = .ok (.getfield 9, 3) := by decide +kernel
theorem dX2_add_106 : decode cX2_add 106 = .ok (.iload 5, 2) := by decide +kernel
theorem dX2_add_108 : decode cX2_add 108 = .ok (.lload_n 1, 1) := by decide +kernel
theorem dX2_add_109 : decode cX2_add 109 = .ok (.lastore, 1) := by decide +kernel
theorem dX2_add_110 : decode cX2_add 110 = .ok (.aload_n 0, 1) := by decide +kernel
theorem dX2_add_111 : decode cX2_add 111 = .ok (.getfield 13, 3) := by decide +kernel
theorem dX2_add_114 : decode cX2_add 114 = .ok (.iload 5, 2) := by decide +kernel
theorem dX2_add_116 : decode cX2_add 116 = .ok (.lload_n 3, 1) := by decide +kernel
theorem dX2_add_117 : decode cX2_add 117 = .ok (.lastore, 1) := by decide +kernel
theorem dX2_add_118 : decode cX2_add 118 = .ok (.aload_n 0, 1) := by decide +kernel
theorem dX2_add_119 : decode cX2_add 119 = .ok (.dup, 1) := by decide +kernel
theorem dX2_add_120 : decode cX2_add 120 = .ok (.getfield 16, 3) := by decide +kernel
theorem dX2_add_123 : decode cX2_add 123 = .ok (.iconst 1, 1) := by decide +kernel
theorem dX2_add_124 : decode cX2_add 124 = .ok (.iadd, 1) := by decide +kernel
theorem dX2_add_125 : decode cX2_add 125 = .ok (.putfield 16, 3) := by decide +kernel
theorem dX2_add_128 : decode cX2_add 128 = .ok (.return_, 1) := by decide +kernel
theorem dX2_firstOn_0 : decode cX2_firstOn 0 = .ok (.iconst 0, 1) := by decide +kernel
theorem dX2_firstOn_1 : decode cX2_firstOn 1 = .ok (.istore_n 3, 1) := by decide +kernel
theorem dX2_firstOn_2 : decode cX2_firstOn 2 = .ok (.iload_n 3, 1) := by decide +kernel
theorem dX2_firstOn_3 : decode cX2_firstOn 3 = .ok (.aload_n 0, 1) := by decide +kernel
theorem dX2_firstOn_4 : decode cX2_firstOn 4 = .ok (.getfield 16, 3) := by decide +kernel
theorem dX2_firstOn_7 : decode cX2_firstOn 7 = .ok (.if_icmp .ge 54, 3) := by decide +kernel
theorem dX2_firstOn_61 : decode cX2_firstOn 61 = .ok (.iconst (-1), 1) := by decide +kernel
theorem dX2_firstOn_62 : decode cX2_firstOn 62 = .ok (.ireturn, 1) := by decide +kernel
theorem dX2_nextBelow_0 : decode cX2_nextBelow 0 = .ok (.iconst (-1), 1) := by decide +kernel
theorem dX2_nextBelow_1 : decode cX2_nextBelow 1 = .ok (.istore_n 3, 1) := by decide +kernel
theorem dX2_nextBelow_2 : decode cX2_nextBelow 2 = .ok (.iconst 0, 1) := by decide +kernel
theorem dX2_nextBelow_3 : decode cX2_nextBelow 3 = .ok (.istore 4, 2) := by decide +kernel
theorem dX2_nextBelow_5 : decode cX2_nextBelow 5 = .ok (.iload 4, 2) := by decide +kernel
theorem dX2_nextBelow_7 : decode cX2_nextBelow 7 = .ok (.aload_n 0, 1) := by decide +kernel
theorem dX2_nextBelow_8 : decode cX2_nextBelow 8 = .ok (.getfield 16, 3) := by decide +kernel
theorem dX2_nextBelow_11 : decode cX2_nextBelow 11 = .ok (.if_icmp .ge 85, 3) := by decide +kernel
theorem dX2_nextBelow_96 : decode cX2_nextBelow 96 = .ok (.iload_n 3, 1) := by decide +kernel
theorem dX2_nextBelow_97 : decode cX2_nextBelow 97 = .ok (.ireturn, 1) := by decide +kernel
theorem dX3_inBounds_0 : decode cX3_inBounds 0 = .ok (.iload_n 0, 1) := by decide +kernel
theorem dX3_inBounds_1 : decode cX3_inBounds 1 = .ok (.ldc 9, 2) := by decide +kernel
theorem dX3_inBounds_3 : decode cX3_inBounds 3 = .ok (.if_icmp .lt 25, 3) := by decide +kernel
theorem dX3_inBounds_6 : decode cX3_inBounds 6 = .ok (.iload_n 0, 1) := by decide +kernel
theorem dX3_inBounds_7 : decode cX3_inBounds 7 = .ok (.ldc 10, 2) := by decide +kernel
theorem dX3_inBounds_9 : decode cX3_inBounds 9 = .ok (.if_icmp .gt 19, 3) := by decide +kernel
theorem dX3_inBounds_12 : decode cX3_inBounds 12 = .ok (.iload_n 1, 1) := by decide +kernel
theorem dX3_inBounds_13 : decode cX3_inBounds 13 = .ok (.ldc 9, 2) := by decide +kernel
theorem dX3_inBounds_15 : decode cX3_inBounds 15 = .ok (.if_icmp .lt 13, 3) := by decide +kernel
theorem dX3_inBounds_18 : decode cX3_inBounds 18 = .ok (.iload_n 1, 1) := by decide +kernel
theorem dX3_inBounds_19 : decode cX3_inBounds 19 = .ok (.ldc 10, 2) := by decide +kernel
theorem dX3_inBounds_21 : decode cX3_inBounds 21 = .ok (.if_icmp .gt 7, 3) := by decide +kernel
theorem dX3_inBounds_24 : decode cX3_inBounds 24 = .ok (.iconst 1, 1) := by decide +kernel
theorem dX3_inBounds_25 : decode cX3_inBounds 25 = .ok (.goto 4, 3) := by decide +kernel
theorem dX3_inBounds_28 : decode cX3_inBounds 28 = .ok (.iconst 0, 1) := by decide +kernel
theorem dX3_inBounds_29 : decode cX3_inBounds 29 = .ok (.ireturn, 1) := by decide +kernel
theorem dX3_of_0 : decode cX3_of 0 = .ok (.iload_n 0, 1) := by decide +kernel
theorem dX3_of_1 : decode cX3_of 1 = .ok (.ldc 10, 2) := by decide +kernel
theorem dX3_of_3 : decode cX3_of 3 = .ok (.iadd, 1) := by decide +kernel
theorem dX3_of_4 : decode cX3_of 4 = .ok (.i2l, 1) := by decide +kernel
theorem dX3_of_5 : decode cX3_of 5 = .ok (.bipush 20, 2) := by decide +kernel
theorem dX3_of_7 : decode cX3_of 7 = .ok (.lshl, 1) := by decide +kernel
theorem dX3_of_8 : decode cX3_of 8 = .ok (.iload_n 1, 1) := by decide +kernel
theorem dX3_of_9 : decode cX3_of 9 = .ok (.ldc 10, 2) := by decide +kernel
theorem dX3_of_11 : decode cX3_of 11 = .ok (.iadd, 1) := by decide +kernel
theorem dX3_of_12 : decode cX3_of 12 = .ok (.i2l, 1) := by decide +kernel
theorem dX3_of_13 : decode cX3_of 13 = .ok (.lor, 1) := by decide +kernel
theorem dX3_of_14 : decode cX3_of 14 = .ok (.lreturn, 1) := by decide +kernel
theorem dX4_init_0 : decode cX4_init 0 = .ok (.aload_n 0, 1) := by decide +kernel
theorem dX4_init_1 : decode cX4_init 1 = .ok (.invokespecial 1, 3) := by decide +kernel
theorem dX4_init_4 : decode cX4_init 4 = .ok (.aload_n 0, 1) := by decide +kernel
theorem dX4_init_5 : decode cX4_init 5 = .ok (.aload_n 1, 1) := by decide +kernel
theorem dX4_init_6 : decode cX4_init 6 = .ok (.putfield 7, 3) := by decide +kernel
theorem dX4_init_9 : decode cX4_init 9 = .ok (.aload_n 0, 1) := by decide +kernel
theorem dX4_init_10 : decode cX4_init 10 = .ok (.aload_n 2, 1) := by decide +kernel
theorem dX4_init_11 : decode cX4_init 11 = .ok (.putfield 13, 3) := by decide +kernel
theorem dX4_init_14 : decode cX4_init 14 = .ok (.aload_n 0, 1) := by decide +kernel
theorem dX4_init_15 : decode cX4_init 15 = .ok (.aload_n 1, 1) := by decide +kernel
theorem dX4_init_16 : decode cX4_init 16 = .ok (.invokevirtual 17, 3) := by decide +kernel
theorem dX4_init_19 : decode cX4_init 19 = .ok (.invokevirtual 23, 3) := by decide +kernel
theorem dX4_init_22 : decode cX4_init 22 = .ok (.return_, 1) := by decide +kernel
theorem dX4_makeRows_0 : decode cX4_makeRows 0 = .ok (.aload_n 0, 1) := by decide +kernel
theorem dX4_makeRows_1 : decode cX4_makeRows 1 = .ok (.iload_n 1, 1) := by decide +kernel
theorem dX4_makeRows_2 : decode cX4_makeRows 2 = .ok (.newarray .int, 2) := by decide +kernel
theorem dX4_makeRows_4 : decode cX4_makeRows 4 = .ok (.putfield 27, 3) := by decide +kernel
theorem dX4_makeRows_7 : decode cX4_makeRows 7 = .ok (.aload_n 0, 1) := by decide +kernel
theorem dX4_makeRows_8 : decode cX4_makeRows 8 = .ok (.iload_n 1, 1) := by decide +kernel
theorem dX4_makeRows_9 : decode cX4_makeRows 9 = .ok (.newarray .int, 2) := by decide +kernel
theorem dX4_makeRows_11 : decode cX4_makeRows 11 = .ok (.putfield 31, 3) := by decide +kernel
theorem dX4_makeRows_14 : decode cX4_makeRows 14 = .ok (.aload_n 0, 1) := by decide +kernel
theorem dX4_makeRows_15 : decode cX4_makeRows 15 = .ok (.iconst 2, 1) := by decide +kernel
theorem dX4_makeRows_16 : decode cX4_makeRows 16 = .ok (.iload_n 1, 1) := by decide +kernel
theorem dX4_makeRows_17 : decode cX4_makeRows 17 = .ok (.imul, 1) := by decide +kernel
theorem dX4_makeRows_18 : decode cX4_makeRows 18 = .ok (.newarray .int, 2) := by decide +kernel
theorem dX4_makeRows_20 : decode cX4_makeRows 20 = .ok (.putfield 34, 3) := by decide +kernel
theorem dX4_makeRows_23 : decode cX4_makeRows 23 = .ok (.aload_n 0, 1) := by decide +kernel
theorem dX4_makeRows_24 : decode cX4_makeRows 24 = .ok (.iconst 2, 1) := by decide +kernel
theorem dX4_makeRows_25 : decode cX4_makeRows 25 = .ok (.iload_n 1, 1) := by decide +kernel
theorem dX4_makeRows_26 : decode cX4_makeRows 26 = .ok (.imul, 1) := by decide +kernel
theorem dX4_makeRows_27 : decode cX4_makeRows 27 = .ok (.newarray .int, 2) := by decide +kernel
theorem dX4_makeRows_29 : decode cX4_makeRows 29 = .ok (.putfield 37, 3) := by decide +kernel
theorem dX4_makeRows_32 : decode cX4_makeRows 32 = .ok (.return_, 1) := by decide +kernel
theorem dX6_init_0 : decode cX6_init 0 = .ok (.aload_n 0, 1) := by decide +kernel
theorem dX6_init_1 : decode cX6_init 1 = .ok (.invokespecial 1, 3) := by decide +kernel
theorem dX6_init_4 : decode cX6_init 4 = .ok (.aload_n 0, 1) := by decide +kernel
theorem dX6_init_5 : decode cX6_init 5 = .ok (.new 7, 3) := by decide +kernel
theorem dX6_init_8 : decode cX6_init 8 = .ok (.dup, 1) := by decide +kernel
theorem dX6_init_9 : decode cX6_init 9 = .ok (.invokespecial 9, 3) := by decide +kernel
theorem dX6_init_12 : decode cX6_init 12 = .ok (.putfield 10, 3) := by decide +kernel
theorem dX6_init_15 : decode cX6_init 15 = .ok (.aload_n 0, 1) := by decide +kernel
theorem dX6_init_16 : decode cX6_init 16 = .ok (.new 16, 3) := by decide +kernel
theorem dX6_init_19 : decode cX6_init 19 = .ok (.dup, 1) := by decide +kernel
theorem dX6_init_20 : decode cX6_init 20 = .ok (.invokespecial 18, 3) := by decide +kernel
theorem dX6_init_23 : decode cX6_init 23 = .ok (.putfield 19, 3) := by decide +kernel
theorem dX6_init_26 : decode cX6_init 26 = .ok (.aload_n 0, 1) := by decide +kernel
theorem dX6_init_27 : decode cX6_init 27 = .ok (.new 23, 3) := by decide +kernel
theorem dX6_init_30 : decode cX6_init 30 = .ok (.dup, 1) := by decide +kernel
theorem dX6_init_31 : decode cX6_init 31 = .ok (.aload_n 0, 1) := by decide +kernel
theorem dX6_init_32 : decode cX6_init 32 = .ok (.getfield 10, 3) := by decide +kernel
theorem dX6_init_35 : decode cX6_init 35 = .ok (.aload_n 0, 1) := by decide +kernel
theorem dX6_init_36 : decode cX6_init 36 = .ok (.getfield 19, 3) := by decide +kernel
theorem dX6_init_39 : decode cX6_init 39 = .ok (.invokespecial 25, 3) := by decide +kernel
theorem dX6_init_42 : decode cX6_init 42 = .ok (.putfield 28, 3) := by decide +kernel
theorem dX6_init_45 : decode cX6_init 45 = .ok (.aload_n 0, 1) := by decide +kernel
theorem dX6_init_46 : decode cX6_init 46 = .ok (.new 32, 3) := by decide +kernel
theorem dX6_init_49 : decode cX6_init 49 = .ok (.dup, 1) := by decide +kernel
theorem dX6_init_50 : decode cX6_init 50 = .ok (.aload_n 0, 1) := by decide +kernel
theorem dX6_init_51 : decode cX6_init 51 = .ok (.getfield 10, 3) := by decide +kernel
theorem dX6_init_54 : decode cX6_init 54 = .ok (.aload_n 0, 1) := by decide +kernel
theorem dX6_init_55 : decode cX6_init 55 = .ok (.getfield 19, 3) := by decide +kernel
theorem dX6_init_58 : decode cX6_init 58 = .ok (.aload_n 0, 1) := by decide +kernel
theorem dX6_init_59 : decode cX6_init 59 = .ok (.getfield 28, 3) := by decide +kernel
theorem dX6_init_62 : decode cX6_init 62 = .ok (.invokespecial 34, 3) := by decide +kernel
theorem dX6_init_65 : decode cX6_init 65 = .ok (.putfield 37, 3) := by decide +kernel
theorem dX6_init_68 : decode cX6_init 68 = .ok (.aload_n 0, 1) := by decide +kernel
theorem dX6_init_69 : decode cX6_init 69 = .ok (.iconst 0, 1) := by decide +kernel
theorem dX6_init_70 : decode cX6_init 70 = .ok (.putfield 41, 3) := by decide +kernel
theorem dX6_init_73 : decode cX6_init 73 = .ok (.return_, 1) := by decide +kernel
theorem dX6_join_0 : decode cX6_join 0 = .ok (.iload_n 1, 1) := by decide +kernel
theorem dX6_join_1 : decode cX6_join 1 = .ok (.iload_n 2, 1) := by decide +kernel
theorem dX6_join_2 : decode cX6_join 2 = .ok (.invokestatic 45, 3) := by decide +kernel
theorem dX6_join_5 : decode cX6_join 5 = .ok (.ifCond .eq 12, 3) := by decide +kernel
theorem dX6_join_8 : decode cX6_join 8 = .ok (.iload_n 3, 1) := by decide +kernel
theorem dX6_join_9 : decode cX6_join 9 = .ok (.iload 4, 2) := by decide +kernel
theorem dX6_join_11 : decode cX6_join 11 = .ok (.invokestatic 45, 3) := by decide +kernel
theorem dX6_join_14 : decode cX6_join 14 = .ok (.ifCond .ne 5, 3) := by decide +kernel
theorem dX6_join_17 : decode cX6_join 17 = .ok (.iconst (-1), 1) := by decide +kernel
theorem dX6_join_18 : decode cX6_join 18 = .ok (.ireturn, 1) := by decide +kernel
theorem dX6_join_19 : decode cX6_join 19 = .ok (.iload_n 1, 1) := by decide +kernel
theorem dX6_join_20 : decode cX6_join 20 = .ok (.iload_n 2, 1) := by decide +kernel
theorem dX6_join_21 : decode cX6_join 21 = .ok (.invokestatic 51, 3) := by decide +kernel
theorem dX6_join_24 : decode cX6_join 24 = .ok (.lstore 5, 2) := by decide +kernel
theorem dX6_join_26 : decode cX6_join 26 = .ok (.iload_n 3, 1) := by decide +kernel
theorem dX6_join_27 : decode cX6_join 27 = .ok (.iload 4, 2) := by decide +kernel
theorem dX6_join_29 : decode cX6_join 29 = .ok (.invokestatic 51, 3) := by decide +kernel
theorem dX6_join_32 : decode cX6_join 32 = .ok (.lstore 7, 2) := by decide +kernel
theorem dX6_join_34 : decode cX6_join 34 = .ok (.lload 5, 2) := by decide +kernel
theorem dX6_join_36 : decode cX6_join 36 = .ok (.lload 7, 2) := by decide +kernel
theorem dX6_join_38 : decode cX6_join 38 = .ok (.lcmp, 1) := by decide +kernel
theorem dX6_join_39 : decode cX6_join 39 = .ok (.ifCond .ne 5, 3) := by decide +kernel
theorem dX6_join_42 : decode cX6_join 42 = .ok (.iconst (-1), 1) := by decide +kernel
theorem dX6_join_43 : decode cX6_join 43 = .ok (.ireturn, 1) := by decide +kernel
theorem dX6_join_44 : decode cX6_join 44 = .ok (.lload 5, 2) := by decide +kernel
theorem dX6_join_46 : decode cX6_join 46 = .ok (.lload 7, 2) := by decide +kernel
theorem dX6_join_48 : decode cX6_join 48 = .ok (.invokestatic 55, 3) := by decide +kernel
theorem dX6_join_51 : decode cX6_join 51 = .ok (.lstore 9, 2) := by decide +kernel
theorem dX6_join_53 : decode cX6_join 53 = .ok (.lload 5, 2) := by decide +kernel
theorem dX6_join_55 : decode cX6_join 55 = .ok (.lload 7, 2) := by decide +kernel
theorem dX6_join_57 : decode cX6_join 57 = .ok (.invokestatic 61, 3) := by decide +kernel
theorem dX6_join_60 : decode cX6_join 60 = .ok (.lstore 11, 2) := by decide +kernel
theorem dX6_join_62 : decode cX6_join 62 = .ok (.aload_n 0, 1) := by decide +kernel
theorem dX6_join_63 : decode cX6_join 63 = .ok (.getfield 10, 3) := by decide +kernel
theorem dX6_join_66 : decode cX6_join 66 = .ok (.lload 9, 2) := by decide +kernel
theorem dX6_join_68 : decode cX6_join 68 = .ok (.lload 11, 2) := by decide +kernel
theorem dX6_join_70 : decode cX6_join 70 = .ok (.invokevirtual 64, 3) := by decide +kernel
theorem dX6_join_73 : decode cX6_join 73 = .ok (.ifCond .eq 6, 3) := by decide +kernel
theorem dX6_join_79 : decode cX6_join 79 = .ok (.aload_n 0, 1) := by decide +kernel
theorem dX6_join_80 : decode cX6_join 80 = .ok (.getfield 10, 3) := by decide +kernel
theorem dX6_join_83 : decode cX6_join 83 = .ok (.lload 9, 2) := by decide +kernel
theorem dX6_join_85 : decode cX6_join 85 = .ok (.lload 11, 2) := by decide +kernel
theorem dX6_join_87 : decode cX6_join 87 = .ok (.invokevirtual 68, 3) := by decide +kernel
theorem dX6_join_90 : decode cX6_join 90 = .ok (.ifCond .eq 6, 3) := by decide +kernel
theorem dX6_join_96 : decode cX6_join 96 = .ok (.aload_n 0, 1) := by decide +kernel
theorem dX6_join_97 : decode cX6_join 97 = .ok (.getfield 10, 3) := by decide +kernel
theorem dX6_join_100 : decode cX6_join 100 = .ok (.getfield 71, 3) := by decide +kernel
theorem dX6_join_103 : decode cX6_join 103 = .ok (.sipush 1500, 3) := by decide +kernel
theorem dX6_join_106 : decode cX6_join 106 = .ok (.if_icmp .lt 6, 3) := by decide +kernel
theorem dX6_join_112 : decode cX6_join 112 = .ok (.aload_n 0, 1) := by decide +kernel
