theorem dX7_ringsOf_1 : decode cX7_ringsOf 1 = .ok (.istore_n 2, 1) := by decide +kernel
theorem dX7_ringsOf_2 : decode cX7_ringsOf 2 = .ok (.iconst 0, 1) := by decide +kernel
theorem dX7_ringsOf_3 : decode cX7_ringsOf 3 = .ok (.istore_n 3, 1) := by decide +kernel
theorem dX7_ringsOf_4 : decode cX7_ringsOf 4 = .ok (.iload_n 3, 1) := by decide +kernel
theorem dX7_ringsOf_5 : decode cX7_ringsOf 5 = .ok (.aload_n 0, 1) := by decide +kernel
theorem dX7_ringsOf_6 : decode cX7_ringsOf 6 = .ok (.getfield 87, 3) := by decide +kernel
theorem dX7_ringsOf_9 : decode cX7_ringsOf 9 = .ok (.if_icmp .ge 22, 3) := by decide +kernel
theorem dX7_ringsOf_31 : decode cX7_ringsOf 31 = .ok (.iload_n 2, 1) := by decide +kernel
theorem dX7_ringsOf_32 : decode cX7_ringsOf 32 = .ok (.ireturn, 1) := by decide +kernel
theorem dX7_waysOf_0 : decode cX7_waysOf 0 = .ok (.iconst 0, 1) := by decide +kernel
theorem dX7_waysOf_1 : decode cX7_waysOf 1 = .ok (.istore_n 2, 1) := by decide +kernel
theorem dX7_waysOf_2 : decode cX7_waysOf 2 = .ok (.iconst 0, 1) := by decide +kernel
theorem dX7_waysOf_3 : decode cX7_waysOf 3 = .ok (.istore_n 3, 1) := by decide +kernel
theorem dX7_waysOf_4 : decode cX7_waysOf 4 = .ok (.iload_n 3, 1) := by decide +kernel
theorem dX7_waysOf_5 : decode cX7_waysOf 5 = .ok (.iconst 2, 1) := by decide +kernel
theorem dX7_waysOf_6 : decode cX7_waysOf 6 = .ok (.aload_n 0, 1) := by decide +kernel
theorem dX7_waysOf_7 : decode cX7_waysOf 7 = .ok (.getfield 71, 3) := by decide +kernel
theorem dX7_waysOf_10 : decode cX7_waysOf 10 = .ok (.imul, 1) := by decide +kernel
theorem dX7_waysOf_11 : decode cX7_waysOf 11 = .ok (.if_icmp .ge 21, 3) := by decide +kernel
theorem dX7_waysOf_32 : decode cX7_waysOf 32 = .ok (.iload_n 2, 1) := by decide +kernel
theorem dX7_waysOf_33 : decode cX7_waysOf 33 = .ok (.ireturn, 1) := by decide +kernel
theorem dX7_keyOf_0 : decode cX7_keyOf 0 = .ok (.iconst 0, 1) := by decide +kernel
theorem dX7_keyOf_1 : decode cX7_keyOf 1 = .ok (.istore_n 2, 1) := by decide +kernel
theorem dX7_keyOf_2 : decode cX7_keyOf 2 = .ok (.iload_n 2, 1) := by decide +kernel
theorem dX7_keyOf_3 : decode cX7_keyOf 3 = .ok (.aload_n 0, 1) := by decide +kernel
theorem dX7_keyOf_4 : decode cX7_keyOf 4 = .ok (.getfield 87, 3) := by decide +kernel
theorem dX7_keyOf_7 : decode cX7_keyOf 7 = .ok (.if_icmp .ge 37, 3) := by decide +kernel
theorem dX7_keyOf_44 : decode cX7_keyOf 44 = .ok (.iconst (-1), 1) := by decide +kernel
theorem dX7_keyOf_45 : decode cX7_keyOf 45 = .ok (.ireturn, 1) := by decide +kernel
theorem dX7_parts_0 : decode cX7_parts 0 = .ok (.iconst 0, 1) := by decide +kernel
theorem dX7_parts_1 : decode cX7_parts 1 = .ok (.istore_n 1, 1) := by decide +kernel
theorem dX7_parts_2 : decode cX7_parts 2 = .ok (.iconst 0, 1) := by decide +kernel
theorem dX7_parts_3 : decode cX7_parts 3 = .ok (.istore_n 2, 1) := by decide +kernel
theorem dX7_parts_4 : decode cX7_parts 4 = .ok (.iload_n 2, 1) := by decide +kernel
theorem dX7_parts_5 : decode cX7_parts 5 = .ok (.aload_n 0, 1) := by decide +kernel
theorem dX7_parts_6 : decode cX7_parts 6 = .ok (.getfield 67, 3) := by decide +kernel
theorem dX7_parts_9 : decode cX7_parts 9 = .ok (.if_icmp .ge 22, 3) := by decide +kernel
theorem dX7_parts_31 : decode cX7_parts 31 = .ok (.iload_n 1, 1) := by decide +kernel
theorem dX7_parts_32 : decode cX7_parts 32 = .ok (.ireturn, 1) := by decide +kernel
theorem dX8_init_0 : decode cX8_init 0 = .ok (.aload_n 0, 1) := by decide +kernel
theorem dX8_init_1 : decode cX8_init 1 = .ok (.invokespecial 1, 3) := by decide +kernel
theorem dX8_init_4 : decode cX8_init 4 = .ok (.aload_n 0, 1) := by decide +kernel
theorem dX8_init_5 : decode cX8_init 5 = .ok (.bipush 64, 2) := by decide +kernel
theorem dX8_init_7 : decode cX8_init 7 = .ok (.newarray .long, 2) := by decide +kernel
theorem dX8_init_9 : decode cX8_init 9 = .ok (.putfield 7, 3) := by decide +kernel
theorem dX8_init_12 : decode cX8_init 12 = .ok (.return_, 1) := by decide +kernel
theorem dX8_clear_0 : decode cX8_clear 0 = .ok (.aload_n 0, 1) := by decide +kernel
theorem dX8_clear_1 : decode cX8_clear 1 = .ok (.iconst 0, 1) := by decide +kernel
theorem dX8_clear_2 : decode cX8_clear 2 = .ok (.putfield 13, 3) := by decide +kernel
theorem dX8_clear_5 : decode cX8_clear 5 = .ok (.return_, 1) := by decide +kernel
theorem dX8_sort_0 : decode cX8_sort 0 = .ok (.aload_n 0, 1) := by decide +kernel
theorem dX8_sort_1 : decode cX8_sort 1 = .ok (.getfield 13, 3) := by decide +kernel
theorem dX8_sort_4 : decode cX8_sort 4 = .ok (.iconst 2, 1) := by decide +kernel
theorem dX8_sort_5 : decode cX8_sort 5 = .ok (.idiv, 1) := by decide +kernel
theorem dX8_sort_6 : decode cX8_sort 6 = .ok (.iconst 1, 1) := by decide +kernel
theorem dX8_sort_7 : decode cX8_sort 7 = .ok (.isub, 1) := by decide +kernel
theorem dX8_sort_8 : decode cX8_sort 8 = .ok (.istore_n 1, 1) := by decide +kernel
theorem dX8_sort_9 : decode cX8_sort 9 = .ok (.iload_n 1, 1) := by decide +kernel
theorem dX8_sort_10 : decode cX8_sort 10 = .ok (.ifCond .lt 18, 3) := by decide +kernel
theorem dX8_sort_28 : decode cX8_sort 28 = .ok (.aload_n 0, 1) := by decide +kernel
theorem dX8_sort_29 : decode cX8_sort 29 = .ok (.getfield 13, 3) := by decide +kernel
theorem dX8_sort_32 : decode cX8_sort 32 = .ok (.iconst 1, 1) := by decide +kernel
theorem dX8_sort_33 : decode cX8_sort 33 = .ok (.isub, 1) := by decide +kernel
theorem dX8_sort_34 : decode cX8_sort 34 = .ok (.istore_n 1, 1) := by decide +kernel
theorem dX8_sort_35 : decode cX8_sort 35 = .ok (.iload_n 1, 1) := by decide +kernel
theorem dX8_sort_36 : decode cX8_sort 36 = .ok (.ifCond .le 41, 3) := by decide +kernel
theorem dX8_sort_77 : decode cX8_sort 77 = .ok (.iconst 0, 1) := by decide +kernel
theorem dX8_sort_78 : decode cX8_sort 78 = .ok (.istore_n 1, 1) := by decide +kernel
theorem dX8_sort_79 : decode cX8_sort 79 = .ok (.iconst 0, 1) := by decide +kernel
theorem dX8_sort_80 : decode cX8_sort 80 = .ok (.istore_n 2, 1) := by decide +kernel
theorem dX8_sort_81 : decode cX8_sort 81 = .ok (.iload_n 2, 1) := by decide +kernel
theorem dX8_sort_82 : decode cX8_sort 82 = .ok (.aload_n 0, 1) := by decide +kernel
theorem dX8_sort_83 : decode cX8_sort 83 = .ok (.getfield 13, 3) := by decide +kernel
theorem dX8_sort_86 : decode cX8_sort 86 = .ok (.if_icmp .ge 49, 3) := by decide +kernel
theorem dX8_sort_135 : decode cX8_sort 135 = .ok (.aload_n 0, 1) := by decide +kernel
theorem dX8_sort_136 : decode cX8_sort 136 = .ok (.iload_n 1, 1) := by decide +kernel
theorem dX8_sort_137 : decode cX8_sort 137 = .ok (.putfield 13, 3) := by decide +kernel
theorem dX8_sort_140 : decode cX8_sort 140 = .ok (.return_, 1) := by decide +kernel
theorem dX9_init_0 : decode cX9_init 0 = .ok (.aload_n 0, 1) := by decide +kernel
theorem dX9_init_1 : decode cX9_init 1 = .ok (.invokespecial 28, 3) := by decide +kernel
theorem dX9_init_4 : decode cX9_init 4 = .ok (.aload_n 0, 1) := by decide +kernel
theorem dX9_init_5 : decode cX9_init 5 = .ok (.sipush 6000, 3) := by decide +kernel
theorem dX9_init_8 : decode cX9_init 8 = .ok (.newarray .int, 2) := by decide +kernel
theorem dX9_init_10 : decode cX9_init 10 = .ok (.putfield 34, 3) := by decide +kernel
theorem dX9_init_13 : decode cX9_init 13 = .ok (.aload_n 0, 1) := by decide +kernel
theorem dX9_init_14 : decode cX9_init 14 = .ok (.new 38, 3) := by decide +kernel
theorem dX9_init_17 : decode cX9_init 17 = .ok (.dup, 1) := by decide +kernel
theorem dX9_init_18 : decode cX9_init 18 = .ok (.invokespecial 40, 3) := by decide +kernel
theorem dX9_init_21 : decode cX9_init 21 = .ok (.putfield 41, 3) := by decide +kernel
theorem dX9_init_24 : decode cX9_init 24 = .ok (.aload_n 0, 1) := by decide +kernel
theorem dX9_init_25 : decode cX9_init 25 = .ok (.new 45, 3) := by decide +kernel
theorem dX9_init_28 : decode cX9_init 28 = .ok (.dup, 1) := by decide +kernel
theorem dX9_init_29 : decode cX9_init 29 = .ok (.invokespecial 47, 3) := by decide +kernel
theorem dX9_init_32 : decode cX9_init 32 = .ok (.putfield 48, 3) := by decide +kernel
theorem dX9_init_35 : decode cX9_init 35 = .ok (.return_, 1) := by decide +kernel
theorem dX9_isIn_0 : decode cX9_isIn 0 = .ok (.iload_n 0, 1) := by decide +kernel
theorem dX9_isIn_1 : decode cX9_isIn 1 = .ok (.ldc 52, 2) := by decide +kernel
theorem dX9_isIn_3 : decode cX9_isIn 3 = .ok (.if_icmp .lt 25, 3) := by decide +kernel
theorem dX9_isIn_6 : decode cX9_isIn 6 = .ok (.iload_n 0, 1) := by decide +kernel
theorem dX9_isIn_7 : decode cX9_isIn 7 = .ok (.ldc 53, 2) := by decide +kernel
theorem dX9_isIn_9 : decode cX9_isIn 9 = .ok (.if_icmp .gt 19, 3) := by decide +kernel
theorem dX9_isIn_12 : decode cX9_isIn 12 = .ok (.iload_n 1, 1) := by decide +kernel
theorem dX9_isIn_13 : decode cX9_isIn 13 = .ok (.ldc 52, 2) := by decide +kernel
theorem dX9_isIn_15 : decode cX9_isIn 15 = .ok (.if_icmp .lt 13, 3) := by decide +kernel
theorem dX9_isIn_18 : decode cX9_isIn 18 = .ok (.iload_n 1, 1) := by decide +kernel
theorem dX9_isIn_19 : decode cX9_isIn 19 = .ok (.ldc 53, 2) := by decide +kernel
theorem dX9_isIn_21 : decode cX9_isIn 21 = .ok (.if_icmp .gt 7, 3) := by decide +kernel
theorem dX9_isIn_24 : decode cX9_isIn 24 = .ok (.iconst 1, 1) := by decide +kernel
theorem dX9_isIn_25 : decode cX9_isIn 25 = .ok (.goto 4, 3) := by decide +kernel
theorem dX9_isIn_28 : decode cX9_isIn 28 = .ok (.iconst 0, 1) := by decide +kernel
theorem dX9_isIn_29 : decode cX9_isIn 29 = .ok (.ireturn, 1) := by decide +kernel
theorem dX9_compare_0 : decode cX9_compare 0 = .ok (.iload_n 0, 1) := by decide +kernel
theorem dX9_compare_1 : decode cX9_compare 1 = .ok (.iload_n 2, 1) := by decide +kernel
theorem dX9_compare_2 : decode cX9_compare 2 = .ok (.if_icmp .eq 16, 3) := by decide +kernel
theorem dX9_compare_5 : decode cX9_compare 5 = .ok (.iload_n 0, 1) := by decide +kernel
theorem dX9_compare_6 : decode cX9_compare 6 = .ok (.iload_n 2, 1) := by decide +kernel
theorem dX9_compare_7 : decode cX9_compare 7 = .ok (.if_icmp .ge 7, 3) := by decide +kernel
theorem dX9_compare_10 : decode cX9_compare 10 = .ok (.iconst (-1), 1) := by decide +kernel
theorem dX9_compare_11 : decode cX9_compare 11 = .ok (.goto 26, 3) := by decide +kernel
theorem dX9_compare_14 : decode cX9_compare 14 = .ok (.iconst 1, 1) := by decide +kernel
theorem dX9_compare_15 : decode cX9_compare 15 = .ok (.goto 22, 3) := by decide +kernel
theorem dX9_compare_18 : decode cX9_compare 18 = .ok (.iload_n 1, 1) := by decide +kernel
theorem dX9_compare_19 : decode cX9_compare 19 = .ok (.iload_n 3, 1) := by decide +kernel
theorem dX9_compare_20 : decode cX9_compare 20 = .ok (.if_icmp .eq 16, 3) := by decide +kernel
theorem dX9_compare_23 : decode cX9_compare 23 = .ok (.iload_n 1, 1) := by decide +kernel
theorem dX9_compare_24 : decode cX9_compare 24 = .ok (.iload_n 3, 1) := by decide +kernel
theorem dX9_compare_25 : decode cX9_compare 25 = .ok (.if_icmp .ge 7, 3) := by decide +kernel
theorem dX9_compare_28 : decode cX9_compare 28 = .ok (.iconst (-1), 1) := by decide +kernel
theorem dX9_compare_29 : decode cX9_compare 29 = .ok (.goto 8, 3) := by decide +kernel
theorem dX9_compare_32 : decode cX9_compare 32 = .ok (.iconst 1, 1) := by decide +kernel
theorem dX9_compare_33 : decode cX9_compare 33 = .ok (.goto 4, 3) := by decide +kernel
theorem dX9_compare_36 : decode cX9_compare 36 = .ok (.iconst 0, 1) := by decide +kernel
theorem dX9_compare_37 : decode cX9_compare 37 = .ok (.ireturn, 1) := by decide +kernel
theorem dX9_from_0 : decode cX9_from 0 = .ok (.iconst 0, 1) := by decide +kernel
theorem dX9_from_1 : decode cX9_from 1 = .ok (.istore 5, 2) := by decide +kernel
theorem dX9_from_3 : decode cX9_from 3 = .ok (.iload 5, 2) := by decide +kernel
theorem dX9_from_5 : decode cX9_from 5 = .ok (.aload_n 0, 1) := by decide +kernel
theorem dX9_from_6 : decode cX9_from 6 = .ok (.getfield 54, 3) := by decide +kernel
theorem dX9_from_9 : decode cX9_from 9 = .ok (.if_icmp .ge 79, 3) := by decide +kernel
theorem dX9_from_88 : decode cX9_from 88 = .ok (.iload 5, 2) := by decide +kernel
theorem dX9_from_90 : decode cX9_from 90 = .ok (.ireturn, 1) := by decide +kernel
theorem dX9_isAt_0 : decode cX9_isAt 0 = .ok (.iload_n 1, 1) := by decide +kernel
theorem dX9_isAt_1 : decode cX9_isAt 1 = .ok (.aload_n 0, 1) := by decide +kernel
theorem dX9_isAt_2 : decode cX9_isAt 2 = .ok (.getfield 54, 3) := by decide +kernel
theorem dX9_isAt_5 : decode cX9_isAt 5 = .ok (.if_icmp .ge 63, 3) := by decide +kernel
theorem dX9_isAt_68 : decode cX9_isAt 68 = .ok (.iconst 0, 1) := by decide +kernel
theorem dX9_isAt_69 : decode cX9_isAt 69 = .ok (.ireturn, 1) := by decide +kernel
theorem dX9_join_0 : decode cX9_join 0 = .ok (.iload_n 1, 1) := by decide +kernel
theorem dX9_join_1 : decode cX9_join 1 = .ok (.iload_n 2, 1) := by decide +kernel
theorem dX9_join_2 : decode cX9_join 2 = .ok (.invokestatic 65, 3) := by decide +kernel
theorem dX9_join_5 : decode cX9_join 5 = .ok (.ifCond .eq 23, 3) := by decide +kernel
theorem dX9_join_8 : decode cX9_join 8 = .ok (.iload_n 3, 1) := by decide +kernel
theorem dX9_join_9 : decode cX9_join 9 = .ok (.iload 4, 2) := by decide +kernel
theorem dX9_join_11 : decode cX9_join 11 = .ok (.invokestatic 65, 3) := by decide +kernel
theorem dX9_join_14 : decode cX9_join 14 = .ok (.ifCond .eq 14, 3) := by decide +kernel
theorem dX9_join_17 : decode cX9_join 17 = .ok (.iload_n 1, 1) := by decide +kernel
theorem dX9_join_18 : decode cX9_join 18 = .ok (.iload_n 3, 1) := by decide +kernel
theorem dX9_join_19 : decode cX9_join 19 = .ok (.if_icmp .ne 11, 3) := by decide +kernel
theorem dX9_join_22 : decode cX9_join 22 = .ok (.iload_n 2, 1) := by decide +kernel
theorem dX9_join_23 : decode cX9_join 23 = .ok (.iload 4, 2) := by decide +kernel
theorem dX9_join_25 : decode cX9_join 25 = .ok (.if_icmp .ne 5, 3) := by decide +kernel
theorem dX9_join_28 : decode cX9_join 28 = .ok (.iconst (-1), 1) := by decide +kernel
theorem dX9_join_29 : decode cX9_join 29 = .ok (.ireturn, 1) := by decide +kernel
theorem dX9_join_30 : decode cX9_join 30 = .ok (.iload_n 1, 1) := by decide +kernel
theorem dX9_join_31 : decode cX9_join 31 = .ok (.iload_n 2, 1) := by decide +kernel
theorem dX9_join_32 : decode cX9_join 32 = .ok (.iload_n 3, 1) := by decide +kernel
theorem dX9_join_33 : decode cX9_join 33 = .ok (.iload 4, 2) := by decide +kernel
theorem dX9_join_35 : decode cX9_join 35 = .ok (.invokestatic 58, 3) := by decide +kernel
theorem dX9_join_38 : decode cX9_join 38 = .ok (.ifCond .le 13, 3) := by decide +kernel
theorem dX9_join_41 : decode cX9_join 41 = .ok (.aload_n 0, 1) := by decide +kernel
theorem dX9_join_42 : decode cX9_join 42 = .ok (.iload_n 3, 1) := by decide +kernel
theorem dX9_join_43 : decode cX9_join 43 = .ok (.iload 4, 2) := by decide +kernel
theorem dX9_join_45 : decode cX9_join 45 = .ok (.iload_n 1, 1) := by decide +kernel
theorem dX9_join_46 : decode cX9_join 46 = .ok (.iload_n 2, 1) := by decide +kernel
theorem dX9_join_47 : decode cX9_join 47 = .ok (.invokevirtual 69, 3) := by decide +kernel
theorem dX9_join_50 : decode cX9_join 50 = .ok (.ireturn, 1) := by decide +kernel
theorem dX9_join_51 : decode cX9_join 51 = .ok (.aload_n 0, 1) := by decide +kernel
theorem dX9_join_52 : decode cX9_join 52 = .ok (.iload_n 1, 1) := by decide +kernel
theorem dX9_join_53 : decode cX9_join 53 = .ok (.iload_n 2, 1) := by decide +kernel
theorem dX9_join_54 : decode cX9_join 54 = .ok (.iload_n 3, 1) := by decide +kernel
theorem dX9_join_55 : decode cX9_join 55 = .ok (.iload 4, 2) := by decide +kernel
theorem dX9_join_57 : decode cX9_join 57 = .ok (.invokevirtual 72, 3) := by decide +kernel
theorem dX9_join_60 : decode cX9_join 60 = .ok (.istore 5, 2) := by decide +kernel
theorem dX9_join_62 : decode cX9_join 62 = .ok (.aload_n 0, 1) := by decide +kernel
theorem dX9_join_63 : decode cX9_join 63 = .ok (.iload 5, 2) := by decide +kernel
theorem dX9_join_65 : decode cX9_join 65 = .ok (.iload_n 1, 1) := by decide +kernel
theorem dX9_join_66 : decode cX9_join 66 = .ok (.iload_n 2, 1) := by decide +kernel
theorem dX9_join_67 : decode cX9_join 67 = .ok (.iload_n 3, 1) := by decide +kernel
theorem dX9_join_68 : decode cX9_join 68 = .ok (.iload 4, 2) := by decide +kernel
theorem dX9_join_70 : decode cX9_join 70 = .ok (.invokevirtual 75, 3) := by decide +kernel
theorem dX9_join_73 : decode cX9_join 73 = .ok (.ifCond .eq 6, 3) := by decide +kernel
theorem dX9_join_79 : decode cX9_join 79 = .ok (.iconst 0, 1) := by decide +kernel
theorem dX9_join_80 : decode cX9_join 80 = .ok (.istore 6, 2) := by decide +kernel
theorem dX9_join_82 : decode cX9_join 82 = .ok (.iload 6, 2) := by decide +kernel
theorem dX9_join_84 : decode cX9_join 84 = .ok (.aload_n 0, 1) := by decide +kernel
theorem dX9_join_85 : decode cX9_join 85 = .ok (.getfield 54, 3) := by decide +kernel
theorem dX9_join_88 : decode cX9_join 88 = .ok (.if_icmp .ge 26, 3) := by decide +kernel
theorem dX9_join_114 : decode cX9_join 114 = .ok (.aload_n 0, 1) := by decide +kernel
theorem dX9_join_115 : decode cX9_join 115 = .ok (.getfield 54, 3) := by decide +kernel
theorem dX9_join_118 : decode cX9_join 118 = .ok (.sipush 1500, 3) := by decide +kernel
theorem dX9_join_121 : decode cX9_join 121 = .ok (.if_icmp .ne 6, 3) := by decide +kernel
theorem dX9_join_127 : decode cX9_join 127 = .ok (.iconst 4, 1) := by decide +kernel
theorem dX9_join_128 : decode cX9_join 128 = .ok (.aload_n 0, 1) := by decide +kernel
theorem dX9_join_129 : decode cX9_join 129 = .ok (.getfield 54, 3) := by decide +kernel
theorem dX9_join_132 : decode cX9_join 132 = .ok (.imul, 1) := by decide +kernel
theorem dX9_join_133 : decode cX9_join 133 = .ok (.iconst 1, 1) := by decide +kernel
theorem dX9_join_134 : decode cX9_join 134 = .ok (.isub, 1) := by decide +kernel
theorem dX9_join_135 : decode cX9_join 135 = .ok (.istore 6, 2) := by decide +kernel
theorem dX9_join_137 : decode cX9_join 137 = .ok (.iload 6, 2) := by decide +kernel
theorem dX9_join_139 : decode cX9_join 139 = .ok (.iconst 4, 1) := by decide +kernel
theorem dX9_join_140 : decode cX9_join 140 = .ok (.iload 5, 2) := by decide +kernel
theorem dX9_join_142 : decode cX9_join 142 = .ok (.imul, 1) := by decide +kernel
theorem dX9_join_143 : decode cX9_join 143 = .ok (.if_icmp .lt 25, 3) := by decide +kernel
theorem dX9_join_168 : decode cX9_join 168 = .ok (.aload_n 0, 1) := by decide +kernel
theorem dX9_join_169 : decode cX9_join 169 = .ok (.getfield 34, 3) := by decide +kernel
theorem dX9_join_172 : decode cX9_join 172 = .ok (.iconst 4, 1) := by decide +kernel
theorem dX9_join_173 : decode cX9_join 173 = .ok (.iload 5, 2) := by decide +kernel
theorem dX9_join_175 : decode cX9_join 175 = .ok (.imul, 1) := by decide +kernel
theorem dX9_join_176 : decode cX9_join 176 = .ok (.iload_n 1, 1) := by decide +kernel
theorem dX9_join_177 : decode cX9_join 177 = .ok (.iastore, 1) := by decide +kernel
theorem dX9_join_178 : decode cX9_join 178 = .ok (.aload_n 0, 1) := by decide +kernel
theorem dX9_join_179 : decode cX9_join 179 = .ok (.getfield 34, 3) := by decide +kernel
theorem dX9_join_182 : decode cX9_join 182 = .ok (.iconst 4, 1) := by decide +kernel
theorem dX9_join_183 : decode cX9_join 183 = .ok (.iload 5, 2) := by decide +kernel
theorem dX9_join_185 : decode cX9_join 185 = .ok (.imul, 1) := by decide +kernel
theorem dX9_join_186 : decode cX9_join 186 = .ok (.iconst 1, 1) := by decide +kernel
theorem dX9_join_187 : decode cX9_join 187 = .ok (.iadd, 1) := by decide +kernel
theorem dX9_join_188 : decode cX9_join 188 = .ok (.iload_n 2, 1) := by decide +kernel
theorem dX9_join_189 : decode cX9_join 189 = .ok (.iastore, 1) := by decide +kernel
theorem dX9_join_190 : decode cX9_join 190 = .ok (.aload_n 0, 1) := by decide +kernel
theorem dX9_join_191 : decode cX9_join 191 = .ok (.getfield 34, 3) := by decide +kernel
theorem dX9_join_194 : decode cX9_join 194 = .ok (.iconst 4, 1) := by decide +kernel
theorem dX9_join_195 : decode cX9_join 195 = .ok (.iload 5, 2) := by decide +kernel
theorem dX9_join_197 : decode cX9_join 197 = .ok (.imul, 1) := by decide +kernel
theorem dX9_join_198 : decode cX9_join 198 = .ok (.iconst 2, 1) := by decide +kernel
theorem dX9_join_199 : decode cX9_join 199 = .ok (.iadd, 1) := by decide +kernel
theorem dX9_join_200 : decode cX9_join 200 = .ok (.iload_n 3, 1) := by decide +kernel
theorem dX9_join_201 : decode cX9_join 201 = .ok (.iastore, 1) := by decide +kernel
theorem dX9_join_202 : decode cX9_join 202 = .ok (.aload_n 0, 1) := by decide +kernel
theorem dX9_join_203 : decode cX9_join 203 = .ok (.getfield 34, 3) := by decide +kernel
theorem dX9_join_206 : decode cX9_join 206 = .ok (.iconst 4, 1) := by decide +kernel
theorem dX9_join_207 : decode cX9_join 207 = .ok (.iload 5, 2) := by decide +kernel
theorem dX9_join_209 : decode cX9_join 209 = .ok (.imul, 1) := by decide +kernel
theorem dX9_join_210 : decode cX9_join 210 = .ok (.iconst 3, 1) := by decide +kernel
theorem dX9_join_211 : decode cX9_join 211 = .ok (.iadd, 1) := by decide +kernel
theorem dX9_join_212 : decode cX9_join 212 = .ok (.iload 4, 2) := by decide +kernel
theorem dX9_join_214 : decode cX9_join 214 = .ok (.iastore, 1) := by decide +kernel
theorem dX9_join_215 : decode cX9_join 215 = .ok (.aload_n 0, 1) := by decide +kernel
theorem dX9_join_216 : decode cX9_join 216 = .ok (.dup, 1) := by decide +kernel
theorem dX9_join_217 : decode cX9_join 217 = .ok (.getfield 54, 3) := by decide +kernel
theorem dX9_join_220 : decode cX9_join 220 = .ok (.iconst 1, 1) := by decide +kernel
theorem dX9_join_221 : decode cX9_join 221 = .ok (.iadd, 1) := by decide +kernel
theorem dX9_join_222 : decode cX9_join 222 = .ok (.putfield 54, 3) := by decide +kernel
theorem dX9_join_225 : decode cX9_join 225 = .ok (.aload_n 0, 1) := by decide +kernel
theorem dX9_join_226 : decode cX9_join 226 = .ok (.iconst 0, 1) := by decide +kernel
theorem dX9_join_227 : decode cX9_join 227 = .ok (.putfield 82, 3) := by decide +kernel
theorem dX9_join_230 : decode cX9_join 230 = .ok (.aload_n 0, 1) := by decide +kernel
theorem dX9_join_231 : decode cX9_join 231 = .ok (.getfield 54, 3) := by decide +kernel
theorem dX9_join_234 : decode cX9_join 234 = .ok (.ireturn, 1) := by decide +kernel
theorem dX9_cut_0 : decode cX9_cut 0 = .ok (.iload_n 1, 1) := by decide +kernel
