theorem dX6_join_113 : decode cX6_join 113 = .ok (.getfield 10, 3) := by decide +kernel
theorem dX6_join_116 : decode cX6_join 116 = .ok (.lload 9, 2) := by decide +kernel
theorem dX6_join_118 : decode cX6_join 118 = .ok (.lload 11, 2) := by decide +kernel
theorem dX6_join_120 : decode cX6_join 120 = .ok (.invokevirtual 75, 3) := by decide +kernel
theorem dX6_join_123 : decode cX6_join 123 = .ok (.aload_n 0, 1) := by decide +kernel
theorem dX6_join_124 : decode cX6_join 124 = .ok (.getfield 19, 3) := by decide +kernel
theorem dX6_join_127 : decode cX6_join 127 = .ok (.lload 9, 2) := by decide +kernel
theorem dX6_join_129 : decode cX6_join 129 = .ok (.invokevirtual 79, 3) := by decide +kernel
theorem dX6_join_132 : decode cX6_join 132 = .ok (.aload_n 0, 1) := by decide +kernel
theorem dX6_join_133 : decode cX6_join 133 = .ok (.getfield 19, 3) := by decide +kernel
theorem dX6_join_136 : decode cX6_join 136 = .ok (.lload 11, 2) := by decide +kernel
theorem dX6_join_138 : decode cX6_join 138 = .ok (.invokevirtual 79, 3) := by decide +kernel
theorem dX6_join_141 : decode cX6_join 141 = .ok (.aload_n 0, 1) := by decide +kernel
theorem dX6_join_142 : decode cX6_join 142 = .ok (.iconst 1, 1) := by decide +kernel
theorem dX6_join_143 : decode cX6_join 143 = .ok (.putfield 41, 3) := by decide +kernel
theorem dX6_join_146 : decode cX6_join 146 = .ok (.aload_n 0, 1) := by decide +kernel
theorem dX6_join_147 : decode cX6_join 147 = .ok (.getfield 10, 3) := by decide +kernel
theorem dX6_join_150 : decode cX6_join 150 = .ok (.getfield 71, 3) := by decide +kernel
theorem dX6_join_153 : decode cX6_join 153 = .ok (.ireturn, 1) := by decide +kernel
theorem dX6_cut_0 : decode cX6_cut 0 = .ok (.aload_n 0, 1) := by decide +kernel
theorem dX6_cut_1 : decode cX6_cut 1 = .ok (.iload_n 1, 1) := by decide +kernel
theorem dX6_cut_2 : decode cX6_cut 2 = .ok (.iload_n 2, 1) := by decide +kernel
theorem dX6_cut_3 : decode cX6_cut 3 = .ok (.iload_n 3, 1) := by decide +kernel
theorem dX6_cut_4 : decode cX6_cut 4 = .ok (.iload 4, 2) := by decide +kernel
theorem dX6_cut_6 : decode cX6_cut 6 = .ok (.invokevirtual 83, 3) := by decide +kernel
theorem dX6_cut_9 : decode cX6_cut 9 = .ok (.istore 5, 2) := by decide +kernel
theorem dX6_cut_11 : decode cX6_cut 11 = .ok (.iload 5, 2) := by decide +kernel
theorem dX6_cut_13 : decode cX6_cut 13 = .ok (.ifCond .ge 5, 3) := by decide +kernel
theorem dX6_cut_16 : decode cX6_cut 16 = .ok (.iconst 0, 1) := by decide +kernel
theorem dX6_cut_17 : decode cX6_cut 17 = .ok (.ireturn, 1) := by decide +kernel
theorem dX6_count_0 : decode cX6_count 0 = .ok (.iload_n 1, 1) := by decide +kernel
theorem dX6_count_1 : decode cX6_count 1 = .ok (.tableswitch 63 0 3 #[31, 39, 47, 55], 31) := by decide +kernel
theorem dX6_count_32 : decode cX6_count 32 = .ok (.aload_n 0, 1) := by decide +kernel
theorem dX6_count_33 : decode cX6_count 33 = .ok (.getfield 19, 3) := by decide +kernel
theorem dX6_count_36 : decode cX6_count 36 = .ok (.getfield 101, 3) := by decide +kernel
theorem dX6_count_39 : decode cX6_count 39 = .ok (.ireturn, 1) := by decide +kernel
theorem dX6_count_40 : decode cX6_count 40 = .ok (.aload_n 0, 1) := by decide +kernel
theorem dX6_count_41 : decode cX6_count 41 = .ok (.getfield 10, 3) := by decide +kernel
theorem dX6_count_44 : decode cX6_count 44 = .ok (.getfield 71, 3) := by decide +kernel
theorem dX6_count_47 : decode cX6_count 47 = .ok (.ireturn, 1) := by decide +kernel
theorem dX6_count_48 : decode cX6_count 48 = .ok (.aload_n 0, 1) := by decide +kernel
theorem dX6_count_49 : decode cX6_count 49 = .ok (.invokevirtual 102, 3) := by decide +kernel
theorem dX6_count_52 : decode cX6_count 52 = .ok (.getfield 106, 3) := by decide +kernel
theorem dX6_count_55 : decode cX6_count 55 = .ok (.ireturn, 1) := by decide +kernel
theorem dX6_count_56 : decode cX6_count 56 = .ok (.aload_n 0, 1) := by decide +kernel
theorem dX6_count_57 : decode cX6_count 57 = .ok (.invokevirtual 102, 3) := by decide +kernel
theorem dX6_count_60 : decode cX6_count 60 = .ok (.getfield 107, 3) := by decide +kernel
theorem dX6_count_63 : decode cX6_count 63 = .ok (.ireturn, 1) := by decide +kernel
theorem dX6_count_64 : decode cX6_count 64 = .ok (.iconst (-1), 1) := by decide +kernel
theorem dX6_count_65 : decode cX6_count 65 = .ok (.ireturn, 1) := by decide +kernel
theorem dX6_node_0 : decode cX6_node 0 = .ok (.iload_n 1, 1) := by decide +kernel
theorem dX6_node_1 : decode cX6_node 1 = .ok (.ifCond .lt 14, 3) := by decide +kernel
theorem dX6_node_4 : decode cX6_node 4 = .ok (.iload_n 1, 1) := by decide +kernel
theorem dX6_node_5 : decode cX6_node 5 = .ok (.aload_n 0, 1) := by decide +kernel
theorem dX6_node_6 : decode cX6_node 6 = .ok (.getfield 19, 3) := by decide +kernel
theorem dX6_node_9 : decode cX6_node 9 = .ok (.getfield 101, 3) := by decide +kernel
theorem dX6_node_12 : decode cX6_node 12 = .ok (.if_icmp .lt 6, 3) := by decide +kernel
theorem dX6_node_15 : decode cX6_node 15 = .ok (.ldc 110, 2) := by decide +kernel
theorem dX6_node_17 : decode cX6_node 17 = .ok (.ireturn, 1) := by decide +kernel
theorem dX6_piece_0 : decode cX6_piece 0 = .ok (.iload_n 1, 1) := by decide +kernel
theorem dX6_piece_1 : decode cX6_piece 1 = .ok (.ifCond .lt 14, 3) := by decide +kernel
theorem dX6_piece_4 : decode cX6_piece 4 = .ok (.iload_n 1, 1) := by decide +kernel
theorem dX6_piece_5 : decode cX6_piece 5 = .ok (.aload_n 0, 1) := by decide +kernel
theorem dX6_piece_6 : decode cX6_piece 6 = .ok (.getfield 10, 3) := by decide +kernel
theorem dX6_piece_9 : decode cX6_piece 9 = .ok (.getfield 71, 3) := by decide +kernel
theorem dX6_piece_12 : decode cX6_piece 12 = .ok (.if_icmp .lt 5, 3) := by decide +kernel
theorem dX6_piece_15 : decode cX6_piece 15 = .ok (.iconst (-1), 1) := by decide +kernel
theorem dX6_piece_16 : decode cX6_piece 16 = .ok (.ireturn, 1) := by decide +kernel
theorem dX6_left_0 : decode cX6_left 0 = .ok (.aload_n 0, 1) := by decide +kernel
theorem dX6_left_1 : decode cX6_left 1 = .ok (.iload_n 1, 1) := by decide +kernel
theorem dX6_left_2 : decode cX6_left 2 = .ok (.iload_n 2, 1) := by decide +kernel
theorem dX6_left_3 : decode cX6_left 3 = .ok (.iload_n 3, 1) := by decide +kernel
theorem dX6_left_4 : decode cX6_left 4 = .ok (.iload 4, 2) := by decide +kernel
theorem dX6_left_6 : decode cX6_left 6 = .ok (.invokevirtual 83, 3) := by decide +kernel
theorem dX6_left_9 : decode cX6_left 9 = .ok (.istore 5, 2) := by decide +kernel
theorem dX6_left_11 : decode cX6_left 11 = .ok (.iload 5, 2) := by decide +kernel
theorem dX6_left_13 : decode cX6_left 13 = .ok (.ifCond .ge 5, 3) := by decide +kernel
theorem dX6_left_16 : decode cX6_left 16 = .ok (.iconst (-1), 1) := by decide +kernel
theorem dX6_left_17 : decode cX6_left 17 = .ok (.ireturn, 1) := by decide +kernel
theorem dX6_face_0 : decode cX6_face 0 = .ok (.aload_n 0, 1) := by decide +kernel
theorem dX6_face_1 : decode cX6_face 1 = .ok (.invokevirtual 102, 3) := by decide +kernel
theorem dX6_face_4 : decode cX6_face 4 = .ok (.astore_n 3, 1) := by decide +kernel
theorem dX6_face_5 : decode cX6_face 5 = .ok (.aload_n 3, 1) := by decide +kernel
theorem dX6_face_6 : decode cX6_face 6 = .ok (.iload_n 1, 1) := by decide +kernel
theorem dX6_face_7 : decode cX6_face 7 = .ok (.invokevirtual 140, 3) := by decide +kernel
theorem dX6_face_10 : decode cX6_face 10 = .ok (.ifCond .ne 5, 3) := by decide +kernel
theorem dX6_face_13 : decode cX6_face 13 = .ok (.iconst (-1), 1) := by decide +kernel
theorem dX6_face_14 : decode cX6_face 14 = .ok (.ireturn, 1) := by decide +kernel
theorem dX6_face_15 : decode cX6_face 15 = .ok (.iload_n 2, 1) := by decide +kernel
theorem dX6_face_16 : decode cX6_face 16 = .ok (.tableswitch 60 0 3 #[32, 39, 46, 53], 32) := by decide +kernel
theorem dX6_face_48 : decode cX6_face 48 = .ok (.aload_n 3, 1) := by decide +kernel
theorem dX6_face_49 : decode cX6_face 49 = .ok (.getfield 143, 3) := by decide +kernel
theorem dX6_face_52 : decode cX6_face 52 = .ok (.iload_n 1, 1) := by decide +kernel
theorem dX6_face_53 : decode cX6_face 53 = .ok (.iaload, 1) := by decide +kernel
theorem dX6_face_54 : decode cX6_face 54 = .ok (.ireturn, 1) := by decide +kernel
theorem dX6_face_55 : decode cX6_face 55 = .ok (.aload_n 3, 1) := by decide +kernel
theorem dX6_face_56 : decode cX6_face 56 = .ok (.getfield 146, 3) := by decide +kernel
theorem dX6_face_59 : decode cX6_face 59 = .ok (.iload_n 1, 1) := by decide +kernel
theorem dX6_face_60 : decode cX6_face 60 = .ok (.iaload, 1) := by decide +kernel
theorem dX6_face_61 : decode cX6_face 61 = .ok (.ireturn, 1) := by decide +kernel
theorem dX6_face_62 : decode cX6_face 62 = .ok (.aload_n 3, 1) := by decide +kernel
theorem dX6_face_63 : decode cX6_face 63 = .ok (.getfield 149, 3) := by decide +kernel
theorem dX6_face_66 : decode cX6_face 66 = .ok (.iload_n 1, 1) := by decide +kernel
theorem dX6_face_67 : decode cX6_face 67 = .ok (.iaload, 1) := by decide +kernel
theorem dX6_face_68 : decode cX6_face 68 = .ok (.ireturn, 1) := by decide +kernel
theorem dX6_face_69 : decode cX6_face 69 = .ok (.aload_n 3, 1) := by decide +kernel
theorem dX6_face_70 : decode cX6_face 70 = .ok (.getfield 152, 3) := by decide +kernel
theorem dX6_face_73 : decode cX6_face 73 = .ok (.iload_n 1, 1) := by decide +kernel
theorem dX6_face_74 : decode cX6_face 74 = .ok (.iaload, 1) := by decide +kernel
theorem dX6_face_75 : decode cX6_face 75 = .ok (.ireturn, 1) := by decide +kernel
theorem dX6_face_76 : decode cX6_face 76 = .ok (.iconst (-1), 1) := by decide +kernel
theorem dX6_face_77 : decode cX6_face 77 = .ok (.ireturn, 1) := by decide +kernel
theorem dX6_area2_0 : decode cX6_area2 0 = .ok (.aload_n 0, 1) := by decide +kernel
theorem dX6_area2_1 : decode cX6_area2 1 = .ok (.invokevirtual 102, 3) := by decide +kernel
theorem dX6_area2_4 : decode cX6_area2 4 = .ok (.astore_n 2, 1) := by decide +kernel
theorem dX6_area2_5 : decode cX6_area2 5 = .ok (.iload_n 1, 1) := by decide +kernel
theorem dX6_area2_6 : decode cX6_area2 6 = .ok (.ifCond .eq 20, 3) := by decide +kernel
theorem dX6_area2_9 : decode cX6_area2 9 = .ok (.aload_n 2, 1) := by decide +kernel
theorem dX6_area2_10 : decode cX6_area2 10 = .ok (.iload_n 1, 1) := by decide +kernel
theorem dX6_area2_11 : decode cX6_area2 11 = .ok (.invokevirtual 140, 3) := by decide +kernel
theorem dX6_area2_14 : decode cX6_area2 14 = .ok (.ifCond .eq 12, 3) := by decide +kernel
theorem dX6_area2_26 : decode cX6_area2 26 = .ok (.lconst 0, 1) := by decide +kernel
theorem dX6_area2_27 : decode cX6_area2 27 = .ok (.lreturn, 1) := by decide +kernel
theorem dX6_locate_0 : decode cX6_locate 0 = .ok (.iload_n 1, 1) := by decide +kernel
theorem dX6_locate_1 : decode cX6_locate 1 = .ok (.iload_n 2, 1) := by decide +kernel
theorem dX6_locate_2 : decode cX6_locate 2 = .ok (.invokestatic 45, 3) := by decide +kernel
theorem dX6_locate_5 : decode cX6_locate 5 = .ok (.ifCond .ne 5, 3) := by decide +kernel
theorem dX6_locate_8 : decode cX6_locate 8 = .ok (.iconst 0, 1) := by decide +kernel
theorem dX6_locate_9 : decode cX6_locate 9 = .ok (.ireturn, 1) := by decide +kernel
theorem dX6_locate_10 : decode cX6_locate 10 = .ok (.iload_n 1, 1) := by decide +kernel
theorem dX6_locate_11 : decode cX6_locate 11 = .ok (.iload_n 2, 1) := by decide +kernel
theorem dX6_locate_12 : decode cX6_locate 12 = .ok (.invokestatic 51, 3) := by decide +kernel
theorem dX6_locate_15 : decode cX6_locate 15 = .ok (.lstore_n 3, 1) := by decide +kernel
theorem dX6_locate_16 : decode cX6_locate 16 = .ok (.aload_n 0, 1) := by decide +kernel
theorem dX6_locate_17 : decode cX6_locate 17 = .ok (.getfield 10, 3) := by decide +kernel
theorem dX6_locate_20 : decode cX6_locate 20 = .ok (.lload_n 3, 1) := by decide +kernel
theorem dX6_locate_21 : decode cX6_locate 21 = .ok (.invokevirtual 158, 3) := by decide +kernel
theorem dX6_locate_24 : decode cX6_locate 24 = .ok (.istore 5, 2) := by decide +kernel
theorem dX6_locate_26 : decode cX6_locate 26 = .ok (.iload 5, 2) := by decide +kernel
theorem dX6_locate_28 : decode cX6_locate 28 = .ok (.ifCond .lt 8, 3) := by decide +kernel
theorem dX6_locate_36 : decode cX6_locate 36 = .ok (.aload_n 0, 1) := by decide +kernel
theorem dX6_locate_37 : decode cX6_locate 37 = .ok (.invokevirtual 102, 3) := by decide +kernel
theorem dX6_locate_40 : decode cX6_locate 40 = .ok (.aload_n 0, 1) := by decide +kernel
theorem dX6_locate_41 : decode cX6_locate 41 = .ok (.getfield 10, 3) := by decide +kernel
theorem dX6_locate_44 : decode cX6_locate 44 = .ok (.lload_n 3, 1) := by decide +kernel
theorem dX6_locate_45 : decode cX6_locate 45 = .ok (.invokevirtual 161, 3) := by decide +kernel
theorem dX6_locate_48 : decode cX6_locate 48 = .ok (.invokevirtual 164, 3) := by decide +kernel
theorem dX6_locate_51 : decode cX6_locate 51 = .ok (.ireturn, 1) := by decide +kernel
theorem dX6_between_0 : decode cX6_between 0 = .ok (.aload_n 0, 1) := by decide +kernel
theorem dX6_between_1 : decode cX6_between 1 = .ok (.invokevirtual 102, 3) := by decide +kernel
theorem dX6_between_4 : decode cX6_between 4 = .ok (.astore_n 3, 1) := by decide +kernel
theorem dX6_between_5 : decode cX6_between 5 = .ok (.aload_n 3, 1) := by decide +kernel
theorem dX6_between_6 : decode cX6_between 6 = .ok (.iload_n 1, 1) := by decide +kernel
theorem dX6_between_7 : decode cX6_between 7 = .ok (.invokevirtual 140, 3) := by decide +kernel
theorem dX6_between_10 : decode cX6_between 10 = .ok (.ifCond .eq 20, 3) := by decide +kernel
theorem dX6_between_13 : decode cX6_between 13 = .ok (.aload_n 3, 1) := by decide +kernel
theorem dX6_between_14 : decode cX6_between 14 = .ok (.iload_n 2, 1) := by decide +kernel
theorem dX6_between_15 : decode cX6_between 15 = .ok (.invokevirtual 140, 3) := by decide +kernel
theorem dX6_between_18 : decode cX6_between 18 = .ok (.ifCond .eq 12, 3) := by decide +kernel
theorem dX6_between_21 : decode cX6_between 21 = .ok (.aload_n 3, 1) := by decide +kernel
theorem dX6_between_22 : decode cX6_between 22 = .ok (.iload_n 1, 1) := by decide +kernel
theorem dX6_between_23 : decode cX6_between 23 = .ok (.iload_n 2, 1) := by decide +kernel
theorem dX6_between_24 : decode cX6_between 24 = .ok (.invokevirtual 167, 3) := by decide +kernel
theorem dX6_between_27 : decode cX6_between 27 = .ok (.goto 4, 3) := by decide +kernel
theorem dX6_between_30 : decode cX6_between 30 = .ok (.iconst (-1), 1) := by decide +kernel
theorem dX6_between_31 : decode cX6_between 31 = .ok (.ireturn, 1) := by decide +kernel
theorem dX6_numberOf_0 : decode cX6_numberOf 0 = .ok (.iload_n 1, 1) := by decide +kernel
theorem dX6_numberOf_1 : decode cX6_numberOf 1 = .ok (.iload_n 2, 1) := by decide +kernel
theorem dX6_numberOf_2 : decode cX6_numberOf 2 = .ok (.invokestatic 45, 3) := by decide +kernel
theorem dX6_numberOf_5 : decode cX6_numberOf 5 = .ok (.ifCond .eq 12, 3) := by decide +kernel
theorem dX6_numberOf_8 : decode cX6_numberOf 8 = .ok (.iload_n 3, 1) := by decide +kernel
theorem dX6_numberOf_9 : decode cX6_numberOf 9 = .ok (.iload 4, 2) := by decide +kernel
theorem dX6_numberOf_11 : decode cX6_numberOf 11 = .ok (.invokestatic 45, 3) := by decide +kernel
theorem dX6_numberOf_14 : decode cX6_numberOf 14 = .ok (.ifCond .ne 5, 3) := by decide +kernel
theorem dX6_numberOf_17 : decode cX6_numberOf 17 = .ok (.iconst (-1), 1) := by decide +kernel
theorem dX6_numberOf_18 : decode cX6_numberOf 18 = .ok (.ireturn, 1) := by decide +kernel
theorem dX6_numberOf_19 : decode cX6_numberOf 19 = .ok (.iload_n 1, 1) := by decide +kernel
theorem dX6_numberOf_20 : decode cX6_numberOf 20 = .ok (.iload_n 2, 1) := by decide +kernel
theorem dX6_numberOf_21 : decode cX6_numberOf 21 = .ok (.invokestatic 51, 3) := by decide +kernel
theorem dX6_numberOf_24 : decode cX6_numberOf 24 = .ok (.lstore 5, 2) := by decide +kernel
theorem dX6_numberOf_26 : decode cX6_numberOf 26 = .ok (.iload_n 3, 1) := by decide +kernel
theorem dX6_numberOf_27 : decode cX6_numberOf 27 = .ok (.iload 4, 2) := by decide +kernel
theorem dX6_numberOf_29 : decode cX6_numberOf 29 = .ok (.invokestatic 51, 3) := by decide +kernel
theorem dX6_numberOf_32 : decode cX6_numberOf 32 = .ok (.lstore 7, 2) := by decide +kernel
theorem dX6_numberOf_34 : decode cX6_numberOf 34 = .ok (.lload 5, 2) := by decide +kernel
theorem dX6_numberOf_36 : decode cX6_numberOf 36 = .ok (.lload 7, 2) := by decide +kernel
theorem dX6_numberOf_38 : decode cX6_numberOf 38 = .ok (.invokestatic 55, 3) := by decide +kernel
theorem dX6_numberOf_41 : decode cX6_numberOf 41 = .ok (.lstore 9, 2) := by decide +kernel
theorem dX6_numberOf_43 : decode cX6_numberOf 43 = .ok (.lload 5, 2) := by decide +kernel
theorem dX6_numberOf_45 : decode cX6_numberOf 45 = .ok (.lload 7, 2) := by decide +kernel
theorem dX6_numberOf_47 : decode cX6_numberOf 47 = .ok (.invokestatic 61, 3) := by decide +kernel
theorem dX6_numberOf_50 : decode cX6_numberOf 50 = .ok (.lstore 11, 2) := by decide +kernel
theorem dX6_numberOf_52 : decode cX6_numberOf 52 = .ok (.aload_n 0, 1) := by decide +kernel
theorem dX6_numberOf_53 : decode cX6_numberOf 53 = .ok (.getfield 10, 3) := by decide +kernel
theorem dX6_numberOf_56 : decode cX6_numberOf 56 = .ok (.lload 9, 2) := by decide +kernel
theorem dX6_numberOf_58 : decode cX6_numberOf 58 = .ok (.lload 11, 2) := by decide +kernel
theorem dX6_numberOf_60 : decode cX6_numberOf 60 = .ok (.invokevirtual 64, 3) := by decide +kernel
theorem dX6_numberOf_63 : decode cX6_numberOf 63 = .ok (.ifCond .eq 17, 3) := by decide +kernel
theorem dX6_numberOf_80 : decode cX6_numberOf 80 = .ok (.iconst (-1), 1) := by decide +kernel
theorem dX6_numberOf_81 : decode cX6_numberOf 81 = .ok (.ireturn, 1) := by decide +kernel
theorem dX6_freshFaces_0 : decode cX6_freshFaces 0 = .ok (.aload_n 0, 1) := by decide +kernel
theorem dX6_freshFaces_1 : decode cX6_freshFaces 1 = .ok (.getfield 41, 3) := by decide +kernel
theorem dX6_freshFaces_4 : decode cX6_freshFaces 4 = .ok (.ifCond .eq 22, 3) := by decide +kernel
theorem dX6_freshFaces_26 : decode cX6_freshFaces 26 = .ok (.aload_n 0, 1) := by decide +kernel
theorem dX6_freshFaces_27 : decode cX6_freshFaces 27 = .ok (.getfield 37, 3) := by decide +kernel
theorem dX6_freshFaces_30 : decode cX6_freshFaces 30 = .ok (.areturn, 1) := by decide +kernel
theorem dX7_init_0 : decode cX7_init 0 = .ok (.aload_n 0, 1) := by decide +kernel
theorem dX7_init_1 : decode cX7_init 1 = .ok (.invokespecial 1, 3) := by decide +kernel
theorem dX7_init_4 : decode cX7_init 4 = .ok (.aload_n 0, 1) := by decide +kernel
theorem dX7_init_5 : decode cX7_init 5 = .ok (.iconst 0, 1) := by decide +kernel
theorem dX7_init_6 : decode cX7_init 6 = .ok (.newarray .int, 2) := by decide +kernel
theorem dX7_init_8 : decode cX7_init 8 = .ok (.putfield 7, 3) := by decide +kernel
theorem dX7_init_11 : decode cX7_init 11 = .ok (.aload_n 0, 1) := by decide +kernel
theorem dX7_init_12 : decode cX7_init 12 = .ok (.iconst 0, 1) := by decide +kernel
theorem dX7_init_13 : decode cX7_init 13 = .ok (.newarray .int, 2) := by decide +kernel
theorem dX7_init_15 : decode cX7_init 15 = .ok (.putfield 13, 3) := by decide +kernel
theorem dX7_init_18 : decode cX7_init 18 = .ok (.aload_n 0, 1) := by decide +kernel
theorem dX7_init_19 : decode cX7_init 19 = .ok (.iconst 0, 1) := by decide +kernel
theorem dX7_init_20 : decode cX7_init 20 = .ok (.newarray .int, 2) := by decide +kernel
theorem dX7_init_22 : decode cX7_init 22 = .ok (.putfield 16, 3) := by decide +kernel
theorem dX7_init_25 : decode cX7_init 25 = .ok (.aload_n 0, 1) := by decide +kernel
theorem dX7_init_26 : decode cX7_init 26 = .ok (.iconst 0, 1) := by decide +kernel
theorem dX7_init_27 : decode cX7_init 27 = .ok (.newarray .int, 2) := by decide +kernel
theorem dX7_init_29 : decode cX7_init 29 = .ok (.putfield 19, 3) := by decide +kernel
theorem dX7_init_32 : decode cX7_init 32 = .ok (.aload_n 0, 1) := by decide +kernel
theorem dX7_init_33 : decode cX7_init 33 = .ok (.iconst 0, 1) := by decide +kernel
theorem dX7_init_34 : decode cX7_init 34 = .ok (.newarray .int, 2) := by decide +kernel
theorem dX7_init_36 : decode cX7_init 36 = .ok (.putfield 22, 3) := by decide +kernel
theorem dX7_init_39 : decode cX7_init 39 = .ok (.aload_n 0, 1) := by decide +kernel
theorem dX7_init_40 : decode cX7_init 40 = .ok (.iconst 0, 1) := by decide +kernel
theorem dX7_init_41 : decode cX7_init 41 = .ok (.newarray .int, 2) := by decide +kernel
theorem dX7_init_43 : decode cX7_init 43 = .ok (.putfield 25, 3) := by decide +kernel
theorem dX7_init_46 : decode cX7_init 46 = .ok (.aload_n 0, 1) := by decide +kernel
theorem dX7_init_47 : decode cX7_init 47 = .ok (.iconst 0, 1) := by decide +kernel
theorem dX7_init_48 : decode cX7_init 48 = .ok (.newarray .int, 2) := by decide +kernel
theorem dX7_init_50 : decode cX7_init 50 = .ok (.putfield 28, 3) := by decide +kernel
theorem dX7_init_53 : decode cX7_init 53 = .ok (.aload_n 0, 1) := by decide +kernel
theorem dX7_init_54 : decode cX7_init 54 = .ok (.iconst 0, 1) := by decide +kernel
theorem dX7_init_55 : decode cX7_init 55 = .ok (.newarray .int, 2) := by decide +kernel
theorem dX7_init_57 : decode cX7_init 57 = .ok (.putfield 31, 3) := by decide +kernel
theorem dX7_init_60 : decode cX7_init 60 = .ok (.aload_n 0, 1) := by decide +kernel
theorem dX7_init_61 : decode cX7_init 61 = .ok (.iconst 0, 1) := by decide +kernel
theorem dX7_init_62 : decode cX7_init 62 = .ok (.newarray .long, 2) := by decide +kernel
theorem dX7_init_64 : decode cX7_init 64 = .ok (.putfield 34, 3) := by decide +kernel
theorem dX7_init_67 : decode cX7_init 67 = .ok (.aload_n 0, 1) := by decide +kernel
theorem dX7_init_68 : decode cX7_init 68 = .ok (.iconst 0, 1) := by decide +kernel
theorem dX7_init_69 : decode cX7_init 69 = .ok (.newarray .int, 2) := by decide +kernel
theorem dX7_init_71 : decode cX7_init 71 = .ok (.putfield 38, 3) := by decide +kernel
theorem dX7_init_74 : decode cX7_init 74 = .ok (.aload_n 0, 1) := by decide +kernel
theorem dX7_init_75 : decode cX7_init 75 = .ok (.iconst 0, 1) := by decide +kernel
theorem dX7_init_76 : decode cX7_init 76 = .ok (.newarray .int, 2) := by decide +kernel
theorem dX7_init_78 : decode cX7_init 78 = .ok (.putfield 41, 3) := by decide +kernel
theorem dX7_init_81 : decode cX7_init 81 = .ok (.aload_n 0, 1) := by decide +kernel
theorem dX7_init_82 : decode cX7_init 82 = .ok (.iconst 0, 1) := by decide +kernel
theorem dX7_init_83 : decode cX7_init 83 = .ok (.newarray .int, 2) := by decide +kernel
theorem dX7_init_85 : decode cX7_init 85 = .ok (.putfield 44, 3) := by decide +kernel
theorem dX7_init_88 : decode cX7_init 88 = .ok (.aload_n 0, 1) := by decide +kernel
theorem dX7_init_89 : decode cX7_init 89 = .ok (.iconst 0, 1) := by decide +kernel
theorem dX7_init_90 : decode cX7_init 90 = .ok (.newarray .boolean, 2) := by decide +kernel
theorem dX7_init_92 : decode cX7_init 92 = .ok (.putfield 47, 3) := by decide +kernel
