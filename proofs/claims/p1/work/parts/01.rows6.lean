theorem dX9_cut_1 : decode cX9_cut 1 = .ok (.iload_n 2, 1) := by decide +kernel
theorem dX9_cut_2 : decode cX9_cut 2 = .ok (.iload_n 3, 1) := by decide +kernel
theorem dX9_cut_3 : decode cX9_cut 3 = .ok (.iload 4, 2) := by decide +kernel
theorem dX9_cut_5 : decode cX9_cut 5 = .ok (.invokestatic 58, 3) := by decide +kernel
theorem dX9_cut_8 : decode cX9_cut 8 = .ok (.ifCond .le 13, 3) := by decide +kernel
theorem dX9_cut_11 : decode cX9_cut 11 = .ok (.aload_n 0, 1) := by decide +kernel
theorem dX9_cut_12 : decode cX9_cut 12 = .ok (.iload_n 3, 1) := by decide +kernel
theorem dX9_cut_13 : decode cX9_cut 13 = .ok (.iload 4, 2) := by decide +kernel
theorem dX9_cut_15 : decode cX9_cut 15 = .ok (.iload_n 1, 1) := by decide +kernel
theorem dX9_cut_16 : decode cX9_cut 16 = .ok (.iload_n 2, 1) := by decide +kernel
theorem dX9_cut_17 : decode cX9_cut 17 = .ok (.invokevirtual 86, 3) := by decide +kernel
theorem dX9_cut_20 : decode cX9_cut 20 = .ok (.ireturn, 1) := by decide +kernel
theorem dX9_cut_21 : decode cX9_cut 21 = .ok (.aload_n 0, 1) := by decide +kernel
theorem dX9_cut_22 : decode cX9_cut 22 = .ok (.iload_n 1, 1) := by decide +kernel
theorem dX9_cut_23 : decode cX9_cut 23 = .ok (.iload_n 2, 1) := by decide +kernel
theorem dX9_cut_24 : decode cX9_cut 24 = .ok (.iload_n 3, 1) := by decide +kernel
theorem dX9_cut_25 : decode cX9_cut 25 = .ok (.iload 4, 2) := by decide +kernel
theorem dX9_cut_27 : decode cX9_cut 27 = .ok (.invokevirtual 72, 3) := by decide +kernel
theorem dX9_cut_30 : decode cX9_cut 30 = .ok (.istore 5, 2) := by decide +kernel
theorem dX9_cut_32 : decode cX9_cut 32 = .ok (.aload_n 0, 1) := by decide +kernel
theorem dX9_cut_33 : decode cX9_cut 33 = .ok (.iload 5, 2) := by decide +kernel
theorem dX9_cut_35 : decode cX9_cut 35 = .ok (.iload_n 1, 1) := by decide +kernel
theorem dX9_cut_36 : decode cX9_cut 36 = .ok (.iload_n 2, 1) := by decide +kernel
theorem dX9_cut_37 : decode cX9_cut 37 = .ok (.iload_n 3, 1) := by decide +kernel
theorem dX9_cut_38 : decode cX9_cut 38 = .ok (.iload 4, 2) := by decide +kernel
theorem dX9_cut_40 : decode cX9_cut 40 = .ok (.invokevirtual 75, 3) := by decide +kernel
theorem dX9_cut_43 : decode cX9_cut 43 = .ok (.ifCond .ne 5, 3) := by decide +kernel
theorem dX9_cut_46 : decode cX9_cut 46 = .ok (.iconst 0, 1) := by decide +kernel
theorem dX9_cut_47 : decode cX9_cut 47 = .ok (.ireturn, 1) := by decide +kernel
theorem dX9_build_0 : decode cX9_build 0 = .ok (.aload_n 0, 1) := by decide +kernel
theorem dX9_build_1 : decode cX9_build 1 = .ok (.getfield 82, 3) := by decide +kernel
theorem dX9_build_4 : decode cX9_build 4 = .ok (.ifCond .eq 4, 3) := by decide +kernel
theorem dX9_build_8 : decode cX9_build 8 = .ok (.aload_n 0, 1) := by decide +kernel
theorem dX9_build_9 : decode cX9_build 9 = .ok (.iconst 1, 1) := by decide +kernel
theorem dX9_build_10 : decode cX9_build 10 = .ok (.putfield 82, 3) := by decide +kernel
theorem dX9_build_13 : decode cX9_build 13 = .ok (.aload_n 0, 1) := by decide +kernel
theorem dX9_build_14 : decode cX9_build 14 = .ok (.getfield 48, 3) := by decide +kernel
theorem dX9_build_17 : decode cX9_build 17 = .ok (.invokevirtual 90, 3) := by decide +kernel
theorem dX9_build_20 : decode cX9_build 20 = .ok (.iconst 0, 1) := by decide +kernel
theorem dX9_build_21 : decode cX9_build 21 = .ok (.istore_n 1, 1) := by decide +kernel
theorem dX9_build_22 : decode cX9_build 22 = .ok (.iload_n 1, 1) := by decide +kernel
theorem dX9_build_23 : decode cX9_build 23 = .ok (.iconst 2, 1) := by decide +kernel
theorem dX9_build_24 : decode cX9_build 24 = .ok (.aload_n 0, 1) := by decide +kernel
theorem dX9_build_25 : decode cX9_build 25 = .ok (.getfield 54, 3) := by decide +kernel
theorem dX9_build_28 : decode cX9_build 28 = .ok (.imul, 1) := by decide +kernel
theorem dX9_build_29 : decode cX9_build 29 = .ok (.if_icmp .ge 34, 3) := by decide +kernel
theorem dX9_build_63 : decode cX9_build 63 = .ok (.aload_n 0, 1) := by decide +kernel
theorem dX9_build_64 : decode cX9_build 64 = .ok (.getfield 48, 3) := by decide +kernel
theorem dX9_build_67 : decode cX9_build 67 = .ok (.invokevirtual 97, 3) := by decide +kernel
theorem dX9_build_70 : decode cX9_build 70 = .ok (.aload_n 0, 1) := by decide +kernel
theorem dX9_build_71 : decode cX9_build 71 = .ok (.getfield 41, 3) := by decide +kernel
theorem dX9_build_74 : decode cX9_build 74 = .ok (.sipush 3000, 3) := by decide +kernel
theorem dX9_build_77 : decode cX9_build 77 = .ok (.sipush 1500, 3) := by decide +kernel
theorem dX9_build_80 : decode cX9_build 80 = .ok (.invokevirtual 100, 3) := by decide +kernel
theorem dX9_build_83 : decode cX9_build 83 = .ok (.aload_n 0, 1) := by decide +kernel
theorem dX9_build_84 : decode cX9_build 84 = .ok (.getfield 41, 3) := by decide +kernel
theorem dX9_build_87 : decode cX9_build 87 = .ok (.aload_n 0, 1) := by decide +kernel
theorem dX9_build_88 : decode cX9_build 88 = .ok (.getfield 48, 3) := by decide +kernel
theorem dX9_build_91 : decode cX9_build 91 = .ok (.getfield 103, 3) := by decide +kernel
theorem dX9_build_94 : decode cX9_build 94 = .ok (.putfield 106, 3) := by decide +kernel
theorem dX9_build_97 : decode cX9_build 97 = .ok (.aload_n 0, 1) := by decide +kernel
theorem dX9_build_98 : decode cX9_build 98 = .ok (.getfield 41, 3) := by decide +kernel
theorem dX9_build_101 : decode cX9_build 101 = .ok (.aload_n 0, 1) := by decide +kernel
theorem dX9_build_102 : decode cX9_build 102 = .ok (.getfield 54, 3) := by decide +kernel
theorem dX9_build_105 : decode cX9_build 105 = .ok (.putfield 108, 3) := by decide +kernel
theorem dX9_build_108 : decode cX9_build 108 = .ok (.iconst 0, 1) := by decide +kernel
theorem dX9_build_109 : decode cX9_build 109 = .ok (.istore_n 1, 1) := by decide +kernel
theorem dX9_build_110 : decode cX9_build 110 = .ok (.iload_n 1, 1) := by decide +kernel
theorem dX9_build_111 : decode cX9_build 111 = .ok (.aload_n 0, 1) := by decide +kernel
theorem dX9_build_112 : decode cX9_build 112 = .ok (.getfield 48, 3) := by decide +kernel
theorem dX9_build_115 : decode cX9_build 115 = .ok (.getfield 103, 3) := by decide +kernel
theorem dX9_build_118 : decode cX9_build 118 = .ok (.if_icmp .ge 43, 3) := by decide +kernel
theorem dX9_build_161 : decode cX9_build 161 = .ok (.iconst 0, 1) := by decide +kernel
theorem dX9_build_162 : decode cX9_build 162 = .ok (.istore_n 1, 1) := by decide +kernel
theorem dX9_build_163 : decode cX9_build 163 = .ok (.iload_n 1, 1) := by decide +kernel
theorem dX9_build_164 : decode cX9_build 164 = .ok (.aload_n 0, 1) := by decide +kernel
theorem dX9_build_165 : decode cX9_build 165 = .ok (.getfield 54, 3) := by decide +kernel
theorem dX9_build_168 : decode cX9_build 168 = .ok (.if_icmp .ge 79, 3) := by decide +kernel
theorem dX9_build_247 : decode cX9_build 247 = .ok (.aload_n 0, 1) := by decide +kernel
theorem dX9_build_248 : decode cX9_build 248 = .ok (.getfield 41, 3) := by decide +kernel
theorem dX9_build_251 : decode cX9_build 251 = .ok (.invokevirtual 132, 3) := by decide +kernel
theorem dX9_build_254 : decode cX9_build 254 = .ok (.return_, 1) := by decide +kernel
theorem dX9_count_0 : decode cX9_count 0 = .ok (.aload_n 0, 1) := by decide +kernel
theorem dX9_count_1 : decode cX9_count 1 = .ok (.invokevirtual 135, 3) := by decide +kernel
theorem dX9_count_4 : decode cX9_count 4 = .ok (.iload_n 1, 1) := by decide +kernel
theorem dX9_count_5 : decode cX9_count 5 = .ok (.ifCond .lt 8, 3) := by decide +kernel
theorem dX9_count_8 : decode cX9_count 8 = .ok (.iload_n 1, 1) := by decide +kernel
theorem dX9_count_9 : decode cX9_count 9 = .ok (.iconst 3, 1) := by decide +kernel
theorem dX9_count_10 : decode cX9_count 10 = .ok (.if_icmp .le 5, 3) := by decide +kernel
theorem dX9_count_13 : decode cX9_count 13 = .ok (.iconst (-1), 1) := by decide +kernel
theorem dX9_count_14 : decode cX9_count 14 = .ok (.ireturn, 1) := by decide +kernel
theorem dX9_count_15 : decode cX9_count 15 = .ok (.iload_n 1, 1) := by decide +kernel
theorem dX9_count_16 : decode cX9_count 16 = .ok (.ifCond .ne 11, 3) := by decide +kernel
theorem dX9_count_19 : decode cX9_count 19 = .ok (.aload_n 0, 1) := by decide +kernel
theorem dX9_count_20 : decode cX9_count 20 = .ok (.getfield 41, 3) := by decide +kernel
theorem dX9_count_23 : decode cX9_count 23 = .ok (.getfield 106, 3) := by decide +kernel
theorem dX9_count_26 : decode cX9_count 26 = .ok (.ireturn, 1) := by decide +kernel
theorem dX9_count_27 : decode cX9_count 27 = .ok (.iload_n 1, 1) := by decide +kernel
theorem dX9_count_28 : decode cX9_count 28 = .ok (.iconst 1, 1) := by decide +kernel
theorem dX9_count_29 : decode cX9_count 29 = .ok (.if_icmp .ne 10, 3) := by decide +kernel
theorem dX9_count_32 : decode cX9_count 32 = .ok (.aload_n 0, 1) := by decide +kernel
theorem dX9_count_33 : decode cX9_count 33 = .ok (.getfield 54, 3) := by decide +kernel
theorem dX9_count_36 : decode cX9_count 36 = .ok (.goto 25, 3) := by decide +kernel
theorem dX9_count_39 : decode cX9_count 39 = .ok (.iload_n 1, 1) := by decide +kernel
theorem dX9_count_40 : decode cX9_count 40 = .ok (.iconst 2, 1) := by decide +kernel
theorem dX9_count_41 : decode cX9_count 41 = .ok (.if_icmp .ne 13, 3) := by decide +kernel
theorem dX9_count_44 : decode cX9_count 44 = .ok (.aload_n 0, 1) := by decide +kernel
theorem dX9_count_45 : decode cX9_count 45 = .ok (.getfield 41, 3) := by decide +kernel
theorem dX9_count_48 : decode cX9_count 48 = .ok (.getfield 136, 3) := by decide +kernel
theorem dX9_count_51 : decode cX9_count 51 = .ok (.goto 10, 3) := by decide +kernel
theorem dX9_count_54 : decode cX9_count 54 = .ok (.aload_n 0, 1) := by decide +kernel
theorem dX9_count_55 : decode cX9_count 55 = .ok (.getfield 41, 3) := by decide +kernel
theorem dX9_count_58 : decode cX9_count 58 = .ok (.invokevirtual 139, 3) := by decide +kernel
theorem dX9_count_61 : decode cX9_count 61 = .ok (.ireturn, 1) := by decide +kernel
theorem dX9_node_0 : decode cX9_node 0 = .ok (.aload_n 0, 1) := by decide +kernel
theorem dX9_node_1 : decode cX9_node 1 = .ok (.invokevirtual 135, 3) := by decide +kernel
theorem dX9_node_4 : decode cX9_node 4 = .ok (.iload_n 1, 1) := by decide +kernel
theorem dX9_node_5 : decode cX9_node 5 = .ok (.ifCond .lt 23, 3) := by decide +kernel
theorem dX9_node_8 : decode cX9_node 8 = .ok (.iload_n 1, 1) := by decide +kernel
theorem dX9_node_9 : decode cX9_node 9 = .ok (.aload_n 0, 1) := by decide +kernel
theorem dX9_node_10 : decode cX9_node 10 = .ok (.getfield 41, 3) := by decide +kernel
theorem dX9_node_13 : decode cX9_node 13 = .ok (.getfield 106, 3) := by decide +kernel
theorem dX9_node_16 : decode cX9_node 16 = .ok (.if_icmp .ge 12, 3) := by decide +kernel
theorem dX9_node_28 : decode cX9_node 28 = .ok (.ldc 143, 2) := by decide +kernel
theorem dX9_node_30 : decode cX9_node 30 = .ok (.ireturn, 1) := by decide +kernel
theorem dX9_piece_0 : decode cX9_piece 0 = .ok (.aload_n 0, 1) := by decide +kernel
theorem dX9_piece_1 : decode cX9_piece 1 = .ok (.invokevirtual 135, 3) := by decide +kernel
theorem dX9_piece_4 : decode cX9_piece 4 = .ok (.iload_n 1, 1) := by decide +kernel
theorem dX9_piece_5 : decode cX9_piece 5 = .ok (.ifCond .lt 20, 3) := by decide +kernel
theorem dX9_piece_8 : decode cX9_piece 8 = .ok (.iload_n 1, 1) := by decide +kernel
theorem dX9_piece_9 : decode cX9_piece 9 = .ok (.aload_n 0, 1) := by decide +kernel
theorem dX9_piece_10 : decode cX9_piece 10 = .ok (.getfield 54, 3) := by decide +kernel
theorem dX9_piece_13 : decode cX9_piece 13 = .ok (.if_icmp .ge 12, 3) := by decide +kernel
theorem dX9_piece_25 : decode cX9_piece 25 = .ok (.iconst (-1), 1) := by decide +kernel
theorem dX9_piece_26 : decode cX9_piece 26 = .ok (.ireturn, 1) := by decide +kernel
theorem dX9_left_0 : decode cX9_left 0 = .ok (.aload_n 0, 1) := by decide +kernel
theorem dX9_left_1 : decode cX9_left 1 = .ok (.invokevirtual 135, 3) := by decide +kernel
theorem dX9_left_4 : decode cX9_left 4 = .ok (.iload_n 1, 1) := by decide +kernel
theorem dX9_left_5 : decode cX9_left 5 = .ok (.iload_n 2, 1) := by decide +kernel
theorem dX9_left_6 : decode cX9_left 6 = .ok (.iload_n 3, 1) := by decide +kernel
theorem dX9_left_7 : decode cX9_left 7 = .ok (.iload 4, 2) := by decide +kernel
theorem dX9_left_9 : decode cX9_left 9 = .ok (.invokestatic 58, 3) := by decide +kernel
theorem dX9_left_12 : decode cX9_left 12 = .ok (.ifCond .le 7, 3) := by decide +kernel
theorem dX9_left_15 : decode cX9_left 15 = .ok (.iconst 1, 1) := by decide +kernel
theorem dX9_left_16 : decode cX9_left 16 = .ok (.goto 4, 3) := by decide +kernel
theorem dX9_left_19 : decode cX9_left 19 = .ok (.iconst 0, 1) := by decide +kernel
theorem dX9_left_20 : decode cX9_left 20 = .ok (.istore 5, 2) := by decide +kernel
theorem dX9_left_22 : decode cX9_left 22 = .ok (.iload 5, 2) := by decide +kernel
theorem dX9_left_24 : decode cX9_left 24 = .ok (.ifCond .eq 15, 3) := by decide +kernel
theorem dX9_left_27 : decode cX9_left 27 = .ok (.aload_n 0, 1) := by decide +kernel
theorem dX9_left_28 : decode cX9_left 28 = .ok (.iload_n 3, 1) := by decide +kernel
theorem dX9_left_29 : decode cX9_left 29 = .ok (.iload 4, 2) := by decide +kernel
theorem dX9_left_31 : decode cX9_left 31 = .ok (.iload_n 1, 1) := by decide +kernel
theorem dX9_left_32 : decode cX9_left 32 = .ok (.iload_n 2, 1) := by decide +kernel
theorem dX9_left_33 : decode cX9_left 33 = .ok (.invokevirtual 72, 3) := by decide +kernel
theorem dX9_left_36 : decode cX9_left 36 = .ok (.goto 12, 3) := by decide +kernel
theorem dX9_left_39 : decode cX9_left 39 = .ok (.aload_n 0, 1) := by decide +kernel
theorem dX9_left_40 : decode cX9_left 40 = .ok (.iload_n 1, 1) := by decide +kernel
theorem dX9_left_41 : decode cX9_left 41 = .ok (.iload_n 2, 1) := by decide +kernel
theorem dX9_left_42 : decode cX9_left 42 = .ok (.iload_n 3, 1) := by decide +kernel
theorem dX9_left_43 : decode cX9_left 43 = .ok (.iload 4, 2) := by decide +kernel
theorem dX9_left_45 : decode cX9_left 45 = .ok (.invokevirtual 72, 3) := by decide +kernel
theorem dX9_left_48 : decode cX9_left 48 = .ok (.istore 6, 2) := by decide +kernel
theorem dX9_left_50 : decode cX9_left 50 = .ok (.iload 5, 2) := by decide +kernel
theorem dX9_left_52 : decode cX9_left 52 = .ok (.ifCond .eq 17, 3) := by decide +kernel
theorem dX9_left_55 : decode cX9_left 55 = .ok (.aload_n 0, 1) := by decide +kernel
theorem dX9_left_56 : decode cX9_left 56 = .ok (.iload 6, 2) := by decide +kernel
theorem dX9_left_58 : decode cX9_left 58 = .ok (.iload_n 3, 1) := by decide +kernel
theorem dX9_left_59 : decode cX9_left 59 = .ok (.iload 4, 2) := by decide +kernel
theorem dX9_left_61 : decode cX9_left 61 = .ok (.iload_n 1, 1) := by decide +kernel
theorem dX9_left_62 : decode cX9_left 62 = .ok (.iload_n 2, 1) := by decide +kernel
theorem dX9_left_63 : decode cX9_left 63 = .ok (.invokevirtual 75, 3) := by decide +kernel
theorem dX9_left_66 : decode cX9_left 66 = .ok (.goto 14, 3) := by decide +kernel
theorem dX9_left_69 : decode cX9_left 69 = .ok (.aload_n 0, 1) := by decide +kernel
theorem dX9_left_70 : decode cX9_left 70 = .ok (.iload 6, 2) := by decide +kernel
theorem dX9_left_72 : decode cX9_left 72 = .ok (.iload_n 1, 1) := by decide +kernel
theorem dX9_left_73 : decode cX9_left 73 = .ok (.iload_n 2, 1) := by decide +kernel
theorem dX9_left_74 : decode cX9_left 74 = .ok (.iload_n 3, 1) := by decide +kernel
theorem dX9_left_75 : decode cX9_left 75 = .ok (.iload 4, 2) := by decide +kernel
theorem dX9_left_77 : decode cX9_left 77 = .ok (.invokevirtual 75, 3) := by decide +kernel
theorem dX9_left_80 : decode cX9_left 80 = .ok (.istore 7, 2) := by decide +kernel
theorem dX9_left_82 : decode cX9_left 82 = .ok (.iload 7, 2) := by decide +kernel
theorem dX9_left_84 : decode cX9_left 84 = .ok (.ifCond .eq 28, 3) := by decide +kernel
theorem dX9_left_112 : decode cX9_left 112 = .ok (.iconst (-1), 1) := by decide +kernel
theorem dX9_left_113 : decode cX9_left 113 = .ok (.ireturn, 1) := by decide +kernel
theorem dX9_isFace_0 : decode cX9_isFace 0 = .ok (.iload_n 1, 1) := by decide +kernel
theorem dX9_isFace_1 : decode cX9_isFace 1 = .ok (.ifCond .lt 18, 3) := by decide +kernel
theorem dX9_isFace_4 : decode cX9_isFace 4 = .ok (.iload_n 1, 1) := by decide +kernel
theorem dX9_isFace_5 : decode cX9_isFace 5 = .ok (.aload_n 0, 1) := by decide +kernel
theorem dX9_isFace_6 : decode cX9_isFace 6 = .ok (.getfield 41, 3) := by decide +kernel
theorem dX9_isFace_9 : decode cX9_isFace 9 = .ok (.getfield 136, 3) := by decide +kernel
theorem dX9_isFace_12 : decode cX9_isFace 12 = .ok (.if_icmp .ge 7, 3) := by decide +kernel
theorem dX9_isFace_15 : decode cX9_isFace 15 = .ok (.iconst 1, 1) := by decide +kernel
theorem dX9_isFace_16 : decode cX9_isFace 16 = .ok (.goto 4, 3) := by decide +kernel
theorem dX9_isFace_19 : decode cX9_isFace 19 = .ok (.iconst 0, 1) := by decide +kernel
theorem dX9_isFace_20 : decode cX9_isFace 20 = .ok (.ireturn, 1) := by decide +kernel
theorem dX9_face_0 : decode cX9_face 0 = .ok (.aload_n 0, 1) := by decide +kernel
theorem dX9_face_1 : decode cX9_face 1 = .ok (.invokevirtual 135, 3) := by decide +kernel
theorem dX9_face_4 : decode cX9_face 4 = .ok (.aload_n 0, 1) := by decide +kernel
theorem dX9_face_5 : decode cX9_face 5 = .ok (.iload_n 1, 1) := by decide +kernel
theorem dX9_face_6 : decode cX9_face 6 = .ok (.invokevirtual 150, 3) := by decide +kernel
theorem dX9_face_9 : decode cX9_face 9 = .ok (.ifCond .eq 12, 3) := by decide +kernel
theorem dX9_face_12 : decode cX9_face 12 = .ok (.iload_n 2, 1) := by decide +kernel
theorem dX9_face_13 : decode cX9_face 13 = .ok (.ifCond .lt 8, 3) := by decide +kernel
theorem dX9_face_16 : decode cX9_face 16 = .ok (.iload_n 2, 1) := by decide +kernel
theorem dX9_face_17 : decode cX9_face 17 = .ok (.iconst 3, 1) := by decide +kernel
theorem dX9_face_18 : decode cX9_face 18 = .ok (.if_icmp .le 5, 3) := by decide +kernel
theorem dX9_face_21 : decode cX9_face 21 = .ok (.iconst (-1), 1) := by decide +kernel
theorem dX9_face_22 : decode cX9_face 22 = .ok (.ireturn, 1) := by decide +kernel
theorem dX9_face_23 : decode cX9_face 23 = .ok (.iload_n 2, 1) := by decide +kernel
theorem dX9_face_24 : decode cX9_face 24 = .ok (.ifCond .ne 12, 3) := by decide +kernel
theorem dX9_face_27 : decode cX9_face 27 = .ok (.aload_n 0, 1) := by decide +kernel
theorem dX9_face_28 : decode cX9_face 28 = .ok (.getfield 41, 3) := by decide +kernel
theorem dX9_face_31 : decode cX9_face 31 = .ok (.iload_n 1, 1) := by decide +kernel
theorem dX9_face_32 : decode cX9_face 32 = .ok (.invokevirtual 154, 3) := by decide +kernel
theorem dX9_face_35 : decode cX9_face 35 = .ok (.ireturn, 1) := by decide +kernel
theorem dX9_face_36 : decode cX9_face 36 = .ok (.iload_n 2, 1) := by decide +kernel
theorem dX9_face_37 : decode cX9_face 37 = .ok (.iconst 1, 1) := by decide +kernel
theorem dX9_face_38 : decode cX9_face 38 = .ok (.if_icmp .ne 12, 3) := by decide +kernel
theorem dX9_face_41 : decode cX9_face 41 = .ok (.aload_n 0, 1) := by decide +kernel
theorem dX9_face_42 : decode cX9_face 42 = .ok (.getfield 41, 3) := by decide +kernel
theorem dX9_face_45 : decode cX9_face 45 = .ok (.iload_n 1, 1) := by decide +kernel
theorem dX9_face_46 : decode cX9_face 46 = .ok (.invokevirtual 157, 3) := by decide +kernel
theorem dX9_face_49 : decode cX9_face 49 = .ok (.ireturn, 1) := by decide +kernel
theorem dX9_face_50 : decode cX9_face 50 = .ok (.aload_n 0, 1) := by decide +kernel
theorem dX9_face_51 : decode cX9_face 51 = .ok (.getfield 41, 3) := by decide +kernel
theorem dX9_face_54 : decode cX9_face 54 = .ok (.iload_n 1, 1) := by decide +kernel
theorem dX9_face_55 : decode cX9_face 55 = .ok (.invokevirtual 160, 3) := by decide +kernel
theorem dX9_face_58 : decode cX9_face 58 = .ok (.istore_n 3, 1) := by decide +kernel
theorem dX9_face_59 : decode cX9_face 59 = .ok (.iload_n 3, 1) := by decide +kernel
theorem dX9_face_60 : decode cX9_face 60 = .ok (.ifCond .ge 7, 3) := by decide +kernel
theorem dX9_face_63 : decode cX9_face 63 = .ok (.iconst (-1), 1) := by decide +kernel
theorem dX9_face_64 : decode cX9_face 64 = .ok (.goto 27, 3) := by decide +kernel
theorem dX9_face_91 : decode cX9_face 91 = .ok (.ireturn, 1) := by decide +kernel
theorem dX9_area2_0 : decode cX9_area2 0 = .ok (.aload_n 0, 1) := by decide +kernel
theorem dX9_area2_1 : decode cX9_area2 1 = .ok (.invokevirtual 135, 3) := by decide +kernel
theorem dX9_area2_4 : decode cX9_area2 4 = .ok (.iload_n 1, 1) := by decide +kernel
theorem dX9_area2_5 : decode cX9_area2 5 = .ok (.ifCond .le 22, 3) := by decide +kernel
theorem dX9_area2_8 : decode cX9_area2 8 = .ok (.aload_n 0, 1) := by decide +kernel
theorem dX9_area2_9 : decode cX9_area2 9 = .ok (.iload_n 1, 1) := by decide +kernel
theorem dX9_area2_10 : decode cX9_area2 10 = .ok (.invokevirtual 150, 3) := by decide +kernel
theorem dX9_area2_13 : decode cX9_area2 13 = .ok (.ifCond .eq 14, 3) := by decide +kernel
theorem dX9_area2_27 : decode cX9_area2 27 = .ok (.lconst 0, 1) := by decide +kernel
theorem dX9_area2_28 : decode cX9_area2 28 = .ok (.lreturn, 1) := by decide +kernel
theorem dX9_locate_0 : decode cX9_locate 0 = .ok (.aload_n 0, 1) := by decide +kernel
theorem dX9_locate_1 : decode cX9_locate 1 = .ok (.invokevirtual 135, 3) := by decide +kernel
theorem dX9_locate_4 : decode cX9_locate 4 = .ok (.iconst 0, 1) := by decide +kernel
theorem dX9_locate_5 : decode cX9_locate 5 = .ok (.istore_n 3, 1) := by decide +kernel
theorem dX9_locate_6 : decode cX9_locate 6 = .ok (.iload_n 3, 1) := by decide +kernel
theorem dX9_locate_7 : decode cX9_locate 7 = .ok (.aload_n 0, 1) := by decide +kernel
theorem dX9_locate_8 : decode cX9_locate 8 = .ok (.getfield 54, 3) := by decide +kernel
theorem dX9_locate_11 : decode cX9_locate 11 = .ok (.if_icmp .ge 65, 3) := by decide +kernel
theorem dX9_locate_76 : decode cX9_locate 76 = .ok (.aload_n 0, 1) := by decide +kernel
theorem dX9_locate_77 : decode cX9_locate 77 = .ok (.getfield 41, 3) := by decide +kernel
theorem dX9_locate_80 : decode cX9_locate 80 = .ok (.iload_n 1, 1) := by decide +kernel
theorem dX9_locate_81 : decode cX9_locate 81 = .ok (.i2l, 1) := by decide +kernel
theorem dX9_locate_82 : decode cX9_locate 82 = .ok (.iload_n 2, 1) := by decide +kernel
theorem dX9_locate_83 : decode cX9_locate 83 = .ok (.i2l, 1) := by decide +kernel
theorem dX9_locate_84 : decode cX9_locate 84 = .ok (.iconst (-1), 1) := by decide +kernel
theorem dX9_locate_85 : decode cX9_locate 85 = .ok (.invokevirtual 176, 3) := by decide +kernel
