theorem dX7_init_95 : decode cX7_init 95 = .ok (.return_, 1) := by decide +kernel
theorem dX7_room_0 : decode cX7_room 0 = .ok (.aload_n 0, 1) := by decide +kernel
theorem dX7_room_1 : decode cX7_room 1 = .ok (.getfield 7, 3) := by decide +kernel
theorem dX7_room_4 : decode cX7_room 4 = .ok (.arraylength, 1) := by decide +kernel
theorem dX7_room_5 : decode cX7_room 5 = .ok (.iload_n 1, 1) := by decide +kernel
theorem dX7_room_6 : decode cX7_room 6 = .ok (.if_icmp .ge 33, 3) := by decide +kernel
theorem dX7_room_9 : decode cX7_room 9 = .ok (.aload_n 0, 1) := by decide +kernel
theorem dX7_room_10 : decode cX7_room 10 = .ok (.iload_n 1, 1) := by decide +kernel
theorem dX7_room_11 : decode cX7_room 11 = .ok (.newarray .int, 2) := by decide +kernel
theorem dX7_room_13 : decode cX7_room 13 = .ok (.putfield 7, 3) := by decide +kernel
theorem dX7_room_16 : decode cX7_room 16 = .ok (.aload_n 0, 1) := by decide +kernel
theorem dX7_room_17 : decode cX7_room 17 = .ok (.iload_n 1, 1) := by decide +kernel
theorem dX7_room_18 : decode cX7_room 18 = .ok (.newarray .int, 2) := by decide +kernel
theorem dX7_room_20 : decode cX7_room 20 = .ok (.putfield 13, 3) := by decide +kernel
theorem dX7_room_23 : decode cX7_room 23 = .ok (.aload_n 0, 1) := by decide +kernel
theorem dX7_room_24 : decode cX7_room 24 = .ok (.iload_n 1, 1) := by decide +kernel
theorem dX7_room_25 : decode cX7_room 25 = .ok (.iconst 1, 1) := by decide +kernel
theorem dX7_room_26 : decode cX7_room 26 = .ok (.iadd, 1) := by decide +kernel
theorem dX7_room_27 : decode cX7_room 27 = .ok (.newarray .int, 2) := by decide +kernel
theorem dX7_room_29 : decode cX7_room 29 = .ok (.putfield 22, 3) := by decide +kernel
theorem dX7_room_32 : decode cX7_room 32 = .ok (.aload_n 0, 1) := by decide +kernel
theorem dX7_room_33 : decode cX7_room 33 = .ok (.iload_n 1, 1) := by decide +kernel
theorem dX7_room_34 : decode cX7_room 34 = .ok (.newarray .int, 2) := by decide +kernel
theorem dX7_room_36 : decode cX7_room 36 = .ok (.putfield 44, 3) := by decide +kernel
theorem dX7_room_39 : decode cX7_room 39 = .ok (.aload_n 0, 1) := by decide +kernel
theorem dX7_room_40 : decode cX7_room 40 = .ok (.getfield 16, 3) := by decide +kernel
theorem dX7_room_43 : decode cX7_room 43 = .ok (.arraylength, 1) := by decide +kernel
theorem dX7_room_44 : decode cX7_room 44 = .ok (.iload_n 2, 1) := by decide +kernel
theorem dX7_room_45 : decode cX7_room 45 = .ok (.if_icmp .ge 88, 3) := by decide +kernel
theorem dX7_room_48 : decode cX7_room 48 = .ok (.aload_n 0, 1) := by decide +kernel
theorem dX7_room_49 : decode cX7_room 49 = .ok (.iload_n 2, 1) := by decide +kernel
theorem dX7_room_50 : decode cX7_room 50 = .ok (.newarray .int, 2) := by decide +kernel
theorem dX7_room_52 : decode cX7_room 52 = .ok (.putfield 16, 3) := by decide +kernel
theorem dX7_room_55 : decode cX7_room 55 = .ok (.aload_n 0, 1) := by decide +kernel
theorem dX7_room_56 : decode cX7_room 56 = .ok (.iload_n 2, 1) := by decide +kernel
theorem dX7_room_57 : decode cX7_room 57 = .ok (.newarray .int, 2) := by decide +kernel
theorem dX7_room_59 : decode cX7_room 59 = .ok (.putfield 19, 3) := by decide +kernel
theorem dX7_room_62 : decode cX7_room 62 = .ok (.aload_n 0, 1) := by decide +kernel
theorem dX7_room_63 : decode cX7_room 63 = .ok (.iconst 2, 1) := by decide +kernel
theorem dX7_room_64 : decode cX7_room 64 = .ok (.iload_n 2, 1) := by decide +kernel
theorem dX7_room_65 : decode cX7_room 65 = .ok (.imul, 1) := by decide +kernel
theorem dX7_room_66 : decode cX7_room 66 = .ok (.newarray .int, 2) := by decide +kernel
theorem dX7_room_68 : decode cX7_room 68 = .ok (.putfield 25, 3) := by decide +kernel
theorem dX7_room_71 : decode cX7_room 71 = .ok (.aload_n 0, 1) := by decide +kernel
theorem dX7_room_72 : decode cX7_room 72 = .ok (.iconst 2, 1) := by decide +kernel
theorem dX7_room_73 : decode cX7_room 73 = .ok (.iload_n 2, 1) := by decide +kernel
theorem dX7_room_74 : decode cX7_room 74 = .ok (.imul, 1) := by decide +kernel
theorem dX7_room_75 : decode cX7_room 75 = .ok (.newarray .int, 2) := by decide +kernel
theorem dX7_room_77 : decode cX7_room 77 = .ok (.putfield 28, 3) := by decide +kernel
theorem dX7_room_80 : decode cX7_room 80 = .ok (.aload_n 0, 1) := by decide +kernel
theorem dX7_room_81 : decode cX7_room 81 = .ok (.iconst 2, 1) := by decide +kernel
theorem dX7_room_82 : decode cX7_room 82 = .ok (.iload_n 2, 1) := by decide +kernel
theorem dX7_room_83 : decode cX7_room 83 = .ok (.imul, 1) := by decide +kernel
theorem dX7_room_84 : decode cX7_room 84 = .ok (.newarray .int, 2) := by decide +kernel
theorem dX7_room_86 : decode cX7_room 86 = .ok (.putfield 31, 3) := by decide +kernel
theorem dX7_room_89 : decode cX7_room 89 = .ok (.aload_n 0, 1) := by decide +kernel
theorem dX7_room_90 : decode cX7_room 90 = .ok (.iconst 2, 1) := by decide +kernel
theorem dX7_room_91 : decode cX7_room 91 = .ok (.iload_n 2, 1) := by decide +kernel
theorem dX7_room_92 : decode cX7_room 92 = .ok (.imul, 1) := by decide +kernel
theorem dX7_room_93 : decode cX7_room 93 = .ok (.iconst 1, 1) := by decide +kernel
theorem dX7_room_94 : decode cX7_room 94 = .ok (.iadd, 1) := by decide +kernel
theorem dX7_room_95 : decode cX7_room 95 = .ok (.newarray .long, 2) := by decide +kernel
theorem dX7_room_97 : decode cX7_room 97 = .ok (.putfield 34, 3) := by decide +kernel
theorem dX7_room_100 : decode cX7_room 100 = .ok (.aload_n 0, 1) := by decide +kernel
theorem dX7_room_101 : decode cX7_room 101 = .ok (.iconst 2, 1) := by decide +kernel
theorem dX7_room_102 : decode cX7_room 102 = .ok (.iload_n 2, 1) := by decide +kernel
theorem dX7_room_103 : decode cX7_room 103 = .ok (.imul, 1) := by decide +kernel
theorem dX7_room_104 : decode cX7_room 104 = .ok (.iconst 1, 1) := by decide +kernel
theorem dX7_room_105 : decode cX7_room 105 = .ok (.iadd, 1) := by decide +kernel
theorem dX7_room_106 : decode cX7_room 106 = .ok (.newarray .int, 2) := by decide +kernel
theorem dX7_room_108 : decode cX7_room 108 = .ok (.putfield 38, 3) := by decide +kernel
theorem dX7_room_111 : decode cX7_room 111 = .ok (.aload_n 0, 1) := by decide +kernel
theorem dX7_room_112 : decode cX7_room 112 = .ok (.iconst 2, 1) := by decide +kernel
theorem dX7_room_113 : decode cX7_room 113 = .ok (.iload_n 2, 1) := by decide +kernel
theorem dX7_room_114 : decode cX7_room 114 = .ok (.imul, 1) := by decide +kernel
theorem dX7_room_115 : decode cX7_room 115 = .ok (.iconst 1, 1) := by decide +kernel
theorem dX7_room_116 : decode cX7_room 116 = .ok (.iadd, 1) := by decide +kernel
theorem dX7_room_117 : decode cX7_room 117 = .ok (.newarray .int, 2) := by decide +kernel
theorem dX7_room_119 : decode cX7_room 119 = .ok (.putfield 41, 3) := by decide +kernel
theorem dX7_room_122 : decode cX7_room 122 = .ok (.aload_n 0, 1) := by decide +kernel
theorem dX7_room_123 : decode cX7_room 123 = .ok (.iconst 2, 1) := by decide +kernel
theorem dX7_room_124 : decode cX7_room 124 = .ok (.iload_n 2, 1) := by decide +kernel
theorem dX7_room_125 : decode cX7_room 125 = .ok (.imul, 1) := by decide +kernel
theorem dX7_room_126 : decode cX7_room 126 = .ok (.iconst 1, 1) := by decide +kernel
theorem dX7_room_127 : decode cX7_room 127 = .ok (.iadd, 1) := by decide +kernel
theorem dX7_room_128 : decode cX7_room 128 = .ok (.newarray .boolean, 2) := by decide +kernel
theorem dX7_room_130 : decode cX7_room 130 = .ok (.putfield 47, 3) := by decide +kernel
theorem dX7_room_133 : decode cX7_room 133 = .ok (.return_, 1) := by decide +kernel
theorem dX7_sortOut_0 : decode cX7_sortOut 0 = .ok (.iconst 0, 1) := by decide +kernel
theorem dX7_sortOut_1 : decode cX7_sortOut 1 = .ok (.istore_n 1, 1) := by decide +kernel
theorem dX7_sortOut_2 : decode cX7_sortOut 2 = .ok (.iload_n 1, 1) := by decide +kernel
theorem dX7_sortOut_3 : decode cX7_sortOut 3 = .ok (.aload_n 0, 1) := by decide +kernel
theorem dX7_sortOut_4 : decode cX7_sortOut 4 = .ok (.getfield 67, 3) := by decide +kernel
theorem dX7_sortOut_7 : decode cX7_sortOut 7 = .ok (.if_icmp .gt 16, 3) := by decide +kernel
theorem dX7_sortOut_10 : decode cX7_sortOut 10 = .ok (.aload_n 0, 1) := by decide +kernel
theorem dX7_sortOut_11 : decode cX7_sortOut 11 = .ok (.getfield 22, 3) := by decide +kernel
theorem dX7_sortOut_14 : decode cX7_sortOut 14 = .ok (.iload_n 1, 1) := by decide +kernel
theorem dX7_sortOut_15 : decode cX7_sortOut 15 = .ok (.iconst 0, 1) := by decide +kernel
theorem dX7_sortOut_16 : decode cX7_sortOut 16 = .ok (.iastore, 1) := by decide +kernel
theorem dX7_sortOut_17 : decode cX7_sortOut 17 = .ok (.iinc 1 1, 3) := by decide +kernel
theorem dX7_sortOut_20 : decode cX7_sortOut 20 = .ok (.goto (-18), 3) := by decide +kernel
theorem dX7_sortOut_23 : decode cX7_sortOut 23 = .ok (.iconst 0, 1) := by decide +kernel
theorem dX7_sortOut_24 : decode cX7_sortOut 24 = .ok (.istore_n 1, 1) := by decide +kernel
theorem dX7_sortOut_25 : decode cX7_sortOut 25 = .ok (.iload_n 1, 1) := by decide +kernel
theorem dX7_sortOut_26 : decode cX7_sortOut 26 = .ok (.iconst 2, 1) := by decide +kernel
theorem dX7_sortOut_27 : decode cX7_sortOut 27 = .ok (.aload_n 0, 1) := by decide +kernel
theorem dX7_sortOut_28 : decode cX7_sortOut 28 = .ok (.getfield 71, 3) := by decide +kernel
theorem dX7_sortOut_31 : decode cX7_sortOut 31 = .ok (.imul, 1) := by decide +kernel
theorem dX7_sortOut_32 : decode cX7_sortOut 32 = .ok (.if_icmp .ge 23, 3) := by decide +kernel
theorem dX7_sortOut_55 : decode cX7_sortOut 55 = .ok (.iconst 0, 1) := by decide +kernel
theorem dX7_sortOut_56 : decode cX7_sortOut 56 = .ok (.istore_n 1, 1) := by decide +kernel
theorem dX7_sortOut_57 : decode cX7_sortOut 57 = .ok (.iconst 0, 1) := by decide +kernel
theorem dX7_sortOut_58 : decode cX7_sortOut 58 = .ok (.istore_n 2, 1) := by decide +kernel
theorem dX7_sortOut_59 : decode cX7_sortOut 59 = .ok (.iload_n 2, 1) := by decide +kernel
theorem dX7_sortOut_60 : decode cX7_sortOut 60 = .ok (.aload_n 0, 1) := by decide +kernel
theorem dX7_sortOut_61 : decode cX7_sortOut 61 = .ok (.getfield 67, 3) := by decide +kernel
theorem dX7_sortOut_64 : decode cX7_sortOut 64 = .ok (.if_icmp .gt 39, 3) := by decide +kernel
theorem dX7_sortOut_67 : decode cX7_sortOut 67 = .ok (.iload_n 2, 1) := by decide +kernel
theorem dX7_sortOut_68 : decode cX7_sortOut 68 = .ok (.aload_n 0, 1) := by decide +kernel
theorem dX7_sortOut_69 : decode cX7_sortOut 69 = .ok (.getfield 67, 3) := by decide +kernel
theorem dX7_sortOut_72 : decode cX7_sortOut 72 = .ok (.if_icmp .ge 12, 3) := by decide +kernel
theorem dX7_sortOut_84 : decode cX7_sortOut 84 = .ok (.iconst 0, 1) := by decide +kernel
theorem dX7_sortOut_85 : decode cX7_sortOut 85 = .ok (.istore_n 3, 1) := by decide +kernel
theorem dX7_sortOut_86 : decode cX7_sortOut 86 = .ok (.aload_n 0, 1) := by decide +kernel
theorem dX7_sortOut_87 : decode cX7_sortOut 87 = .ok (.getfield 22, 3) := by decide +kernel
theorem dX7_sortOut_90 : decode cX7_sortOut 90 = .ok (.iload_n 2, 1) := by decide +kernel
theorem dX7_sortOut_91 : decode cX7_sortOut 91 = .ok (.iload_n 1, 1) := by decide +kernel
theorem dX7_sortOut_92 : decode cX7_sortOut 92 = .ok (.iastore, 1) := by decide +kernel
theorem dX7_sortOut_93 : decode cX7_sortOut 93 = .ok (.iload_n 1, 1) := by decide +kernel
theorem dX7_sortOut_94 : decode cX7_sortOut 94 = .ok (.iload_n 3, 1) := by decide +kernel
theorem dX7_sortOut_95 : decode cX7_sortOut 95 = .ok (.iadd, 1) := by decide +kernel
theorem dX7_sortOut_96 : decode cX7_sortOut 96 = .ok (.istore_n 1, 1) := by decide +kernel
theorem dX7_sortOut_97 : decode cX7_sortOut 97 = .ok (.iinc 2 1, 3) := by decide +kernel
theorem dX7_sortOut_100 : decode cX7_sortOut 100 = .ok (.goto (-41), 3) := by decide +kernel
theorem dX7_sortOut_103 : decode cX7_sortOut 103 = .ok (.iconst 0, 1) := by decide +kernel
theorem dX7_sortOut_104 : decode cX7_sortOut 104 = .ok (.istore_n 2, 1) := by decide +kernel
theorem dX7_sortOut_105 : decode cX7_sortOut 105 = .ok (.iload_n 2, 1) := by decide +kernel
theorem dX7_sortOut_106 : decode cX7_sortOut 106 = .ok (.iconst 2, 1) := by decide +kernel
theorem dX7_sortOut_107 : decode cX7_sortOut 107 = .ok (.aload_n 0, 1) := by decide +kernel
theorem dX7_sortOut_108 : decode cX7_sortOut 108 = .ok (.getfield 71, 3) := by decide +kernel
theorem dX7_sortOut_111 : decode cX7_sortOut 111 = .ok (.imul, 1) := by decide +kernel
theorem dX7_sortOut_112 : decode cX7_sortOut 112 = .ok (.if_icmp .ge 16, 3) := by decide +kernel
theorem dX7_sortOut_128 : decode cX7_sortOut 128 = .ok (.iconst 0, 1) := by decide +kernel
theorem dX7_sortOut_129 : decode cX7_sortOut 129 = .ok (.istore_n 2, 1) := by decide +kernel
theorem dX7_sortOut_130 : decode cX7_sortOut 130 = .ok (.iload_n 2, 1) := by decide +kernel
theorem dX7_sortOut_131 : decode cX7_sortOut 131 = .ok (.iconst 2, 1) := by decide +kernel
theorem dX7_sortOut_132 : decode cX7_sortOut 132 = .ok (.aload_n 0, 1) := by decide +kernel
theorem dX7_sortOut_133 : decode cX7_sortOut 133 = .ok (.getfield 71, 3) := by decide +kernel
theorem dX7_sortOut_136 : decode cX7_sortOut 136 = .ok (.imul, 1) := by decide +kernel
theorem dX7_sortOut_137 : decode cX7_sortOut 137 = .ok (.if_icmp .ge 83, 3) := by decide +kernel
theorem dX7_sortOut_220 : decode cX7_sortOut 220 = .ok (.iconst 0, 1) := by decide +kernel
theorem dX7_sortOut_221 : decode cX7_sortOut 221 = .ok (.istore_n 2, 1) := by decide +kernel
theorem dX7_sortOut_222 : decode cX7_sortOut 222 = .ok (.iload_n 2, 1) := by decide +kernel
theorem dX7_sortOut_223 : decode cX7_sortOut 223 = .ok (.iconst 2, 1) := by decide +kernel
theorem dX7_sortOut_224 : decode cX7_sortOut 224 = .ok (.aload_n 0, 1) := by decide +kernel
theorem dX7_sortOut_225 : decode cX7_sortOut 225 = .ok (.getfield 71, 3) := by decide +kernel
theorem dX7_sortOut_228 : decode cX7_sortOut 228 = .ok (.imul, 1) := by decide +kernel
theorem dX7_sortOut_229 : decode cX7_sortOut 229 = .ok (.if_icmp .ge 21, 3) := by decide +kernel
theorem dX7_sortOut_250 : decode cX7_sortOut 250 = .ok (.return_, 1) := by decide +kernel
theorem dX7_build_0 : decode cX7_build 0 = .ok (.aload_n 0, 1) := by decide +kernel
theorem dX7_build_1 : decode cX7_build 1 = .ok (.invokevirtual 81, 3) := by decide +kernel
theorem dX7_build_4 : decode cX7_build 4 = .ok (.iconst 0, 1) := by decide +kernel
theorem dX7_build_5 : decode cX7_build 5 = .ok (.istore_n 1, 1) := by decide +kernel
theorem dX7_build_6 : decode cX7_build 6 = .ok (.iload_n 1, 1) := by decide +kernel
theorem dX7_build_7 : decode cX7_build 7 = .ok (.aload_n 0, 1) := by decide +kernel
theorem dX7_build_8 : decode cX7_build 8 = .ok (.getfield 67, 3) := by decide +kernel
theorem dX7_build_11 : decode cX7_build 11 = .ok (.if_icmp .ge 16, 3) := by decide +kernel
theorem dX7_build_27 : decode cX7_build 27 = .ok (.iconst 0, 1) := by decide +kernel
theorem dX7_build_28 : decode cX7_build 28 = .ok (.istore_n 1, 1) := by decide +kernel
theorem dX7_build_29 : decode cX7_build 29 = .ok (.iload_n 1, 1) := by decide +kernel
theorem dX7_build_30 : decode cX7_build 30 = .ok (.aload_n 0, 1) := by decide +kernel
theorem dX7_build_31 : decode cX7_build 31 = .ok (.getfield 71, 3) := by decide +kernel
theorem dX7_build_34 : decode cX7_build 34 = .ok (.if_icmp .ge 34, 3) := by decide +kernel
theorem dX7_build_68 : decode cX7_build 68 = .ok (.iconst 0, 1) := by decide +kernel
theorem dX7_build_69 : decode cX7_build 69 = .ok (.istore_n 1, 1) := by decide +kernel
theorem dX7_build_70 : decode cX7_build 70 = .ok (.iload_n 1, 1) := by decide +kernel
theorem dX7_build_71 : decode cX7_build 71 = .ok (.aload_n 0, 1) := by decide +kernel
theorem dX7_build_72 : decode cX7_build 72 = .ok (.getfield 67, 3) := by decide +kernel
theorem dX7_build_75 : decode cX7_build 75 = .ok (.if_icmp .ge 20, 3) := by decide +kernel
theorem dX7_build_95 : decode cX7_build 95 = .ok (.aload_n 0, 1) := by decide +kernel
theorem dX7_build_96 : decode cX7_build 96 = .ok (.iconst 0, 1) := by decide +kernel
theorem dX7_build_97 : decode cX7_build 97 = .ok (.putfield 87, 3) := by decide +kernel
theorem dX7_build_100 : decode cX7_build 100 = .ok (.iconst 0, 1) := by decide +kernel
theorem dX7_build_101 : decode cX7_build 101 = .ok (.istore_n 1, 1) := by decide +kernel
theorem dX7_build_102 : decode cX7_build 102 = .ok (.iload_n 1, 1) := by decide +kernel
theorem dX7_build_103 : decode cX7_build 103 = .ok (.iconst 2, 1) := by decide +kernel
theorem dX7_build_104 : decode cX7_build 104 = .ok (.aload_n 0, 1) := by decide +kernel
theorem dX7_build_105 : decode cX7_build 105 = .ok (.getfield 71, 3) := by decide +kernel
theorem dX7_build_108 : decode cX7_build 108 = .ok (.imul, 1) := by decide +kernel
theorem dX7_build_109 : decode cX7_build 109 = .ok (.if_icmp .ge 16, 3) := by decide +kernel
theorem dX7_build_125 : decode cX7_build 125 = .ok (.iconst 0, 1) := by decide +kernel
theorem dX7_build_126 : decode cX7_build 126 = .ok (.istore_n 1, 1) := by decide +kernel
theorem dX7_build_127 : decode cX7_build 127 = .ok (.iload_n 1, 1) := by decide +kernel
theorem dX7_build_128 : decode cX7_build 128 = .ok (.iconst 2, 1) := by decide +kernel
theorem dX7_build_129 : decode cX7_build 129 = .ok (.aload_n 0, 1) := by decide +kernel
theorem dX7_build_130 : decode cX7_build 130 = .ok (.getfield 71, 3) := by decide +kernel
theorem dX7_build_133 : decode cX7_build 133 = .ok (.imul, 1) := by decide +kernel
theorem dX7_build_134 : decode cX7_build 134 = .ok (.if_icmp .ge 23, 3) := by decide +kernel
theorem dX7_build_157 : decode cX7_build 157 = .ok (.aload_n 0, 1) := by decide +kernel
theorem dX7_build_158 : decode cX7_build 158 = .ok (.invokevirtual 94, 3) := by decide +kernel
theorem dX7_build_161 : decode cX7_build 161 = .ok (.iconst 0, 1) := by decide +kernel
theorem dX7_build_162 : decode cX7_build 162 = .ok (.istore_n 1, 1) := by decide +kernel
theorem dX7_build_163 : decode cX7_build 163 = .ok (.iload_n 1, 1) := by decide +kernel
theorem dX7_build_164 : decode cX7_build 164 = .ok (.aload_n 0, 1) := by decide +kernel
theorem dX7_build_165 : decode cX7_build 165 = .ok (.getfield 87, 3) := by decide +kernel
theorem dX7_build_168 : decode cX7_build 168 = .ok (.if_icmp .ge 55, 3) := by decide +kernel
theorem dX7_build_223 : decode cX7_build 223 = .ok (.return_, 1) := by decide +kernel
theorem dX7_number_0 : decode cX7_number 0 = .ok (.aload_n 0, 1) := by decide +kernel
theorem dX7_number_1 : decode cX7_number 1 = .ok (.iconst 1, 1) := by decide +kernel
theorem dX7_number_2 : decode cX7_number 2 = .ok (.putfield 107, 3) := by decide +kernel
theorem dX7_number_5 : decode cX7_number 5 = .ok (.iconst (-1), 1) := by decide +kernel
theorem dX7_number_6 : decode cX7_number 6 = .ok (.istore_n 1, 1) := by decide +kernel
theorem dX7_number_7 : decode cX7_number 7 = .ok (.iconst 1, 1) := by decide +kernel
theorem dX7_number_8 : decode cX7_number 8 = .ok (.istore_n 2, 1) := by decide +kernel
theorem dX7_number_9 : decode cX7_number 9 = .ok (.iload_n 2, 1) := by decide +kernel
theorem dX7_number_10 : decode cX7_number 10 = .ok (.ifCond .eq 131, 3) := by decide +kernel
theorem dX7_number_13 : decode cX7_number 13 = .ok (.iconst (-1), 1) := by decide +kernel
theorem dX7_number_14 : decode cX7_number 14 = .ok (.istore_n 3, 1) := by decide +kernel
theorem dX7_number_15 : decode cX7_number 15 = .ok (.iconst 0, 1) := by decide +kernel
theorem dX7_number_16 : decode cX7_number 16 = .ok (.istore 4, 2) := by decide +kernel
theorem dX7_number_18 : decode cX7_number 18 = .ok (.iload 4, 2) := by decide +kernel
theorem dX7_number_20 : decode cX7_number 20 = .ok (.aload_n 0, 1) := by decide +kernel
theorem dX7_number_21 : decode cX7_number 21 = .ok (.getfield 87, 3) := by decide +kernel
theorem dX7_number_24 : decode cX7_number 24 = .ok (.if_icmp .ge 75, 3) := by decide +kernel
theorem dX7_number_99 : decode cX7_number 99 = .ok (.iload_n 3, 1) := by decide +kernel
theorem dX7_number_100 : decode cX7_number 100 = .ok (.ifCond .lt 7, 3) := by decide +kernel
theorem dX7_number_107 : decode cX7_number 107 = .ok (.iconst 0, 1) := by decide +kernel
theorem dX7_number_108 : decode cX7_number 108 = .ok (.istore_n 2, 1) := by decide +kernel
theorem dX7_number_109 : decode cX7_number 109 = .ok (.iload_n 2, 1) := by decide +kernel
theorem dX7_number_110 : decode cX7_number 110 = .ok (.ifCond .ne 6, 3) := by decide +kernel
theorem dX7_number_113 : decode cX7_number 113 = .ok (.goto (-104), 3) := by decide +kernel
theorem dX7_number_141 : decode cX7_number 141 = .ok (.return_, 1) := by decide +kernel
theorem dX7_inside_0 : decode cX7_inside 0 = .ok (.iconst 0, 1) := by decide +kernel
theorem dX7_inside_1 : decode cX7_inside 1 = .ok (.istore 6, 2) := by decide +kernel
theorem dX7_inside_3 : decode cX7_inside 3 = .ok (.iload 6, 2) := by decide +kernel
theorem dX7_inside_5 : decode cX7_inside 5 = .ok (.aload_n 0, 1) := by decide +kernel
theorem dX7_inside_6 : decode cX7_inside 6 = .ok (.getfield 87, 3) := by decide +kernel
theorem dX7_inside_9 : decode cX7_inside 9 = .ok (.if_icmp .ge 17, 3) := by decide +kernel
theorem dX7_inside_26 : decode cX7_inside 26 = .ok (.iconst 0, 1) := by decide +kernel
theorem dX7_inside_27 : decode cX7_inside 27 = .ok (.istore 6, 2) := by decide +kernel
theorem dX7_inside_29 : decode cX7_inside 29 = .ok (.iload 6, 2) := by decide +kernel
theorem dX7_inside_31 : decode cX7_inside 31 = .ok (.iconst 2, 1) := by decide +kernel
theorem dX7_inside_32 : decode cX7_inside 32 = .ok (.aload_n 0, 1) := by decide +kernel
theorem dX7_inside_33 : decode cX7_inside 33 = .ok (.getfield 71, 3) := by decide +kernel
theorem dX7_inside_36 : decode cX7_inside 36 = .ok (.imul, 1) := by decide +kernel
theorem dX7_inside_37 : decode cX7_inside 37 = .ok (.if_icmp .ge 215, 3) := by decide +kernel
theorem dX7_inside_252 : decode cX7_inside 252 = .ok (.iconst (-1), 1) := by decide +kernel
theorem dX7_inside_253 : decode cX7_inside 253 = .ok (.istore 6, 2) := by decide +kernel
theorem dX7_inside_255 : decode cX7_inside 255 = .ok (.iconst 0, 1) := by decide +kernel
theorem dX7_inside_256 : decode cX7_inside 256 = .ok (.istore 7, 2) := by decide +kernel
theorem dX7_inside_258 : decode cX7_inside 258 = .ok (.iload 7, 2) := by decide +kernel
theorem dX7_inside_260 : decode cX7_inside 260 = .ok (.aload_n 0, 1) := by decide +kernel
theorem dX7_inside_261 : decode cX7_inside 261 = .ok (.getfield 87, 3) := by decide +kernel
theorem dX7_inside_264 : decode cX7_inside 264 = .ok (.if_icmp .ge 46, 3) := by decide +kernel
theorem dX7_inside_310 : decode cX7_inside 310 = .ok (.iload 6, 2) := by decide +kernel
theorem dX7_inside_312 : decode cX7_inside 312 = .ok (.ifCond .ge 7, 3) := by decide +kernel
theorem dX7_inside_315 : decode cX7_inside 315 = .ok (.iconst 0, 1) := by decide +kernel
theorem dX7_inside_316 : decode cX7_inside 316 = .ok (.goto 10, 3) := by decide +kernel
theorem dX7_inside_326 : decode cX7_inside 326 = .ok (.ireturn, 1) := by decide +kernel
theorem dX7_ringsOf_0 : decode cX7_ringsOf 0 = .ok (.iconst 0, 1) := by decide +kernel
