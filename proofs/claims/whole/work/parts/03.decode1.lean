theorem dX1_isTold_13 : decode cX1_isTold 13 = .ok (.iload 4, 2) := by decide +kernel
theorem dX1_isTold_15 : decode cX1_isTold 15 = .ok (.aload_n 1, 1) := by decide +kernel
theorem dX1_isTold_16 : decode cX1_isTold 16 = .ok (.iload_n 2, 1) := by decide +kernel
theorem dX1_isTold_17 : decode cX1_isTold 17 = .ok (.iload_n 3, 1) := by decide +kernel
theorem dX1_isTold_18 : decode cX1_isTold 18 = .ok (.invokevirtual 38, 3) := by decide +kernel
theorem dX1_isTold_21 : decode cX1_isTold 21 = .ok (.ifCond .eq 5, 3) := by decide +kernel
theorem dX1_isTold_24 : decode cX1_isTold 24 = .ok (.iconst 1, 1) := by decide +kernel
theorem dX1_isTold_25 : decode cX1_isTold 25 = .ok (.ireturn, 1) := by decide +kernel
theorem dX1_isTold_26 : decode cX1_isTold 26 = .ok (.iinc 4 1, 3) := by decide +kernel
theorem dX1_isTold_29 : decode cX1_isTold 29 = .ok (.goto (-26), 3) := by decide +kernel
theorem dX1_isTold_32 : decode cX1_isTold 32 = .ok (.iconst 0, 1) := by decide +kernel
theorem dX1_isTold_33 : decode cX1_isTold 33 = .ok (.ireturn, 1) := by decide +kernel
theorem dX1_isSpelled_0 : decode cX1_isSpelled 0 = .ok (.aload_n 0, 1) := by decide +kernel
theorem dX1_isSpelled_1 : decode cX1_isSpelled 1 = .ok (.getfield 9, 3) := by decide +kernel
theorem dX1_isSpelled_4 : decode cX1_isSpelled 4 = .ok (.iload_n 1, 1) := by decide +kernel
theorem dX1_isSpelled_5 : decode cX1_isSpelled 5 = .ok (.iaload, 1) := by decide +kernel
theorem dX1_isSpelled_6 : decode cX1_isSpelled 6 = .ok (.iload 4, 2) := by decide +kernel
theorem dX1_isSpelled_8 : decode cX1_isSpelled 8 = .ok (.if_icmp .eq 5, 3) := by decide +kernel
theorem dX1_isSpelled_11 : decode cX1_isSpelled 11 = .ok (.iconst 0, 1) := by decide +kernel
theorem dX1_isSpelled_12 : decode cX1_isSpelled 12 = .ok (.ireturn, 1) := by decide +kernel
theorem dX1_isSpelled_13 : decode cX1_isSpelled 13 = .ok (.iconst 0, 1) := by decide +kernel
theorem dX1_isSpelled_14 : decode cX1_isSpelled 14 = .ok (.istore 5, 2) := by decide +kernel
theorem dX1_isSpelled_16 : decode cX1_isSpelled 16 = .ok (.iload 5, 2) := by decide +kernel
theorem dX1_isSpelled_18 : decode cX1_isSpelled 18 = .ok (.iload 4, 2) := by decide +kernel
theorem dX1_isSpelled_20 : decode cX1_isSpelled 20 = .ok (.if_icmp .ge 30, 3) := by decide +kernel
theorem dX1_isSpelled_23 : decode cX1_isSpelled 23 = .ok (.aload_n 0, 1) := by decide +kernel
theorem dX1_isSpelled_24 : decode cX1_isSpelled 24 = .ok (.iload_n 1, 1) := by decide +kernel
theorem dX1_isSpelled_25 : decode cX1_isSpelled 25 = .ok (.iload 5, 2) := by decide +kernel
theorem dX1_isSpelled_27 : decode cX1_isSpelled 27 = .ok (.invokevirtual 42, 3) := by decide +kernel
theorem dX1_isSpelled_30 : decode cX1_isSpelled 30 = .ok (.aload_n 2, 1) := by decide +kernel
theorem dX1_isSpelled_31 : decode cX1_isSpelled 31 = .ok (.iload_n 3, 1) := by decide +kernel
theorem dX1_isSpelled_32 : decode cX1_isSpelled 32 = .ok (.iload 5, 2) := by decide +kernel
theorem dX1_isSpelled_34 : decode cX1_isSpelled 34 = .ok (.iadd, 1) := by decide +kernel
theorem dX1_isSpelled_35 : decode cX1_isSpelled 35 = .ok (.baload, 1) := by decide +kernel
theorem dX1_isSpelled_36 : decode cX1_isSpelled 36 = .ok (.bipush 97, 2) := by decide +kernel
theorem dX1_isSpelled_38 : decode cX1_isSpelled 38 = .ok (.isub, 1) := by decide +kernel
theorem dX1_isSpelled_39 : decode cX1_isSpelled 39 = .ok (.if_icmp .eq 5, 3) := by decide +kernel
theorem dX1_isSpelled_42 : decode cX1_isSpelled 42 = .ok (.iconst 0, 1) := by decide +kernel
theorem dX1_isSpelled_43 : decode cX1_isSpelled 43 = .ok (.ireturn, 1) := by decide +kernel
theorem dX1_isSpelled_44 : decode cX1_isSpelled 44 = .ok (.iinc 5 1, 3) := by decide +kernel
theorem dX1_isSpelled_47 : decode cX1_isSpelled 47 = .ok (.goto (-31), 3) := by decide +kernel
theorem dX1_isSpelled_50 : decode cX1_isSpelled 50 = .ok (.iconst 1, 1) := by decide +kernel
theorem dX1_isSpelled_51 : decode cX1_isSpelled 51 = .ok (.ireturn, 1) := by decide +kernel
theorem dX1_withLetterAt_0 : decode cX1_withLetterAt 0 = .ok (.iconst 0, 1) := by decide +kernel
theorem dX1_withLetterAt_1 : decode cX1_withLetterAt 1 = .ok (.istore_n 3, 1) := by decide +kernel
theorem dX1_withLetterAt_2 : decode cX1_withLetterAt 2 = .ok (.iconst 0, 1) := by decide +kernel
theorem dX1_withLetterAt_3 : decode cX1_withLetterAt 3 = .ok (.istore 4, 2) := by decide +kernel
theorem dX1_withLetterAt_5 : decode cX1_withLetterAt 5 = .ok (.iload 4, 2) := by decide +kernel
theorem dX1_withLetterAt_7 : decode cX1_withLetterAt 7 = .ok (.aload_n 0, 1) := by decide +kernel
theorem dX1_withLetterAt_8 : decode cX1_withLetterAt 8 = .ok (.getfield 27, 3) := by decide +kernel
theorem dX1_withLetterAt_11 : decode cX1_withLetterAt 11 = .ok (.if_icmp .ge 38, 3) := by decide +kernel
theorem dX1_withLetterAt_14 : decode cX1_withLetterAt 14 = .ok (.iload_n 1, 1) := by decide +kernel
theorem dX1_withLetterAt_15 : decode cX1_withLetterAt 15 = .ok (.aload_n 0, 1) := by decide +kernel
theorem dX1_withLetterAt_16 : decode cX1_withLetterAt 16 = .ok (.getfield 9, 3) := by decide +kernel
theorem dX1_withLetterAt_19 : decode cX1_withLetterAt 19 = .ok (.iload 4, 2) := by decide +kernel
theorem dX1_withLetterAt_21 : decode cX1_withLetterAt 21 = .ok (.iaload, 1) := by decide +kernel
theorem dX1_withLetterAt_22 : decode cX1_withLetterAt 22 = .ok (.if_icmp .ge 21, 3) := by decide +kernel
theorem dX1_withLetterAt_25 : decode cX1_withLetterAt 25 = .ok (.aload_n 0, 1) := by decide +kernel
theorem dX1_withLetterAt_26 : decode cX1_withLetterAt 26 = .ok (.iload 4, 2) := by decide +kernel
theorem dX1_withLetterAt_28 : decode cX1_withLetterAt 28 = .ok (.iload_n 1, 1) := by decide +kernel
theorem dX1_withLetterAt_29 : decode cX1_withLetterAt 29 = .ok (.invokevirtual 42, 3) := by decide +kernel
theorem dX1_withLetterAt_32 : decode cX1_withLetterAt 32 = .ok (.iload_n 2, 1) := by decide +kernel
theorem dX1_withLetterAt_33 : decode cX1_withLetterAt 33 = .ok (.if_icmp .ne 10, 3) := by decide +kernel
theorem dX1_withLetterAt_36 : decode cX1_withLetterAt 36 = .ok (.iload_n 3, 1) := by decide +kernel
theorem dX1_withLetterAt_37 : decode cX1_withLetterAt 37 = .ok (.iconst 1, 1) := by decide +kernel
theorem dX1_withLetterAt_38 : decode cX1_withLetterAt 38 = .ok (.iload 4, 2) := by decide +kernel
theorem dX1_withLetterAt_40 : decode cX1_withLetterAt 40 = .ok (.ishl, 1) := by decide +kernel
theorem dX1_withLetterAt_41 : decode cX1_withLetterAt 41 = .ok (.ior, 1) := by decide +kernel
theorem dX1_withLetterAt_42 : decode cX1_withLetterAt 42 = .ok (.istore_n 3, 1) := by decide +kernel
theorem dX1_withLetterAt_43 : decode cX1_withLetterAt 43 = .ok (.iinc 4 1, 3) := by decide +kernel
theorem dX1_withLetterAt_46 : decode cX1_withLetterAt 46 = .ok (.goto (-41), 3) := by decide +kernel
theorem dX1_withLetterAt_49 : decode cX1_withLetterAt 49 = .ok (.iload_n 3, 1) := by decide +kernel
theorem dX1_withLetterAt_50 : decode cX1_withLetterAt 50 = .ok (.ireturn, 1) := by decide +kernel
theorem dX1_fillNear_0 : decode cX1_fillNear 0 = .ok (.iconst 0, 1) := by decide +kernel
theorem dX1_fillNear_1 : decode cX1_fillNear 1 = .ok (.istore 4, 2) := by decide +kernel
theorem dX1_fillNear_3 : decode cX1_fillNear 3 = .ok (.iload 4, 2) := by decide +kernel
theorem dX1_fillNear_5 : decode cX1_fillNear 5 = .ok (.aload_n 0, 1) := by decide +kernel
theorem dX1_fillNear_6 : decode cX1_fillNear 6 = .ok (.getfield 27, 3) := by decide +kernel
theorem dX1_fillNear_9 : decode cX1_fillNear 9 = .ok (.if_icmp .ge 58, 3) := by decide +kernel
theorem dX1_fillNear_12 : decode cX1_fillNear 12 = .ok (.iconst 0, 1) := by decide +kernel
theorem dX1_fillNear_13 : decode cX1_fillNear 13 = .ok (.istore 5, 2) := by decide +kernel
theorem dX1_fillNear_15 : decode cX1_fillNear 15 = .ok (.iconst 0, 1) := by decide +kernel
theorem dX1_fillNear_16 : decode cX1_fillNear 16 = .ok (.istore 6, 2) := by decide +kernel
theorem dX1_fillNear_18 : decode cX1_fillNear 18 = .ok (.iload 6, 2) := by decide +kernel
theorem dX1_fillNear_20 : decode cX1_fillNear 20 = .ok (.aload_n 0, 1) := by decide +kernel
theorem dX1_fillNear_21 : decode cX1_fillNear 21 = .ok (.getfield 27, 3) := by decide +kernel
theorem dX1_fillNear_24 : decode cX1_fillNear 24 = .ok (.if_icmp .ge 31, 3) := by decide +kernel
theorem dX1_fillNear_27 : decode cX1_fillNear 27 = .ok (.aload_n 0, 1) := by decide +kernel
theorem dX1_fillNear_28 : decode cX1_fillNear 28 = .ok (.iload_n 1, 1) := by decide +kernel
theorem dX1_fillNear_29 : decode cX1_fillNear 29 = .ok (.iload_n 2, 1) := by decide +kernel
theorem dX1_fillNear_30 : decode cX1_fillNear 30 = .ok (.iload 4, 2) := by decide +kernel
theorem dX1_fillNear_32 : decode cX1_fillNear 32 = .ok (.iload 6, 2) := by decide +kernel
theorem dX1_fillNear_34 : decode cX1_fillNear 34 = .ok (.invokevirtual 46, 3) := by decide +kernel
theorem dX1_fillNear_37 : decode cX1_fillNear 37 = .ok (.ifCond .eq 12, 3) := by decide +kernel
theorem dX1_fillNear_40 : decode cX1_fillNear 40 = .ok (.iload 5, 2) := by decide +kernel
theorem dX1_fillNear_42 : decode cX1_fillNear 42 = .ok (.iconst 1, 1) := by decide +kernel
theorem dX1_fillNear_43 : decode cX1_fillNear 43 = .ok (.iload 6, 2) := by decide +kernel
theorem dX1_fillNear_45 : decode cX1_fillNear 45 = .ok (.ishl, 1) := by decide +kernel
theorem dX1_fillNear_46 : decode cX1_fillNear 46 = .ok (.ior, 1) := by decide +kernel
theorem dX1_fillNear_47 : decode cX1_fillNear 47 = .ok (.istore 5, 2) := by decide +kernel
theorem dX1_fillNear_49 : decode cX1_fillNear 49 = .ok (.iinc 6 1, 3) := by decide +kernel
theorem dX1_fillNear_52 : decode cX1_fillNear 52 = .ok (.goto (-34), 3) := by decide +kernel
theorem dX1_fillNear_55 : decode cX1_fillNear 55 = .ok (.aload_n 3, 1) := by decide +kernel
theorem dX1_fillNear_56 : decode cX1_fillNear 56 = .ok (.iload 4, 2) := by decide +kernel
theorem dX1_fillNear_58 : decode cX1_fillNear 58 = .ok (.iload 5, 2) := by decide +kernel
theorem dX1_fillNear_60 : decode cX1_fillNear 60 = .ok (.iastore, 1) := by decide +kernel
theorem dX1_fillNear_61 : decode cX1_fillNear 61 = .ok (.iinc 4 1, 3) := by decide +kernel
theorem dX1_fillNear_64 : decode cX1_fillNear 64 = .ok (.goto (-61), 3) := by decide +kernel
theorem dX1_fillNear_67 : decode cX1_fillNear 67 = .ok (.return_, 1) := by decide +kernel
theorem dX1_areNear_0 : decode cX1_areNear 0 = .ok (.iload_n 1, 1) := by decide +kernel
theorem dX1_areNear_1 : decode cX1_areNear 1 = .ok (.tableswitch 193 0 4 #[35, 74, 112, 139, 166], 35) := by decide +kernel
theorem dX1_areNear_36 : decode cX1_areNear 36 = .ok (.aload_n 0, 1) := by decide +kernel
theorem dX1_areNear_37 : decode cX1_areNear 37 = .ok (.getfield 9, 3) := by decide +kernel
theorem dX1_areNear_40 : decode cX1_areNear 40 = .ok (.iload_n 3, 1) := by decide +kernel
theorem dX1_areNear_41 : decode cX1_areNear 41 = .ok (.iaload, 1) := by decide +kernel
theorem dX1_areNear_42 : decode cX1_areNear 42 = .ok (.aload_n 0, 1) := by decide +kernel
theorem dX1_areNear_43 : decode cX1_areNear 43 = .ok (.getfield 9, 3) := by decide +kernel
theorem dX1_areNear_46 : decode cX1_areNear 46 = .ok (.iload 4, 2) := by decide +kernel
theorem dX1_areNear_48 : decode cX1_areNear 48 = .ok (.iaload, 1) := by decide +kernel
theorem dX1_areNear_49 : decode cX1_areNear 49 = .ok (.if_icmp .ne 24, 3) := by decide +kernel
theorem dX1_areNear_52 : decode cX1_areNear 52 = .ok (.aload_n 0, 1) := by decide +kernel
theorem dX1_areNear_53 : decode cX1_areNear 53 = .ok (.iload_n 3, 1) := by decide +kernel
theorem dX1_areNear_54 : decode cX1_areNear 54 = .ok (.iload 4, 2) := by decide +kernel
theorem dX1_areNear_56 : decode cX1_areNear 56 = .ok (.aload_n 0, 1) := by decide +kernel
theorem dX1_areNear_57 : decode cX1_areNear 57 = .ok (.getfield 9, 3) := by decide +kernel
theorem dX1_areNear_60 : decode cX1_areNear 60 = .ok (.iload_n 3, 1) := by decide +kernel
theorem dX1_areNear_61 : decode cX1_areNear 61 = .ok (.iaload, 1) := by decide +kernel
theorem dX1_areNear_62 : decode cX1_areNear 62 = .ok (.invokevirtual 50, 3) := by decide +kernel
theorem dX1_areNear_65 : decode cX1_areNear 65 = .ok (.iload_n 2, 1) := by decide +kernel
theorem dX1_areNear_66 : decode cX1_areNear 66 = .ok (.if_icmp .gt 7, 3) := by decide +kernel
theorem dX1_areNear_69 : decode cX1_areNear 69 = .ok (.iconst 1, 1) := by decide +kernel
theorem dX1_areNear_70 : decode cX1_areNear 70 = .ok (.goto 4, 3) := by decide +kernel
theorem dX1_areNear_73 : decode cX1_areNear 73 = .ok (.iconst 0, 1) := by decide +kernel
theorem dX1_areNear_74 : decode cX1_areNear 74 = .ok (.ireturn, 1) := by decide +kernel
theorem dX1_areNear_75 : decode cX1_areNear 75 = .ok (.aload_n 0, 1) := by decide +kernel
theorem dX1_areNear_76 : decode cX1_areNear 76 = .ok (.getfield 9, 3) := by decide +kernel
theorem dX1_areNear_79 : decode cX1_areNear 79 = .ok (.iload_n 3, 1) := by decide +kernel
theorem dX1_areNear_80 : decode cX1_areNear 80 = .ok (.iaload, 1) := by decide +kernel
theorem dX1_areNear_81 : decode cX1_areNear 81 = .ok (.iload_n 2, 1) := by decide +kernel
theorem dX1_areNear_82 : decode cX1_areNear 82 = .ok (.if_icmp .lt 29, 3) := by decide +kernel
theorem dX1_areNear_85 : decode cX1_areNear 85 = .ok (.aload_n 0, 1) := by decide +kernel
theorem dX1_areNear_86 : decode cX1_areNear 86 = .ok (.getfield 9, 3) := by decide +kernel
theorem dX1_areNear_89 : decode cX1_areNear 89 = .ok (.iload 4, 2) := by decide +kernel
theorem dX1_areNear_91 : decode cX1_areNear 91 = .ok (.iaload, 1) := by decide +kernel
theorem dX1_areNear_92 : decode cX1_areNear 92 = .ok (.iload_n 2, 1) := by decide +kernel
theorem dX1_areNear_93 : decode cX1_areNear 93 = .ok (.if_icmp .lt 18, 3) := by decide +kernel
theorem dX1_areNear_96 : decode cX1_areNear 96 = .ok (.aload_n 0, 1) := by decide +kernel
theorem dX1_areNear_97 : decode cX1_areNear 97 = .ok (.iload_n 3, 1) := by decide +kernel
theorem dX1_areNear_98 : decode cX1_areNear 98 = .ok (.iload 4, 2) := by decide +kernel
theorem dX1_areNear_100 : decode cX1_areNear 100 = .ok (.iload_n 2, 1) := by decide +kernel
theorem dX1_areNear_101 : decode cX1_areNear 101 = .ok (.invokevirtual 50, 3) := by decide +kernel
theorem dX1_areNear_104 : decode cX1_areNear 104 = .ok (.ifCond .ne 7, 3) := by decide +kernel
theorem dX1_areNear_107 : decode cX1_areNear 107 = .ok (.iconst 1, 1) := by decide +kernel
theorem dX1_areNear_108 : decode cX1_areNear 108 = .ok (.goto 4, 3) := by decide +kernel
theorem dX1_areNear_111 : decode cX1_areNear 111 = .ok (.iconst 0, 1) := by decide +kernel
theorem dX1_areNear_112 : decode cX1_areNear 112 = .ok (.ireturn, 1) := by decide +kernel
theorem dX1_areNear_113 : decode cX1_areNear 113 = .ok (.aload_n 0, 1) := by decide +kernel
theorem dX1_areNear_114 : decode cX1_areNear 114 = .ok (.getfield 9, 3) := by decide +kernel
theorem dX1_areNear_117 : decode cX1_areNear 117 = .ok (.iload_n 3, 1) := by decide +kernel
theorem dX1_areNear_118 : decode cX1_areNear 118 = .ok (.iaload, 1) := by decide +kernel
theorem dX1_areNear_119 : decode cX1_areNear 119 = .ok (.aload_n 0, 1) := by decide +kernel
theorem dX1_areNear_120 : decode cX1_areNear 120 = .ok (.getfield 9, 3) := by decide +kernel
theorem dX1_areNear_123 : decode cX1_areNear 123 = .ok (.iload 4, 2) := by decide +kernel
theorem dX1_areNear_125 : decode cX1_areNear 125 = .ok (.iaload, 1) := by decide +kernel
theorem dX1_areNear_126 : decode cX1_areNear 126 = .ok (.isub, 1) := by decide +kernel
theorem dX1_areNear_127 : decode cX1_areNear 127 = .ok (.invokestatic 54, 3) := by decide +kernel
theorem dX1_areNear_130 : decode cX1_areNear 130 = .ok (.iload_n 2, 1) := by decide +kernel
theorem dX1_areNear_131 : decode cX1_areNear 131 = .ok (.if_icmp .gt 7, 3) := by decide +kernel
theorem dX1_areNear_134 : decode cX1_areNear 134 = .ok (.iconst 1, 1) := by decide +kernel
theorem dX1_areNear_135 : decode cX1_areNear 135 = .ok (.goto 4, 3) := by decide +kernel
theorem dX1_areNear_138 : decode cX1_areNear 138 = .ok (.iconst 0, 1) := by decide +kernel
theorem dX1_areNear_139 : decode cX1_areNear 139 = .ok (.ireturn, 1) := by decide +kernel
theorem dX1_areNear_140 : decode cX1_areNear 140 = .ok (.aload_n 0, 1) := by decide +kernel
theorem dX1_areNear_141 : decode cX1_areNear 141 = .ok (.getfield 18, 3) := by decide +kernel
theorem dX1_areNear_144 : decode cX1_areNear 144 = .ok (.iload_n 3, 1) := by decide +kernel
theorem dX1_areNear_145 : decode cX1_areNear 145 = .ok (.iaload, 1) := by decide +kernel
theorem dX1_areNear_146 : decode cX1_areNear 146 = .ok (.aload_n 0, 1) := by decide +kernel
theorem dX1_areNear_147 : decode cX1_areNear 147 = .ok (.getfield 18, 3) := by decide +kernel
theorem dX1_areNear_150 : decode cX1_areNear 150 = .ok (.iload 4, 2) := by decide +kernel
theorem dX1_areNear_152 : decode cX1_areNear 152 = .ok (.iaload, 1) := by decide +kernel
theorem dX1_areNear_153 : decode cX1_areNear 153 = .ok (.iand, 1) := by decide +kernel
theorem dX1_areNear_154 : decode cX1_areNear 154 = .ok (.invokestatic 60, 3) := by decide +kernel
theorem dX1_areNear_157 : decode cX1_areNear 157 = .ok (.iload_n 2, 1) := by decide +kernel
theorem dX1_areNear_158 : decode cX1_areNear 158 = .ok (.if_icmp .lt 7, 3) := by decide +kernel
theorem dX1_areNear_161 : decode cX1_areNear 161 = .ok (.iconst 1, 1) := by decide +kernel
theorem dX1_areNear_162 : decode cX1_areNear 162 = .ok (.goto 4, 3) := by decide +kernel
theorem dX1_areNear_165 : decode cX1_areNear 165 = .ok (.iconst 0, 1) := by decide +kernel
theorem dX1_areNear_166 : decode cX1_areNear 166 = .ok (.ireturn, 1) := by decide +kernel
theorem dX1_areNear_167 : decode cX1_areNear 167 = .ok (.aload_n 0, 1) := by decide +kernel
theorem dX1_areNear_168 : decode cX1_areNear 168 = .ok (.getfield 21, 3) := by decide +kernel
theorem dX1_areNear_171 : decode cX1_areNear 171 = .ok (.iload_n 3, 1) := by decide +kernel
theorem dX1_areNear_172 : decode cX1_areNear 172 = .ok (.iaload, 1) := by decide +kernel
theorem dX1_areNear_173 : decode cX1_areNear 173 = .ok (.aload_n 0, 1) := by decide +kernel
theorem dX1_areNear_174 : decode cX1_areNear 174 = .ok (.getfield 21, 3) := by decide +kernel
theorem dX1_areNear_177 : decode cX1_areNear 177 = .ok (.iload 4, 2) := by decide +kernel
theorem dX1_areNear_179 : decode cX1_areNear 179 = .ok (.iaload, 1) := by decide +kernel
theorem dX1_areNear_180 : decode cX1_areNear 180 = .ok (.isub, 1) := by decide +kernel
theorem dX1_areNear_181 : decode cX1_areNear 181 = .ok (.invokestatic 54, 3) := by decide +kernel
theorem dX1_areNear_184 : decode cX1_areNear 184 = .ok (.iload_n 2, 1) := by decide +kernel
theorem dX1_areNear_185 : decode cX1_areNear 185 = .ok (.if_icmp .gt 7, 3) := by decide +kernel
theorem dX1_areNear_188 : decode cX1_areNear 188 = .ok (.iconst 1, 1) := by decide +kernel
theorem dX1_areNear_189 : decode cX1_areNear 189 = .ok (.goto 4, 3) := by decide +kernel
theorem dX1_areNear_192 : decode cX1_areNear 192 = .ok (.iconst 0, 1) := by decide +kernel
theorem dX1_areNear_193 : decode cX1_areNear 193 = .ok (.ireturn, 1) := by decide +kernel
theorem dX1_areNear_194 : decode cX1_areNear 194 = .ok (.iconst 0, 1) := by decide +kernel
theorem dX1_areNear_195 : decode cX1_areNear 195 = .ok (.ireturn, 1) := by decide +kernel
theorem dX1_unlikePlaces_0 : decode cX1_unlikePlaces 0 = .ok (.iconst 0, 1) := by decide +kernel
theorem dX1_unlikePlaces_1 : decode cX1_unlikePlaces 1 = .ok (.istore 4, 2) := by decide +kernel
theorem dX1_unlikePlaces_3 : decode cX1_unlikePlaces 3 = .ok (.iconst 0, 1) := by decide +kernel
theorem dX1_unlikePlaces_4 : decode cX1_unlikePlaces 4 = .ok (.istore 5, 2) := by decide +kernel
theorem dX1_unlikePlaces_6 : decode cX1_unlikePlaces 6 = .ok (.iload 5, 2) := by decide +kernel
theorem dX1_unlikePlaces_8 : decode cX1_unlikePlaces 8 = .ok (.iload_n 3, 1) := by decide +kernel
theorem dX1_unlikePlaces_9 : decode cX1_unlikePlaces 9 = .ok (.if_icmp .ge 29, 3) := by decide +kernel
theorem dX1_unlikePlaces_12 : decode cX1_unlikePlaces 12 = .ok (.aload_n 0, 1) := by decide +kernel
theorem dX1_unlikePlaces_13 : decode cX1_unlikePlaces 13 = .ok (.iload_n 1, 1) := by decide +kernel
theorem dX1_unlikePlaces_14 : decode cX1_unlikePlaces 14 = .ok (.iload 5, 2) := by decide +kernel
theorem dX1_unlikePlaces_16 : decode cX1_unlikePlaces 16 = .ok (.invokevirtual 42, 3) := by decide +kernel
theorem dX1_unlikePlaces_19 : decode cX1_unlikePlaces 19 = .ok (.aload_n 0, 1) := by decide +kernel
theorem dX1_unlikePlaces_20 : decode cX1_unlikePlaces 20 = .ok (.iload_n 2, 1) := by decide +kernel
theorem dX1_unlikePlaces_21 : decode cX1_unlikePlaces 21 = .ok (.iload 5, 2) := by decide +kernel
theorem dX1_unlikePlaces_23 : decode cX1_unlikePlaces 23 = .ok (.invokevirtual 42, 3) := by decide +kernel
theorem dX1_unlikePlaces_26 : decode cX1_unlikePlaces 26 = .ok (.if_icmp .eq 6, 3) := by decide +kernel
theorem dX1_unlikePlaces_29 : decode cX1_unlikePlaces 29 = .ok (.iinc 4 1, 3) := by decide +kernel
theorem dX1_unlikePlaces_32 : decode cX1_unlikePlaces 32 = .ok (.iinc 5 1, 3) := by decide +kernel
theorem dX1_unlikePlaces_35 : decode cX1_unlikePlaces 35 = .ok (.goto (-29), 3) := by decide +kernel
theorem dX1_unlikePlaces_38 : decode cX1_unlikePlaces 38 = .ok (.iload 4, 2) := by decide +kernel
theorem dX1_unlikePlaces_40 : decode cX1_unlikePlaces 40 = .ok (.ireturn, 1) := by decide +kernel
theorem dX1_isVowel_0 : decode cX1_isVowel 0 = .ok (.iload_n 0, 1) := by decide +kernel
theorem dX1_isVowel_1 : decode cX1_isVowel 1 = .ok (.bipush 97, 2) := by decide +kernel
theorem dX1_isVowel_3 : decode cX1_isVowel 3 = .ok (.if_icmp .eq 27, 3) := by decide +kernel
theorem dX1_isVowel_6 : decode cX1_isVowel 6 = .ok (.iload_n 0, 1) := by decide +kernel
theorem dX1_isVowel_7 : decode cX1_isVowel 7 = .ok (.bipush 101, 2) := by decide +kernel
theorem dX1_isVowel_9 : decode cX1_isVowel 9 = .ok (.if_icmp .eq 21, 3) := by decide +kernel
theorem dX1_isVowel_12 : decode cX1_isVowel 12 = .ok (.iload_n 0, 1) := by decide +kernel
theorem dX1_isVowel_13 : decode cX1_isVowel 13 = .ok (.bipush 105, 2) := by decide +kernel
theorem dX1_isVowel_15 : decode cX1_isVowel 15 = .ok (.if_icmp .eq 15, 3) := by decide +kernel
theorem dX1_isVowel_18 : decode cX1_isVowel 18 = .ok (.iload_n 0, 1) := by decide +kernel
theorem dX1_isVowel_19 : decode cX1_isVowel 19 = .ok (.bipush 111, 2) := by decide +kernel
theorem dX1_isVowel_21 : decode cX1_isVowel 21 = .ok (.if_icmp .eq 9, 3) := by decide +kernel
theorem dX1_isVowel_24 : decode cX1_isVowel 24 = .ok (.iload_n 0, 1) := by decide +kernel
theorem dX1_isVowel_25 : decode cX1_isVowel 25 = .ok (.bipush 117, 2) := by decide +kernel
theorem dX1_isVowel_27 : decode cX1_isVowel 27 = .ok (.if_icmp .ne 7, 3) := by decide +kernel
theorem dX1_isVowel_30 : decode cX1_isVowel 30 = .ok (.iconst 1, 1) := by decide +kernel
theorem dX1_isVowel_31 : decode cX1_isVowel 31 = .ok (.goto 4, 3) := by decide +kernel
theorem dX1_isVowel_34 : decode cX1_isVowel 34 = .ok (.iconst 0, 1) := by decide +kernel
theorem dX1_isVowel_35 : decode cX1_isVowel 35 = .ok (.ireturn, 1) := by decide +kernel
theorem dX2_init_0 : decode cX2_init 0 = .ok (.aload_n 0, 1) := by decide +kernel
theorem dX2_init_1 : decode cX2_init 1 = .ok (.invokespecial 3, 3) := by decide +kernel
theorem dX2_init_4 : decode cX2_init 4 = .ok (.return_, 1) := by decide +kernel
theorem dX2_readLines_0 : decode cX2_readLines 0 = .ok (.aload_n 0, 1) := by decide +kernel
theorem dX2_readLines_1 : decode cX2_readLines 1 = .ok (.aload_n 1, 1) := by decide +kernel
theorem dX2_readLines_2 : decode cX2_readLines 2 = .ok (.putfield 9, 3) := by decide +kernel
theorem dX2_readLines_5 : decode cX2_readLines 5 = .ok (.aload_n 0, 1) := by decide +kernel
theorem dX2_readLines_6 : decode cX2_readLines 6 = .ok (.iload_n 2, 1) := by decide +kernel
theorem dX2_readLines_7 : decode cX2_readLines 7 = .ok (.putfield 15, 3) := by decide +kernel
theorem dX2_readLines_10 : decode cX2_readLines 10 = .ok (.aload_n 0, 1) := by decide +kernel
theorem dX2_readLines_11 : decode cX2_readLines 11 = .ok (.aload_n 3, 1) := by decide +kernel
theorem dX2_readLines_12 : decode cX2_readLines 12 = .ok (.putfield 19, 3) := by decide +kernel
theorem dX2_readLines_15 : decode cX2_readLines 15 = .ok (.aload_n 0, 1) := by decide +kernel
theorem dX2_readLines_16 : decode cX2_readLines 16 = .ok (.aload 4, 2) := by decide +kernel
theorem dX2_readLines_18 : decode cX2_readLines 18 = .ok (.putfield 23, 3) := by decide +kernel
theorem dX2_readLines_21 : decode cX2_readLines 21 = .ok (.aload_n 0, 1) := by decide +kernel
theorem dX2_readLines_22 : decode cX2_readLines 22 = .ok (.iconst 0, 1) := by decide +kernel
theorem dX2_readLines_23 : decode cX2_readLines 23 = .ok (.putfield 27, 3) := by decide +kernel
theorem dX2_readLines_26 : decode cX2_readLines 26 = .ok (.aload_n 0, 1) := by decide +kernel
theorem dX2_readLines_27 : decode cX2_readLines 27 = .ok (.iconst 0, 1) := by decide +kernel
theorem dX2_readLines_28 : decode cX2_readLines 28 = .ok (.putfield 30, 3) := by decide +kernel
theorem dX2_readLines_31 : decode cX2_readLines 31 = .ok (.aload_n 0, 1) := by decide +kernel
theorem dX2_readLines_32 : decode cX2_readLines 32 = .ok (.iconst 0, 1) := by decide +kernel
theorem dX2_readLines_33 : decode cX2_readLines 33 = .ok (.putfield 33, 3) := by decide +kernel
theorem dX2_readLines_36 : decode cX2_readLines 36 = .ok (.aload_n 0, 1) := by decide +kernel
theorem dX2_readLines_37 : decode cX2_readLines 37 = .ok (.iconst 0, 1) := by decide +kernel
theorem dX2_readLines_38 : decode cX2_readLines 38 = .ok (.putfield 37, 3) := by decide +kernel
theorem dX2_readLines_41 : decode cX2_readLines 41 = .ok (.iconst 0, 1) := by decide +kernel
theorem dX2_readLines_42 : decode cX2_readLines 42 = .ok (.istore 5, 2) := by decide +kernel
theorem dX2_readLines_44 : decode cX2_readLines 44 = .ok (.iload 5, 2) := by decide +kernel
theorem dX2_readLines_46 : decode cX2_readLines 46 = .ok (.aload_n 0, 1) := by decide +kernel
theorem dX2_readLines_47 : decode cX2_readLines 47 = .ok (.getfield 15, 3) := by decide +kernel
theorem dX2_readLines_50 : decode cX2_readLines 50 = .ok (.if_icmp .ge 30, 3) := by decide +kernel
theorem dX2_readLines_53 : decode cX2_readLines 53 = .ok (.aload_n 0, 1) := by decide +kernel
theorem dX2_readLines_54 : decode cX2_readLines 54 = .ok (.invokevirtual 40, 3) := by decide +kernel
theorem dX2_readLines_57 : decode cX2_readLines 57 = .ok (.ifCond .eq 23, 3) := by decide +kernel
theorem dX2_readLines_60 : decode cX2_readLines 60 = .ok (.aload_n 0, 1) := by decide +kernel
theorem dX2_readLines_61 : decode cX2_readLines 61 = .ok (.getfield 44, 3) := by decide +kernel
theorem dX2_readLines_64 : decode cX2_readLines 64 = .ok (.ifCond .eq 16, 3) := by decide +kernel
theorem dX2_readLines_67 : decode cX2_readLines 67 = .ok (.aload_n 0, 1) := by decide +kernel
theorem dX2_readLines_68 : decode cX2_readLines 68 = .ok (.invokevirtual 47, 3) := by decide +kernel
theorem dX2_readLines_71 : decode cX2_readLines 71 = .ok (.ifCond .eq 9, 3) := by decide +kernel
theorem dX2_readLines_74 : decode cX2_readLines 74 = .ok (.iinc 5 1, 3) := by decide +kernel
theorem dX2_readLines_77 : decode cX2_readLines 77 = .ok (.goto (-33), 3) := by decide +kernel
theorem dX2_readLines_80 : decode cX2_readLines 80 = .ok (.iload 5, 2) := by decide +kernel
theorem dX2_readLines_82 : decode cX2_readLines 82 = .ok (.ireturn, 1) := by decide +kernel
theorem dX2_takeLine_0 : decode cX2_takeLine 0 = .ok (.aload_n 0, 1) := by decide +kernel
theorem dX2_takeLine_1 : decode cX2_takeLine 1 = .ok (.getfield 44, 3) := by decide +kernel
theorem dX2_takeLine_4 : decode cX2_takeLine 4 = .ok (.iconst 1, 1) := by decide +kernel
theorem dX2_takeLine_5 : decode cX2_takeLine 5 = .ok (.if_icmp .eq 9, 3) := by decide +kernel
theorem dX2_takeLine_8 : decode cX2_takeLine 8 = .ok (.aload_n 0, 1) := by decide +kernel
theorem dX2_takeLine_9 : decode cX2_takeLine 9 = .ok (.iconst 2, 1) := by decide +kernel
theorem dX2_takeLine_10 : decode cX2_takeLine 10 = .ok (.invokevirtual 50, 3) := by decide +kernel
theorem dX2_takeLine_13 : decode cX2_takeLine 13 = .ok (.ireturn, 1) := by decide +kernel
theorem dX2_takeLine_14 : decode cX2_takeLine 14 = .ok (.aload_n 0, 1) := by decide +kernel
theorem dX2_takeLine_15 : decode cX2_takeLine 15 = .ok (.ldc 54, 2) := by decide +kernel
theorem dX2_takeLine_17 : decode cX2_takeLine 17 = .ok (.invokevirtual 56, 3) := by decide +kernel
theorem dX2_takeLine_20 : decode cX2_takeLine 20 = .ok (.ifCond .eq 23, 3) := by decide +kernel
theorem dX2_takeLine_23 : decode cX2_takeLine 23 = .ok (.aload_n 0, 1) := by decide +kernel
theorem dX2_takeLine_24 : decode cX2_takeLine 24 = .ok (.invokevirtual 60, 3) := by decide +kernel
theorem dX2_takeLine_27 : decode cX2_takeLine 27 = .ok (.ifCond .eq 14, 3) := by decide +kernel
theorem dX2_takeLine_30 : decode cX2_takeLine 30 = .ok (.aload_n 0, 1) := by decide +kernel
theorem dX2_takeLine_31 : decode cX2_takeLine 31 = .ok (.invokevirtual 63, 3) := by decide +kernel
theorem dX2_takeLine_34 : decode cX2_takeLine 34 = .ok (.ifCond .eq 7, 3) := by decide +kernel
theorem dX2_takeLine_37 : decode cX2_takeLine 37 = .ok (.iconst 1, 1) := by decide +kernel
theorem dX2_takeLine_38 : decode cX2_takeLine 38 = .ok (.goto 4, 3) := by decide +kernel
theorem dX2_takeLine_41 : decode cX2_takeLine 41 = .ok (.iconst 0, 1) := by decide +kernel
theorem dX2_takeLine_42 : decode cX2_takeLine 42 = .ok (.ireturn, 1) := by decide +kernel
theorem dX2_takeLine_43 : decode cX2_takeLine 43 = .ok (.aload_n 0, 1) := by decide +kernel
theorem dX2_takeLine_44 : decode cX2_takeLine 44 = .ok (.ldc 66, 2) := by decide +kernel
theorem dX2_takeLine_46 : decode cX2_takeLine 46 = .ok (.invokevirtual 56, 3) := by decide +kernel
theorem dX2_takeLine_49 : decode cX2_takeLine 49 = .ok (.ifCond .eq 23, 3) := by decide +kernel
theorem dX2_takeLine_52 : decode cX2_takeLine 52 = .ok (.aload_n 0, 1) := by decide +kernel
theorem dX2_takeLine_53 : decode cX2_takeLine 53 = .ok (.invokevirtual 68, 3) := by decide +kernel
theorem dX2_takeLine_56 : decode cX2_takeLine 56 = .ok (.ifCond .eq 14, 3) := by decide +kernel
theorem dX2_takeLine_59 : decode cX2_takeLine 59 = .ok (.aload_n 0, 1) := by decide +kernel
theorem dX2_takeLine_60 : decode cX2_takeLine 60 = .ok (.invokevirtual 63, 3) := by decide +kernel
theorem dX2_takeLine_63 : decode cX2_takeLine 63 = .ok (.ifCond .eq 7, 3) := by decide +kernel
theorem dX2_takeLine_66 : decode cX2_takeLine 66 = .ok (.iconst 1, 1) := by decide +kernel
theorem dX2_takeLine_67 : decode cX2_takeLine 67 = .ok (.goto 4, 3) := by decide +kernel
theorem dX2_takeLine_70 : decode cX2_takeLine 70 = .ok (.iconst 0, 1) := by decide +kernel
theorem dX2_takeLine_71 : decode cX2_takeLine 71 = .ok (.ireturn, 1) := by decide +kernel
theorem dX2_takeLine_72 : decode cX2_takeLine 72 = .ok (.aload_n 0, 1) := by decide +kernel
theorem dX2_takeLine_73 : decode cX2_takeLine 73 = .ok (.ldc 71, 2) := by decide +kernel
theorem dX2_takeLine_75 : decode cX2_takeLine 75 = .ok (.invokevirtual 56, 3) := by decide +kernel
theorem dX2_takeLine_78 : decode cX2_takeLine 78 = .ok (.ifCond .eq 23, 3) := by decide +kernel
theorem dX2_takeLine_81 : decode cX2_takeLine 81 = .ok (.aload_n 0, 1) := by decide +kernel
theorem dX2_takeLine_82 : decode cX2_takeLine 82 = .ok (.invokevirtual 73, 3) := by decide +kernel
theorem dX2_takeLine_85 : decode cX2_takeLine 85 = .ok (.ifCond .eq 14, 3) := by decide +kernel
theorem dX2_takeLine_88 : decode cX2_takeLine 88 = .ok (.aload_n 0, 1) := by decide +kernel
theorem dX2_takeLine_89 : decode cX2_takeLine 89 = .ok (.invokevirtual 63, 3) := by decide +kernel
theorem dX2_takeLine_92 : decode cX2_takeLine 92 = .ok (.ifCond .eq 7, 3) := by decide +kernel
theorem dX2_takeLine_95 : decode cX2_takeLine 95 = .ok (.iconst 1, 1) := by decide +kernel
theorem dX2_takeLine_96 : decode cX2_takeLine 96 = .ok (.goto 4, 3) := by decide +kernel
theorem dX2_takeLine_99 : decode cX2_takeLine 99 = .ok (.iconst 0, 1) := by decide +kernel
theorem dX2_takeLine_100 : decode cX2_takeLine 100 = .ok (.ireturn, 1) := by decide +kernel
theorem dX2_takeLine_101 : decode cX2_takeLine 101 = .ok (.aload_n 0, 1) := by decide +kernel
theorem dX2_takeLine_102 : decode cX2_takeLine 102 = .ok (.ldc 76, 2) := by decide +kernel
theorem dX2_takeLine_104 : decode cX2_takeLine 104 = .ok (.invokevirtual 56, 3) := by decide +kernel
theorem dX2_takeLine_107 : decode cX2_takeLine 107 = .ok (.ifCond .eq 23, 3) := by decide +kernel
theorem dX2_takeLine_110 : decode cX2_takeLine 110 = .ok (.aload_n 0, 1) := by decide +kernel
theorem dX2_takeLine_111 : decode cX2_takeLine 111 = .ok (.invokevirtual 78, 3) := by decide +kernel
theorem dX2_takeLine_114 : decode cX2_takeLine 114 = .ok (.ifCond .eq 14, 3) := by decide +kernel
theorem dX2_takeLine_117 : decode cX2_takeLine 117 = .ok (.aload_n 0, 1) := by decide +kernel
theorem dX2_takeLine_118 : decode cX2_takeLine 118 = .ok (.invokevirtual 63, 3) := by decide +kernel
theorem dX2_takeLine_121 : decode cX2_takeLine 121 = .ok (.ifCond .eq 7, 3) := by decide +kernel
theorem dX2_takeLine_124 : decode cX2_takeLine 124 = .ok (.iconst 1, 1) := by decide +kernel
theorem dX2_takeLine_125 : decode cX2_takeLine 125 = .ok (.goto 4, 3) := by decide +kernel
theorem dX2_takeLine_128 : decode cX2_takeLine 128 = .ok (.iconst 0, 1) := by decide +kernel
theorem dX2_takeLine_129 : decode cX2_takeLine 129 = .ok (.ireturn, 1) := by decide +kernel
theorem dX2_takeLine_130 : decode cX2_takeLine 130 = .ok (.aload_n 0, 1) := by decide +kernel
theorem dX2_takeLine_131 : decode cX2_takeLine 131 = .ok (.iconst 2, 1) := by decide +kernel
theorem dX2_takeLine_132 : decode cX2_takeLine 132 = .ok (.invokevirtual 50, 3) := by decide +kernel
theorem dX2_takeLine_135 : decode cX2_takeLine 135 = .ok (.ireturn, 1) := by decide +kernel
theorem dX2_takeName_0 : decode cX2_takeName 0 = .ok (.aload_n 0, 1) := by decide +kernel
theorem dX2_takeName_1 : decode cX2_takeName 1 = .ok (.getfield 19, 3) := by decide +kernel
theorem dX2_takeName_4 : decode cX2_takeName 4 = .ok (.getfield 81, 3) := by decide +kernel
theorem dX2_takeName_7 : decode cX2_takeName 7 = .ok (.bipush 9, 2) := by decide +kernel
theorem dX2_takeName_9 : decode cX2_takeName 9 = .ok (.if_icmp .lt 9, 3) := by decide +kernel
theorem dX2_takeName_12 : decode cX2_takeName 12 = .ok (.aload_n 0, 1) := by decide +kernel
theorem dX2_takeName_13 : decode cX2_takeName 13 = .ok (.iconst 5, 1) := by decide +kernel
theorem dX2_takeName_14 : decode cX2_takeName 14 = .ok (.invokevirtual 50, 3) := by decide +kernel
theorem dX2_takeName_17 : decode cX2_takeName 17 = .ok (.ireturn, 1) := by decide +kernel
theorem dX2_takeName_18 : decode cX2_takeName 18 = .ok (.aload_n 0, 1) := by decide +kernel
theorem dX2_takeName_19 : decode cX2_takeName 19 = .ok (.bipush 8, 2) := by decide +kernel
theorem dX2_takeName_21 : decode cX2_takeName 21 = .ok (.invokevirtual 86, 3) := by decide +kernel
theorem dX2_takeName_24 : decode cX2_takeName 24 = .ok (.ifCond .ne 5, 3) := by decide +kernel
theorem dX2_takeName_27 : decode cX2_takeName 27 = .ok (.iconst 0, 1) := by decide +kernel
theorem dX2_takeName_28 : decode cX2_takeName 28 = .ok (.ireturn, 1) := by decide +kernel
theorem dX2_takeName_29 : decode cX2_takeName 29 = .ok (.aload_n 0, 1) := by decide +kernel
theorem dX2_takeName_30 : decode cX2_takeName 30 = .ok (.getfield 19, 3) := by decide +kernel
theorem dX2_takeName_33 : decode cX2_takeName 33 = .ok (.aload_n 0, 1) := by decide +kernel
theorem dX2_takeName_34 : decode cX2_takeName 34 = .ok (.getfield 9, 3) := by decide +kernel
theorem dX2_takeName_37 : decode cX2_takeName 37 = .ok (.aload_n 0, 1) := by decide +kernel
theorem dX2_takeName_38 : decode cX2_takeName 38 = .ok (.getfield 89, 3) := by decide +kernel
theorem dX2_takeName_41 : decode cX2_takeName 41 = .ok (.aload_n 0, 1) := by decide +kernel
theorem dX2_takeName_42 : decode cX2_takeName 42 = .ok (.getfield 27, 3) := by decide +kernel
theorem dX2_takeName_45 : decode cX2_takeName 45 = .ok (.aload_n 0, 1) := by decide +kernel
theorem dX2_takeName_46 : decode cX2_takeName 46 = .ok (.getfield 89, 3) := by decide +kernel
theorem dX2_takeName_49 : decode cX2_takeName 49 = .ok (.isub, 1) := by decide +kernel
theorem dX2_takeName_50 : decode cX2_takeName 50 = .ok (.invokevirtual 92, 3) := by decide +kernel
theorem dX2_takeName_53 : decode cX2_takeName 53 = .ok (.ifCond .eq 9, 3) := by decide +kernel
theorem dX2_takeName_56 : decode cX2_takeName 56 = .ok (.aload_n 0, 1) := by decide +kernel
theorem dX2_takeName_57 : decode cX2_takeName 57 = .ok (.iconst 4, 1) := by decide +kernel
theorem dX2_takeName_58 : decode cX2_takeName 58 = .ok (.invokevirtual 50, 3) := by decide +kernel
theorem dX2_takeName_61 : decode cX2_takeName 61 = .ok (.ireturn, 1) := by decide +kernel
theorem dX2_takeName_62 : decode cX2_takeName 62 = .ok (.aload_n 0, 1) := by decide +kernel
theorem dX2_takeName_63 : decode cX2_takeName 63 = .ok (.getfield 19, 3) := by decide +kernel
theorem dX2_takeName_66 : decode cX2_takeName 66 = .ok (.aload_n 0, 1) := by decide +kernel
theorem dX2_takeName_67 : decode cX2_takeName 67 = .ok (.getfield 9, 3) := by decide +kernel
theorem dX2_takeName_70 : decode cX2_takeName 70 = .ok (.aload_n 0, 1) := by decide +kernel
theorem dX2_takeName_71 : decode cX2_takeName 71 = .ok (.getfield 89, 3) := by decide +kernel
theorem dX2_takeName_74 : decode cX2_takeName 74 = .ok (.aload_n 0, 1) := by decide +kernel
theorem dX2_takeName_75 : decode cX2_takeName 75 = .ok (.getfield 27, 3) := by decide +kernel
theorem dX2_takeName_78 : decode cX2_takeName 78 = .ok (.aload_n 0, 1) := by decide +kernel
theorem dX2_takeName_79 : decode cX2_takeName 79 = .ok (.getfield 89, 3) := by decide +kernel
theorem dX2_takeName_82 : decode cX2_takeName 82 = .ok (.isub, 1) := by decide +kernel
theorem dX2_takeName_83 : decode cX2_takeName 83 = .ok (.invokevirtual 96, 3) := by decide +kernel
theorem dX2_takeName_86 : decode cX2_takeName 86 = .ok (.aload_n 0, 1) := by decide +kernel
theorem dX2_takeName_87 : decode cX2_takeName 87 = .ok (.iconst 1, 1) := by decide +kernel
theorem dX2_takeName_88 : decode cX2_takeName 88 = .ok (.bipush 9, 2) := by decide +kernel
theorem dX2_takeName_90 : decode cX2_takeName 90 = .ok (.invokevirtual 100, 3) := by decide +kernel
theorem dX2_takeName_93 : decode cX2_takeName 93 = .ok (.ifCond .ne 5, 3) := by decide +kernel
theorem dX2_takeName_96 : decode cX2_takeName 96 = .ok (.iconst 0, 1) := by decide +kernel
theorem dX2_takeName_97 : decode cX2_takeName 97 = .ok (.ireturn, 1) := by decide +kernel
theorem dX2_takeName_98 : decode cX2_takeName 98 = .ok (.aload_n 0, 1) := by decide +kernel
theorem dX2_takeName_99 : decode cX2_takeName 99 = .ok (.getfield 23, 3) := by decide +kernel
theorem dX2_takeName_102 : decode cX2_takeName 102 = .ok (.getfield 104, 3) := by decide +kernel
theorem dX2_takeName_105 : decode cX2_takeName 105 = .ok (.aload_n 0, 1) := by decide +kernel
theorem dX2_takeName_106 : decode cX2_takeName 106 = .ok (.getfield 19, 3) := by decide +kernel
theorem dX2_takeName_109 : decode cX2_takeName 109 = .ok (.getfield 81, 3) := by decide +kernel
theorem dX2_takeName_112 : decode cX2_takeName 112 = .ok (.iconst 1, 1) := by decide +kernel
theorem dX2_takeName_113 : decode cX2_takeName 113 = .ok (.isub, 1) := by decide +kernel
theorem dX2_takeName_114 : decode cX2_takeName 114 = .ok (.aload_n 0, 1) := by decide +kernel
theorem dX2_takeName_115 : decode cX2_takeName 115 = .ok (.getfield 110, 3) := by decide +kernel
theorem dX2_takeName_118 : decode cX2_takeName 118 = .ok (.iastore, 1) := by decide +kernel
theorem dX2_takeName_119 : decode cX2_takeName 119 = .ok (.iconst 1, 1) := by decide +kernel
theorem dX2_takeName_120 : decode cX2_takeName 120 = .ok (.ireturn, 1) := by decide +kernel
theorem dX2_takeLaw_0 : decode cX2_takeLaw 0 = .ok (.aload_n 0, 1) := by decide +kernel
theorem dX2_takeLaw_1 : decode cX2_takeLaw 1 = .ok (.getfield 33, 3) := by decide +kernel
theorem dX2_takeLaw_4 : decode cX2_takeLaw 4 = .ok (.ifCond .eq 9, 3) := by decide +kernel
theorem dX2_takeLaw_7 : decode cX2_takeLaw 7 = .ok (.aload_n 0, 1) := by decide +kernel
theorem dX2_takeLaw_8 : decode cX2_takeLaw 8 = .ok (.iconst 4, 1) := by decide +kernel
theorem dX2_takeLaw_9 : decode cX2_takeLaw 9 = .ok (.invokevirtual 50, 3) := by decide +kernel
theorem dX2_takeLaw_12 : decode cX2_takeLaw 12 = .ok (.ireturn, 1) := by decide +kernel
theorem dX2_takeLaw_13 : decode cX2_takeLaw 13 = .ok (.aload_n 0, 1) := by decide +kernel
theorem dX2_takeLaw_14 : decode cX2_takeLaw 14 = .ok (.iconst 1, 1) := by decide +kernel
theorem dX2_takeLaw_15 : decode cX2_takeLaw 15 = .ok (.putfield 33, 3) := by decide +kernel
theorem dX2_takeLaw_18 : decode cX2_takeLaw 18 = .ok (.aload_n 0, 1) := by decide +kernel
theorem dX2_takeLaw_19 : decode cX2_takeLaw 19 = .ok (.sipush 160, 3) := by decide +kernel
theorem dX2_takeLaw_22 : decode cX2_takeLaw 22 = .ok (.invokevirtual 86, 3) := by decide +kernel
theorem dX2_takeLaw_25 : decode cX2_takeLaw 25 = .ok (.ifCond .ne 5, 3) := by decide +kernel
theorem dX2_takeLaw_28 : decode cX2_takeLaw 28 = .ok (.iconst 0, 1) := by decide +kernel
theorem dX2_takeLaw_29 : decode cX2_takeLaw 29 = .ok (.ireturn, 1) := by decide +kernel
theorem dX2_takeLaw_30 : decode cX2_takeLaw 30 = .ok (.aload_n 0, 1) := by decide +kernel
theorem dX2_takeLaw_31 : decode cX2_takeLaw 31 = .ok (.invokevirtual 113, 3) := by decide +kernel
theorem dX2_takeLaw_34 : decode cX2_takeLaw 34 = .ok (.istore_n 1, 1) := by decide +kernel
theorem dX2_takeLaw_35 : decode cX2_takeLaw 35 = .ok (.iload_n 1, 1) := by decide +kernel
theorem dX2_takeLaw_36 : decode cX2_takeLaw 36 = .ok (.ifCond .ge 9, 3) := by decide +kernel
theorem dX2_takeLaw_39 : decode cX2_takeLaw 39 = .ok (.aload_n 0, 1) := by decide +kernel
theorem dX2_takeLaw_40 : decode cX2_takeLaw 40 = .ok (.iconst 2, 1) := by decide +kernel
theorem dX2_takeLaw_41 : decode cX2_takeLaw 41 = .ok (.invokevirtual 50, 3) := by decide +kernel
theorem dX2_takeLaw_44 : decode cX2_takeLaw 44 = .ok (.ireturn, 1) := by decide +kernel
theorem dX2_takeLaw_45 : decode cX2_takeLaw 45 = .ok (.aload_n 0, 1) := by decide +kernel
theorem dX2_takeLaw_46 : decode cX2_takeLaw 46 = .ok (.iconst 0, 1) := by decide +kernel
theorem dX2_takeLaw_47 : decode cX2_takeLaw 47 = .ok (.bipush 8, 2) := by decide +kernel
theorem dX2_takeLaw_49 : decode cX2_takeLaw 49 = .ok (.invokevirtual 100, 3) := by decide +kernel
theorem dX2_takeLaw_52 : decode cX2_takeLaw 52 = .ok (.ifCond .ne 5, 3) := by decide +kernel
theorem dX2_takeLaw_55 : decode cX2_takeLaw 55 = .ok (.iconst 0, 1) := by decide +kernel
theorem dX2_takeLaw_56 : decode cX2_takeLaw 56 = .ok (.ireturn, 1) := by decide +kernel
theorem dX2_takeLaw_57 : decode cX2_takeLaw 57 = .ok (.aload_n 0, 1) := by decide +kernel
theorem dX2_takeLaw_58 : decode cX2_takeLaw 58 = .ok (.getfield 23, 3) := by decide +kernel
theorem dX2_takeLaw_61 : decode cX2_takeLaw 61 = .ok (.iload_n 1, 1) := by decide +kernel
theorem dX2_takeLaw_62 : decode cX2_takeLaw 62 = .ok (.putfield 117, 3) := by decide +kernel
theorem dX2_takeLaw_65 : decode cX2_takeLaw 65 = .ok (.aload_n 0, 1) := by decide +kernel
theorem dX2_takeLaw_66 : decode cX2_takeLaw 66 = .ok (.getfield 23, 3) := by decide +kernel
theorem dX2_takeLaw_69 : decode cX2_takeLaw 69 = .ok (.aload_n 0, 1) := by decide +kernel
theorem dX2_takeLaw_70 : decode cX2_takeLaw 70 = .ok (.getfield 110, 3) := by decide +kernel
theorem dX2_takeLaw_73 : decode cX2_takeLaw 73 = .ok (.putfield 120, 3) := by decide +kernel
theorem dX2_takeLaw_76 : decode cX2_takeLaw 76 = .ok (.iconst 1, 1) := by decide +kernel
theorem dX2_takeLaw_77 : decode cX2_takeLaw 77 = .ok (.ireturn, 1) := by decide +kernel
theorem dX2_takePair_0 : decode cX2_takePair 0 = .ok (.aload_n 0, 1) := by decide +kernel
theorem dX2_takePair_1 : decode cX2_takePair 1 = .ok (.getfield 23, 3) := by decide +kernel
theorem dX2_takePair_4 : decode cX2_takePair 4 = .ok (.getfield 123, 3) := by decide +kernel
theorem dX2_takePair_7 : decode cX2_takePair 7 = .ok (.iconst 5, 1) := by decide +kernel
theorem dX2_takePair_8 : decode cX2_takePair 8 = .ok (.if_icmp .lt 9, 3) := by decide +kernel
theorem dX2_takePair_11 : decode cX2_takePair 11 = .ok (.aload_n 0, 1) := by decide +kernel
theorem dX2_takePair_12 : decode cX2_takePair 12 = .ok (.iconst 5, 1) := by decide +kernel
theorem dX2_takePair_13 : decode cX2_takePair 13 = .ok (.invokevirtual 50, 3) := by decide +kernel
theorem dX2_takePair_16 : decode cX2_takePair 16 = .ok (.ireturn, 1) := by decide +kernel
theorem dX2_takePair_17 : decode cX2_takePair 17 = .ok (.aload_n 0, 1) := by decide +kernel
theorem dX2_takePair_18 : decode cX2_takePair 18 = .ok (.iconst 1, 1) := by decide +kernel
theorem dX2_takePair_19 : decode cX2_takePair 19 = .ok (.invokevirtual 86, 3) := by decide +kernel
theorem dX2_takePair_22 : decode cX2_takePair 22 = .ok (.ifCond .ne 5, 3) := by decide +kernel
theorem dX2_takePair_25 : decode cX2_takePair 25 = .ok (.iconst 0, 1) := by decide +kernel
theorem dX2_takePair_26 : decode cX2_takePair 26 = .ok (.ireturn, 1) := by decide +kernel
theorem dX2_takePair_27 : decode cX2_takePair 27 = .ok (.aload_n 0, 1) := by decide +kernel
theorem dX2_takePair_28 : decode cX2_takePair 28 = .ok (.getfield 9, 3) := by decide +kernel
theorem dX2_takePair_31 : decode cX2_takePair 31 = .ok (.aload_n 0, 1) := by decide +kernel
theorem dX2_takePair_32 : decode cX2_takePair 32 = .ok (.getfield 89, 3) := by decide +kernel
theorem dX2_takePair_35 : decode cX2_takePair 35 = .ok (.baload, 1) := by decide +kernel
theorem dX2_takePair_36 : decode cX2_takePair 36 = .ok (.bipush 97, 2) := by decide +kernel
theorem dX2_takePair_38 : decode cX2_takePair 38 = .ok (.isub, 1) := by decide +kernel
theorem dX2_takePair_39 : decode cX2_takePair 39 = .ok (.istore_n 1, 1) := by decide +kernel
theorem dX2_takePair_40 : decode cX2_takePair 40 = .ok (.aload_n 0, 1) := by decide +kernel
theorem dX2_takePair_41 : decode cX2_takePair 41 = .ok (.iconst 1, 1) := by decide +kernel
theorem dX2_takePair_42 : decode cX2_takePair 42 = .ok (.invokevirtual 86, 3) := by decide +kernel
theorem dX2_takePair_45 : decode cX2_takePair 45 = .ok (.ifCond .ne 5, 3) := by decide +kernel
theorem dX2_takePair_48 : decode cX2_takePair 48 = .ok (.iconst 0, 1) := by decide +kernel
theorem dX2_takePair_49 : decode cX2_takePair 49 = .ok (.ireturn, 1) := by decide +kernel
theorem dX2_takePair_50 : decode cX2_takePair 50 = .ok (.aload_n 0, 1) := by decide +kernel
theorem dX2_takePair_51 : decode cX2_takePair 51 = .ok (.getfield 9, 3) := by decide +kernel
theorem dX2_takePair_54 : decode cX2_takePair 54 = .ok (.aload_n 0, 1) := by decide +kernel
theorem dX2_takePair_55 : decode cX2_takePair 55 = .ok (.getfield 89, 3) := by decide +kernel
theorem dX2_takePair_58 : decode cX2_takePair 58 = .ok (.baload, 1) := by decide +kernel
theorem dX2_takePair_59 : decode cX2_takePair 59 = .ok (.bipush 97, 2) := by decide +kernel
theorem dX2_takePair_61 : decode cX2_takePair 61 = .ok (.isub, 1) := by decide +kernel
theorem dX2_takePair_62 : decode cX2_takePair 62 = .ok (.istore_n 2, 1) := by decide +kernel
theorem dX2_takePair_63 : decode cX2_takePair 63 = .ok (.iload_n 1, 1) := by decide +kernel
theorem dX2_takePair_64 : decode cX2_takePair 64 = .ok (.iload_n 2, 1) := by decide +kernel
theorem dX2_takePair_65 : decode cX2_takePair 65 = .ok (.if_icmp .ne 9, 3) := by decide +kernel
theorem dX2_takePair_68 : decode cX2_takePair 68 = .ok (.aload_n 0, 1) := by decide +kernel
theorem dX2_takePair_69 : decode cX2_takePair 69 = .ok (.iconst 4, 1) := by decide +kernel
theorem dX2_takePair_70 : decode cX2_takePair 70 = .ok (.invokevirtual 50, 3) := by decide +kernel
theorem dX2_takePair_73 : decode cX2_takePair 73 = .ok (.ireturn, 1) := by decide +kernel
theorem dX2_takePair_74 : decode cX2_takePair 74 = .ok (.aload_n 0, 1) := by decide +kernel
theorem dX2_takePair_75 : decode cX2_takePair 75 = .ok (.getfield 23, 3) := by decide +kernel
theorem dX2_takePair_78 : decode cX2_takePair 78 = .ok (.iload_n 1, 1) := by decide +kernel
theorem dX2_takePair_79 : decode cX2_takePair 79 = .ok (.iload_n 2, 1) := by decide +kernel
theorem dX2_takePair_80 : decode cX2_takePair 80 = .ok (.invokevirtual 126, 3) := by decide +kernel
theorem dX2_takePair_83 : decode cX2_takePair 83 = .ok (.iconst 1, 1) := by decide +kernel
theorem dX2_takePair_84 : decode cX2_takePair 84 = .ok (.ireturn, 1) := by decide +kernel
theorem dX2_takeMaid_0 : decode cX2_takeMaid 0 = .ok (.aload_n 0, 1) := by decide +kernel
theorem dX2_takeMaid_1 : decode cX2_takeMaid 1 = .ok (.getfield 37, 3) := by decide +kernel
theorem dX2_takeMaid_4 : decode cX2_takeMaid 4 = .ok (.ifCond .eq 9, 3) := by decide +kernel
theorem dX2_takeMaid_7 : decode cX2_takeMaid 7 = .ok (.aload_n 0, 1) := by decide +kernel
theorem dX2_takeMaid_8 : decode cX2_takeMaid 8 = .ok (.iconst 4, 1) := by decide +kernel
theorem dX2_takeMaid_9 : decode cX2_takeMaid 9 = .ok (.invokevirtual 50, 3) := by decide +kernel
theorem dX2_takeMaid_12 : decode cX2_takeMaid 12 = .ok (.ireturn, 1) := by decide +kernel
theorem dX2_takeMaid_13 : decode cX2_takeMaid 13 = .ok (.aload_n 0, 1) := by decide +kernel
theorem dX2_takeMaid_14 : decode cX2_takeMaid 14 = .ok (.iconst 1, 1) := by decide +kernel
theorem dX2_takeMaid_15 : decode cX2_takeMaid 15 = .ok (.putfield 37, 3) := by decide +kernel
theorem dX2_takeMaid_18 : decode cX2_takeMaid 18 = .ok (.aload_n 0, 1) := by decide +kernel
theorem dX2_takeMaid_19 : decode cX2_takeMaid 19 = .ok (.bipush 8, 2) := by decide +kernel
theorem dX2_takeMaid_21 : decode cX2_takeMaid 21 = .ok (.invokevirtual 86, 3) := by decide +kernel
theorem dX2_takeMaid_24 : decode cX2_takeMaid 24 = .ok (.ifCond .ne 5, 3) := by decide +kernel
theorem dX2_takeMaid_27 : decode cX2_takeMaid 27 = .ok (.iconst 0, 1) := by decide +kernel
theorem dX2_takeMaid_28 : decode cX2_takeMaid 28 = .ok (.ireturn, 1) := by decide +kernel
theorem dX2_takeMaid_29 : decode cX2_takeMaid 29 = .ok (.aload_n 0, 1) := by decide +kernel
theorem dX2_takeMaid_30 : decode cX2_takeMaid 30 = .ok (.getfield 19, 3) := by decide +kernel
theorem dX2_takeMaid_33 : decode cX2_takeMaid 33 = .ok (.aload_n 0, 1) := by decide +kernel
theorem dX2_takeMaid_34 : decode cX2_takeMaid 34 = .ok (.getfield 9, 3) := by decide +kernel
theorem dX2_takeMaid_37 : decode cX2_takeMaid 37 = .ok (.aload_n 0, 1) := by decide +kernel
theorem dX2_takeMaid_38 : decode cX2_takeMaid 38 = .ok (.getfield 89, 3) := by decide +kernel
theorem dX2_takeMaid_41 : decode cX2_takeMaid 41 = .ok (.aload_n 0, 1) := by decide +kernel
theorem dX2_takeMaid_42 : decode cX2_takeMaid 42 = .ok (.getfield 27, 3) := by decide +kernel
theorem dX2_takeMaid_45 : decode cX2_takeMaid 45 = .ok (.aload_n 0, 1) := by decide +kernel
theorem dX2_takeMaid_46 : decode cX2_takeMaid 46 = .ok (.getfield 89, 3) := by decide +kernel
theorem dX2_takeMaid_49 : decode cX2_takeMaid 49 = .ok (.isub, 1) := by decide +kernel
theorem dX2_takeMaid_50 : decode cX2_takeMaid 50 = .ok (.invokevirtual 130, 3) := by decide +kernel
theorem dX2_takeMaid_53 : decode cX2_takeMaid 53 = .ok (.iconst 1, 1) := by decide +kernel
theorem dX2_takeMaid_54 : decode cX2_takeMaid 54 = .ok (.ireturn, 1) := by decide +kernel
theorem dX2_takeWord_0 : decode cX2_takeWord 0 = .ok (.aload_n 0, 1) := by decide +kernel
theorem dX2_takeWord_1 : decode cX2_takeWord 1 = .ok (.invokevirtual 40, 3) := by decide +kernel
theorem dX2_takeWord_4 : decode cX2_takeWord 4 = .ok (.ifCond .ne 5, 3) := by decide +kernel
theorem dX2_takeWord_7 : decode cX2_takeWord 7 = .ok (.iconst 0, 1) := by decide +kernel
theorem dX2_takeWord_8 : decode cX2_takeWord 8 = .ok (.ireturn, 1) := by decide +kernel
theorem dX2_takeWord_9 : decode cX2_takeWord 9 = .ok (.aload_n 0, 1) := by decide +kernel
theorem dX2_takeWord_10 : decode cX2_takeWord 10 = .ok (.getfield 44, 3) := by decide +kernel
theorem dX2_takeWord_13 : decode cX2_takeWord 13 = .ok (.iconst 1, 1) := by decide +kernel
theorem dX2_takeWord_14 : decode cX2_takeWord 14 = .ok (.if_icmp .eq 9, 3) := by decide +kernel
theorem dX2_takeWord_17 : decode cX2_takeWord 17 = .ok (.aload_n 0, 1) := by decide +kernel
theorem dX2_takeWord_18 : decode cX2_takeWord 18 = .ok (.iconst 2, 1) := by decide +kernel
theorem dX2_takeWord_19 : decode cX2_takeWord 19 = .ok (.invokevirtual 50, 3) := by decide +kernel
theorem dX2_takeWord_22 : decode cX2_takeWord 22 = .ok (.ireturn, 1) := by decide +kernel
theorem dX2_takeWord_23 : decode cX2_takeWord 23 = .ok (.aload_n 0, 1) := by decide +kernel
theorem dX2_takeWord_24 : decode cX2_takeWord 24 = .ok (.getfield 27, 3) := by decide +kernel
theorem dX2_takeWord_27 : decode cX2_takeWord 27 = .ok (.aload_n 0, 1) := by decide +kernel
theorem dX2_takeWord_28 : decode cX2_takeWord 28 = .ok (.getfield 89, 3) := by decide +kernel
theorem dX2_takeWord_31 : decode cX2_takeWord 31 = .ok (.isub, 1) := by decide +kernel
theorem dX2_takeWord_32 : decode cX2_takeWord 32 = .ok (.iload_n 1, 1) := by decide +kernel
theorem dX2_takeWord_33 : decode cX2_takeWord 33 = .ok (.if_icmp .le 11, 3) := by decide +kernel
theorem dX2_takeWord_36 : decode cX2_takeWord 36 = .ok (.aload_n 0, 1) := by decide +kernel
theorem dX2_takeWord_37 : decode cX2_takeWord 37 = .ok (.iconst 3, 1) := by decide +kernel
theorem dX2_takeWord_38 : decode cX2_takeWord 38 = .ok (.invokevirtual 50, 3) := by decide +kernel
theorem dX2_takeWord_41 : decode cX2_takeWord 41 = .ok (.ifCond .eq 7, 3) := by decide +kernel
theorem dX2_takeWord_44 : decode cX2_takeWord 44 = .ok (.iconst 1, 1) := by decide +kernel
theorem dX2_takeWord_45 : decode cX2_takeWord 45 = .ok (.goto 4, 3) := by decide +kernel
theorem dX2_takeWord_48 : decode cX2_takeWord 48 = .ok (.iconst 0, 1) := by decide +kernel
theorem dX2_takeWord_49 : decode cX2_takeWord 49 = .ok (.ireturn, 1) := by decide +kernel
theorem dX2_takeNumber_0 : decode cX2_takeNumber 0 = .ok (.aload_n 0, 1) := by decide +kernel
theorem dX2_takeNumber_1 : decode cX2_takeNumber 1 = .ok (.invokevirtual 40, 3) := by decide +kernel
theorem dX2_takeNumber_4 : decode cX2_takeNumber 4 = .ok (.ifCond .ne 5, 3) := by decide +kernel
theorem dX2_takeNumber_7 : decode cX2_takeNumber 7 = .ok (.iconst 0, 1) := by decide +kernel
theorem dX2_takeNumber_8 : decode cX2_takeNumber 8 = .ok (.ireturn, 1) := by decide +kernel
theorem dX2_takeNumber_9 : decode cX2_takeNumber 9 = .ok (.aload_n 0, 1) := by decide +kernel
theorem dX2_takeNumber_10 : decode cX2_takeNumber 10 = .ok (.getfield 44, 3) := by decide +kernel
theorem dX2_takeNumber_13 : decode cX2_takeNumber 13 = .ok (.iconst 2, 1) := by decide +kernel
theorem dX2_takeNumber_14 : decode cX2_takeNumber 14 = .ok (.if_icmp .eq 9, 3) := by decide +kernel
theorem dX2_takeNumber_17 : decode cX2_takeNumber 17 = .ok (.aload_n 0, 1) := by decide +kernel
theorem dX2_takeNumber_18 : decode cX2_takeNumber 18 = .ok (.iconst 2, 1) := by decide +kernel
theorem dX2_takeNumber_19 : decode cX2_takeNumber 19 = .ok (.invokevirtual 50, 3) := by decide +kernel
theorem dX2_takeNumber_22 : decode cX2_takeNumber 22 = .ok (.ireturn, 1) := by decide +kernel
theorem dX2_takeNumber_23 : decode cX2_takeNumber 23 = .ok (.aload_n 0, 1) := by decide +kernel
theorem dX2_takeNumber_24 : decode cX2_takeNumber 24 = .ok (.iconst 0, 1) := by decide +kernel
theorem dX2_takeNumber_25 : decode cX2_takeNumber 25 = .ok (.putfield 110, 3) := by decide +kernel
theorem dX2_takeNumber_28 : decode cX2_takeNumber 28 = .ok (.aload_n 0, 1) := by decide +kernel
theorem dX2_takeNumber_29 : decode cX2_takeNumber 29 = .ok (.getfield 89, 3) := by decide +kernel
theorem dX2_takeNumber_32 : decode cX2_takeNumber 32 = .ok (.istore_n 3, 1) := by decide +kernel
theorem dX2_takeNumber_33 : decode cX2_takeNumber 33 = .ok (.iload_n 3, 1) := by decide +kernel
theorem dX2_takeNumber_34 : decode cX2_takeNumber 34 = .ok (.aload_n 0, 1) := by decide +kernel
theorem dX2_takeNumber_35 : decode cX2_takeNumber 35 = .ok (.getfield 27, 3) := by decide +kernel
theorem dX2_takeNumber_38 : decode cX2_takeNumber 38 = .ok (.if_icmp .ge 30, 3) := by decide +kernel
theorem dX2_takeNumber_41 : decode cX2_takeNumber 41 = .ok (.aload_n 0, 1) := by decide +kernel
theorem dX2_takeNumber_42 : decode cX2_takeNumber 42 = .ok (.aload_n 0, 1) := by decide +kernel
theorem dX2_takeNumber_43 : decode cX2_takeNumber 43 = .ok (.getfield 110, 3) := by decide +kernel
theorem dX2_takeNumber_46 : decode cX2_takeNumber 46 = .ok (.bipush 10, 2) := by decide +kernel
theorem dX2_takeNumber_48 : decode cX2_takeNumber 48 = .ok (.imul, 1) := by decide +kernel
theorem dX2_takeNumber_49 : decode cX2_takeNumber 49 = .ok (.aload_n 0, 1) := by decide +kernel
theorem dX2_takeNumber_50 : decode cX2_takeNumber 50 = .ok (.getfield 9, 3) := by decide +kernel
theorem dX2_takeNumber_53 : decode cX2_takeNumber 53 = .ok (.iload_n 3, 1) := by decide +kernel
theorem dX2_takeNumber_54 : decode cX2_takeNumber 54 = .ok (.baload, 1) := by decide +kernel
theorem dX2_takeNumber_55 : decode cX2_takeNumber 55 = .ok (.bipush 48, 2) := by decide +kernel
theorem dX2_takeNumber_57 : decode cX2_takeNumber 57 = .ok (.isub, 1) := by decide +kernel
theorem dX2_takeNumber_58 : decode cX2_takeNumber 58 = .ok (.iadd, 1) := by decide +kernel
theorem dX2_takeNumber_59 : decode cX2_takeNumber 59 = .ok (.putfield 110, 3) := by decide +kernel
theorem dX2_takeNumber_62 : decode cX2_takeNumber 62 = .ok (.iinc 3 1, 3) := by decide +kernel
theorem dX2_takeNumber_65 : decode cX2_takeNumber 65 = .ok (.goto (-32), 3) := by decide +kernel
theorem dX2_takeNumber_68 : decode cX2_takeNumber 68 = .ok (.aload_n 0, 1) := by decide +kernel
theorem dX2_takeNumber_69 : decode cX2_takeNumber 69 = .ok (.getfield 110, 3) := by decide +kernel
theorem dX2_takeNumber_72 : decode cX2_takeNumber 72 = .ok (.iload_n 1, 1) := by decide +kernel
theorem dX2_takeNumber_73 : decode cX2_takeNumber 73 = .ok (.iload_n 2, 1) := by decide +kernel
theorem dX2_takeNumber_74 : decode cX2_takeNumber 74 = .ok (.invokestatic 133, 3) := by decide +kernel
theorem dX2_takeNumber_77 : decode cX2_takeNumber 77 = .ok (.ifCond .ne 11, 3) := by decide +kernel
theorem dX2_takeNumber_80 : decode cX2_takeNumber 80 = .ok (.aload_n 0, 1) := by decide +kernel
theorem dX2_takeNumber_81 : decode cX2_takeNumber 81 = .ok (.iconst 3, 1) := by decide +kernel
theorem dX2_takeNumber_82 : decode cX2_takeNumber 82 = .ok (.invokevirtual 50, 3) := by decide +kernel
theorem dX2_takeNumber_85 : decode cX2_takeNumber 85 = .ok (.ifCond .eq 7, 3) := by decide +kernel
theorem dX2_takeNumber_88 : decode cX2_takeNumber 88 = .ok (.iconst 1, 1) := by decide +kernel
theorem dX2_takeNumber_89 : decode cX2_takeNumber 89 = .ok (.goto 4, 3) := by decide +kernel
theorem dX2_takeNumber_92 : decode cX2_takeNumber 92 = .ok (.iconst 0, 1) := by decide +kernel
theorem dX2_takeNumber_93 : decode cX2_takeNumber 93 = .ok (.ireturn, 1) := by decide +kernel
theorem dX2_takeStop_0 : decode cX2_takeStop 0 = .ok (.aload_n 0, 1) := by decide +kernel
theorem dX2_takeStop_1 : decode cX2_takeStop 1 = .ok (.invokevirtual 40, 3) := by decide +kernel
theorem dX2_takeStop_4 : decode cX2_takeStop 4 = .ok (.ifCond .eq 23, 3) := by decide +kernel
theorem dX2_takeStop_7 : decode cX2_takeStop 7 = .ok (.aload_n 0, 1) := by decide +kernel
theorem dX2_takeStop_8 : decode cX2_takeStop 8 = .ok (.getfield 44, 3) := by decide +kernel
theorem dX2_takeStop_11 : decode cX2_takeStop 11 = .ok (.iconst 3, 1) := by decide +kernel
theorem dX2_takeStop_12 : decode cX2_takeStop 12 = .ok (.if_icmp .eq 11, 3) := by decide +kernel
theorem dX2_takeStop_15 : decode cX2_takeStop 15 = .ok (.aload_n 0, 1) := by decide +kernel
theorem dX2_takeStop_16 : decode cX2_takeStop 16 = .ok (.iconst 2, 1) := by decide +kernel
theorem dX2_takeStop_17 : decode cX2_takeStop 17 = .ok (.invokevirtual 50, 3) := by decide +kernel
theorem dX2_takeStop_20 : decode cX2_takeStop 20 = .ok (.ifCond .eq 7, 3) := by decide +kernel
theorem dX2_takeStop_23 : decode cX2_takeStop 23 = .ok (.iconst 1, 1) := by decide +kernel
theorem dX2_takeStop_24 : decode cX2_takeStop 24 = .ok (.goto 4, 3) := by decide +kernel
theorem dX2_takeStop_27 : decode cX2_takeStop 27 = .ok (.iconst 0, 1) := by decide +kernel
theorem dX2_takeStop_28 : decode cX2_takeStop 28 = .ok (.ireturn, 1) := by decide +kernel
theorem dX2_take_0 : decode cX2_take 0 = .ok (.aload_n 0, 1) := by decide +kernel
theorem dX2_take_1 : decode cX2_take 1 = .ok (.bipush 32, 2) := by decide +kernel
theorem dX2_take_3 : decode cX2_take 3 = .ok (.bipush 32, 2) := by decide +kernel
theorem dX2_take_5 : decode cX2_take 5 = .ok (.invokevirtual 137, 3) := by decide +kernel
theorem dX2_take_8 : decode cX2_take 8 = .ok (.aload_n 0, 1) := by decide +kernel
theorem dX2_take_9 : decode cX2_take 9 = .ok (.aload_n 0, 1) := by decide +kernel
theorem dX2_take_10 : decode cX2_take 10 = .ok (.getfield 27, 3) := by decide +kernel
theorem dX2_take_13 : decode cX2_take 13 = .ok (.putfield 89, 3) := by decide +kernel
theorem dX2_take_16 : decode cX2_take 16 = .ok (.aload_n 0, 1) := by decide +kernel
theorem dX2_take_17 : decode cX2_take 17 = .ok (.getfield 27, 3) := by decide +kernel
theorem dX2_take_20 : decode cX2_take 20 = .ok (.aload_n 0, 1) := by decide +kernel
theorem dX2_take_21 : decode cX2_take 21 = .ok (.getfield 15, 3) := by decide +kernel
theorem dX2_take_24 : decode cX2_take 24 = .ok (.if_icmp .lt 10, 3) := by decide +kernel
theorem dX2_take_27 : decode cX2_take 27 = .ok (.aload_n 0, 1) := by decide +kernel
theorem dX2_take_28 : decode cX2_take 28 = .ok (.iconst 0, 1) := by decide +kernel
theorem dX2_take_29 : decode cX2_take 29 = .ok (.putfield 44, 3) := by decide +kernel
theorem dX2_take_32 : decode cX2_take 32 = .ok (.iconst 1, 1) := by decide +kernel
theorem dX2_take_33 : decode cX2_take 33 = .ok (.ireturn, 1) := by decide +kernel
theorem dX2_take_34 : decode cX2_take 34 = .ok (.aload_n 0, 1) := by decide +kernel
theorem dX2_take_35 : decode cX2_take 35 = .ok (.getfield 9, 3) := by decide +kernel
theorem dX2_take_38 : decode cX2_take 38 = .ok (.aload_n 0, 1) := by decide +kernel
theorem dX2_take_39 : decode cX2_take 39 = .ok (.getfield 27, 3) := by decide +kernel
theorem dX2_take_42 : decode cX2_take 42 = .ok (.baload, 1) := by decide +kernel
theorem dX2_take_43 : decode cX2_take 43 = .ok (.bipush 59, 2) := by decide +kernel
theorem dX2_take_45 : decode cX2_take 45 = .ok (.if_icmp .ne 20, 3) := by decide +kernel
theorem dX2_take_48 : decode cX2_take 48 = .ok (.aload_n 0, 1) := by decide +kernel
theorem dX2_take_49 : decode cX2_take 49 = .ok (.dup, 1) := by decide +kernel
theorem dX2_take_50 : decode cX2_take 50 = .ok (.getfield 27, 3) := by decide +kernel
theorem dX2_take_53 : decode cX2_take 53 = .ok (.iconst 1, 1) := by decide +kernel
theorem dX2_take_54 : decode cX2_take 54 = .ok (.iadd, 1) := by decide +kernel
theorem dX2_take_55 : decode cX2_take 55 = .ok (.putfield 27, 3) := by decide +kernel
theorem dX2_take_58 : decode cX2_take 58 = .ok (.aload_n 0, 1) := by decide +kernel
theorem dX2_take_59 : decode cX2_take 59 = .ok (.iconst 3, 1) := by decide +kernel
theorem dX2_take_60 : decode cX2_take 60 = .ok (.putfield 44, 3) := by decide +kernel
theorem dX2_take_63 : decode cX2_take 63 = .ok (.iconst 1, 1) := by decide +kernel
theorem dX2_take_64 : decode cX2_take 64 = .ok (.ireturn, 1) := by decide +kernel
theorem dX2_take_65 : decode cX2_take 65 = .ok (.aload_n 0, 1) := by decide +kernel
theorem dX2_take_66 : decode cX2_take 66 = .ok (.bipush 97, 2) := by decide +kernel
theorem dX2_take_68 : decode cX2_take 68 = .ok (.bipush 122, 2) := by decide +kernel
theorem dX2_take_70 : decode cX2_take 70 = .ok (.invokevirtual 137, 3) := by decide +kernel
theorem dX2_take_73 : decode cX2_take 73 = .ok (.aload_n 0, 1) := by decide +kernel
theorem dX2_take_74 : decode cX2_take 74 = .ok (.getfield 27, 3) := by decide +kernel
theorem dX2_take_77 : decode cX2_take 77 = .ok (.aload_n 0, 1) := by decide +kernel
theorem dX2_take_78 : decode cX2_take 78 = .ok (.getfield 89, 3) := by decide +kernel
theorem dX2_take_81 : decode cX2_take 81 = .ok (.if_icmp .le 10, 3) := by decide +kernel
theorem dX2_take_84 : decode cX2_take 84 = .ok (.aload_n 0, 1) := by decide +kernel
theorem dX2_take_85 : decode cX2_take 85 = .ok (.iconst 1, 1) := by decide +kernel
theorem dX2_take_86 : decode cX2_take 86 = .ok (.putfield 44, 3) := by decide +kernel
theorem dX2_take_89 : decode cX2_take 89 = .ok (.iconst 1, 1) := by decide +kernel
theorem dX2_take_90 : decode cX2_take 90 = .ok (.ireturn, 1) := by decide +kernel
theorem dX2_take_91 : decode cX2_take 91 = .ok (.aload_n 0, 1) := by decide +kernel
theorem dX2_take_92 : decode cX2_take 92 = .ok (.bipush 48, 2) := by decide +kernel
theorem dX2_take_94 : decode cX2_take 94 = .ok (.bipush 57, 2) := by decide +kernel
theorem dX2_take_96 : decode cX2_take 96 = .ok (.invokevirtual 137, 3) := by decide +kernel
theorem dX2_take_99 : decode cX2_take 99 = .ok (.aload_n 0, 1) := by decide +kernel
theorem dX2_take_100 : decode cX2_take 100 = .ok (.iconst 2, 1) := by decide +kernel
theorem dX2_take_101 : decode cX2_take 101 = .ok (.putfield 44, 3) := by decide +kernel
theorem dX2_take_104 : decode cX2_take 104 = .ok (.aload_n 0, 1) := by decide +kernel
theorem dX2_take_105 : decode cX2_take 105 = .ok (.getfield 27, 3) := by decide +kernel
theorem dX2_take_108 : decode cX2_take 108 = .ok (.aload_n 0, 1) := by decide +kernel
theorem dX2_take_109 : decode cX2_take 109 = .ok (.getfield 89, 3) := by decide +kernel
theorem dX2_take_112 : decode cX2_take 112 = .ok (.isub, 1) := by decide +kernel
theorem dX2_take_113 : decode cX2_take 113 = .ok (.iconst 1, 1) := by decide +kernel
theorem dX2_take_114 : decode cX2_take 114 = .ok (.iconst 2, 1) := by decide +kernel
theorem dX2_take_115 : decode cX2_take 115 = .ok (.invokestatic 133, 3) := by decide +kernel
theorem dX2_take_118 : decode cX2_take 118 = .ok (.ifCond .ne 11, 3) := by decide +kernel
theorem dX2_take_121 : decode cX2_take 121 = .ok (.aload_n 0, 1) := by decide +kernel
theorem dX2_take_122 : decode cX2_take 122 = .ok (.iconst 1, 1) := by decide +kernel
theorem dX2_take_123 : decode cX2_take 123 = .ok (.invokevirtual 50, 3) := by decide +kernel
theorem dX2_take_126 : decode cX2_take 126 = .ok (.ifCond .eq 7, 3) := by decide +kernel
theorem dX2_take_129 : decode cX2_take 129 = .ok (.iconst 1, 1) := by decide +kernel
theorem dX2_take_130 : decode cX2_take 130 = .ok (.goto 4, 3) := by decide +kernel
theorem dX2_take_133 : decode cX2_take 133 = .ok (.iconst 0, 1) := by decide +kernel
theorem dX2_take_134 : decode cX2_take 134 = .ok (.ireturn, 1) := by decide +kernel
theorem dX2_skipAll_0 : decode cX2_skipAll 0 = .ok (.aload_n 0, 1) := by decide +kernel
theorem dX2_skipAll_1 : decode cX2_skipAll 1 = .ok (.getfield 27, 3) := by decide +kernel
theorem dX2_skipAll_4 : decode cX2_skipAll 4 = .ok (.aload_n 0, 1) := by decide +kernel
theorem dX2_skipAll_5 : decode cX2_skipAll 5 = .ok (.getfield 15, 3) := by decide +kernel
theorem dX2_skipAll_8 : decode cX2_skipAll 8 = .ok (.if_icmp .ge 42, 3) := by decide +kernel
theorem dX2_skipAll_11 : decode cX2_skipAll 11 = .ok (.aload_n 0, 1) := by decide +kernel
theorem dX2_skipAll_12 : decode cX2_skipAll 12 = .ok (.getfield 9, 3) := by decide +kernel
theorem dX2_skipAll_15 : decode cX2_skipAll 15 = .ok (.aload_n 0, 1) := by decide +kernel
theorem dX2_skipAll_16 : decode cX2_skipAll 16 = .ok (.getfield 27, 3) := by decide +kernel
theorem dX2_skipAll_19 : decode cX2_skipAll 19 = .ok (.baload, 1) := by decide +kernel
theorem dX2_skipAll_20 : decode cX2_skipAll 20 = .ok (.iload_n 1, 1) := by decide +kernel
theorem dX2_skipAll_21 : decode cX2_skipAll 21 = .ok (.if_icmp .lt 29, 3) := by decide +kernel
theorem dX2_skipAll_24 : decode cX2_skipAll 24 = .ok (.aload_n 0, 1) := by decide +kernel
theorem dX2_skipAll_25 : decode cX2_skipAll 25 = .ok (.getfield 9, 3) := by decide +kernel
theorem dX2_skipAll_28 : decode cX2_skipAll 28 = .ok (.aload_n 0, 1) := by decide +kernel
theorem dX2_skipAll_29 : decode cX2_skipAll 29 = .ok (.getfield 27, 3) := by decide +kernel
theorem dX2_skipAll_32 : decode cX2_skipAll 32 = .ok (.baload, 1) := by decide +kernel
theorem dX2_skipAll_33 : decode cX2_skipAll 33 = .ok (.iload_n 2, 1) := by decide +kernel
theorem dX2_skipAll_34 : decode cX2_skipAll 34 = .ok (.if_icmp .gt 16, 3) := by decide +kernel
theorem dX2_skipAll_37 : decode cX2_skipAll 37 = .ok (.aload_n 0, 1) := by decide +kernel
theorem dX2_skipAll_38 : decode cX2_skipAll 38 = .ok (.dup, 1) := by decide +kernel
theorem dX2_skipAll_39 : decode cX2_skipAll 39 = .ok (.getfield 27, 3) := by decide +kernel
theorem dX2_skipAll_42 : decode cX2_skipAll 42 = .ok (.iconst 1, 1) := by decide +kernel
theorem dX2_skipAll_43 : decode cX2_skipAll 43 = .ok (.iadd, 1) := by decide +kernel
theorem dX2_skipAll_44 : decode cX2_skipAll 44 = .ok (.putfield 27, 3) := by decide +kernel
theorem dX2_skipAll_47 : decode cX2_skipAll 47 = .ok (.goto (-47), 3) := by decide +kernel
theorem dX2_skipAll_50 : decode cX2_skipAll 50 = .ok (.return_, 1) := by decide +kernel
theorem dX2_refuse_0 : decode cX2_refuse 0 = .ok (.aload_n 0, 1) := by decide +kernel
theorem dX2_refuse_1 : decode cX2_refuse 1 = .ok (.iload_n 1, 1) := by decide +kernel
theorem dX2_refuse_2 : decode cX2_refuse 2 = .ok (.putfield 30, 3) := by decide +kernel
theorem dX2_refuse_5 : decode cX2_refuse 5 = .ok (.iconst 0, 1) := by decide +kernel
theorem dX2_refuse_6 : decode cX2_refuse 6 = .ok (.ireturn, 1) := by decide +kernel
theorem dX2_isWord_0 : decode cX2_isWord 0 = .ok (.aload_n 0, 1) := by decide +kernel
theorem dX2_isWord_1 : decode cX2_isWord 1 = .ok (.getfield 27, 3) := by decide +kernel
theorem dX2_isWord_4 : decode cX2_isWord 4 = .ok (.aload_n 0, 1) := by decide +kernel
theorem dX2_isWord_5 : decode cX2_isWord 5 = .ok (.getfield 89, 3) := by decide +kernel
theorem dX2_isWord_8 : decode cX2_isWord 8 = .ok (.isub, 1) := by decide +kernel
theorem dX2_isWord_9 : decode cX2_isWord 9 = .ok (.aload_n 1, 1) := by decide +kernel
theorem dX2_isWord_10 : decode cX2_isWord 10 = .ok (.invokevirtual 140, 3) := by decide +kernel
theorem dX2_isWord_13 : decode cX2_isWord 13 = .ok (.if_icmp .eq 5, 3) := by decide +kernel
theorem dX2_isWord_16 : decode cX2_isWord 16 = .ok (.iconst 0, 1) := by decide +kernel
theorem dX2_isWord_17 : decode cX2_isWord 17 = .ok (.ireturn, 1) := by decide +kernel
theorem dX2_isWord_18 : decode cX2_isWord 18 = .ok (.iconst 0, 1) := by decide +kernel
theorem dX2_isWord_19 : decode cX2_isWord 19 = .ok (.istore_n 2, 1) := by decide +kernel
theorem dX2_isWord_20 : decode cX2_isWord 20 = .ok (.iload_n 2, 1) := by decide +kernel
theorem dX2_isWord_21 : decode cX2_isWord 21 = .ok (.aload_n 1, 1) := by decide +kernel
theorem dX2_isWord_22 : decode cX2_isWord 22 = .ok (.invokevirtual 140, 3) := by decide +kernel
theorem dX2_isWord_25 : decode cX2_isWord 25 = .ok (.if_icmp .ge 30, 3) := by decide +kernel
theorem dX2_isWord_28 : decode cX2_isWord 28 = .ok (.aload_n 0, 1) := by decide +kernel
theorem dX2_isWord_29 : decode cX2_isWord 29 = .ok (.getfield 9, 3) := by decide +kernel
theorem dX2_isWord_32 : decode cX2_isWord 32 = .ok (.aload_n 0, 1) := by decide +kernel
theorem dX2_isWord_33 : decode cX2_isWord 33 = .ok (.getfield 89, 3) := by decide +kernel
theorem dX2_isWord_36 : decode cX2_isWord 36 = .ok (.iload_n 2, 1) := by decide +kernel
theorem dX2_isWord_37 : decode cX2_isWord 37 = .ok (.iadd, 1) := by decide +kernel
theorem dX2_isWord_38 : decode cX2_isWord 38 = .ok (.baload, 1) := by decide +kernel
theorem dX2_isWord_39 : decode cX2_isWord 39 = .ok (.aload_n 1, 1) := by decide +kernel
theorem dX2_isWord_40 : decode cX2_isWord 40 = .ok (.iload_n 2, 1) := by decide +kernel
theorem dX2_isWord_41 : decode cX2_isWord 41 = .ok (.invokevirtual 144, 3) := by decide +kernel
theorem dX2_isWord_44 : decode cX2_isWord 44 = .ok (.if_icmp .eq 5, 3) := by decide +kernel
theorem dX2_isWord_47 : decode cX2_isWord 47 = .ok (.iconst 0, 1) := by decide +kernel
theorem dX2_isWord_48 : decode cX2_isWord 48 = .ok (.ireturn, 1) := by decide +kernel
theorem dX2_isWord_49 : decode cX2_isWord 49 = .ok (.iinc 2 1, 3) := by decide +kernel
theorem dX2_isWord_52 : decode cX2_isWord 52 = .ok (.goto (-32), 3) := by decide +kernel
theorem dX2_isWord_55 : decode cX2_isWord 55 = .ok (.iconst 1, 1) := by decide +kernel
theorem dX2_isWord_56 : decode cX2_isWord 56 = .ok (.ireturn, 1) := by decide +kernel
theorem dX2_kindOfWord_0 : decode cX2_kindOfWord 0 = .ok (.aload_n 0, 1) := by decide +kernel
theorem dX2_kindOfWord_1 : decode cX2_kindOfWord 1 = .ok (.ldc 148, 2) := by decide +kernel
theorem dX2_kindOfWord_3 : decode cX2_kindOfWord 3 = .ok (.invokevirtual 56, 3) := by decide +kernel
theorem dX2_kindOfWord_6 : decode cX2_kindOfWord 6 = .ok (.ifCond .eq 5, 3) := by decide +kernel
theorem dX2_kindOfWord_9 : decode cX2_kindOfWord 9 = .ok (.iconst 0, 1) := by decide +kernel
theorem dX2_kindOfWord_10 : decode cX2_kindOfWord 10 = .ok (.ireturn, 1) := by decide +kernel
theorem dX2_kindOfWord_11 : decode cX2_kindOfWord 11 = .ok (.aload_n 0, 1) := by decide +kernel
theorem dX2_kindOfWord_12 : decode cX2_kindOfWord 12 = .ok (.ldc 150, 2) := by decide +kernel
theorem dX2_kindOfWord_14 : decode cX2_kindOfWord 14 = .ok (.invokevirtual 56, 3) := by decide +kernel
theorem dX2_kindOfWord_17 : decode cX2_kindOfWord 17 = .ok (.ifCond .eq 5, 3) := by decide +kernel
theorem dX2_kindOfWord_20 : decode cX2_kindOfWord 20 = .ok (.iconst 1, 1) := by decide +kernel
theorem dX2_kindOfWord_21 : decode cX2_kindOfWord 21 = .ok (.ireturn, 1) := by decide +kernel
theorem dX2_kindOfWord_22 : decode cX2_kindOfWord 22 = .ok (.aload_n 0, 1) := by decide +kernel
theorem dX2_kindOfWord_23 : decode cX2_kindOfWord 23 = .ok (.ldc 151, 2) := by decide +kernel
theorem dX2_kindOfWord_25 : decode cX2_kindOfWord 25 = .ok (.invokevirtual 56, 3) := by decide +kernel
theorem dX2_kindOfWord_28 : decode cX2_kindOfWord 28 = .ok (.ifCond .eq 5, 3) := by decide +kernel
theorem dX2_kindOfWord_31 : decode cX2_kindOfWord 31 = .ok (.iconst 2, 1) := by decide +kernel
theorem dX2_kindOfWord_32 : decode cX2_kindOfWord 32 = .ok (.ireturn, 1) := by decide +kernel
theorem dX2_kindOfWord_33 : decode cX2_kindOfWord 33 = .ok (.aload_n 0, 1) := by decide +kernel
theorem dX2_kindOfWord_34 : decode cX2_kindOfWord 34 = .ok (.ldc 153, 2) := by decide +kernel
theorem dX2_kindOfWord_36 : decode cX2_kindOfWord 36 = .ok (.invokevirtual 56, 3) := by decide +kernel
theorem dX2_kindOfWord_39 : decode cX2_kindOfWord 39 = .ok (.ifCond .eq 5, 3) := by decide +kernel
theorem dX2_kindOfWord_42 : decode cX2_kindOfWord 42 = .ok (.iconst 3, 1) := by decide +kernel
theorem dX2_kindOfWord_43 : decode cX2_kindOfWord 43 = .ok (.ireturn, 1) := by decide +kernel
theorem dX2_kindOfWord_44 : decode cX2_kindOfWord 44 = .ok (.aload_n 0, 1) := by decide +kernel
theorem dX2_kindOfWord_45 : decode cX2_kindOfWord 45 = .ok (.ldc 155, 2) := by decide +kernel
theorem dX2_kindOfWord_47 : decode cX2_kindOfWord 47 = .ok (.invokevirtual 56, 3) := by decide +kernel
theorem dX2_kindOfWord_50 : decode cX2_kindOfWord 50 = .ok (.ifCond .eq 7, 3) := by decide +kernel
theorem dX2_kindOfWord_53 : decode cX2_kindOfWord 53 = .ok (.iconst 4, 1) := by decide +kernel
theorem dX2_kindOfWord_54 : decode cX2_kindOfWord 54 = .ok (.goto 4, 3) := by decide +kernel
theorem dX2_kindOfWord_57 : decode cX2_kindOfWord 57 = .ok (.iconst (-1), 1) := by decide +kernel
theorem dX2_kindOfWord_58 : decode cX2_kindOfWord 58 = .ok (.ireturn, 1) := by decide +kernel
theorem dX3_init_0 : decode cX3_init 0 = .ok (.aload_n 0, 1) := by decide +kernel
theorem dX3_init_1 : decode cX3_init 1 = .ok (.invokespecial 3, 3) := by decide +kernel
theorem dX3_init_4 : decode cX3_init 4 = .ok (.aload_n 0, 1) := by decide +kernel
theorem dX3_init_5 : decode cX3_init 5 = .ok (.iconst 3, 1) := by decide +kernel
theorem dX3_init_6 : decode cX3_init 6 = .ok (.newarray .int, 2) := by decide +kernel
theorem dX3_init_8 : decode cX3_init 8 = .ok (.putfield 9, 3) := by decide +kernel
theorem dX3_init_11 : decode cX3_init 11 = .ok (.aload_n 0, 1) := by decide +kernel
theorem dX3_init_12 : decode cX3_init 12 = .ok (.bipush 27, 2) := by decide +kernel
theorem dX3_init_14 : decode cX3_init 14 = .ok (.newarray .int, 2) := by decide +kernel
theorem dX3_init_16 : decode cX3_init 16 = .ok (.putfield 15, 3) := by decide +kernel
theorem dX3_init_19 : decode cX3_init 19 = .ok (.return_, 1) := by decide +kernel
theorem dX3_find_0 : decode cX3_find 0 = .ok (.aload_n 0, 1) := by decide +kernel
theorem dX3_find_1 : decode cX3_find 1 = .ok (.bipush 10, 2) := by decide +kernel
theorem dX3_find_3 : decode cX3_find 3 = .ok (.putfield 18, 3) := by decide +kernel
theorem dX3_find_6 : decode cX3_find 6 = .ok (.iconst 0, 1) := by decide +kernel
theorem dX3_find_7 : decode cX3_find 7 = .ok (.istore 5, 2) := by decide +kernel
theorem dX3_find_9 : decode cX3_find 9 = .ok (.iload 5, 2) := by decide +kernel
theorem dX3_find_11 : decode cX3_find 11 = .ok (.iload_n 2, 1) := by decide +kernel
theorem dX3_find_12 : decode cX3_find 12 = .ok (.if_icmp .ge 88, 3) := by decide +kernel
theorem dX3_find_15 : decode cX3_find 15 = .ok (.iload 4, 2) := by decide +kernel
theorem dX3_find_17 : decode cX3_find 17 = .ok (.iconst 1, 1) := by decide +kernel
theorem dX3_find_18 : decode cX3_find 18 = .ok (.if_icmp .le 9, 3) := by decide +kernel
theorem dX3_find_21 : decode cX3_find 21 = .ok (.iload_n 2, 1) := by decide +kernel
theorem dX3_find_22 : decode cX3_find 22 = .ok (.iconst 1, 1) := by decide +kernel
theorem dX3_find_23 : decode cX3_find 23 = .ok (.isub, 1) := by decide +kernel
theorem dX3_find_24 : decode cX3_find 24 = .ok (.goto 5, 3) := by decide +kernel
theorem dX3_find_27 : decode cX3_find 27 = .ok (.iload 5, 2) := by decide +kernel
theorem dX3_find_29 : decode cX3_find 29 = .ok (.istore 6, 2) := by decide +kernel
theorem dX3_find_31 : decode cX3_find 31 = .ok (.iload 5, 2) := by decide +kernel
theorem dX3_find_33 : decode cX3_find 33 = .ok (.istore 7, 2) := by decide +kernel
theorem dX3_find_35 : decode cX3_find 35 = .ok (.iload 7, 2) := by decide +kernel
theorem dX3_find_37 : decode cX3_find 37 = .ok (.iload 6, 2) := by decide +kernel
theorem dX3_find_39 : decode cX3_find 39 = .ok (.if_icmp .gt 55, 3) := by decide +kernel
theorem dX3_find_42 : decode cX3_find 42 = .ok (.iload 4, 2) := by decide +kernel
theorem dX3_find_44 : decode cX3_find 44 = .ok (.iconst 2, 1) := by decide +kernel
theorem dX3_find_45 : decode cX3_find 45 = .ok (.if_icmp .le 9, 3) := by decide +kernel
theorem dX3_find_48 : decode cX3_find 48 = .ok (.iload_n 2, 1) := by decide +kernel
theorem dX3_find_49 : decode cX3_find 49 = .ok (.iconst 1, 1) := by decide +kernel
theorem dX3_find_50 : decode cX3_find 50 = .ok (.isub, 1) := by decide +kernel
theorem dX3_find_51 : decode cX3_find 51 = .ok (.goto 5, 3) := by decide +kernel
theorem dX3_find_54 : decode cX3_find 54 = .ok (.iload 7, 2) := by decide +kernel
theorem dX3_find_56 : decode cX3_find 56 = .ok (.istore 8, 2) := by decide +kernel
theorem dX3_find_58 : decode cX3_find 58 = .ok (.iload 7, 2) := by decide +kernel
theorem dX3_find_60 : decode cX3_find 60 = .ok (.istore 9, 2) := by decide +kernel
theorem dX3_find_62 : decode cX3_find 62 = .ok (.iload 9, 2) := by decide +kernel
theorem dX3_find_64 : decode cX3_find 64 = .ok (.iload 8, 2) := by decide +kernel
theorem dX3_find_66 : decode cX3_find 66 = .ok (.if_icmp .gt 22, 3) := by decide +kernel
theorem dX3_find_69 : decode cX3_find 69 = .ok (.aload_n 0, 1) := by decide +kernel
theorem dX3_find_70 : decode cX3_find 70 = .ok (.aload_n 1, 1) := by decide +kernel
theorem dX3_find_71 : decode cX3_find 71 = .ok (.iload_n 2, 1) := by decide +kernel
theorem dX3_find_72 : decode cX3_find 72 = .ok (.iload_n 3, 1) := by decide +kernel
theorem dX3_find_73 : decode cX3_find 73 = .ok (.iload 5, 2) := by decide +kernel
theorem dX3_find_75 : decode cX3_find 75 = .ok (.iload 7, 2) := by decide +kernel
theorem dX3_find_77 : decode cX3_find 77 = .ok (.iload 9, 2) := by decide +kernel
theorem dX3_find_79 : decode cX3_find 79 = .ok (.invokevirtual 22, 3) := by decide +kernel
theorem dX3_find_82 : decode cX3_find 82 = .ok (.iinc 9 1, 3) := by decide +kernel
theorem dX3_find_85 : decode cX3_find 85 = .ok (.goto (-23), 3) := by decide +kernel
theorem dX3_find_88 : decode cX3_find 88 = .ok (.iinc 7 1, 3) := by decide +kernel
theorem dX3_find_91 : decode cX3_find 91 = .ok (.goto (-56), 3) := by decide +kernel
theorem dX3_find_94 : decode cX3_find 94 = .ok (.iinc 5 1, 3) := by decide +kernel
theorem dX3_find_97 : decode cX3_find 97 = .ok (.goto (-88), 3) := by decide +kernel
theorem dX3_find_100 : decode cX3_find 100 = .ok (.return_, 1) := by decide +kernel
theorem dX3_weigh_0 : decode cX3_weigh 0 = .ok (.aload_n 0, 1) := by decide +kernel
theorem dX3_weigh_1 : decode cX3_weigh 1 = .ok (.getfield 15, 3) := by decide +kernel
theorem dX3_weigh_4 : decode cX3_weigh 4 = .ok (.iconst 0, 1) := by decide +kernel
theorem dX3_weigh_5 : decode cX3_weigh 5 = .ok (.invokestatic 26, 3) := by decide +kernel
theorem dX3_weigh_8 : decode cX3_weigh 8 = .ok (.iconst 0, 1) := by decide +kernel
theorem dX3_weigh_9 : decode cX3_weigh 9 = .ok (.istore 7, 2) := by decide +kernel
theorem dX3_weigh_11 : decode cX3_weigh 11 = .ok (.iconst 0, 1) := by decide +kernel
theorem dX3_weigh_12 : decode cX3_weigh 12 = .ok (.istore 8, 2) := by decide +kernel
theorem dX3_weigh_14 : decode cX3_weigh 14 = .ok (.iload 8, 2) := by decide +kernel
theorem dX3_weigh_16 : decode cX3_weigh 16 = .ok (.iload_n 2, 1) := by decide +kernel
theorem dX3_weigh_17 : decode cX3_weigh 17 = .ok (.if_icmp .ge 85, 3) := by decide +kernel
theorem dX3_weigh_20 : decode cX3_weigh 20 = .ok (.iload_n 3, 1) := by decide +kernel
theorem dX3_weigh_21 : decode cX3_weigh 21 = .ok (.iload 8, 2) := by decide +kernel
theorem dX3_weigh_23 : decode cX3_weigh 23 = .ok (.invokestatic 32, 3) := by decide +kernel
theorem dX3_weigh_26 : decode cX3_weigh 26 = .ok (.ifCond .eq 70, 3) := by decide +kernel
theorem dX3_weigh_29 : decode cX3_weigh 29 = .ok (.aload_n 1, 1) := by decide +kernel
theorem dX3_weigh_30 : decode cX3_weigh 30 = .ok (.iload 4, 2) := by decide +kernel
theorem dX3_weigh_32 : decode cX3_weigh 32 = .ok (.iaload, 1) := by decide +kernel
theorem dX3_weigh_33 : decode cX3_weigh 33 = .ok (.iload 4, 2) := by decide +kernel
theorem dX3_weigh_35 : decode cX3_weigh 35 = .ok (.iload 8, 2) := by decide +kernel
theorem dX3_weigh_37 : decode cX3_weigh 37 = .ok (.invokestatic 36, 3) := by decide +kernel
theorem dX3_weigh_40 : decode cX3_weigh 40 = .ok (.bipush 9, 2) := by decide +kernel
theorem dX3_weigh_42 : decode cX3_weigh 42 = .ok (.imul, 1) := by decide +kernel
theorem dX3_weigh_43 : decode cX3_weigh 43 = .ok (.aload_n 1, 1) := by decide +kernel
theorem dX3_weigh_44 : decode cX3_weigh 44 = .ok (.iload 5, 2) := by decide +kernel
theorem dX3_weigh_46 : decode cX3_weigh 46 = .ok (.iaload, 1) := by decide +kernel
theorem dX3_weigh_47 : decode cX3_weigh 47 = .ok (.iload 5, 2) := by decide +kernel
theorem dX3_weigh_49 : decode cX3_weigh 49 = .ok (.iload 8, 2) := by decide +kernel
theorem dX3_weigh_51 : decode cX3_weigh 51 = .ok (.invokestatic 36, 3) := by decide +kernel
theorem dX3_weigh_54 : decode cX3_weigh 54 = .ok (.iconst 3, 1) := by decide +kernel
theorem dX3_weigh_55 : decode cX3_weigh 55 = .ok (.imul, 1) := by decide +kernel
theorem dX3_weigh_56 : decode cX3_weigh 56 = .ok (.iadd, 1) := by decide +kernel
theorem dX3_weigh_57 : decode cX3_weigh 57 = .ok (.aload_n 1, 1) := by decide +kernel
theorem dX3_weigh_58 : decode cX3_weigh 58 = .ok (.iload 6, 2) := by decide +kernel
theorem dX3_weigh_60 : decode cX3_weigh 60 = .ok (.iaload, 1) := by decide +kernel
theorem dX3_weigh_61 : decode cX3_weigh 61 = .ok (.iload 6, 2) := by decide +kernel
theorem dX3_weigh_63 : decode cX3_weigh 63 = .ok (.iload 8, 2) := by decide +kernel
theorem dX3_weigh_65 : decode cX3_weigh 65 = .ok (.invokestatic 36, 3) := by decide +kernel
theorem dX3_weigh_68 : decode cX3_weigh 68 = .ok (.iadd, 1) := by decide +kernel
theorem dX3_weigh_69 : decode cX3_weigh 69 = .ok (.istore 9, 2) := by decide +kernel
theorem dX3_weigh_71 : decode cX3_weigh 71 = .ok (.aload_n 0, 1) := by decide +kernel
theorem dX3_weigh_72 : decode cX3_weigh 72 = .ok (.getfield 15, 3) := by decide +kernel
theorem dX3_weigh_75 : decode cX3_weigh 75 = .ok (.iload 9, 2) := by decide +kernel
theorem dX3_weigh_77 : decode cX3_weigh 77 = .ok (.dup2, 1) := by decide +kernel
theorem dX3_weigh_78 : decode cX3_weigh 78 = .ok (.iaload, 1) := by decide +kernel
theorem dX3_weigh_79 : decode cX3_weigh 79 = .ok (.iconst 1, 1) := by decide +kernel
theorem dX3_weigh_80 : decode cX3_weigh 80 = .ok (.iadd, 1) := by decide +kernel
theorem dX3_weigh_81 : decode cX3_weigh 81 = .ok (.iastore, 1) := by decide +kernel
theorem dX3_weigh_82 : decode cX3_weigh 82 = .ok (.iload 7, 2) := by decide +kernel
theorem dX3_weigh_84 : decode cX3_weigh 84 = .ok (.aload_n 0, 1) := by decide +kernel
theorem dX3_weigh_85 : decode cX3_weigh 85 = .ok (.getfield 15, 3) := by decide +kernel
theorem dX3_weigh_88 : decode cX3_weigh 88 = .ok (.iload 9, 2) := by decide +kernel
theorem dX3_weigh_90 : decode cX3_weigh 90 = .ok (.iaload, 1) := by decide +kernel
theorem dX3_weigh_91 : decode cX3_weigh 91 = .ok (.invokestatic 40, 3) := by decide +kernel
theorem dX3_weigh_94 : decode cX3_weigh 94 = .ok (.istore 7, 2) := by decide +kernel
theorem dX3_weigh_96 : decode cX3_weigh 96 = .ok (.iinc 8 1, 3) := by decide +kernel
theorem dX3_weigh_99 : decode cX3_weigh 99 = .ok (.goto (-85), 3) := by decide +kernel
theorem dX3_weigh_102 : decode cX3_weigh 102 = .ok (.iload 7, 2) := by decide +kernel
theorem dX3_weigh_104 : decode cX3_weigh 104 = .ok (.aload_n 0, 1) := by decide +kernel
theorem dX3_weigh_105 : decode cX3_weigh 105 = .ok (.getfield 18, 3) := by decide +kernel
theorem dX3_weigh_108 : decode cX3_weigh 108 = .ok (.if_icmp .ge 33, 3) := by decide +kernel
theorem dX3_weigh_111 : decode cX3_weigh 111 = .ok (.aload_n 0, 1) := by decide +kernel
theorem dX3_weigh_112 : decode cX3_weigh 112 = .ok (.iload 7, 2) := by decide +kernel
theorem dX3_weigh_114 : decode cX3_weigh 114 = .ok (.putfield 18, 3) := by decide +kernel
theorem dX3_weigh_117 : decode cX3_weigh 117 = .ok (.aload_n 0, 1) := by decide +kernel
theorem dX3_weigh_118 : decode cX3_weigh 118 = .ok (.getfield 9, 3) := by decide +kernel
theorem dX3_weigh_121 : decode cX3_weigh 121 = .ok (.iconst 0, 1) := by decide +kernel
theorem dX3_weigh_122 : decode cX3_weigh 122 = .ok (.iload 4, 2) := by decide +kernel
theorem dX3_weigh_124 : decode cX3_weigh 124 = .ok (.iastore, 1) := by decide +kernel
theorem dX3_weigh_125 : decode cX3_weigh 125 = .ok (.aload_n 0, 1) := by decide +kernel
theorem dX3_weigh_126 : decode cX3_weigh 126 = .ok (.getfield 9, 3) := by decide +kernel
theorem dX3_weigh_129 : decode cX3_weigh 129 = .ok (.iconst 1, 1) := by decide +kernel
theorem dX3_weigh_130 : decode cX3_weigh 130 = .ok (.iload 5, 2) := by decide +kernel
theorem dX3_weigh_132 : decode cX3_weigh 132 = .ok (.iastore, 1) := by decide +kernel
theorem dX3_weigh_133 : decode cX3_weigh 133 = .ok (.aload_n 0, 1) := by decide +kernel
theorem dX3_weigh_134 : decode cX3_weigh 134 = .ok (.getfield 9, 3) := by decide +kernel
theorem dX3_weigh_137 : decode cX3_weigh 137 = .ok (.iconst 2, 1) := by decide +kernel
theorem dX3_weigh_138 : decode cX3_weigh 138 = .ok (.iload 6, 2) := by decide +kernel
theorem dX3_weigh_140 : decode cX3_weigh 140 = .ok (.iastore, 1) := by decide +kernel
theorem dX3_weigh_141 : decode cX3_weigh 141 = .ok (.return_, 1) := by decide +kernel
theorem dX4_init_0 : decode cX4_init 0 = .ok (.aload_n 0, 1) := by decide +kernel
theorem dX4_init_1 : decode cX4_init 1 = .ok (.invokespecial 3, 3) := by decide +kernel
theorem dX4_init_4 : decode cX4_init 4 = .ok (.aload_n 0, 1) := by decide +kernel
theorem dX4_init_5 : decode cX4_init 5 = .ok (.bipush 9, 2) := by decide +kernel
theorem dX4_init_7 : decode cX4_init 7 = .ok (.newarray .int, 2) := by decide +kernel
theorem dX4_init_9 : decode cX4_init 9 = .ok (.putfield 9, 3) := by decide +kernel
theorem dX4_init_12 : decode cX4_init 12 = .ok (.aload_n 0, 1) := by decide +kernel
theorem dX4_init_13 : decode cX4_init 13 = .ok (.bipush 9, 2) := by decide +kernel
theorem dX4_init_15 : decode cX4_init 15 = .ok (.newarray .int, 2) := by decide +kernel
theorem dX4_init_17 : decode cX4_init 17 = .ok (.putfield 15, 3) := by decide +kernel
theorem dX4_init_20 : decode cX4_init 20 = .ok (.aload_n 0, 1) := by decide +kernel
theorem dX4_init_21 : decode cX4_init 21 = .ok (.sipush 512, 3) := by decide +kernel
theorem dX4_init_24 : decode cX4_init 24 = .ok (.newarray .int, 2) := by decide +kernel
theorem dX4_init_26 : decode cX4_init 26 = .ok (.putfield 18, 3) := by decide +kernel
theorem dX4_init_29 : decode cX4_init 29 = .ok (.aload_n 0, 1) := by decide +kernel
theorem dX4_init_30 : decode cX4_init 30 = .ok (.iload_n 1, 1) := by decide +kernel
theorem dX4_init_31 : decode cX4_init 31 = .ok (.putfield 21, 3) := by decide +kernel
theorem dX4_init_34 : decode cX4_init 34 = .ok (.return_, 1) := by decide +kernel
theorem dX4_leastCost_0 : decode cX4_leastCost 0 = .ok (.iload_n 3, 1) := by decide +kernel
theorem dX4_leastCost_1 : decode cX4_leastCost 1 = .ok (.iconst 0, 1) := by decide +kernel
theorem dX4_leastCost_2 : decode cX4_leastCost 2 = .ok (.bipush 9, 2) := by decide +kernel
theorem dX4_leastCost_4 : decode cX4_leastCost 4 = .ok (.invokestatic 25, 3) := by decide +kernel
theorem dX4_leastCost_7 : decode cX4_leastCost 7 = .ok (.ifCond .eq 17, 3) := by decide +kernel
theorem dX4_leastCost_10 : decode cX4_leastCost 10 = .ok (.iload 4, 2) := by decide +kernel
theorem dX4_leastCost_12 : decode cX4_leastCost 12 = .ok (.iconst 0, 1) := by decide +kernel
theorem dX4_leastCost_13 : decode cX4_leastCost 13 = .ok (.iconst 1, 1) := by decide +kernel
theorem dX4_leastCost_14 : decode cX4_leastCost 14 = .ok (.iload_n 3, 1) := by decide +kernel
theorem dX4_leastCost_15 : decode cX4_leastCost 15 = .ok (.ishl, 1) := by decide +kernel
theorem dX4_leastCost_16 : decode cX4_leastCost 16 = .ok (.iconst 1, 1) := by decide +kernel
theorem dX4_leastCost_17 : decode cX4_leastCost 17 = .ok (.isub, 1) := by decide +kernel
theorem dX4_leastCost_18 : decode cX4_leastCost 18 = .ok (.invokestatic 25, 3) := by decide +kernel
theorem dX4_leastCost_21 : decode cX4_leastCost 21 = .ok (.ifCond .ne 5, 3) := by decide +kernel
theorem dX4_leastCost_24 : decode cX4_leastCost 24 = .ok (.iconst 0, 1) := by decide +kernel
theorem dX4_leastCost_25 : decode cX4_leastCost 25 = .ok (.ireturn, 1) := by decide +kernel
theorem dX4_leastCost_26 : decode cX4_leastCost 26 = .ok (.aload_n 0, 1) := by decide +kernel
theorem dX4_leastCost_27 : decode cX4_leastCost 27 = .ok (.aload_n 1, 1) := by decide +kernel
theorem dX4_leastCost_28 : decode cX4_leastCost 28 = .ok (.aload_n 2, 1) := by decide +kernel
theorem dX4_leastCost_29 : decode cX4_leastCost 29 = .ok (.iload_n 3, 1) := by decide +kernel
theorem dX4_leastCost_30 : decode cX4_leastCost 30 = .ok (.iload 4, 2) := by decide +kernel
theorem dX4_leastCost_32 : decode cX4_leastCost 32 = .ok (.invokevirtual 29, 3) := by decide +kernel
theorem dX4_leastCost_35 : decode cX4_leastCost 35 = .ok (.ifCond .ne 40, 3) := by decide +kernel
theorem dX4_leastCost_38 : decode cX4_leastCost 38 = .ok (.aload_n 1, 1) := by decide +kernel
theorem dX4_leastCost_39 : decode cX4_leastCost 39 = .ok (.iconst 0, 1) := by decide +kernel
theorem dX4_leastCost_40 : decode cX4_leastCost 40 = .ok (.aload_n 0, 1) := by decide +kernel
theorem dX4_leastCost_41 : decode cX4_leastCost 41 = .ok (.getfield 9, 3) := by decide +kernel
theorem dX4_leastCost_44 : decode cX4_leastCost 44 = .ok (.iconst 0, 1) := by decide +kernel
theorem dX4_leastCost_45 : decode cX4_leastCost 45 = .ok (.iload_n 3, 1) := by decide +kernel
theorem dX4_leastCost_46 : decode cX4_leastCost 46 = .ok (.invokestatic 33, 3) := by decide +kernel
theorem dX4_leastCost_49 : decode cX4_leastCost 49 = .ok (.aload_n 2, 1) := by decide +kernel
theorem dX4_leastCost_50 : decode cX4_leastCost 50 = .ok (.iconst 0, 1) := by decide +kernel
theorem dX4_leastCost_51 : decode cX4_leastCost 51 = .ok (.aload_n 0, 1) := by decide +kernel
theorem dX4_leastCost_52 : decode cX4_leastCost 52 = .ok (.getfield 15, 3) := by decide +kernel
theorem dX4_leastCost_55 : decode cX4_leastCost 55 = .ok (.iconst 0, 1) := by decide +kernel
theorem dX4_leastCost_56 : decode cX4_leastCost 56 = .ok (.iload_n 3, 1) := by decide +kernel
theorem dX4_leastCost_57 : decode cX4_leastCost 57 = .ok (.invokestatic 33, 3) := by decide +kernel
theorem dX4_leastCost_60 : decode cX4_leastCost 60 = .ok (.aload_n 0, 1) := by decide +kernel
theorem dX4_leastCost_61 : decode cX4_leastCost 61 = .ok (.iload_n 3, 1) := by decide +kernel
theorem dX4_leastCost_62 : decode cX4_leastCost 62 = .ok (.putfield 39, 3) := by decide +kernel
theorem dX4_leastCost_65 : decode cX4_leastCost 65 = .ok (.aload_n 0, 1) := by decide +kernel
theorem dX4_leastCost_66 : decode cX4_leastCost 66 = .ok (.iload 4, 2) := by decide +kernel
theorem dX4_leastCost_68 : decode cX4_leastCost 68 = .ok (.putfield 43, 3) := by decide +kernel
theorem dX4_leastCost_71 : decode cX4_leastCost 71 = .ok (.aload_n 0, 1) := by decide +kernel
theorem dX4_leastCost_72 : decode cX4_leastCost 72 = .ok (.invokevirtual 46, 3) := by decide +kernel
theorem dX4_leastCost_75 : decode cX4_leastCost 75 = .ok (.aload_n 0, 1) := by decide +kernel
theorem dX4_leastCost_76 : decode cX4_leastCost 76 = .ok (.getfield 18, 3) := by decide +kernel
theorem dX4_leastCost_79 : decode cX4_leastCost 79 = .ok (.iload 4, 2) := by decide +kernel
theorem dX4_leastCost_81 : decode cX4_leastCost 81 = .ok (.iaload, 1) := by decide +kernel
theorem dX4_leastCost_82 : decode cX4_leastCost 82 = .ok (.ireturn, 1) := by decide +kernel
theorem dX4_isAsBefore_0 : decode cX4_isAsBefore 0 = .ok (.iload_n 3, 1) := by decide +kernel
theorem dX4_isAsBefore_1 : decode cX4_isAsBefore 1 = .ok (.aload_n 0, 1) := by decide +kernel
theorem dX4_isAsBefore_2 : decode cX4_isAsBefore 2 = .ok (.getfield 39, 3) := by decide +kernel
theorem dX4_isAsBefore_5 : decode cX4_isAsBefore 5 = .ok (.if_icmp .ne 12, 3) := by decide +kernel
theorem dX4_isAsBefore_8 : decode cX4_isAsBefore 8 = .ok (.iload 4, 2) := by decide +kernel
theorem dX4_isAsBefore_10 : decode cX4_isAsBefore 10 = .ok (.aload_n 0, 1) := by decide +kernel
theorem dX4_isAsBefore_11 : decode cX4_isAsBefore 11 = .ok (.getfield 43, 3) := by decide +kernel
theorem dX4_isAsBefore_14 : decode cX4_isAsBefore 14 = .ok (.if_icmp .eq 5, 3) := by decide +kernel
theorem dX4_isAsBefore_17 : decode cX4_isAsBefore 17 = .ok (.iconst 0, 1) := by decide +kernel
theorem dX4_isAsBefore_18 : decode cX4_isAsBefore 18 = .ok (.ireturn, 1) := by decide +kernel
theorem dX4_isAsBefore_19 : decode cX4_isAsBefore 19 = .ok (.iconst 0, 1) := by decide +kernel
theorem dX4_isAsBefore_20 : decode cX4_isAsBefore 20 = .ok (.istore 5, 2) := by decide +kernel
theorem dX4_isAsBefore_22 : decode cX4_isAsBefore 22 = .ok (.iload 5, 2) := by decide +kernel
theorem dX4_isAsBefore_24 : decode cX4_isAsBefore 24 = .ok (.iload_n 3, 1) := by decide +kernel
theorem dX4_isAsBefore_25 : decode cX4_isAsBefore 25 = .ok (.if_icmp .ge 39, 3) := by decide +kernel
theorem dX4_isAsBefore_28 : decode cX4_isAsBefore 28 = .ok (.aload_n 1, 1) := by decide +kernel
theorem dX4_isAsBefore_29 : decode cX4_isAsBefore 29 = .ok (.iload 5, 2) := by decide +kernel
theorem dX4_isAsBefore_31 : decode cX4_isAsBefore 31 = .ok (.iaload, 1) := by decide +kernel
theorem dX4_isAsBefore_32 : decode cX4_isAsBefore 32 = .ok (.aload_n 0, 1) := by decide +kernel
theorem dX4_isAsBefore_33 : decode cX4_isAsBefore 33 = .ok (.getfield 9, 3) := by decide +kernel
theorem dX4_isAsBefore_36 : decode cX4_isAsBefore 36 = .ok (.iload 5, 2) := by decide +kernel
theorem dX4_isAsBefore_38 : decode cX4_isAsBefore 38 = .ok (.iaload, 1) := by decide +kernel
theorem dX4_isAsBefore_39 : decode cX4_isAsBefore 39 = .ok (.if_icmp .ne 17, 3) := by decide +kernel
theorem dX4_isAsBefore_42 : decode cX4_isAsBefore 42 = .ok (.aload_n 2, 1) := by decide +kernel
theorem dX4_isAsBefore_43 : decode cX4_isAsBefore 43 = .ok (.iload 5, 2) := by decide +kernel
theorem dX4_isAsBefore_45 : decode cX4_isAsBefore 45 = .ok (.iaload, 1) := by decide +kernel
theorem dX4_isAsBefore_46 : decode cX4_isAsBefore 46 = .ok (.aload_n 0, 1) := by decide +kernel
theorem dX4_isAsBefore_47 : decode cX4_isAsBefore 47 = .ok (.getfield 15, 3) := by decide +kernel
theorem dX4_isAsBefore_50 : decode cX4_isAsBefore 50 = .ok (.iload 5, 2) := by decide +kernel
theorem dX4_isAsBefore_52 : decode cX4_isAsBefore 52 = .ok (.iaload, 1) := by decide +kernel
theorem dX4_isAsBefore_53 : decode cX4_isAsBefore 53 = .ok (.if_icmp .eq 5, 3) := by decide +kernel
theorem dX4_isAsBefore_56 : decode cX4_isAsBefore 56 = .ok (.iconst 0, 1) := by decide +kernel
theorem dX4_isAsBefore_57 : decode cX4_isAsBefore 57 = .ok (.ireturn, 1) := by decide +kernel
theorem dX4_isAsBefore_58 : decode cX4_isAsBefore 58 = .ok (.iinc 5 1, 3) := by decide +kernel
theorem dX4_isAsBefore_61 : decode cX4_isAsBefore 61 = .ok (.goto (-39), 3) := by decide +kernel
theorem dX4_isAsBefore_64 : decode cX4_isAsBefore 64 = .ok (.iconst 1, 1) := by decide +kernel
theorem dX4_isAsBefore_65 : decode cX4_isAsBefore 65 = .ok (.ireturn, 1) := by decide +kernel
theorem dX4_settleAll_0 : decode cX4_settleAll 0 = .ok (.iconst 1, 1) := by decide +kernel
theorem dX4_settleAll_1 : decode cX4_settleAll 1 = .ok (.aload_n 0, 1) := by decide +kernel
theorem dX4_settleAll_2 : decode cX4_settleAll 2 = .ok (.getfield 43, 3) := by decide +kernel
theorem dX4_settleAll_5 : decode cX4_settleAll 5 = .ok (.invokestatic 49, 3) := by decide +kernel
theorem dX4_settleAll_8 : decode cX4_settleAll 8 = .ok (.ishl, 1) := by decide +kernel
theorem dX4_settleAll_9 : decode cX4_settleAll 9 = .ok (.istore_n 1, 1) := by decide +kernel
theorem dX4_settleAll_10 : decode cX4_settleAll 10 = .ok (.iconst 0, 1) := by decide +kernel
theorem dX4_settleAll_11 : decode cX4_settleAll 11 = .ok (.istore_n 2, 1) := by decide +kernel
theorem dX4_settleAll_12 : decode cX4_settleAll 12 = .ok (.iconst 1, 1) := by decide +kernel
theorem dX4_settleAll_13 : decode cX4_settleAll 13 = .ok (.istore_n 3, 1) := by decide +kernel
theorem dX4_settleAll_14 : decode cX4_settleAll 14 = .ok (.iload_n 3, 1) := by decide +kernel
theorem dX4_settleAll_15 : decode cX4_settleAll 15 = .ok (.iload_n 1, 1) := by decide +kernel
theorem dX4_settleAll_16 : decode cX4_settleAll 16 = .ok (.if_icmp .ge 26, 3) := by decide +kernel
theorem dX4_settleAll_19 : decode cX4_settleAll 19 = .ok (.iload_n 2, 1) := by decide +kernel
theorem dX4_settleAll_20 : decode cX4_settleAll 20 = .ok (.aload_n 0, 1) := by decide +kernel
theorem dX4_settleAll_21 : decode cX4_settleAll 21 = .ok (.getfield 43, 3) := by decide +kernel
theorem dX4_settleAll_24 : decode cX4_settleAll 24 = .ok (.isub, 1) := by decide +kernel
theorem dX4_settleAll_25 : decode cX4_settleAll 25 = .ok (.aload_n 0, 1) := by decide +kernel
theorem dX4_settleAll_26 : decode cX4_settleAll 26 = .ok (.getfield 43, 3) := by decide +kernel
theorem dX4_settleAll_29 : decode cX4_settleAll 29 = .ok (.iand, 1) := by decide +kernel
theorem dX4_settleAll_30 : decode cX4_settleAll 30 = .ok (.istore_n 2, 1) := by decide +kernel
theorem dX4_settleAll_31 : decode cX4_settleAll 31 = .ok (.aload_n 0, 1) := by decide +kernel
theorem dX4_settleAll_32 : decode cX4_settleAll 32 = .ok (.iload_n 2, 1) := by decide +kernel
theorem dX4_settleAll_33 : decode cX4_settleAll 33 = .ok (.invokevirtual 55, 3) := by decide +kernel
theorem dX4_settleAll_36 : decode cX4_settleAll 36 = .ok (.iinc 3 1, 3) := by decide +kernel
theorem dX4_settleAll_39 : decode cX4_settleAll 39 = .ok (.goto (-25), 3) := by decide +kernel
theorem dX4_settleAll_42 : decode cX4_settleAll 42 = .ok (.return_, 1) := by decide +kernel
theorem dX4_settle_0 : decode cX4_settle 0 = .ok (.ldc 59, 2) := by decide +kernel
theorem dX4_settle_2 : decode cX4_settle 2 = .ok (.istore_n 2, 1) := by decide +kernel
theorem dX4_settle_3 : decode cX4_settle 3 = .ok (.iconst 0, 1) := by decide +kernel
theorem dX4_settle_4 : decode cX4_settle 4 = .ok (.istore_n 3, 1) := by decide +kernel
theorem dX4_settle_5 : decode cX4_settle 5 = .ok (.iload_n 3, 1) := by decide +kernel
theorem dX4_settle_6 : decode cX4_settle 6 = .ok (.aload_n 0, 1) := by decide +kernel
theorem dX4_settle_7 : decode cX4_settle 7 = .ok (.getfield 39, 3) := by decide +kernel
theorem dX4_settle_10 : decode cX4_settle 10 = .ok (.if_icmp .ge 112, 3) := by decide +kernel
theorem dX4_settle_13 : decode cX4_settle 13 = .ok (.iload_n 1, 1) := by decide +kernel
theorem dX4_settle_14 : decode cX4_settle 14 = .ok (.iconst 1, 1) := by decide +kernel
theorem dX4_settle_15 : decode cX4_settle 15 = .ok (.iload_n 3, 1) := by decide +kernel
theorem dX4_settle_16 : decode cX4_settle 16 = .ok (.ishl, 1) := by decide +kernel
theorem dX4_settle_17 : decode cX4_settle 17 = .ok (.iconst (-1), 1) := by decide +kernel
theorem dX4_settle_18 : decode cX4_settle 18 = .ok (.ixor, 1) := by decide +kernel
theorem dX4_settle_19 : decode cX4_settle 19 = .ok (.iand, 1) := by decide +kernel
theorem dX4_settle_20 : decode cX4_settle 20 = .ok (.istore 4, 2) := by decide +kernel
theorem dX4_settle_22 : decode cX4_settle 22 = .ok (.iload 4, 2) := by decide +kernel
theorem dX4_settle_24 : decode cX4_settle 24 = .ok (.aload_n 0, 1) := by decide +kernel
theorem dX4_settle_25 : decode cX4_settle 25 = .ok (.getfield 9, 3) := by decide +kernel
theorem dX4_settle_28 : decode cX4_settle 28 = .ok (.iload_n 3, 1) := by decide +kernel
theorem dX4_settle_29 : decode cX4_settle 29 = .ok (.iaload, 1) := by decide +kernel
theorem dX4_settle_30 : decode cX4_settle 30 = .ok (.iand, 1) := by decide +kernel
theorem dX4_settle_31 : decode cX4_settle 31 = .ok (.istore 5, 2) := by decide +kernel
theorem dX4_settle_33 : decode cX4_settle 33 = .ok (.iload 4, 2) := by decide +kernel
theorem dX4_settle_35 : decode cX4_settle 35 = .ok (.aload_n 0, 1) := by decide +kernel
theorem dX4_settle_36 : decode cX4_settle 36 = .ok (.getfield 9, 3) := by decide +kernel
theorem dX4_settle_39 : decode cX4_settle 39 = .ok (.iload_n 3, 1) := by decide +kernel
theorem dX4_settle_40 : decode cX4_settle 40 = .ok (.iaload, 1) := by decide +kernel
theorem dX4_settle_41 : decode cX4_settle 41 = .ok (.iconst (-1), 1) := by decide +kernel
theorem dX4_settle_42 : decode cX4_settle 42 = .ok (.ixor, 1) := by decide +kernel
theorem dX4_settle_43 : decode cX4_settle 43 = .ok (.iand, 1) := by decide +kernel
theorem dX4_settle_44 : decode cX4_settle 44 = .ok (.istore 6, 2) := by decide +kernel
theorem dX4_settle_46 : decode cX4_settle 46 = .ok (.iload 5, 2) := by decide +kernel
theorem dX4_settle_48 : decode cX4_settle 48 = .ok (.iload_n 1, 1) := by decide +kernel
theorem dX4_settle_49 : decode cX4_settle 49 = .ok (.if_icmp .eq 67, 3) := by decide +kernel
theorem dX4_settle_52 : decode cX4_settle 52 = .ok (.iload 6, 2) := by decide +kernel
theorem dX4_settle_54 : decode cX4_settle 54 = .ok (.iload_n 1, 1) := by decide +kernel
theorem dX4_settle_55 : decode cX4_settle 55 = .ok (.if_icmp .eq 61, 3) := by decide +kernel
theorem dX4_settle_58 : decode cX4_settle 58 = .ok (.aload_n 0, 1) := by decide +kernel
theorem dX4_settle_59 : decode cX4_settle 59 = .ok (.getfield 21, 3) := by decide +kernel
theorem dX4_settle_62 : decode cX4_settle 62 = .ok (.ifCond .eq 21, 3) := by decide +kernel
theorem dX4_settle_65 : decode cX4_settle 65 = .ok (.aload_n 0, 1) := by decide +kernel
theorem dX4_settle_66 : decode cX4_settle 66 = .ok (.getfield 18, 3) := by decide +kernel
theorem dX4_settle_69 : decode cX4_settle 69 = .ok (.iload 5, 2) := by decide +kernel
theorem dX4_settle_71 : decode cX4_settle 71 = .ok (.iaload, 1) := by decide +kernel
theorem dX4_settle_72 : decode cX4_settle 72 = .ok (.aload_n 0, 1) := by decide +kernel
theorem dX4_settle_73 : decode cX4_settle 73 = .ok (.getfield 18, 3) := by decide +kernel
theorem dX4_settle_76 : decode cX4_settle 76 = .ok (.iload 6, 2) := by decide +kernel
theorem dX4_settle_78 : decode cX4_settle 78 = .ok (.iaload, 1) := by decide +kernel
theorem dX4_settle_79 : decode cX4_settle 79 = .ok (.iadd, 1) := by decide +kernel
theorem dX4_settle_80 : decode cX4_settle 80 = .ok (.goto 20, 3) := by decide +kernel
theorem dX4_settle_83 : decode cX4_settle 83 = .ok (.aload_n 0, 1) := by decide +kernel
theorem dX4_settle_84 : decode cX4_settle 84 = .ok (.getfield 18, 3) := by decide +kernel
theorem dX4_settle_87 : decode cX4_settle 87 = .ok (.iload 5, 2) := by decide +kernel
theorem dX4_settle_89 : decode cX4_settle 89 = .ok (.iaload, 1) := by decide +kernel
theorem dX4_settle_90 : decode cX4_settle 90 = .ok (.aload_n 0, 1) := by decide +kernel
theorem dX4_settle_91 : decode cX4_settle 91 = .ok (.getfield 18, 3) := by decide +kernel
theorem dX4_settle_94 : decode cX4_settle 94 = .ok (.iload 6, 2) := by decide +kernel
theorem dX4_settle_96 : decode cX4_settle 96 = .ok (.iaload, 1) := by decide +kernel
theorem dX4_settle_97 : decode cX4_settle 97 = .ok (.invokestatic 60, 3) := by decide +kernel
theorem dX4_settle_100 : decode cX4_settle 100 = .ok (.istore 7, 2) := by decide +kernel
theorem dX4_settle_102 : decode cX4_settle 102 = .ok (.iload 7, 2) := by decide +kernel
theorem dX4_settle_104 : decode cX4_settle 104 = .ok (.iload_n 2, 1) := by decide +kernel
theorem dX4_settle_105 : decode cX4_settle 105 = .ok (.if_icmp .ge 11, 3) := by decide +kernel
theorem dX4_settle_108 : decode cX4_settle 108 = .ok (.iload 7, 2) := by decide +kernel
theorem dX4_settle_110 : decode cX4_settle 110 = .ok (.istore_n 2, 1) := by decide +kernel
theorem dX4_settle_111 : decode cX4_settle 111 = .ok (.aload_n 0, 1) := by decide +kernel
theorem dX4_settle_112 : decode cX4_settle 112 = .ok (.iload_n 3, 1) := by decide +kernel
theorem dX4_settle_113 : decode cX4_settle 113 = .ok (.putfield 66, 3) := by decide +kernel
theorem dX4_settle_116 : decode cX4_settle 116 = .ok (.iinc 3 1, 3) := by decide +kernel
theorem dX4_settle_119 : decode cX4_settle 119 = .ok (.goto (-114), 3) := by decide +kernel
theorem dX4_settle_122 : decode cX4_settle 122 = .ok (.aload_n 0, 1) := by decide +kernel
theorem dX4_settle_123 : decode cX4_settle 123 = .ok (.getfield 18, 3) := by decide +kernel
theorem dX4_settle_126 : decode cX4_settle 126 = .ok (.iload_n 1, 1) := by decide +kernel
theorem dX4_settle_127 : decode cX4_settle 127 = .ok (.iload_n 2, 1) := by decide +kernel
theorem dX4_settle_128 : decode cX4_settle 128 = .ok (.aload_n 0, 1) := by decide +kernel
theorem dX4_settle_129 : decode cX4_settle 129 = .ok (.getfield 21, 3) := by decide +kernel
theorem dX4_settle_132 : decode cX4_settle 132 = .ok (.ifCond .eq 11, 3) := by decide +kernel
theorem dX4_settle_135 : decode cX4_settle 135 = .ok (.aload_n 0, 1) := by decide +kernel
theorem dX4_settle_136 : decode cX4_settle 136 = .ok (.iload_n 1, 1) := by decide +kernel
theorem dX4_settle_137 : decode cX4_settle 137 = .ok (.invokevirtual 69, 3) := by decide +kernel
theorem dX4_settle_140 : decode cX4_settle 140 = .ok (.goto 4, 3) := by decide +kernel
theorem dX4_settle_143 : decode cX4_settle 143 = .ok (.iconst 1, 1) := by decide +kernel
theorem dX4_settle_144 : decode cX4_settle 144 = .ok (.iadd, 1) := by decide +kernel
theorem dX4_settle_145 : decode cX4_settle 145 = .ok (.iastore, 1) := by decide +kernel
theorem dX4_settle_146 : decode cX4_settle 146 = .ok (.return_, 1) := by decide +kernel
theorem dX4_oddsOfSet_0 : decode cX4_oddsOfSet 0 = .ok (.iconst 0, 1) := by decide +kernel
theorem dX4_oddsOfSet_1 : decode cX4_oddsOfSet 1 = .ok (.istore_n 2, 1) := by decide +kernel
theorem dX4_oddsOfSet_2 : decode cX4_oddsOfSet 2 = .ok (.iconst 0, 1) := by decide +kernel
theorem dX4_oddsOfSet_3 : decode cX4_oddsOfSet 3 = .ok (.istore_n 3, 1) := by decide +kernel
theorem dX4_oddsOfSet_4 : decode cX4_oddsOfSet 4 = .ok (.iload_n 3, 1) := by decide +kernel
theorem dX4_oddsOfSet_5 : decode cX4_oddsOfSet 5 = .ok (.aload_n 0, 1) := by decide +kernel
theorem dX4_oddsOfSet_6 : decode cX4_oddsOfSet 6 = .ok (.getfield 39, 3) := by decide +kernel
theorem dX4_oddsOfSet_9 : decode cX4_oddsOfSet 9 = .ok (.if_icmp .ge 26, 3) := by decide +kernel
theorem dX4_oddsOfSet_12 : decode cX4_oddsOfSet 12 = .ok (.iload_n 1, 1) := by decide +kernel
theorem dX4_oddsOfSet_13 : decode cX4_oddsOfSet 13 = .ok (.iload_n 3, 1) := by decide +kernel
theorem dX4_oddsOfSet_14 : decode cX4_oddsOfSet 14 = .ok (.invokestatic 72, 3) := by decide +kernel
theorem dX4_oddsOfSet_17 : decode cX4_oddsOfSet 17 = .ok (.ifCond .eq 12, 3) := by decide +kernel
theorem dX4_oddsOfSet_20 : decode cX4_oddsOfSet 20 = .ok (.iload_n 2, 1) := by decide +kernel
theorem dX4_oddsOfSet_21 : decode cX4_oddsOfSet 21 = .ok (.aload_n 0, 1) := by decide +kernel
theorem dX4_oddsOfSet_22 : decode cX4_oddsOfSet 22 = .ok (.getfield 15, 3) := by decide +kernel
theorem dX4_oddsOfSet_25 : decode cX4_oddsOfSet 25 = .ok (.iload_n 3, 1) := by decide +kernel
theorem dX4_oddsOfSet_26 : decode cX4_oddsOfSet 26 = .ok (.iaload, 1) := by decide +kernel
theorem dX4_oddsOfSet_27 : decode cX4_oddsOfSet 27 = .ok (.iadd, 1) := by decide +kernel
theorem dX4_oddsOfSet_28 : decode cX4_oddsOfSet 28 = .ok (.istore_n 2, 1) := by decide +kernel
theorem dX4_oddsOfSet_29 : decode cX4_oddsOfSet 29 = .ok (.iinc 3 1, 3) := by decide +kernel
theorem dX4_oddsOfSet_32 : decode cX4_oddsOfSet 32 = .ok (.goto (-28), 3) := by decide +kernel
theorem dX4_oddsOfSet_35 : decode cX4_oddsOfSet 35 = .ok (.iload_n 2, 1) := by decide +kernel
theorem dX4_oddsOfSet_36 : decode cX4_oddsOfSet 36 = .ok (.ireturn, 1) := by decide +kernel
theorem dX5_init_0 : decode cX5_init 0 = .ok (.aload_n 0, 1) := by decide +kernel
theorem dX5_init_1 : decode cX5_init 1 = .ok (.invokespecial 3, 3) := by decide +kernel
theorem dX5_init_4 : decode cX5_init 4 = .ok (.aload_n 0, 1) := by decide +kernel
theorem dX5_init_5 : decode cX5_init 5 = .ok (.iconst (-1), 1) := by decide +kernel
theorem dX5_init_6 : decode cX5_init 6 = .ok (.putfield 11, 3) := by decide +kernel
theorem dX5_init_9 : decode cX5_init 9 = .ok (.aload_n 0, 1) := by decide +kernel
theorem dX5_init_10 : decode cX5_init 10 = .ok (.bipush 40, 2) := by decide +kernel
theorem dX5_init_12 : decode cX5_init 12 = .ok (.newarray .int, 2) := by decide +kernel
theorem dX5_init_14 : decode cX5_init 14 = .ok (.putfield 15, 3) := by decide +kernel
theorem dX5_init_17 : decode cX5_init 17 = .ok (.return_, 1) := by decide +kernel
theorem dX5_renew_0 : decode cX5_renew 0 = .ok (.aload_n 0, 1) := by decide +kernel
theorem dX5_renew_1 : decode cX5_renew 1 = .ok (.iload_n 1, 1) := by decide +kernel
theorem dX5_renew_2 : decode cX5_renew 2 = .ok (.putfield 11, 3) := by decide +kernel
theorem dX5_renew_5 : decode cX5_renew 5 = .ok (.aload_n 0, 1) := by decide +kernel
theorem dX5_renew_6 : decode cX5_renew 6 = .ok (.iload_n 2, 1) := by decide +kernel
theorem dX5_renew_7 : decode cX5_renew 7 = .ok (.putfield 19, 3) := by decide +kernel
theorem dX5_renew_10 : decode cX5_renew 10 = .ok (.aload_n 0, 1) := by decide +kernel
theorem dX5_renew_11 : decode cX5_renew 11 = .ok (.getfield 15, 3) := by decide +kernel
theorem dX5_renew_14 : decode cX5_renew 14 = .ok (.iconst 0, 1) := by decide +kernel
theorem dX5_renew_15 : decode cX5_renew 15 = .ok (.invokestatic 22, 3) := by decide +kernel
theorem dX5_renew_18 : decode cX5_renew 18 = .ok (.return_, 1) := by decide +kernel
theorem dX5_put_0 : decode cX5_put 0 = .ok (.aload_n 0, 1) := by decide +kernel
theorem dX5_put_1 : decode cX5_put 1 = .ok (.getfield 15, 3) := by decide +kernel
theorem dX5_put_4 : decode cX5_put 4 = .ok (.iload_n 1, 1) := by decide +kernel
theorem dX5_put_5 : decode cX5_put 5 = .ok (.aload_n 0, 1) := by decide +kernel
theorem dX5_put_6 : decode cX5_put 6 = .ok (.getfield 11, 3) := by decide +kernel
theorem dX5_put_9 : decode cX5_put 9 = .ok (.ifCond .ne 8, 3) := by decide +kernel
theorem dX5_put_12 : decode cX5_put 12 = .ok (.iload_n 2, 1) := by decide +kernel
theorem dX5_put_13 : decode cX5_put 13 = .ok (.i2b, 1) := by decide +kernel
theorem dX5_put_14 : decode cX5_put 14 = .ok (.goto 17, 3) := by decide +kernel
theorem dX5_put_17 : decode cX5_put 17 = .ok (.aload_n 0, 1) := by decide +kernel
theorem dX5_put_18 : decode cX5_put 18 = .ok (.getfield 11, 3) := by decide +kernel
theorem dX5_put_21 : decode cX5_put 21 = .ok (.iconst 1, 1) := by decide +kernel
theorem dX5_put_22 : decode cX5_put 22 = .ok (.if_icmp .ne 8, 3) := by decide +kernel
theorem dX5_put_25 : decode cX5_put 25 = .ok (.iload_n 2, 1) := by decide +kernel
theorem dX5_put_26 : decode cX5_put 26 = .ok (.i2s, 1) := by decide +kernel
theorem dX5_put_27 : decode cX5_put 27 = .ok (.goto 4, 3) := by decide +kernel
theorem dX5_put_30 : decode cX5_put 30 = .ok (.iload_n 2, 1) := by decide +kernel
theorem dX5_put_31 : decode cX5_put 31 = .ok (.iastore, 1) := by decide +kernel
theorem dX5_put_32 : decode cX5_put 32 = .ok (.return_, 1) := by decide +kernel
theorem dX5_faultAt_0 : decode cX5_faultAt 0 = .ok (.aload_n 0, 1) := by decide +kernel
theorem dX5_faultAt_1 : decode cX5_faultAt 1 = .ok (.getfield 11, 3) := by decide +kernel
theorem dX5_faultAt_4 : decode cX5_faultAt 4 = .ok (.iconst (-1), 1) := by decide +kernel
theorem dX5_faultAt_5 : decode cX5_faultAt 5 = .ok (.if_icmp .ne 5, 3) := by decide +kernel
theorem dX5_faultAt_8 : decode cX5_faultAt 8 = .ok (.iconst 1, 1) := by decide +kernel
theorem dX5_faultAt_9 : decode cX5_faultAt 9 = .ok (.ireturn, 1) := by decide +kernel
theorem dX5_faultAt_10 : decode cX5_faultAt 10 = .ok (.iload_n 1, 1) := by decide +kernel
theorem dX5_faultAt_11 : decode cX5_faultAt 11 = .ok (.iconst 0, 1) := by decide +kernel
theorem dX5_faultAt_12 : decode cX5_faultAt 12 = .ok (.aload_n 0, 1) := by decide +kernel
theorem dX5_faultAt_13 : decode cX5_faultAt 13 = .ok (.getfield 19, 3) := by decide +kernel
theorem dX5_faultAt_16 : decode cX5_faultAt 16 = .ok (.iconst 1, 1) := by decide +kernel
theorem dX5_faultAt_17 : decode cX5_faultAt 17 = .ok (.isub, 1) := by decide +kernel
theorem dX5_faultAt_18 : decode cX5_faultAt 18 = .ok (.invokestatic 28, 3) := by decide +kernel
theorem dX5_faultAt_21 : decode cX5_faultAt 21 = .ok (.ifCond .eq 7, 3) := by decide +kernel
theorem dX5_faultAt_24 : decode cX5_faultAt 24 = .ok (.iconst 0, 1) := by decide +kernel
theorem dX5_faultAt_25 : decode cX5_faultAt 25 = .ok (.goto 4, 3) := by decide +kernel
theorem dX5_faultAt_28 : decode cX5_faultAt 28 = .ok (.iconst 2, 1) := by decide +kernel
theorem dX5_faultAt_29 : decode cX5_faultAt 29 = .ok (.ireturn, 1) := by decide +kernel
theorem dX5_faultOfGuessAt_0 : decode cX5_faultOfGuessAt 0 = .ok (.aload_n 0, 1) := by decide +kernel
theorem dX5_faultOfGuessAt_1 : decode cX5_faultOfGuessAt 1 = .ok (.getfield 11, 3) := by decide +kernel
theorem dX5_faultOfGuessAt_4 : decode cX5_faultOfGuessAt 4 = .ok (.iconst (-1), 1) := by decide +kernel
theorem dX5_faultOfGuessAt_5 : decode cX5_faultOfGuessAt 5 = .ok (.if_icmp .eq 13, 3) := by decide +kernel
theorem dX5_faultOfGuessAt_8 : decode cX5_faultOfGuessAt 8 = .ok (.aload_n 0, 1) := by decide +kernel
theorem dX5_faultOfGuessAt_9 : decode cX5_faultOfGuessAt 9 = .ok (.getfield 11, 3) := by decide +kernel
theorem dX5_faultOfGuessAt_12 : decode cX5_faultOfGuessAt 12 = .ok (.iload_n 2, 1) := by decide +kernel
theorem dX5_faultOfGuessAt_13 : decode cX5_faultOfGuessAt 13 = .ok (.if_icmp .eq 5, 3) := by decide +kernel
theorem dX5_faultOfGuessAt_16 : decode cX5_faultOfGuessAt 16 = .ok (.iconst 3, 1) := by decide +kernel
theorem dX5_faultOfGuessAt_17 : decode cX5_faultOfGuessAt 17 = .ok (.ireturn, 1) := by decide +kernel
theorem dX5_faultOfGuessAt_18 : decode cX5_faultOfGuessAt 18 = .ok (.aload_n 0, 1) := by decide +kernel
theorem dX5_faultOfGuessAt_19 : decode cX5_faultOfGuessAt 19 = .ok (.iload_n 1, 1) := by decide +kernel
theorem dX5_faultOfGuessAt_20 : decode cX5_faultOfGuessAt 20 = .ok (.invokevirtual 32, 3) := by decide +kernel
theorem dX5_faultOfGuessAt_23 : decode cX5_faultOfGuessAt 23 = .ok (.istore_n 3, 1) := by decide +kernel
theorem dX5_faultOfGuessAt_24 : decode cX5_faultOfGuessAt 24 = .ok (.iload_n 3, 1) := by decide +kernel
theorem dX5_faultOfGuessAt_25 : decode cX5_faultOfGuessAt 25 = .ok (.ifCond .eq 7, 3) := by decide +kernel
theorem dX5_faultOfGuessAt_28 : decode cX5_faultOfGuessAt 28 = .ok (.iload_n 3, 1) := by decide +kernel
theorem dX5_faultOfGuessAt_29 : decode cX5_faultOfGuessAt 29 = .ok (.goto 10, 3) := by decide +kernel
theorem dX5_faultOfGuessAt_32 : decode cX5_faultOfGuessAt 32 = .ok (.aload_n 0, 1) := by decide +kernel
theorem dX5_faultOfGuessAt_33 : decode cX5_faultOfGuessAt 33 = .ok (.iload_n 1, 1) := by decide +kernel
theorem dX5_faultOfGuessAt_34 : decode cX5_faultOfGuessAt 34 = .ok (.iconst 1, 1) := by decide +kernel
theorem dX5_faultOfGuessAt_35 : decode cX5_faultOfGuessAt 35 = .ok (.iadd, 1) := by decide +kernel
theorem dX5_faultOfGuessAt_36 : decode cX5_faultOfGuessAt 36 = .ok (.invokevirtual 32, 3) := by decide +kernel
theorem dX5_faultOfGuessAt_39 : decode cX5_faultOfGuessAt 39 = .ok (.ireturn, 1) := by decide +kernel
theorem dX6_init_0 : decode cX6_init 0 = .ok (.aload_n 0, 1) := by decide +kernel
theorem dX6_init_1 : decode cX6_init 1 = .ok (.invokespecial 1, 3) := by decide +kernel
theorem dX6_init_4 : decode cX6_init 4 = .ok (.aload_n 0, 1) := by decide +kernel
theorem dX6_init_5 : decode cX6_init 5 = .ok (.sipush 160, 3) := by decide +kernel
theorem dX6_init_8 : decode cX6_init 8 = .ok (.newarray .byte, 2) := by decide +kernel
theorem dX6_init_10 : decode cX6_init 10 = .ok (.putfield 9, 3) := by decide +kernel
theorem dX6_init_13 : decode cX6_init 13 = .ok (.aload_n 0, 1) := by decide +kernel
theorem dX6_init_14 : decode cX6_init 14 = .ok (.new 13, 3) := by decide +kernel
theorem dX6_init_17 : decode cX6_init 17 = .ok (.dup, 1) := by decide +kernel
theorem dX6_init_18 : decode cX6_init 18 = .ok (.invokespecial 15, 3) := by decide +kernel
theorem dX6_init_21 : decode cX6_init 21 = .ok (.putfield 16, 3) := by decide +kernel
theorem dX6_init_24 : decode cX6_init 24 = .ok (.aload_n 0, 1) := by decide +kernel
theorem dX6_init_25 : decode cX6_init 25 = .ok (.new 20, 3) := by decide +kernel
theorem dX6_init_28 : decode cX6_init 28 = .ok (.dup, 1) := by decide +kernel
theorem dX6_init_29 : decode cX6_init 29 = .ok (.invokespecial 22, 3) := by decide +kernel
theorem dX6_init_32 : decode cX6_init 32 = .ok (.putfield 23, 3) := by decide +kernel
theorem dX6_init_35 : decode cX6_init 35 = .ok (.aload_n 0, 1) := by decide +kernel
theorem dX6_init_36 : decode cX6_init 36 = .ok (.new 27, 3) := by decide +kernel
theorem dX6_init_39 : decode cX6_init 39 = .ok (.dup, 1) := by decide +kernel
theorem dX6_init_40 : decode cX6_init 40 = .ok (.invokespecial 29, 3) := by decide +kernel
theorem dX6_init_43 : decode cX6_init 43 = .ok (.putfield 30, 3) := by decide +kernel
theorem dX6_init_46 : decode cX6_init 46 = .ok (.aload_n 0, 1) := by decide +kernel
theorem dX6_init_47 : decode cX6_init 47 = .ok (.new 20, 3) := by decide +kernel
theorem dX6_init_50 : decode cX6_init 50 = .ok (.dup, 1) := by decide +kernel
theorem dX6_init_51 : decode cX6_init 51 = .ok (.invokespecial 22, 3) := by decide +kernel
theorem dX6_init_54 : decode cX6_init 54 = .ok (.putfield 34, 3) := by decide +kernel
theorem dX6_init_57 : decode cX6_init 57 = .ok (.aload_n 0, 1) := by decide +kernel
theorem dX6_init_58 : decode cX6_init 58 = .ok (.new 27, 3) := by decide +kernel
theorem dX6_init_61 : decode cX6_init 61 = .ok (.dup, 1) := by decide +kernel
theorem dX6_init_62 : decode cX6_init 62 = .ok (.invokespecial 29, 3) := by decide +kernel
theorem dX6_init_65 : decode cX6_init 65 = .ok (.putfield 37, 3) := by decide +kernel
theorem dX6_init_68 : decode cX6_init 68 = .ok (.aload_n 0, 1) := by decide +kernel
theorem dX6_init_69 : decode cX6_init 69 = .ok (.iconst 2, 1) := by decide +kernel
theorem dX6_init_70 : decode cX6_init 70 = .ok (.anewarray 27, 3) := by decide +kernel
theorem dX6_init_73 : decode cX6_init 73 = .ok (.putfield 40, 3) := by decide +kernel
theorem dX6_init_76 : decode cX6_init 76 = .ok (.aload_n 0, 1) := by decide +kernel
theorem dX6_init_77 : decode cX6_init 77 = .ok (.iconst 2, 1) := by decide +kernel
theorem dX6_init_78 : decode cX6_init 78 = .ok (.newarray .boolean, 2) := by decide +kernel
theorem dX6_init_80 : decode cX6_init 80 = .ok (.putfield 44, 3) := by decide +kernel
theorem dX6_init_83 : decode cX6_init 83 = .ok (.aload_n 0, 1) := by decide +kernel
theorem dX6_init_84 : decode cX6_init 84 = .ok (.iconst 4, 1) := by decide +kernel
theorem dX6_init_85 : decode cX6_init 85 = .ok (.anewarray 48, 3) := by decide +kernel
theorem dX6_init_88 : decode cX6_init 88 = .ok (.putfield 50, 3) := by decide +kernel
theorem dX6_init_91 : decode cX6_init 91 = .ok (.aload_n 0, 1) := by decide +kernel
theorem dX6_init_92 : decode cX6_init 92 = .ok (.bipush 9, 2) := by decide +kernel
theorem dX6_init_94 : decode cX6_init 94 = .ok (.newarray .int, 2) := by decide +kernel
theorem dX6_init_96 : decode cX6_init 96 = .ok (.putfield 54, 3) := by decide +kernel
theorem dX6_init_99 : decode cX6_init 99 = .ok (.aload_n 0, 1) := by decide +kernel
theorem dX6_init_100 : decode cX6_init 100 = .ok (.new 58, 3) := by decide +kernel
theorem dX6_init_103 : decode cX6_init 103 = .ok (.dup, 1) := by decide +kernel
theorem dX6_init_104 : decode cX6_init 104 = .ok (.iconst 0, 1) := by decide +kernel
theorem dX6_init_105 : decode cX6_init 105 = .ok (.invokespecial 60, 3) := by decide +kernel
theorem dX6_init_108 : decode cX6_init 108 = .ok (.putfield 63, 3) := by decide +kernel
theorem dX6_init_111 : decode cX6_init 111 = .ok (.aload_n 0, 1) := by decide +kernel
theorem dX6_init_112 : decode cX6_init 112 = .ok (.new 58, 3) := by decide +kernel
theorem dX6_init_115 : decode cX6_init 115 = .ok (.dup, 1) := by decide +kernel
theorem dX6_init_116 : decode cX6_init 116 = .ok (.iconst 1, 1) := by decide +kernel
theorem dX6_init_117 : decode cX6_init 117 = .ok (.invokespecial 60, 3) := by decide +kernel
theorem dX6_init_120 : decode cX6_init 120 = .ok (.putfield 67, 3) := by decide +kernel
theorem dX6_init_123 : decode cX6_init 123 = .ok (.aload_n 0, 1) := by decide +kernel
theorem dX6_init_124 : decode cX6_init 124 = .ok (.new 70, 3) := by decide +kernel
theorem dX6_init_127 : decode cX6_init 127 = .ok (.dup, 1) := by decide +kernel
theorem dX6_init_128 : decode cX6_init 128 = .ok (.invokespecial 72, 3) := by decide +kernel
theorem dX6_init_131 : decode cX6_init 131 = .ok (.putfield 73, 3) := by decide +kernel
theorem dX6_init_134 : decode cX6_init 134 = .ok (.aload_n 0, 1) := by decide +kernel
theorem dX6_init_135 : decode cX6_init 135 = .ok (.bipush 45, 2) := by decide +kernel
theorem dX6_init_137 : decode cX6_init 137 = .ok (.newarray .int, 2) := by decide +kernel
theorem dX6_init_139 : decode cX6_init 139 = .ok (.putfield 77, 3) := by decide +kernel
theorem dX6_init_142 : decode cX6_init 142 = .ok (.aload_n 0, 1) := by decide +kernel
theorem dX6_init_143 : decode cX6_init 143 = .ok (.bipush 9, 2) := by decide +kernel
theorem dX6_init_145 : decode cX6_init 145 = .ok (.newarray .int, 2) := by decide +kernel
theorem dX6_init_147 : decode cX6_init 147 = .ok (.putfield 80, 3) := by decide +kernel
theorem dX6_init_150 : decode cX6_init 150 = .ok (.aload_n 0, 1) := by decide +kernel
theorem dX6_init_151 : decode cX6_init 151 = .ok (.bipush 9, 2) := by decide +kernel
theorem dX6_init_153 : decode cX6_init 153 = .ok (.newarray .int, 2) := by decide +kernel
theorem dX6_init_155 : decode cX6_init 155 = .ok (.putfield 83, 3) := by decide +kernel
theorem dX6_init_158 : decode cX6_init 158 = .ok (.iconst 0, 1) := by decide +kernel
theorem dX6_init_159 : decode cX6_init 159 = .ok (.istore_n 1, 1) := by decide +kernel
theorem dX6_init_160 : decode cX6_init 160 = .ok (.iload_n 1, 1) := by decide +kernel
theorem dX6_init_161 : decode cX6_init 161 = .ok (.iconst 2, 1) := by decide +kernel
theorem dX6_init_162 : decode cX6_init 162 = .ok (.if_icmp .ge 22, 3) := by decide +kernel
theorem dX6_init_165 : decode cX6_init 165 = .ok (.aload_n 0, 1) := by decide +kernel
theorem dX6_init_166 : decode cX6_init 166 = .ok (.getfield 40, 3) := by decide +kernel
theorem dX6_init_169 : decode cX6_init 169 = .ok (.iload_n 1, 1) := by decide +kernel
theorem dX6_init_170 : decode cX6_init 170 = .ok (.new 27, 3) := by decide +kernel
theorem dX6_init_173 : decode cX6_init 173 = .ok (.dup, 1) := by decide +kernel
theorem dX6_init_174 : decode cX6_init 174 = .ok (.invokespecial 29, 3) := by decide +kernel
theorem dX6_init_177 : decode cX6_init 177 = .ok (.aastore, 1) := by decide +kernel
theorem dX6_init_178 : decode cX6_init 178 = .ok (.iinc 1 1, 3) := by decide +kernel
theorem dX6_init_181 : decode cX6_init 181 = .ok (.goto (-21), 3) := by decide +kernel
theorem dX6_init_184 : decode cX6_init 184 = .ok (.iconst 0, 1) := by decide +kernel
theorem dX6_init_185 : decode cX6_init 185 = .ok (.istore_n 1, 1) := by decide +kernel
theorem dX6_init_186 : decode cX6_init 186 = .ok (.iload_n 1, 1) := by decide +kernel
theorem dX6_init_187 : decode cX6_init 187 = .ok (.iconst 4, 1) := by decide +kernel
theorem dX6_init_188 : decode cX6_init 188 = .ok (.if_icmp .ge 22, 3) := by decide +kernel
theorem dX6_init_191 : decode cX6_init 191 = .ok (.aload_n 0, 1) := by decide +kernel
theorem dX6_init_192 : decode cX6_init 192 = .ok (.getfield 50, 3) := by decide +kernel
theorem dX6_init_195 : decode cX6_init 195 = .ok (.iload_n 1, 1) := by decide +kernel
theorem dX6_init_196 : decode cX6_init 196 = .ok (.new 48, 3) := by decide +kernel
theorem dX6_init_199 : decode cX6_init 199 = .ok (.dup, 1) := by decide +kernel
theorem dX6_init_200 : decode cX6_init 200 = .ok (.invokespecial 86, 3) := by decide +kernel
theorem dX6_init_203 : decode cX6_init 203 = .ok (.aastore, 1) := by decide +kernel
theorem dX6_init_204 : decode cX6_init 204 = .ok (.iinc 1 1, 3) := by decide +kernel
theorem dX6_init_207 : decode cX6_init 207 = .ok (.goto (-21), 3) := by decide +kernel
theorem dX6_init_210 : decode cX6_init 210 = .ok (.return_, 1) := by decide +kernel
theorem dX6_feed_0 : decode cX6_feed 0 = .ok (.iload_n 1, 1) := by decide +kernel
theorem dX6_feed_1 : decode cX6_feed 1 = .ok (.iconst 0, 1) := by decide +kernel
theorem dX6_feed_2 : decode cX6_feed 2 = .ok (.bipush 127, 2) := by decide +kernel
theorem dX6_feed_4 : decode cX6_feed 4 = .ok (.invokestatic 87, 3) := by decide +kernel
theorem dX6_feed_7 : decode cX6_feed 7 = .ok (.ifCond .ne 5, 3) := by decide +kernel
theorem dX6_feed_10 : decode cX6_feed 10 = .ok (.iconst (-1), 1) := by decide +kernel
theorem dX6_feed_11 : decode cX6_feed 11 = .ok (.ireturn, 1) := by decide +kernel
theorem dX6_feed_12 : decode cX6_feed 12 = .ok (.aload_n 0, 1) := by decide +kernel
theorem dX6_feed_13 : decode cX6_feed 13 = .ok (.getfield 91, 3) := by decide +kernel
theorem dX6_feed_16 : decode cX6_feed 16 = .ok (.sipush 160, 3) := by decide +kernel
theorem dX6_feed_19 : decode cX6_feed 19 = .ok (.if_icmp .lt 6, 3) := by decide +kernel
theorem dX6_feed_22 : decode cX6_feed 22 = .ok (.bipush (-3), 2) := by decide +kernel
theorem dX6_feed_24 : decode cX6_feed 24 = .ok (.ireturn, 1) := by decide +kernel
theorem dX6_feed_25 : decode cX6_feed 25 = .ok (.aload_n 0, 1) := by decide +kernel
theorem dX6_feed_26 : decode cX6_feed 26 = .ok (.getfield 9, 3) := by decide +kernel
theorem dX6_feed_29 : decode cX6_feed 29 = .ok (.aload_n 0, 1) := by decide +kernel
