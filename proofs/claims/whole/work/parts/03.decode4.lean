theorem dX7_text_92 : decode cX7_text 92 = .ok (.getfield 76, 3) := by decide +kernel
theorem dX7_text_95 : decode cX7_text 95 = .ok (.ifCond .le 11, 3) := by decide +kernel
theorem dX7_text_98 : decode cX7_text 98 = .ok (.bipush (-10), 2) := by decide +kernel
theorem dX7_text_100 : decode cX7_text 100 = .ok (.aload_n 0, 1) := by decide +kernel
theorem dX7_text_101 : decode cX7_text 101 = .ok (.getfield 82, 3) := by decide +kernel
theorem dX7_text_104 : decode cX7_text 104 = .ok (.isub, 1) := by decide +kernel
theorem dX7_text_105 : decode cX7_text 105 = .ok (.ireturn, 1) := by decide +kernel
theorem dX7_text_106 : decode cX7_text 106 = .ok (.iconst 0, 1) := by decide +kernel
theorem dX7_text_107 : decode cX7_text 107 = .ok (.istore_n 2, 1) := by decide +kernel
theorem dX7_text_108 : decode cX7_text 108 = .ok (.iload_n 2, 1) := by decide +kernel
theorem dX7_text_109 : decode cX7_text 109 = .ok (.bipush 60, 2) := by decide +kernel
theorem dX7_text_111 : decode cX7_text 111 = .ok (.if_icmp .ge 39, 3) := by decide +kernel
theorem dX7_text_114 : decode cX7_text 114 = .ok (.aload_n 0, 1) := by decide +kernel
theorem dX7_text_115 : decode cX7_text 115 = .ok (.getfield 7, 3) := by decide +kernel
theorem dX7_text_118 : decode cX7_text 118 = .ok (.iload_n 2, 1) := by decide +kernel
theorem dX7_text_119 : decode cX7_text 119 = .ok (.aload_n 0, 1) := by decide +kernel
theorem dX7_text_120 : decode cX7_text 120 = .ok (.getfield 19, 3) := by decide +kernel
theorem dX7_text_123 : decode cX7_text 123 = .ok (.iload_n 2, 1) := by decide +kernel
theorem dX7_text_124 : decode cX7_text 124 = .ok (.iaload, 1) := by decide +kernel
theorem dX7_text_125 : decode cX7_text 125 = .ok (.iastore, 1) := by decide +kernel
theorem dX7_text_126 : decode cX7_text 126 = .ok (.aload_n 0, 1) := by decide +kernel
theorem dX7_text_127 : decode cX7_text 127 = .ok (.getfield 16, 3) := by decide +kernel
theorem dX7_text_130 : decode cX7_text 130 = .ok (.iload_n 2, 1) := by decide +kernel
theorem dX7_text_131 : decode cX7_text 131 = .ok (.bipush 9, 2) := by decide +kernel
theorem dX7_text_133 : decode cX7_text 133 = .ok (.irem, 1) := by decide +kernel
theorem dX7_text_134 : decode cX7_text 134 = .ok (.aload_n 0, 1) := by decide +kernel
theorem dX7_text_135 : decode cX7_text 135 = .ok (.getfield 25, 3) := by decide +kernel
theorem dX7_text_138 : decode cX7_text 138 = .ok (.iload_n 2, 1) := by decide +kernel
theorem dX7_text_139 : decode cX7_text 139 = .ok (.bipush 9, 2) := by decide +kernel
theorem dX7_text_141 : decode cX7_text 141 = .ok (.irem, 1) := by decide +kernel
theorem dX7_text_142 : decode cX7_text 142 = .ok (.iaload, 1) := by decide +kernel
theorem dX7_text_143 : decode cX7_text 143 = .ok (.iastore, 1) := by decide +kernel
theorem dX7_text_144 : decode cX7_text 144 = .ok (.iinc 2 1, 3) := by decide +kernel
theorem dX7_text_147 : decode cX7_text 147 = .ok (.goto (-39), 3) := by decide +kernel
theorem dX7_text_150 : decode cX7_text 150 = .ok (.iconst 0, 1) := by decide +kernel
theorem dX7_text_151 : decode cX7_text 151 = .ok (.istore_n 2, 1) := by decide +kernel
theorem dX7_text_152 : decode cX7_text 152 = .ok (.iload_n 2, 1) := by decide +kernel
theorem dX7_text_153 : decode cX7_text 153 = .ok (.bipush 81, 2) := by decide +kernel
theorem dX7_text_155 : decode cX7_text 155 = .ok (.if_icmp .ge 21, 3) := by decide +kernel
theorem dX7_text_158 : decode cX7_text 158 = .ok (.aload_n 0, 1) := by decide +kernel
theorem dX7_text_159 : decode cX7_text 159 = .ok (.getfield 13, 3) := by decide +kernel
theorem dX7_text_162 : decode cX7_text 162 = .ok (.iload_n 2, 1) := by decide +kernel
theorem dX7_text_163 : decode cX7_text 163 = .ok (.aload_n 0, 1) := by decide +kernel
theorem dX7_text_164 : decode cX7_text 164 = .ok (.getfield 22, 3) := by decide +kernel
theorem dX7_text_167 : decode cX7_text 167 = .ok (.iload_n 2, 1) := by decide +kernel
theorem dX7_text_168 : decode cX7_text 168 = .ok (.iaload, 1) := by decide +kernel
theorem dX7_text_169 : decode cX7_text 169 = .ok (.iastore, 1) := by decide +kernel
theorem dX7_text_170 : decode cX7_text 170 = .ok (.iinc 2 1, 3) := by decide +kernel
theorem dX7_text_173 : decode cX7_text 173 = .ok (.goto (-21), 3) := by decide +kernel
theorem dX7_text_176 : decode cX7_text 176 = .ok (.aload_n 0, 1) := by decide +kernel
theorem dX7_text_177 : decode cX7_text 177 = .ok (.aload_n 0, 1) := by decide +kernel
theorem dX7_text_178 : decode cX7_text 178 = .ok (.getfield 116, 3) := by decide +kernel
theorem dX7_text_181 : decode cX7_text 181 = .ok (.putfield 155, 3) := by decide +kernel
theorem dX7_text_184 : decode cX7_text 184 = .ok (.aload_n 0, 1) := by decide +kernel
theorem dX7_text_185 : decode cX7_text 185 = .ok (.getfield 53, 3) := by decide +kernel
theorem dX7_text_188 : decode cX7_text 188 = .ok (.iconst 0, 1) := by decide +kernel
theorem dX7_text_189 : decode cX7_text 189 = .ok (.iconst 0, 1) := by decide +kernel
theorem dX7_text_190 : decode cX7_text 190 = .ok (.bastore, 1) := by decide +kernel
theorem dX7_text_191 : decode cX7_text 191 = .ok (.aload_n 0, 1) := by decide +kernel
theorem dX7_text_192 : decode cX7_text 192 = .ok (.getfield 53, 3) := by decide +kernel
theorem dX7_text_195 : decode cX7_text 195 = .ok (.iconst 1, 1) := by decide +kernel
theorem dX7_text_196 : decode cX7_text 196 = .ok (.iconst 0, 1) := by decide +kernel
theorem dX7_text_197 : decode cX7_text 197 = .ok (.bastore, 1) := by decide +kernel
theorem dX7_text_198 : decode cX7_text 198 = .ok (.iload_n 1, 1) := by decide +kernel
theorem dX7_text_199 : decode cX7_text 199 = .ok (.ireturn, 1) := by decide +kernel
theorem dX7_fault_0 : decode cX7_fault 0 = .ok (.aload_n 0, 1) := by decide +kernel
theorem dX7_fault_1 : decode cX7_fault 1 = .ok (.getfield 152, 3) := by decide +kernel
theorem dX7_fault_4 : decode cX7_fault 4 = .ok (.ireturn, 1) := by decide +kernel
theorem dX7_isName_0 : decode cX7_isName 0 = .ok (.iload_n 1, 1) := by decide +kernel
theorem dX7_isName_1 : decode cX7_isName 1 = .ok (.i2l, 1) := by decide +kernel
theorem dX7_isName_2 : decode cX7_isName 2 = .ok (.lconst 0, 1) := by decide +kernel
theorem dX7_isName_3 : decode cX7_isName 3 = .ok (.aload_n 0, 1) := by decide +kernel
theorem dX7_isName_4 : decode cX7_isName 4 = .ok (.getfield 155, 3) := by decide +kernel
theorem dX7_isName_7 : decode cX7_isName 7 = .ok (.iconst 1, 1) := by decide +kernel
theorem dX7_isName_8 : decode cX7_isName 8 = .ok (.isub, 1) := by decide +kernel
theorem dX7_isName_9 : decode cX7_isName 9 = .ok (.i2l, 1) := by decide +kernel
theorem dX7_isName_10 : decode cX7_isName 10 = .ok (.invokestatic 68, 3) := by decide +kernel
theorem dX7_isName_13 : decode cX7_isName 13 = .ok (.ireturn, 1) := by decide +kernel
theorem dX7_isLetter_0 : decode cX7_isLetter 0 = .ok (.iload_n 0, 1) := by decide +kernel
theorem dX7_isLetter_1 : decode cX7_isLetter 1 = .ok (.i2l, 1) := by decide +kernel
theorem dX7_isLetter_2 : decode cX7_isLetter 2 = .ok (.lconst 0, 1) := by decide +kernel
theorem dX7_isLetter_3 : decode cX7_isLetter 3 = .ok (.ldc2_w 158, 3) := by decide +kernel
theorem dX7_isLetter_6 : decode cX7_isLetter 6 = .ok (.invokestatic 68, 3) := by decide +kernel
theorem dX7_isLetter_9 : decode cX7_isLetter 9 = .ok (.ireturn, 1) := by decide +kernel
theorem dX7_rule_0 : decode cX7_rule 0 = .ok (.iload_n 1, 1) := by decide +kernel
theorem dX7_rule_1 : decode cX7_rule 1 = .ok (.tableswitch 71 0 4 #[35, 40, 48, 56, 64], 35) := by decide +kernel
theorem dX7_rule_36 : decode cX7_rule 36 = .ok (.aload_n 0, 1) := by decide +kernel
theorem dX7_rule_37 : decode cX7_rule 37 = .ok (.getfield 155, 3) := by decide +kernel
theorem dX7_rule_40 : decode cX7_rule 40 = .ok (.ireturn, 1) := by decide +kernel
theorem dX7_rule_41 : decode cX7_rule 41 = .ok (.aload_n 0, 1) := by decide +kernel
theorem dX7_rule_42 : decode cX7_rule 42 = .ok (.getfield 7, 3) := by decide +kernel
theorem dX7_rule_45 : decode cX7_rule 45 = .ok (.bipush 9, 2) := by decide +kernel
theorem dX7_rule_47 : decode cX7_rule 47 = .ok (.iaload, 1) := by decide +kernel
theorem dX7_rule_48 : decode cX7_rule 48 = .ok (.ireturn, 1) := by decide +kernel
theorem dX7_rule_49 : decode cX7_rule 49 = .ok (.aload_n 0, 1) := by decide +kernel
theorem dX7_rule_50 : decode cX7_rule 50 = .ok (.getfield 7, 3) := by decide +kernel
theorem dX7_rule_53 : decode cX7_rule 53 = .ok (.bipush 10, 2) := by decide +kernel
theorem dX7_rule_55 : decode cX7_rule 55 = .ok (.iaload, 1) := by decide +kernel
theorem dX7_rule_56 : decode cX7_rule 56 = .ok (.ireturn, 1) := by decide +kernel
theorem dX7_rule_57 : decode cX7_rule 57 = .ok (.aload_n 0, 1) := by decide +kernel
theorem dX7_rule_58 : decode cX7_rule 58 = .ok (.getfield 7, 3) := by decide +kernel
theorem dX7_rule_61 : decode cX7_rule 61 = .ok (.bipush 21, 2) := by decide +kernel
theorem dX7_rule_63 : decode cX7_rule 63 = .ok (.iaload, 1) := by decide +kernel
theorem dX7_rule_64 : decode cX7_rule 64 = .ok (.ireturn, 1) := by decide +kernel
theorem dX7_rule_65 : decode cX7_rule 65 = .ok (.aload_n 0, 1) := by decide +kernel
theorem dX7_rule_66 : decode cX7_rule 66 = .ok (.getfield 16, 3) := by decide +kernel
theorem dX7_rule_69 : decode cX7_rule 69 = .ok (.iconst 0, 1) := by decide +kernel
theorem dX7_rule_70 : decode cX7_rule 70 = .ok (.iaload, 1) := by decide +kernel
theorem dX7_rule_71 : decode cX7_rule 71 = .ok (.ireturn, 1) := by decide +kernel
theorem dX7_rule_72 : decode cX7_rule 72 = .ok (.iconst (-1), 1) := by decide +kernel
theorem dX7_rule_73 : decode cX7_rule 73 = .ok (.ireturn, 1) := by decide +kernel
theorem dX7_name_0 : decode cX7_name 0 = .ok (.aload_n 0, 1) := by decide +kernel
theorem dX7_name_1 : decode cX7_name 1 = .ok (.iload_n 1, 1) := by decide +kernel
theorem dX7_name_2 : decode cX7_name 2 = .ok (.invokevirtual 160, 3) := by decide +kernel
theorem dX7_name_5 : decode cX7_name 5 = .ok (.ifCond .ne 5, 3) := by decide +kernel
theorem dX7_name_8 : decode cX7_name 8 = .ok (.iconst (-1), 1) := by decide +kernel
theorem dX7_name_9 : decode cX7_name 9 = .ok (.ireturn, 1) := by decide +kernel
theorem dX7_name_10 : decode cX7_name 10 = .ok (.iload_n 2, 1) := by decide +kernel
theorem dX7_name_11 : decode cX7_name 11 = .ok (.i2l, 1) := by decide +kernel
theorem dX7_name_12 : decode cX7_name 12 = .ok (.ldc2_w 163, 3) := by decide +kernel
theorem dX7_name_15 : decode cX7_name 15 = .ok (.bipush 9, 2) := by decide +kernel
theorem dX7_name_17 : decode cX7_name 17 = .ok (.aload_n 0, 1) := by decide +kernel
theorem dX7_name_18 : decode cX7_name 18 = .ok (.getfield 13, 3) := by decide +kernel
theorem dX7_name_21 : decode cX7_name 21 = .ok (.bipush 9, 2) := by decide +kernel
theorem dX7_name_23 : decode cX7_name 23 = .ok (.iload_n 1, 1) := by decide +kernel
theorem dX7_name_24 : decode cX7_name 24 = .ok (.imul, 1) := by decide +kernel
theorem dX7_name_25 : decode cX7_name 25 = .ok (.iaload, 1) := by decide +kernel
theorem dX7_name_26 : decode cX7_name 26 = .ok (.iadd, 1) := by decide +kernel
theorem dX7_name_27 : decode cX7_name 27 = .ok (.i2l, 1) := by decide +kernel
theorem dX7_name_28 : decode cX7_name 28 = .ok (.invokestatic 68, 3) := by decide +kernel
theorem dX7_name_31 : decode cX7_name 31 = .ok (.ifCond .eq 20, 3) := by decide +kernel
theorem dX7_name_34 : decode cX7_name 34 = .ok (.aload_n 0, 1) := by decide +kernel
theorem dX7_name_35 : decode cX7_name 35 = .ok (.getfield 13, 3) := by decide +kernel
theorem dX7_name_38 : decode cX7_name 38 = .ok (.bipush 9, 2) := by decide +kernel
theorem dX7_name_40 : decode cX7_name 40 = .ok (.iload_n 1, 1) := by decide +kernel
theorem dX7_name_41 : decode cX7_name 41 = .ok (.imul, 1) := by decide +kernel
theorem dX7_name_42 : decode cX7_name 42 = .ok (.iconst 1, 1) := by decide +kernel
theorem dX7_name_43 : decode cX7_name 43 = .ok (.iadd, 1) := by decide +kernel
theorem dX7_name_44 : decode cX7_name 44 = .ok (.iload_n 2, 1) := by decide +kernel
theorem dX7_name_45 : decode cX7_name 45 = .ok (.iadd, 1) := by decide +kernel
theorem dX7_name_46 : decode cX7_name 46 = .ok (.bipush 10, 2) := by decide +kernel
theorem dX7_name_48 : decode cX7_name 48 = .ok (.isub, 1) := by decide +kernel
theorem dX7_name_49 : decode cX7_name 49 = .ok (.iaload, 1) := by decide +kernel
theorem dX7_name_50 : decode cX7_name 50 = .ok (.ireturn, 1) := by decide +kernel
theorem dX7_name_51 : decode cX7_name 51 = .ok (.iload_n 2, 1) := by decide +kernel
theorem dX7_name_52 : decode cX7_name 52 = .ok (.ifCond .ne 12, 3) := by decide +kernel
theorem dX7_name_55 : decode cX7_name 55 = .ok (.aload_n 0, 1) := by decide +kernel
theorem dX7_name_56 : decode cX7_name 56 = .ok (.getfield 7, 3) := by decide +kernel
theorem dX7_name_59 : decode cX7_name 59 = .ok (.iload_n 1, 1) := by decide +kernel
theorem dX7_name_60 : decode cX7_name 60 = .ok (.iaload, 1) := by decide +kernel
theorem dX7_name_61 : decode cX7_name 61 = .ok (.goto 21, 3) := by decide +kernel
theorem dX7_name_64 : decode cX7_name 64 = .ok (.iload_n 2, 1) := by decide +kernel
theorem dX7_name_65 : decode cX7_name 65 = .ok (.iconst 1, 1) := by decide +kernel
theorem dX7_name_66 : decode cX7_name 66 = .ok (.if_icmp .ne 15, 3) := by decide +kernel
theorem dX7_name_69 : decode cX7_name 69 = .ok (.aload_n 0, 1) := by decide +kernel
theorem dX7_name_70 : decode cX7_name 70 = .ok (.getfield 13, 3) := by decide +kernel
theorem dX7_name_73 : decode cX7_name 73 = .ok (.bipush 9, 2) := by decide +kernel
theorem dX7_name_75 : decode cX7_name 75 = .ok (.iload_n 1, 1) := by decide +kernel
theorem dX7_name_76 : decode cX7_name 76 = .ok (.imul, 1) := by decide +kernel
theorem dX7_name_77 : decode cX7_name 77 = .ok (.iaload, 1) := by decide +kernel
theorem dX7_name_78 : decode cX7_name 78 = .ok (.goto 4, 3) := by decide +kernel
theorem dX7_name_81 : decode cX7_name 81 = .ok (.iconst (-1), 1) := by decide +kernel
theorem dX7_name_82 : decode cX7_name 82 = .ok (.ireturn, 1) := by decide +kernel
theorem dX7_wrote_0 : decode cX7_wrote 0 = .ok (.iload_n 1, 1) := by decide +kernel
theorem dX7_wrote_1 : decode cX7_wrote 1 = .ok (.i2l, 1) := by decide +kernel
theorem dX7_wrote_2 : decode cX7_wrote 2 = .ok (.lconst 0, 1) := by decide +kernel
theorem dX7_wrote_3 : decode cX7_wrote 3 = .ok (.aload_n 0, 1) := by decide +kernel
theorem dX7_wrote_4 : decode cX7_wrote 4 = .ok (.getfield 16, 3) := by decide +kernel
theorem dX7_wrote_7 : decode cX7_wrote 7 = .ok (.iconst 0, 1) := by decide +kernel
theorem dX7_wrote_8 : decode cX7_wrote 8 = .ok (.iaload, 1) := by decide +kernel
theorem dX7_wrote_9 : decode cX7_wrote 9 = .ok (.iconst 1, 1) := by decide +kernel
theorem dX7_wrote_10 : decode cX7_wrote 10 = .ok (.isub, 1) := by decide +kernel
theorem dX7_wrote_11 : decode cX7_wrote 11 = .ok (.i2l, 1) := by decide +kernel
theorem dX7_wrote_12 : decode cX7_wrote 12 = .ok (.invokestatic 68, 3) := by decide +kernel
theorem dX7_wrote_15 : decode cX7_wrote 15 = .ok (.ifCond .eq 14, 3) := by decide +kernel
theorem dX7_wrote_18 : decode cX7_wrote 18 = .ok (.aload_n 0, 1) := by decide +kernel
theorem dX7_wrote_19 : decode cX7_wrote 19 = .ok (.getfield 16, 3) := by decide +kernel
theorem dX7_wrote_22 : decode cX7_wrote 22 = .ok (.iconst 1, 1) := by decide +kernel
theorem dX7_wrote_23 : decode cX7_wrote 23 = .ok (.iload_n 1, 1) := by decide +kernel
theorem dX7_wrote_24 : decode cX7_wrote 24 = .ok (.iadd, 1) := by decide +kernel
theorem dX7_wrote_25 : decode cX7_wrote 25 = .ok (.iaload, 1) := by decide +kernel
theorem dX7_wrote_26 : decode cX7_wrote 26 = .ok (.goto 4, 3) := by decide +kernel
theorem dX7_wrote_29 : decode cX7_wrote 29 = .ok (.iconst (-1), 1) := by decide +kernel
theorem dX7_wrote_30 : decode cX7_wrote 30 = .ok (.ireturn, 1) := by decide +kernel
theorem dX7_pair_0 : decode cX7_pair 0 = .ok (.iload_n 1, 1) := by decide +kernel
theorem dX7_pair_1 : decode cX7_pair 1 = .ok (.i2l, 1) := by decide +kernel
theorem dX7_pair_2 : decode cX7_pair 2 = .ok (.lconst 0, 1) := by decide +kernel
theorem dX7_pair_3 : decode cX7_pair 3 = .ok (.aload_n 0, 1) := by decide +kernel
theorem dX7_pair_4 : decode cX7_pair 4 = .ok (.getfield 7, 3) := by decide +kernel
theorem dX7_pair_7 : decode cX7_pair 7 = .ok (.bipush 21, 2) := by decide +kernel
theorem dX7_pair_9 : decode cX7_pair 9 = .ok (.iaload, 1) := by decide +kernel
theorem dX7_pair_10 : decode cX7_pair 10 = .ok (.iconst 1, 1) := by decide +kernel
theorem dX7_pair_11 : decode cX7_pair 11 = .ok (.isub, 1) := by decide +kernel
theorem dX7_pair_12 : decode cX7_pair 12 = .ok (.i2l, 1) := by decide +kernel
theorem dX7_pair_13 : decode cX7_pair 13 = .ok (.invokestatic 68, 3) := by decide +kernel
theorem dX7_pair_16 : decode cX7_pair 16 = .ok (.ifCond .eq 34, 3) := by decide +kernel
theorem dX7_pair_19 : decode cX7_pair 19 = .ok (.bipush 26, 2) := by decide +kernel
theorem dX7_pair_21 : decode cX7_pair 21 = .ok (.aload_n 0, 1) := by decide +kernel
theorem dX7_pair_22 : decode cX7_pair 22 = .ok (.getfield 7, 3) := by decide +kernel
theorem dX7_pair_25 : decode cX7_pair 25 = .ok (.bipush 11, 2) := by decide +kernel
theorem dX7_pair_27 : decode cX7_pair 27 = .ok (.iconst 2, 1) := by decide +kernel
theorem dX7_pair_28 : decode cX7_pair 28 = .ok (.iload_n 1, 1) := by decide +kernel
theorem dX7_pair_29 : decode cX7_pair 29 = .ok (.imul, 1) := by decide +kernel
theorem dX7_pair_30 : decode cX7_pair 30 = .ok (.iadd, 1) := by decide +kernel
theorem dX7_pair_31 : decode cX7_pair 31 = .ok (.iaload, 1) := by decide +kernel
theorem dX7_pair_32 : decode cX7_pair 32 = .ok (.imul, 1) := by decide +kernel
theorem dX7_pair_33 : decode cX7_pair 33 = .ok (.aload_n 0, 1) := by decide +kernel
theorem dX7_pair_34 : decode cX7_pair 34 = .ok (.getfield 7, 3) := by decide +kernel
theorem dX7_pair_37 : decode cX7_pair 37 = .ok (.bipush 11, 2) := by decide +kernel
theorem dX7_pair_39 : decode cX7_pair 39 = .ok (.iconst 2, 1) := by decide +kernel
theorem dX7_pair_40 : decode cX7_pair 40 = .ok (.iload_n 1, 1) := by decide +kernel
theorem dX7_pair_41 : decode cX7_pair 41 = .ok (.imul, 1) := by decide +kernel
theorem dX7_pair_42 : decode cX7_pair 42 = .ok (.iadd, 1) := by decide +kernel
theorem dX7_pair_43 : decode cX7_pair 43 = .ok (.iconst 1, 1) := by decide +kernel
theorem dX7_pair_44 : decode cX7_pair 44 = .ok (.iadd, 1) := by decide +kernel
theorem dX7_pair_45 : decode cX7_pair 45 = .ok (.iaload, 1) := by decide +kernel
theorem dX7_pair_46 : decode cX7_pair 46 = .ok (.iadd, 1) := by decide +kernel
theorem dX7_pair_47 : decode cX7_pair 47 = .ok (.goto 4, 3) := by decide +kernel
theorem dX7_pair_50 : decode cX7_pair 50 = .ok (.iconst (-1), 1) := by decide +kernel
theorem dX7_pair_51 : decode cX7_pair 51 = .ok (.ireturn, 1) := by decide +kernel
theorem dX7_sets_0 : decode cX7_sets 0 = .ok (.iload_n 1, 1) := by decide +kernel
theorem dX7_sets_1 : decode cX7_sets 1 = .ok (.ifCond .ne 5, 3) := by decide +kernel
theorem dX7_sets_4 : decode cX7_sets 4 = .ok (.iconst (-1), 1) := by decide +kernel
theorem dX7_sets_5 : decode cX7_sets 5 = .ok (.ireturn, 1) := by decide +kernel
theorem dX7_sets_6 : decode cX7_sets 6 = .ok (.aload_n 0, 1) := by decide +kernel
theorem dX7_sets_7 : decode cX7_sets 7 = .ok (.getfield 7, 3) := by decide +kernel
theorem dX7_sets_10 : decode cX7_sets 10 = .ok (.iload_n 2, 1) := by decide +kernel
theorem dX7_sets_11 : decode cX7_sets 11 = .ok (.iaload, 1) := by decide +kernel
theorem dX7_sets_12 : decode cX7_sets 12 = .ok (.istore 4, 2) := by decide +kernel
theorem dX7_sets_14 : decode cX7_sets 14 = .ok (.aload_n 0, 1) := by decide +kernel
theorem dX7_sets_15 : decode cX7_sets 15 = .ok (.getfield 7, 3) := by decide +kernel
theorem dX7_sets_18 : decode cX7_sets 18 = .ok (.iload_n 2, 1) := by decide +kernel
theorem dX7_sets_19 : decode cX7_sets 19 = .ok (.iload_n 3, 1) := by decide +kernel
theorem dX7_sets_20 : decode cX7_sets 20 = .ok (.iastore, 1) := by decide +kernel
theorem dX7_sets_21 : decode cX7_sets 21 = .ok (.iload 4, 2) := by decide +kernel
theorem dX7_sets_23 : decode cX7_sets 23 = .ok (.ireturn, 1) := by decide +kernel
theorem dX7_odd_0 : decode cX7_odd 0 = .ok (.aload_n 0, 1) := by decide +kernel
theorem dX7_odd_1 : decode cX7_odd 1 = .ok (.aload_n 0, 1) := by decide +kernel
theorem dX7_odd_2 : decode cX7_odd 2 = .ok (.iload_n 1, 1) := by decide +kernel
theorem dX7_odd_3 : decode cX7_odd 3 = .ok (.invokevirtual 160, 3) := by decide +kernel
theorem dX7_odd_6 : decode cX7_odd 6 = .ok (.ifCond .eq 19, 3) := by decide +kernel
theorem dX7_odd_9 : decode cX7_odd 9 = .ok (.iload_n 2, 1) := by decide +kernel
theorem dX7_odd_10 : decode cX7_odd 10 = .ok (.i2l, 1) := by decide +kernel
theorem dX7_odd_11 : decode cX7_odd 11 = .ok (.lconst 1, 1) := by decide +kernel
theorem dX7_odd_12 : decode cX7_odd 12 = .ok (.ldc2_w 165, 3) := by decide +kernel
theorem dX7_odd_15 : decode cX7_odd 15 = .ok (.invokestatic 68, 3) := by decide +kernel
theorem dX7_odd_18 : decode cX7_odd 18 = .ok (.ifCond .eq 7, 3) := by decide +kernel
theorem dX7_odd_21 : decode cX7_odd 21 = .ok (.iconst 1, 1) := by decide +kernel
theorem dX7_odd_22 : decode cX7_odd 22 = .ok (.goto 4, 3) := by decide +kernel
theorem dX7_odd_25 : decode cX7_odd 25 = .ok (.iconst 0, 1) := by decide +kernel
theorem dX7_odd_26 : decode cX7_odd 26 = .ok (.iload_n 1, 1) := by decide +kernel
theorem dX7_odd_27 : decode cX7_odd 27 = .ok (.iload_n 2, 1) := by decide +kernel
theorem dX7_odd_28 : decode cX7_odd 28 = .ok (.invokevirtual 167, 3) := by decide +kernel
theorem dX7_odd_31 : decode cX7_odd 31 = .ok (.ireturn, 1) := by decide +kernel
theorem dX7_law_0 : decode cX7_law 0 = .ok (.iload_n 1, 1) := by decide +kernel
theorem dX7_law_1 : decode cX7_law 1 = .ok (.i2l, 1) := by decide +kernel
theorem dX7_law_2 : decode cX7_law 2 = .ok (.lconst 0, 1) := by decide +kernel
theorem dX7_law_3 : decode cX7_law 3 = .ok (.ldc2_w 171, 3) := by decide +kernel
theorem dX7_law_6 : decode cX7_law 6 = .ok (.invokestatic 68, 3) := by decide +kernel
theorem dX7_law_9 : decode cX7_law 9 = .ok (.ifCond .eq 15, 3) := by decide +kernel
theorem dX7_law_12 : decode cX7_law 12 = .ok (.iload_n 2, 1) := by decide +kernel
theorem dX7_law_13 : decode cX7_law 13 = .ok (.i2l, 1) := by decide +kernel
theorem dX7_law_14 : decode cX7_law 14 = .ok (.lconst 0, 1) := by decide +kernel
theorem dX7_law_15 : decode cX7_law 15 = .ok (.ldc2_w 173, 3) := by decide +kernel
theorem dX7_law_18 : decode cX7_law 18 = .ok (.invokestatic 68, 3) := by decide +kernel
theorem dX7_law_21 : decode cX7_law 21 = .ok (.ifCond .ne 5, 3) := by decide +kernel
theorem dX7_law_24 : decode cX7_law 24 = .ok (.iconst (-1), 1) := by decide +kernel
theorem dX7_law_25 : decode cX7_law 25 = .ok (.ireturn, 1) := by decide +kernel
theorem dX7_law_26 : decode cX7_law 26 = .ok (.aload_n 0, 1) := by decide +kernel
theorem dX7_law_27 : decode cX7_law 27 = .ok (.getfield 7, 3) := by decide +kernel
theorem dX7_law_30 : decode cX7_law 30 = .ok (.bipush 10, 2) := by decide +kernel
theorem dX7_law_32 : decode cX7_law 32 = .ok (.iload_n 2, 1) := by decide +kernel
theorem dX7_law_33 : decode cX7_law 33 = .ok (.iastore, 1) := by decide +kernel
theorem dX7_law_34 : decode cX7_law 34 = .ok (.aload_n 0, 1) := by decide +kernel
theorem dX7_law_35 : decode cX7_law 35 = .ok (.iconst 1, 1) := by decide +kernel
theorem dX7_law_36 : decode cX7_law 36 = .ok (.bipush 9, 2) := by decide +kernel
theorem dX7_law_38 : decode cX7_law 38 = .ok (.iload_n 1, 1) := by decide +kernel
theorem dX7_law_39 : decode cX7_law 39 = .ok (.invokevirtual 167, 3) := by decide +kernel
theorem dX7_law_42 : decode cX7_law 42 = .ok (.ireturn, 1) := by decide +kernel
theorem dX7_mix_0 : decode cX7_mix 0 = .ok (.iload_n 1, 1) := by decide +kernel
theorem dX7_mix_1 : decode cX7_mix 1 = .ok (.invokestatic 175, 3) := by decide +kernel
theorem dX7_mix_4 : decode cX7_mix 4 = .ok (.ifCond .eq 15, 3) := by decide +kernel
theorem dX7_mix_7 : decode cX7_mix 7 = .ok (.iload_n 2, 1) := by decide +kernel
theorem dX7_mix_8 : decode cX7_mix 8 = .ok (.invokestatic 175, 3) := by decide +kernel
theorem dX7_mix_11 : decode cX7_mix 11 = .ok (.ifCond .eq 8, 3) := by decide +kernel
theorem dX7_mix_14 : decode cX7_mix 14 = .ok (.iload_n 1, 1) := by decide +kernel
theorem dX7_mix_15 : decode cX7_mix 15 = .ok (.iload_n 2, 1) := by decide +kernel
theorem dX7_mix_16 : decode cX7_mix 16 = .ok (.if_icmp .ne 5, 3) := by decide +kernel
theorem dX7_mix_19 : decode cX7_mix 19 = .ok (.iconst (-1), 1) := by decide +kernel
theorem dX7_mix_20 : decode cX7_mix 20 = .ok (.ireturn, 1) := by decide +kernel
theorem dX7_mix_21 : decode cX7_mix 21 = .ok (.aload_n 0, 1) := by decide +kernel
theorem dX7_mix_22 : decode cX7_mix 22 = .ok (.getfield 7, 3) := by decide +kernel
theorem dX7_mix_25 : decode cX7_mix 25 = .ok (.bipush 21, 2) := by decide +kernel
theorem dX7_mix_27 : decode cX7_mix 27 = .ok (.iaload, 1) := by decide +kernel
theorem dX7_mix_28 : decode cX7_mix 28 = .ok (.iconst 5, 1) := by decide +kernel
theorem dX7_mix_29 : decode cX7_mix 29 = .ok (.if_icmp .ne 6, 3) := by decide +kernel
theorem dX7_mix_32 : decode cX7_mix 32 = .ok (.bipush (-3), 2) := by decide +kernel
theorem dX7_mix_34 : decode cX7_mix 34 = .ok (.ireturn, 1) := by decide +kernel
theorem dX7_mix_35 : decode cX7_mix 35 = .ok (.aload_n 0, 1) := by decide +kernel
theorem dX7_mix_36 : decode cX7_mix 36 = .ok (.getfield 7, 3) := by decide +kernel
theorem dX7_mix_39 : decode cX7_mix 39 = .ok (.bipush 11, 2) := by decide +kernel
theorem dX7_mix_41 : decode cX7_mix 41 = .ok (.iconst 2, 1) := by decide +kernel
theorem dX7_mix_42 : decode cX7_mix 42 = .ok (.aload_n 0, 1) := by decide +kernel
theorem dX7_mix_43 : decode cX7_mix 43 = .ok (.getfield 7, 3) := by decide +kernel
theorem dX7_mix_46 : decode cX7_mix 46 = .ok (.bipush 21, 2) := by decide +kernel
theorem dX7_mix_48 : decode cX7_mix 48 = .ok (.iaload, 1) := by decide +kernel
theorem dX7_mix_49 : decode cX7_mix 49 = .ok (.imul, 1) := by decide +kernel
theorem dX7_mix_50 : decode cX7_mix 50 = .ok (.iadd, 1) := by decide +kernel
theorem dX7_mix_51 : decode cX7_mix 51 = .ok (.iload_n 1, 1) := by decide +kernel
theorem dX7_mix_52 : decode cX7_mix 52 = .ok (.iastore, 1) := by decide +kernel
theorem dX7_mix_53 : decode cX7_mix 53 = .ok (.aload_n 0, 1) := by decide +kernel
theorem dX7_mix_54 : decode cX7_mix 54 = .ok (.getfield 7, 3) := by decide +kernel
theorem dX7_mix_57 : decode cX7_mix 57 = .ok (.bipush 11, 2) := by decide +kernel
theorem dX7_mix_59 : decode cX7_mix 59 = .ok (.iconst 2, 1) := by decide +kernel
theorem dX7_mix_60 : decode cX7_mix 60 = .ok (.aload_n 0, 1) := by decide +kernel
theorem dX7_mix_61 : decode cX7_mix 61 = .ok (.getfield 7, 3) := by decide +kernel
theorem dX7_mix_64 : decode cX7_mix 64 = .ok (.bipush 21, 2) := by decide +kernel
theorem dX7_mix_66 : decode cX7_mix 66 = .ok (.iaload, 1) := by decide +kernel
theorem dX7_mix_67 : decode cX7_mix 67 = .ok (.imul, 1) := by decide +kernel
theorem dX7_mix_68 : decode cX7_mix 68 = .ok (.iadd, 1) := by decide +kernel
theorem dX7_mix_69 : decode cX7_mix 69 = .ok (.iconst 1, 1) := by decide +kernel
theorem dX7_mix_70 : decode cX7_mix 70 = .ok (.iadd, 1) := by decide +kernel
theorem dX7_mix_71 : decode cX7_mix 71 = .ok (.iload_n 2, 1) := by decide +kernel
theorem dX7_mix_72 : decode cX7_mix 72 = .ok (.iastore, 1) := by decide +kernel
theorem dX7_mix_73 : decode cX7_mix 73 = .ok (.aload_n 0, 1) := by decide +kernel
theorem dX7_mix_74 : decode cX7_mix 74 = .ok (.getfield 7, 3) := by decide +kernel
theorem dX7_mix_77 : decode cX7_mix 77 = .ok (.bipush 21, 2) := by decide +kernel
theorem dX7_mix_79 : decode cX7_mix 79 = .ok (.dup2, 1) := by decide +kernel
theorem dX7_mix_80 : decode cX7_mix 80 = .ok (.iaload, 1) := by decide +kernel
theorem dX7_mix_81 : decode cX7_mix 81 = .ok (.iconst 1, 1) := by decide +kernel
theorem dX7_mix_82 : decode cX7_mix 82 = .ok (.iadd, 1) := by decide +kernel
theorem dX7_mix_83 : decode cX7_mix 83 = .ok (.iastore, 1) := by decide +kernel
theorem dX7_mix_84 : decode cX7_mix 84 = .ok (.aload_n 0, 1) := by decide +kernel
theorem dX7_mix_85 : decode cX7_mix 85 = .ok (.getfield 7, 3) := by decide +kernel
theorem dX7_mix_88 : decode cX7_mix 88 = .ok (.bipush 21, 2) := by decide +kernel
theorem dX7_mix_90 : decode cX7_mix 90 = .ok (.iaload, 1) := by decide +kernel
theorem dX7_mix_91 : decode cX7_mix 91 = .ok (.ireturn, 1) := by decide +kernel
theorem dX7_part_0 : decode cX7_part 0 = .ok (.aload_n 0, 1) := by decide +kernel
theorem dX7_part_1 : decode cX7_part 1 = .ok (.iload_n 1, 1) := by decide +kernel
theorem dX7_part_2 : decode cX7_part 2 = .ok (.i2l, 1) := by decide +kernel
theorem dX7_part_3 : decode cX7_part 3 = .ok (.lconst 0, 1) := by decide +kernel
theorem dX7_part_4 : decode cX7_part 4 = .ok (.aload_n 0, 1) := by decide +kernel
theorem dX7_part_5 : decode cX7_part 5 = .ok (.getfield 7, 3) := by decide +kernel
theorem dX7_part_8 : decode cX7_part 8 = .ok (.bipush 21, 2) := by decide +kernel
theorem dX7_part_10 : decode cX7_part 10 = .ok (.iaload, 1) := by decide +kernel
theorem dX7_part_11 : decode cX7_part 11 = .ok (.i2l, 1) := by decide +kernel
theorem dX7_part_12 : decode cX7_part 12 = .ok (.invokestatic 68, 3) := by decide +kernel
theorem dX7_part_15 : decode cX7_part 15 = .ok (.bipush 21, 2) := by decide +kernel
theorem dX7_part_17 : decode cX7_part 17 = .ok (.iload_n 1, 1) := by decide +kernel
theorem dX7_part_18 : decode cX7_part 18 = .ok (.invokevirtual 167, 3) := by decide +kernel
theorem dX7_part_21 : decode cX7_part 21 = .ok (.ireturn, 1) := by decide +kernel
theorem dX7_vowel_0 : decode cX7_vowel 0 = .ok (.iload_n 0, 1) := by decide +kernel
theorem dX7_vowel_1 : decode cX7_vowel 1 = .ok (.ifCond .eq 26, 3) := by decide +kernel
theorem dX7_vowel_4 : decode cX7_vowel 4 = .ok (.iload_n 0, 1) := by decide +kernel
theorem dX7_vowel_5 : decode cX7_vowel 5 = .ok (.iconst 4, 1) := by decide +kernel
theorem dX7_vowel_6 : decode cX7_vowel 6 = .ok (.if_icmp .eq 21, 3) := by decide +kernel
theorem dX7_vowel_9 : decode cX7_vowel 9 = .ok (.iload_n 0, 1) := by decide +kernel
theorem dX7_vowel_10 : decode cX7_vowel 10 = .ok (.bipush 8, 2) := by decide +kernel
theorem dX7_vowel_12 : decode cX7_vowel 12 = .ok (.if_icmp .eq 15, 3) := by decide +kernel
theorem dX7_vowel_15 : decode cX7_vowel 15 = .ok (.iload_n 0, 1) := by decide +kernel
theorem dX7_vowel_16 : decode cX7_vowel 16 = .ok (.bipush 14, 2) := by decide +kernel
theorem dX7_vowel_18 : decode cX7_vowel 18 = .ok (.if_icmp .eq 9, 3) := by decide +kernel
theorem dX7_vowel_21 : decode cX7_vowel 21 = .ok (.iload_n 0, 1) := by decide +kernel
theorem dX7_vowel_22 : decode cX7_vowel 22 = .ok (.bipush 20, 2) := by decide +kernel
theorem dX7_vowel_24 : decode cX7_vowel 24 = .ok (.if_icmp .ne 7, 3) := by decide +kernel
theorem dX7_vowel_27 : decode cX7_vowel 27 = .ok (.iconst 1, 1) := by decide +kernel
theorem dX7_vowel_28 : decode cX7_vowel 28 = .ok (.goto 4, 3) := by decide +kernel
theorem dX7_vowel_31 : decode cX7_vowel 31 = .ok (.iconst 0, 1) := by decide +kernel
theorem dX7_vowel_32 : decode cX7_vowel 32 = .ok (.ireturn, 1) := by decide +kernel
theorem dX7_apart_0 : decode cX7_apart 0 = .ok (.iload_n 0, 1) := by decide +kernel
theorem dX7_apart_1 : decode cX7_apart 1 = .ok (.iload_n 1, 1) := by decide +kernel
theorem dX7_apart_2 : decode cX7_apart 2 = .ok (.if_icmp .ge 9, 3) := by decide +kernel
theorem dX7_apart_5 : decode cX7_apart 5 = .ok (.iload_n 1, 1) := by decide +kernel
theorem dX7_apart_6 : decode cX7_apart 6 = .ok (.iload_n 0, 1) := by decide +kernel
theorem dX7_apart_7 : decode cX7_apart 7 = .ok (.isub, 1) := by decide +kernel
theorem dX7_apart_8 : decode cX7_apart 8 = .ok (.goto 6, 3) := by decide +kernel
theorem dX7_apart_11 : decode cX7_apart 11 = .ok (.iload_n 0, 1) := by decide +kernel
theorem dX7_apart_12 : decode cX7_apart 12 = .ok (.iload_n 1, 1) := by decide +kernel
theorem dX7_apart_13 : decode cX7_apart 13 = .ok (.isub, 1) := by decide +kernel
theorem dX7_apart_14 : decode cX7_apart 14 = .ok (.ireturn, 1) := by decide +kernel
theorem dX7_unlike_0 : decode cX7_unlike 0 = .ok (.iconst 0, 1) := by decide +kernel
theorem dX7_unlike_1 : decode cX7_unlike 1 = .ok (.istore 4, 2) := by decide +kernel
theorem dX7_unlike_3 : decode cX7_unlike 3 = .ok (.iconst 1, 1) := by decide +kernel
theorem dX7_unlike_4 : decode cX7_unlike 4 = .ok (.istore 5, 2) := by decide +kernel
theorem dX7_unlike_6 : decode cX7_unlike 6 = .ok (.iload 5, 2) := by decide +kernel
theorem dX7_unlike_8 : decode cX7_unlike 8 = .ok (.iload_n 3, 1) := by decide +kernel
theorem dX7_unlike_9 : decode cX7_unlike 9 = .ok (.if_icmp .gt 46, 3) := by decide +kernel
theorem dX7_unlike_12 : decode cX7_unlike 12 = .ok (.iload 4, 2) := by decide +kernel
theorem dX7_unlike_14 : decode cX7_unlike 14 = .ok (.aload_n 0, 1) := by decide +kernel
theorem dX7_unlike_15 : decode cX7_unlike 15 = .ok (.getfield 13, 3) := by decide +kernel
theorem dX7_unlike_18 : decode cX7_unlike 18 = .ok (.bipush 9, 2) := by decide +kernel
theorem dX7_unlike_20 : decode cX7_unlike 20 = .ok (.iload_n 1, 1) := by decide +kernel
theorem dX7_unlike_21 : decode cX7_unlike 21 = .ok (.imul, 1) := by decide +kernel
theorem dX7_unlike_22 : decode cX7_unlike 22 = .ok (.iload 5, 2) := by decide +kernel
theorem dX7_unlike_24 : decode cX7_unlike 24 = .ok (.iadd, 1) := by decide +kernel
theorem dX7_unlike_25 : decode cX7_unlike 25 = .ok (.iaload, 1) := by decide +kernel
theorem dX7_unlike_26 : decode cX7_unlike 26 = .ok (.aload_n 0, 1) := by decide +kernel
theorem dX7_unlike_27 : decode cX7_unlike 27 = .ok (.getfield 13, 3) := by decide +kernel
theorem dX7_unlike_30 : decode cX7_unlike 30 = .ok (.bipush 9, 2) := by decide +kernel
theorem dX7_unlike_32 : decode cX7_unlike 32 = .ok (.iload_n 2, 1) := by decide +kernel
theorem dX7_unlike_33 : decode cX7_unlike 33 = .ok (.imul, 1) := by decide +kernel
theorem dX7_unlike_34 : decode cX7_unlike 34 = .ok (.iload 5, 2) := by decide +kernel
theorem dX7_unlike_36 : decode cX7_unlike 36 = .ok (.iadd, 1) := by decide +kernel
theorem dX7_unlike_37 : decode cX7_unlike 37 = .ok (.iaload, 1) := by decide +kernel
theorem dX7_unlike_38 : decode cX7_unlike 38 = .ok (.if_icmp .ne 7, 3) := by decide +kernel
theorem dX7_unlike_41 : decode cX7_unlike 41 = .ok (.iconst 0, 1) := by decide +kernel
theorem dX7_unlike_42 : decode cX7_unlike 42 = .ok (.goto 4, 3) := by decide +kernel
theorem dX7_unlike_45 : decode cX7_unlike 45 = .ok (.iconst 1, 1) := by decide +kernel
theorem dX7_unlike_46 : decode cX7_unlike 46 = .ok (.iadd, 1) := by decide +kernel
theorem dX7_unlike_47 : decode cX7_unlike 47 = .ok (.istore 4, 2) := by decide +kernel
theorem dX7_unlike_49 : decode cX7_unlike 49 = .ok (.iinc 5 1, 3) := by decide +kernel
theorem dX7_unlike_52 : decode cX7_unlike 52 = .ok (.goto (-46), 3) := by decide +kernel
theorem dX7_unlike_55 : decode cX7_unlike 55 = .ok (.iload 4, 2) := by decide +kernel
theorem dX7_unlike_57 : decode cX7_unlike 57 = .ok (.ireturn, 1) := by decide +kernel
theorem dX7_lettersOf_0 : decode cX7_lettersOf 0 = .ok (.iconst 0, 1) := by decide +kernel
theorem dX7_lettersOf_1 : decode cX7_lettersOf 1 = .ok (.istore_n 2, 1) := by decide +kernel
theorem dX7_lettersOf_2 : decode cX7_lettersOf 2 = .ok (.iconst 1, 1) := by decide +kernel
theorem dX7_lettersOf_3 : decode cX7_lettersOf 3 = .ok (.istore_n 3, 1) := by decide +kernel
theorem dX7_lettersOf_4 : decode cX7_lettersOf 4 = .ok (.iload_n 3, 1) := by decide +kernel
theorem dX7_lettersOf_5 : decode cX7_lettersOf 5 = .ok (.aload_n 0, 1) := by decide +kernel
theorem dX7_lettersOf_6 : decode cX7_lettersOf 6 = .ok (.getfield 13, 3) := by decide +kernel
theorem dX7_lettersOf_9 : decode cX7_lettersOf 9 = .ok (.bipush 9, 2) := by decide +kernel
theorem dX7_lettersOf_11 : decode cX7_lettersOf 11 = .ok (.iload_n 1, 1) := by decide +kernel
theorem dX7_lettersOf_12 : decode cX7_lettersOf 12 = .ok (.imul, 1) := by decide +kernel
theorem dX7_lettersOf_13 : decode cX7_lettersOf 13 = .ok (.iaload, 1) := by decide +kernel
theorem dX7_lettersOf_14 : decode cX7_lettersOf 14 = .ok (.if_icmp .gt 25, 3) := by decide +kernel
theorem dX7_lettersOf_17 : decode cX7_lettersOf 17 = .ok (.iload_n 2, 1) := by decide +kernel
theorem dX7_lettersOf_18 : decode cX7_lettersOf 18 = .ok (.iconst 1, 1) := by decide +kernel
theorem dX7_lettersOf_19 : decode cX7_lettersOf 19 = .ok (.aload_n 0, 1) := by decide +kernel
theorem dX7_lettersOf_20 : decode cX7_lettersOf 20 = .ok (.getfield 13, 3) := by decide +kernel
theorem dX7_lettersOf_23 : decode cX7_lettersOf 23 = .ok (.bipush 9, 2) := by decide +kernel
theorem dX7_lettersOf_25 : decode cX7_lettersOf 25 = .ok (.iload_n 1, 1) := by decide +kernel
theorem dX7_lettersOf_26 : decode cX7_lettersOf 26 = .ok (.imul, 1) := by decide +kernel
theorem dX7_lettersOf_27 : decode cX7_lettersOf 27 = .ok (.iload_n 3, 1) := by decide +kernel
theorem dX7_lettersOf_28 : decode cX7_lettersOf 28 = .ok (.iadd, 1) := by decide +kernel
theorem dX7_lettersOf_29 : decode cX7_lettersOf 29 = .ok (.iaload, 1) := by decide +kernel
theorem dX7_lettersOf_30 : decode cX7_lettersOf 30 = .ok (.ishl, 1) := by decide +kernel
theorem dX7_lettersOf_31 : decode cX7_lettersOf 31 = .ok (.ior, 1) := by decide +kernel
theorem dX7_lettersOf_32 : decode cX7_lettersOf 32 = .ok (.istore_n 2, 1) := by decide +kernel
theorem dX7_lettersOf_33 : decode cX7_lettersOf 33 = .ok (.iinc 3 1, 3) := by decide +kernel
theorem dX7_lettersOf_36 : decode cX7_lettersOf 36 = .ok (.goto (-32), 3) := by decide +kernel
theorem dX7_lettersOf_39 : decode cX7_lettersOf 39 = .ok (.iload_n 2, 1) := by decide +kernel
theorem dX7_lettersOf_40 : decode cX7_lettersOf 40 = .ok (.ireturn, 1) := by decide +kernel
theorem dX7_vowelsOf_0 : decode cX7_vowelsOf 0 = .ok (.iconst 0, 1) := by decide +kernel
theorem dX7_vowelsOf_1 : decode cX7_vowelsOf 1 = .ok (.istore_n 2, 1) := by decide +kernel
theorem dX7_vowelsOf_2 : decode cX7_vowelsOf 2 = .ok (.iconst 1, 1) := by decide +kernel
theorem dX7_vowelsOf_3 : decode cX7_vowelsOf 3 = .ok (.istore_n 3, 1) := by decide +kernel
theorem dX7_vowelsOf_4 : decode cX7_vowelsOf 4 = .ok (.iload_n 3, 1) := by decide +kernel
theorem dX7_vowelsOf_5 : decode cX7_vowelsOf 5 = .ok (.aload_n 0, 1) := by decide +kernel
theorem dX7_vowelsOf_6 : decode cX7_vowelsOf 6 = .ok (.getfield 13, 3) := by decide +kernel
theorem dX7_vowelsOf_9 : decode cX7_vowelsOf 9 = .ok (.bipush 9, 2) := by decide +kernel
theorem dX7_vowelsOf_11 : decode cX7_vowelsOf 11 = .ok (.iload_n 1, 1) := by decide +kernel
theorem dX7_vowelsOf_12 : decode cX7_vowelsOf 12 = .ok (.imul, 1) := by decide +kernel
theorem dX7_vowelsOf_13 : decode cX7_vowelsOf 13 = .ok (.iaload, 1) := by decide +kernel
theorem dX7_vowelsOf_14 : decode cX7_vowelsOf 14 = .ok (.if_icmp .gt 26, 3) := by decide +kernel
theorem dX7_vowelsOf_17 : decode cX7_vowelsOf 17 = .ok (.iload_n 2, 1) := by decide +kernel
theorem dX7_vowelsOf_18 : decode cX7_vowelsOf 18 = .ok (.aload_n 0, 1) := by decide +kernel
theorem dX7_vowelsOf_19 : decode cX7_vowelsOf 19 = .ok (.getfield 13, 3) := by decide +kernel
theorem dX7_vowelsOf_22 : decode cX7_vowelsOf 22 = .ok (.bipush 9, 2) := by decide +kernel
theorem dX7_vowelsOf_24 : decode cX7_vowelsOf 24 = .ok (.iload_n 1, 1) := by decide +kernel
theorem dX7_vowelsOf_25 : decode cX7_vowelsOf 25 = .ok (.imul, 1) := by decide +kernel
theorem dX7_vowelsOf_26 : decode cX7_vowelsOf 26 = .ok (.iload_n 3, 1) := by decide +kernel
theorem dX7_vowelsOf_27 : decode cX7_vowelsOf 27 = .ok (.iadd, 1) := by decide +kernel
theorem dX7_vowelsOf_28 : decode cX7_vowelsOf 28 = .ok (.iaload, 1) := by decide +kernel
theorem dX7_vowelsOf_29 : decode cX7_vowelsOf 29 = .ok (.invokestatic 178, 3) := by decide +kernel
theorem dX7_vowelsOf_32 : decode cX7_vowelsOf 32 = .ok (.iadd, 1) := by decide +kernel
theorem dX7_vowelsOf_33 : decode cX7_vowelsOf 33 = .ok (.istore_n 2, 1) := by decide +kernel
theorem dX7_vowelsOf_34 : decode cX7_vowelsOf 34 = .ok (.iinc 3 1, 3) := by decide +kernel
theorem dX7_vowelsOf_37 : decode cX7_vowelsOf 37 = .ok (.goto (-33), 3) := by decide +kernel
theorem dX7_vowelsOf_40 : decode cX7_vowelsOf 40 = .ok (.iload_n 2, 1) := by decide +kernel
theorem dX7_vowelsOf_41 : decode cX7_vowelsOf 41 = .ok (.ireturn, 1) := by decide +kernel
theorem dX7_bitsOf_0 : decode cX7_bitsOf 0 = .ok (.iconst 0, 1) := by decide +kernel
theorem dX7_bitsOf_1 : decode cX7_bitsOf 1 = .ok (.istore_n 1, 1) := by decide +kernel
theorem dX7_bitsOf_2 : decode cX7_bitsOf 2 = .ok (.iconst 0, 1) := by decide +kernel
theorem dX7_bitsOf_3 : decode cX7_bitsOf 3 = .ok (.istore_n 2, 1) := by decide +kernel
theorem dX7_bitsOf_4 : decode cX7_bitsOf 4 = .ok (.iload_n 2, 1) := by decide +kernel
theorem dX7_bitsOf_5 : decode cX7_bitsOf 5 = .ok (.bipush 26, 2) := by decide +kernel
theorem dX7_bitsOf_7 : decode cX7_bitsOf 7 = .ok (.if_icmp .ge 17, 3) := by decide +kernel
theorem dX7_bitsOf_10 : decode cX7_bitsOf 10 = .ok (.iload_n 1, 1) := by decide +kernel
theorem dX7_bitsOf_11 : decode cX7_bitsOf 11 = .ok (.iload_n 0, 1) := by decide +kernel
theorem dX7_bitsOf_12 : decode cX7_bitsOf 12 = .ok (.iload_n 2, 1) := by decide +kernel
theorem dX7_bitsOf_13 : decode cX7_bitsOf 13 = .ok (.ishr, 1) := by decide +kernel
theorem dX7_bitsOf_14 : decode cX7_bitsOf 14 = .ok (.iconst 1, 1) := by decide +kernel
theorem dX7_bitsOf_15 : decode cX7_bitsOf 15 = .ok (.iand, 1) := by decide +kernel
theorem dX7_bitsOf_16 : decode cX7_bitsOf 16 = .ok (.iadd, 1) := by decide +kernel
theorem dX7_bitsOf_17 : decode cX7_bitsOf 17 = .ok (.istore_n 1, 1) := by decide +kernel
theorem dX7_bitsOf_18 : decode cX7_bitsOf 18 = .ok (.iinc 2 1, 3) := by decide +kernel
theorem dX7_bitsOf_21 : decode cX7_bitsOf 21 = .ok (.goto (-17), 3) := by decide +kernel
theorem dX7_bitsOf_24 : decode cX7_bitsOf 24 = .ok (.iload_n 1, 1) := by decide +kernel
theorem dX7_bitsOf_25 : decode cX7_bitsOf 25 = .ok (.ireturn, 1) := by decide +kernel
theorem dX7_areNear_0 : decode cX7_areNear 0 = .ok (.aload_n 0, 1) := by decide +kernel
theorem dX7_areNear_1 : decode cX7_areNear 1 = .ok (.getfield 13, 3) := by decide +kernel
theorem dX7_areNear_4 : decode cX7_areNear 4 = .ok (.bipush 9, 2) := by decide +kernel
theorem dX7_areNear_6 : decode cX7_areNear 6 = .ok (.iload_n 1, 1) := by decide +kernel
theorem dX7_areNear_7 : decode cX7_areNear 7 = .ok (.imul, 1) := by decide +kernel
theorem dX7_areNear_8 : decode cX7_areNear 8 = .ok (.iaload, 1) := by decide +kernel
theorem dX7_areNear_9 : decode cX7_areNear 9 = .ok (.istore 5, 2) := by decide +kernel
theorem dX7_areNear_11 : decode cX7_areNear 11 = .ok (.aload_n 0, 1) := by decide +kernel
theorem dX7_areNear_12 : decode cX7_areNear 12 = .ok (.getfield 13, 3) := by decide +kernel
theorem dX7_areNear_15 : decode cX7_areNear 15 = .ok (.bipush 9, 2) := by decide +kernel
theorem dX7_areNear_17 : decode cX7_areNear 17 = .ok (.iload_n 2, 1) := by decide +kernel
theorem dX7_areNear_18 : decode cX7_areNear 18 = .ok (.imul, 1) := by decide +kernel
theorem dX7_areNear_19 : decode cX7_areNear 19 = .ok (.iaload, 1) := by decide +kernel
theorem dX7_areNear_20 : decode cX7_areNear 20 = .ok (.istore 6, 2) := by decide +kernel
theorem dX7_areNear_22 : decode cX7_areNear 22 = .ok (.iload_n 3, 1) := by decide +kernel
theorem dX7_areNear_23 : decode cX7_areNear 23 = .ok (.tableswitch 129 0 3 #[29, 55, 86, 104], 29) := by decide +kernel
theorem dX7_areNear_52 : decode cX7_areNear 52 = .ok (.iload 5, 2) := by decide +kernel
theorem dX7_areNear_54 : decode cX7_areNear 54 = .ok (.iload 6, 2) := by decide +kernel
theorem dX7_areNear_56 : decode cX7_areNear 56 = .ok (.if_icmp .ne 20, 3) := by decide +kernel
theorem dX7_areNear_59 : decode cX7_areNear 59 = .ok (.aload_n 0, 1) := by decide +kernel
theorem dX7_areNear_60 : decode cX7_areNear 60 = .ok (.iload_n 1, 1) := by decide +kernel
theorem dX7_areNear_61 : decode cX7_areNear 61 = .ok (.iload_n 2, 1) := by decide +kernel
theorem dX7_areNear_62 : decode cX7_areNear 62 = .ok (.iload 5, 2) := by decide +kernel
theorem dX7_areNear_64 : decode cX7_areNear 64 = .ok (.invokevirtual 181, 3) := by decide +kernel
theorem dX7_areNear_67 : decode cX7_areNear 67 = .ok (.iload 4, 2) := by decide +kernel
theorem dX7_areNear_69 : decode cX7_areNear 69 = .ok (.if_icmp .gt 7, 3) := by decide +kernel
theorem dX7_areNear_72 : decode cX7_areNear 72 = .ok (.iconst 1, 1) := by decide +kernel
theorem dX7_areNear_73 : decode cX7_areNear 73 = .ok (.goto 4, 3) := by decide +kernel
theorem dX7_areNear_76 : decode cX7_areNear 76 = .ok (.iconst 0, 1) := by decide +kernel
theorem dX7_areNear_77 : decode cX7_areNear 77 = .ok (.ireturn, 1) := by decide +kernel
theorem dX7_areNear_78 : decode cX7_areNear 78 = .ok (.iload 5, 2) := by decide +kernel
theorem dX7_areNear_80 : decode cX7_areNear 80 = .ok (.iload 4, 2) := by decide +kernel
theorem dX7_areNear_82 : decode cX7_areNear 82 = .ok (.if_icmp .lt 25, 3) := by decide +kernel
theorem dX7_areNear_85 : decode cX7_areNear 85 = .ok (.iload 6, 2) := by decide +kernel
theorem dX7_areNear_87 : decode cX7_areNear 87 = .ok (.iload 4, 2) := by decide +kernel
theorem dX7_areNear_89 : decode cX7_areNear 89 = .ok (.if_icmp .lt 18, 3) := by decide +kernel
theorem dX7_areNear_92 : decode cX7_areNear 92 = .ok (.aload_n 0, 1) := by decide +kernel
theorem dX7_areNear_93 : decode cX7_areNear 93 = .ok (.iload_n 1, 1) := by decide +kernel
theorem dX7_areNear_94 : decode cX7_areNear 94 = .ok (.iload_n 2, 1) := by decide +kernel
theorem dX7_areNear_95 : decode cX7_areNear 95 = .ok (.iload 4, 2) := by decide +kernel
theorem dX7_areNear_97 : decode cX7_areNear 97 = .ok (.invokevirtual 181, 3) := by decide +kernel
theorem dX7_areNear_100 : decode cX7_areNear 100 = .ok (.ifCond .ne 7, 3) := by decide +kernel
theorem dX7_areNear_103 : decode cX7_areNear 103 = .ok (.iconst 1, 1) := by decide +kernel
theorem dX7_areNear_104 : decode cX7_areNear 104 = .ok (.goto 4, 3) := by decide +kernel
theorem dX7_areNear_107 : decode cX7_areNear 107 = .ok (.iconst 0, 1) := by decide +kernel
theorem dX7_areNear_108 : decode cX7_areNear 108 = .ok (.ireturn, 1) := by decide +kernel
theorem dX7_areNear_109 : decode cX7_areNear 109 = .ok (.iload 5, 2) := by decide +kernel
theorem dX7_areNear_111 : decode cX7_areNear 111 = .ok (.iload 6, 2) := by decide +kernel
theorem dX7_areNear_113 : decode cX7_areNear 113 = .ok (.invokestatic 185, 3) := by decide +kernel
theorem dX7_areNear_116 : decode cX7_areNear 116 = .ok (.iload 4, 2) := by decide +kernel
theorem dX7_areNear_118 : decode cX7_areNear 118 = .ok (.if_icmp .gt 7, 3) := by decide +kernel
theorem dX7_areNear_121 : decode cX7_areNear 121 = .ok (.iconst 1, 1) := by decide +kernel
theorem dX7_areNear_122 : decode cX7_areNear 122 = .ok (.goto 4, 3) := by decide +kernel
theorem dX7_areNear_125 : decode cX7_areNear 125 = .ok (.iconst 0, 1) := by decide +kernel
theorem dX7_areNear_126 : decode cX7_areNear 126 = .ok (.ireturn, 1) := by decide +kernel
theorem dX7_areNear_127 : decode cX7_areNear 127 = .ok (.aload_n 0, 1) := by decide +kernel
theorem dX7_areNear_128 : decode cX7_areNear 128 = .ok (.iload_n 1, 1) := by decide +kernel
theorem dX7_areNear_129 : decode cX7_areNear 129 = .ok (.invokevirtual 188, 3) := by decide +kernel
theorem dX7_areNear_132 : decode cX7_areNear 132 = .ok (.aload_n 0, 1) := by decide +kernel
theorem dX7_areNear_133 : decode cX7_areNear 133 = .ok (.iload_n 2, 1) := by decide +kernel
theorem dX7_areNear_134 : decode cX7_areNear 134 = .ok (.invokevirtual 188, 3) := by decide +kernel
theorem dX7_areNear_137 : decode cX7_areNear 137 = .ok (.iand, 1) := by decide +kernel
theorem dX7_areNear_138 : decode cX7_areNear 138 = .ok (.invokestatic 191, 3) := by decide +kernel
theorem dX7_areNear_141 : decode cX7_areNear 141 = .ok (.iload 4, 2) := by decide +kernel
theorem dX7_areNear_143 : decode cX7_areNear 143 = .ok (.if_icmp .lt 7, 3) := by decide +kernel
theorem dX7_areNear_146 : decode cX7_areNear 146 = .ok (.iconst 1, 1) := by decide +kernel
theorem dX7_areNear_147 : decode cX7_areNear 147 = .ok (.goto 4, 3) := by decide +kernel
theorem dX7_areNear_150 : decode cX7_areNear 150 = .ok (.iconst 0, 1) := by decide +kernel
theorem dX7_areNear_151 : decode cX7_areNear 151 = .ok (.ireturn, 1) := by decide +kernel
theorem dX7_areNear_152 : decode cX7_areNear 152 = .ok (.aload_n 0, 1) := by decide +kernel
theorem dX7_areNear_153 : decode cX7_areNear 153 = .ok (.iload_n 1, 1) := by decide +kernel
theorem dX7_areNear_154 : decode cX7_areNear 154 = .ok (.invokevirtual 194, 3) := by decide +kernel
theorem dX7_areNear_157 : decode cX7_areNear 157 = .ok (.aload_n 0, 1) := by decide +kernel
theorem dX7_areNear_158 : decode cX7_areNear 158 = .ok (.iload_n 2, 1) := by decide +kernel
theorem dX7_areNear_159 : decode cX7_areNear 159 = .ok (.invokevirtual 194, 3) := by decide +kernel
theorem dX7_areNear_162 : decode cX7_areNear 162 = .ok (.invokestatic 185, 3) := by decide +kernel
theorem dX7_areNear_165 : decode cX7_areNear 165 = .ok (.iload 4, 2) := by decide +kernel
theorem dX7_areNear_167 : decode cX7_areNear 167 = .ok (.if_icmp .gt 7, 3) := by decide +kernel
theorem dX7_areNear_170 : decode cX7_areNear 170 = .ok (.iconst 1, 1) := by decide +kernel
theorem dX7_areNear_171 : decode cX7_areNear 171 = .ok (.goto 4, 3) := by decide +kernel
theorem dX7_areNear_174 : decode cX7_areNear 174 = .ok (.iconst 0, 1) := by decide +kernel
theorem dX7_areNear_175 : decode cX7_areNear 175 = .ok (.ireturn, 1) := by decide +kernel
theorem dX7_near_0 : decode cX7_near 0 = .ok (.aload_n 0, 1) := by decide +kernel
theorem dX7_near_1 : decode cX7_near 1 = .ok (.iload_n 1, 1) := by decide +kernel
theorem dX7_near_2 : decode cX7_near 2 = .ok (.invokevirtual 160, 3) := by decide +kernel
theorem dX7_near_5 : decode cX7_near 5 = .ok (.ifCond .eq 11, 3) := by decide +kernel
theorem dX7_near_8 : decode cX7_near 8 = .ok (.aload_n 0, 1) := by decide +kernel
theorem dX7_near_9 : decode cX7_near 9 = .ok (.iload_n 2, 1) := by decide +kernel
theorem dX7_near_10 : decode cX7_near 10 = .ok (.invokevirtual 160, 3) := by decide +kernel
theorem dX7_near_13 : decode cX7_near 13 = .ok (.ifCond .ne 5, 3) := by decide +kernel
theorem dX7_near_16 : decode cX7_near 16 = .ok (.iconst (-1), 1) := by decide +kernel
theorem dX7_near_17 : decode cX7_near 17 = .ok (.ireturn, 1) := by decide +kernel
theorem dX7_near_18 : decode cX7_near 18 = .ok (.aload_n 0, 1) := by decide +kernel
theorem dX7_near_19 : decode cX7_near 19 = .ok (.iload_n 1, 1) := by decide +kernel
theorem dX7_near_20 : decode cX7_near 20 = .ok (.iload_n 2, 1) := by decide +kernel
theorem dX7_near_21 : decode cX7_near 21 = .ok (.aload_n 0, 1) := by decide +kernel
theorem dX7_near_22 : decode cX7_near 22 = .ok (.getfield 7, 3) := by decide +kernel
theorem dX7_near_25 : decode cX7_near 25 = .ok (.bipush 9, 2) := by decide +kernel
theorem dX7_near_27 : decode cX7_near 27 = .ok (.iaload, 1) := by decide +kernel
theorem dX7_near_28 : decode cX7_near 28 = .ok (.aload_n 0, 1) := by decide +kernel
theorem dX7_near_29 : decode cX7_near 29 = .ok (.getfield 7, 3) := by decide +kernel
theorem dX7_near_32 : decode cX7_near 32 = .ok (.bipush 10, 2) := by decide +kernel
theorem dX7_near_34 : decode cX7_near 34 = .ok (.iaload, 1) := by decide +kernel
theorem dX7_near_35 : decode cX7_near 35 = .ok (.invokevirtual 197, 3) := by decide +kernel
theorem dX7_near_38 : decode cX7_near 38 = .ok (.ifCond .eq 7, 3) := by decide +kernel
theorem dX7_near_41 : decode cX7_near 41 = .ok (.iconst 1, 1) := by decide +kernel
theorem dX7_near_42 : decode cX7_near 42 = .ok (.goto 4, 3) := by decide +kernel
theorem dX7_near_45 : decode cX7_near 45 = .ok (.iconst 0, 1) := by decide +kernel
theorem dX7_near_46 : decode cX7_near 46 = .ok (.ireturn, 1) := by decide +kernel
theorem dX7_layNear_0 : decode cX7_layNear 0 = .ok (.iconst 0, 1) := by decide +kernel
theorem dX7_layNear_1 : decode cX7_layNear 1 = .ok (.istore_n 3, 1) := by decide +kernel
theorem dX7_layNear_2 : decode cX7_layNear 2 = .ok (.iload_n 3, 1) := by decide +kernel
theorem dX7_layNear_3 : decode cX7_layNear 3 = .ok (.aload_n 0, 1) := by decide +kernel
theorem dX7_layNear_4 : decode cX7_layNear 4 = .ok (.getfield 155, 3) := by decide +kernel
theorem dX7_layNear_7 : decode cX7_layNear 7 = .ok (.if_icmp .ge 69, 3) := by decide +kernel
theorem dX7_layNear_10 : decode cX7_layNear 10 = .ok (.aload_n 0, 1) := by decide +kernel
theorem dX7_layNear_11 : decode cX7_layNear 11 = .ok (.getfield 37, 3) := by decide +kernel
theorem dX7_layNear_14 : decode cX7_layNear 14 = .ok (.iload_n 3, 1) := by decide +kernel
theorem dX7_layNear_15 : decode cX7_layNear 15 = .ok (.iconst 0, 1) := by decide +kernel
theorem dX7_layNear_16 : decode cX7_layNear 16 = .ok (.iastore, 1) := by decide +kernel
theorem dX7_layNear_17 : decode cX7_layNear 17 = .ok (.iconst 0, 1) := by decide +kernel
theorem dX7_layNear_18 : decode cX7_layNear 18 = .ok (.istore 4, 2) := by decide +kernel
theorem dX7_layNear_20 : decode cX7_layNear 20 = .ok (.iload 4, 2) := by decide +kernel
theorem dX7_layNear_22 : decode cX7_layNear 22 = .ok (.aload_n 0, 1) := by decide +kernel
theorem dX7_layNear_23 : decode cX7_layNear 23 = .ok (.getfield 155, 3) := by decide +kernel
theorem dX7_layNear_26 : decode cX7_layNear 26 = .ok (.if_icmp .ge 44, 3) := by decide +kernel
theorem dX7_layNear_29 : decode cX7_layNear 29 = .ok (.aload_n 0, 1) := by decide +kernel
theorem dX7_layNear_30 : decode cX7_layNear 30 = .ok (.getfield 37, 3) := by decide +kernel
theorem dX7_layNear_33 : decode cX7_layNear 33 = .ok (.iload_n 3, 1) := by decide +kernel
theorem dX7_layNear_34 : decode cX7_layNear 34 = .ok (.dup2, 1) := by decide +kernel
theorem dX7_layNear_35 : decode cX7_layNear 35 = .ok (.iaload, 1) := by decide +kernel
theorem dX7_layNear_36 : decode cX7_layNear 36 = .ok (.iload_n 3, 1) := by decide +kernel
theorem dX7_layNear_37 : decode cX7_layNear 37 = .ok (.iload 4, 2) := by decide +kernel
theorem dX7_layNear_39 : decode cX7_layNear 39 = .ok (.if_icmp .eq 22, 3) := by decide +kernel
theorem dX7_layNear_42 : decode cX7_layNear 42 = .ok (.aload_n 0, 1) := by decide +kernel
theorem dX7_layNear_43 : decode cX7_layNear 43 = .ok (.iload_n 3, 1) := by decide +kernel
theorem dX7_layNear_44 : decode cX7_layNear 44 = .ok (.iload 4, 2) := by decide +kernel
theorem dX7_layNear_46 : decode cX7_layNear 46 = .ok (.iload_n 1, 1) := by decide +kernel
theorem dX7_layNear_47 : decode cX7_layNear 47 = .ok (.iload_n 2, 1) := by decide +kernel
theorem dX7_layNear_48 : decode cX7_layNear 48 = .ok (.invokevirtual 197, 3) := by decide +kernel
theorem dX7_layNear_51 : decode cX7_layNear 51 = .ok (.ifCond .eq 10, 3) := by decide +kernel
theorem dX7_layNear_54 : decode cX7_layNear 54 = .ok (.iconst 1, 1) := by decide +kernel
theorem dX7_layNear_55 : decode cX7_layNear 55 = .ok (.iload 4, 2) := by decide +kernel
theorem dX7_layNear_57 : decode cX7_layNear 57 = .ok (.ishl, 1) := by decide +kernel
theorem dX7_layNear_58 : decode cX7_layNear 58 = .ok (.goto 4, 3) := by decide +kernel
theorem dX7_layNear_61 : decode cX7_layNear 61 = .ok (.iconst 0, 1) := by decide +kernel
theorem dX7_layNear_62 : decode cX7_layNear 62 = .ok (.ior, 1) := by decide +kernel
theorem dX7_layNear_63 : decode cX7_layNear 63 = .ok (.iastore, 1) := by decide +kernel
theorem dX7_layNear_64 : decode cX7_layNear 64 = .ok (.iinc 4 1, 3) := by decide +kernel
theorem dX7_layNear_67 : decode cX7_layNear 67 = .ok (.goto (-47), 3) := by decide +kernel
theorem dX7_layNear_70 : decode cX7_layNear 70 = .ok (.iinc 3 1, 3) := by decide +kernel
theorem dX7_layNear_73 : decode cX7_layNear 73 = .ok (.goto (-71), 3) := by decide +kernel
theorem dX7_layNear_76 : decode cX7_layNear 76 = .ok (.return_, 1) := by decide +kernel
theorem dX7_layNow_0 : decode cX7_layNow 0 = .ok (.aload_n 0, 1) := by decide +kernel
theorem dX7_layNow_1 : decode cX7_layNow 1 = .ok (.aload_n 0, 1) := by decide +kernel
theorem dX7_layNow_2 : decode cX7_layNow 2 = .ok (.getfield 7, 3) := by decide +kernel
theorem dX7_layNow_5 : decode cX7_layNow 5 = .ok (.bipush 9, 2) := by decide +kernel
theorem dX7_layNow_7 : decode cX7_layNow 7 = .ok (.iaload, 1) := by decide +kernel
theorem dX7_layNow_8 : decode cX7_layNow 8 = .ok (.aload_n 0, 1) := by decide +kernel
theorem dX7_layNow_9 : decode cX7_layNow 9 = .ok (.getfield 7, 3) := by decide +kernel
theorem dX7_layNow_12 : decode cX7_layNow 12 = .ok (.bipush 10, 2) := by decide +kernel
theorem dX7_layNow_14 : decode cX7_layNow 14 = .ok (.iaload, 1) := by decide +kernel
theorem dX7_layNow_15 : decode cX7_layNow 15 = .ok (.invokevirtual 201, 3) := by decide +kernel
theorem dX7_layNow_18 : decode cX7_layNow 18 = .ok (.return_, 1) := by decide +kernel
theorem dX7_answering_0 : decode cX7_answering 0 = .ok (.iload_n 3, 1) := by decide +kernel
theorem dX7_answering_1 : decode cX7_answering 1 = .ok (.iconst 2, 1) := by decide +kernel
theorem dX7_answering_2 : decode cX7_answering 2 = .ok (.if_icmp .ne 11, 3) := by decide +kernel
theorem dX7_answering_5 : decode cX7_answering 5 = .ok (.iload_n 1, 1) := by decide +kernel
theorem dX7_answering_6 : decode cX7_answering 6 = .ok (.iconst 1, 1) := by decide +kernel
theorem dX7_answering_7 : decode cX7_answering 7 = .ok (.iload_n 2, 1) := by decide +kernel
theorem dX7_answering_8 : decode cX7_answering 8 = .ok (.ishl, 1) := by decide +kernel
theorem dX7_answering_9 : decode cX7_answering 9 = .ok (.iand, 1) := by decide +kernel
theorem dX7_answering_10 : decode cX7_answering 10 = .ok (.goto 35, 3) := by decide +kernel
theorem dX7_answering_13 : decode cX7_answering 13 = .ok (.iload_n 3, 1) := by decide +kernel
theorem dX7_answering_14 : decode cX7_answering 14 = .ok (.iconst 1, 1) := by decide +kernel
theorem dX7_answering_15 : decode cX7_answering 15 = .ok (.if_icmp .ne 14, 3) := by decide +kernel
theorem dX7_answering_18 : decode cX7_answering 18 = .ok (.iload_n 1, 1) := by decide +kernel
theorem dX7_answering_19 : decode cX7_answering 19 = .ok (.aload_n 0, 1) := by decide +kernel
theorem dX7_answering_20 : decode cX7_answering 20 = .ok (.getfield 37, 3) := by decide +kernel
theorem dX7_answering_23 : decode cX7_answering 23 = .ok (.iload_n 2, 1) := by decide +kernel
theorem dX7_answering_24 : decode cX7_answering 24 = .ok (.iaload, 1) := by decide +kernel
theorem dX7_answering_25 : decode cX7_answering 25 = .ok (.iand, 1) := by decide +kernel
theorem dX7_answering_26 : decode cX7_answering 26 = .ok (.goto 19, 3) := by decide +kernel
theorem dX7_answering_29 : decode cX7_answering 29 = .ok (.iload_n 1, 1) := by decide +kernel
theorem dX7_answering_30 : decode cX7_answering 30 = .ok (.aload_n 0, 1) := by decide +kernel
theorem dX7_answering_31 : decode cX7_answering 31 = .ok (.getfield 37, 3) := by decide +kernel
theorem dX7_answering_34 : decode cX7_answering 34 = .ok (.iload_n 2, 1) := by decide +kernel
theorem dX7_answering_35 : decode cX7_answering 35 = .ok (.iaload, 1) := by decide +kernel
theorem dX7_answering_36 : decode cX7_answering 36 = .ok (.iconst (-1), 1) := by decide +kernel
theorem dX7_answering_37 : decode cX7_answering 37 = .ok (.ixor, 1) := by decide +kernel
theorem dX7_answering_38 : decode cX7_answering 38 = .ok (.iand, 1) := by decide +kernel
theorem dX7_answering_39 : decode cX7_answering 39 = .ok (.iconst 1, 1) := by decide +kernel
theorem dX7_answering_40 : decode cX7_answering 40 = .ok (.iload_n 2, 1) := by decide +kernel
theorem dX7_answering_41 : decode cX7_answering 41 = .ok (.ishl, 1) := by decide +kernel
theorem dX7_answering_42 : decode cX7_answering 42 = .ok (.iconst (-1), 1) := by decide +kernel
theorem dX7_answering_43 : decode cX7_answering 43 = .ok (.ixor, 1) := by decide +kernel
theorem dX7_answering_44 : decode cX7_answering 44 = .ok (.iand, 1) := by decide +kernel
theorem dX7_answering_45 : decode cX7_answering 45 = .ok (.ireturn, 1) := by decide +kernel
theorem dX7_guesses_0 : decode cX7_guesses 0 = .ok (.aload_n 0, 1) := by decide +kernel
theorem dX7_guesses_1 : decode cX7_guesses 1 = .ok (.iload_n 1, 1) := by decide +kernel
theorem dX7_guesses_2 : decode cX7_guesses 2 = .ok (.invokevirtual 160, 3) := by decide +kernel
theorem dX7_guesses_5 : decode cX7_guesses 5 = .ok (.ifCond .eq 15, 3) := by decide +kernel
theorem dX7_guesses_8 : decode cX7_guesses 8 = .ok (.iload_n 2, 1) := by decide +kernel
theorem dX7_guesses_9 : decode cX7_guesses 9 = .ok (.i2l, 1) := by decide +kernel
theorem dX7_guesses_10 : decode cX7_guesses 10 = .ok (.lconst 0, 1) := by decide +kernel
theorem dX7_guesses_11 : decode cX7_guesses 11 = .ok (.ldc2_w 205, 3) := by decide +kernel
theorem dX7_guesses_14 : decode cX7_guesses 14 = .ok (.invokestatic 68, 3) := by decide +kernel
theorem dX7_guesses_17 : decode cX7_guesses 17 = .ok (.ifCond .ne 5, 3) := by decide +kernel
theorem dX7_guesses_20 : decode cX7_guesses 20 = .ok (.iconst (-1), 1) := by decide +kernel
theorem dX7_guesses_21 : decode cX7_guesses 21 = .ok (.ireturn, 1) := by decide +kernel
theorem dX7_guesses_22 : decode cX7_guesses 22 = .ok (.aload_n 0, 1) := by decide +kernel
theorem dX7_guesses_23 : decode cX7_guesses 23 = .ok (.getfield 7, 3) := by decide +kernel
theorem dX7_guesses_26 : decode cX7_guesses 26 = .ok (.bipush 40, 2) := by decide +kernel
theorem dX7_guesses_28 : decode cX7_guesses 28 = .ok (.iaload, 1) := by decide +kernel
theorem dX7_guesses_29 : decode cX7_guesses 29 = .ok (.bipush 9, 2) := by decide +kernel
theorem dX7_guesses_31 : decode cX7_guesses 31 = .ok (.if_icmp .ne 6, 3) := by decide +kernel
theorem dX7_guesses_34 : decode cX7_guesses 34 = .ok (.bipush (-3), 2) := by decide +kernel
theorem dX7_guesses_36 : decode cX7_guesses 36 = .ok (.ireturn, 1) := by decide +kernel
theorem dX7_guesses_37 : decode cX7_guesses 37 = .ok (.aload_n 0, 1) := by decide +kernel
theorem dX7_guesses_38 : decode cX7_guesses 38 = .ok (.getfield 7, 3) := by decide +kernel
theorem dX7_guesses_41 : decode cX7_guesses 41 = .ok (.bipush 22, 2) := by decide +kernel
theorem dX7_guesses_43 : decode cX7_guesses 43 = .ok (.iconst 2, 1) := by decide +kernel
theorem dX7_guesses_44 : decode cX7_guesses 44 = .ok (.aload_n 0, 1) := by decide +kernel
theorem dX7_guesses_45 : decode cX7_guesses 45 = .ok (.getfield 7, 3) := by decide +kernel
theorem dX7_guesses_48 : decode cX7_guesses 48 = .ok (.bipush 40, 2) := by decide +kernel
theorem dX7_guesses_50 : decode cX7_guesses 50 = .ok (.iaload, 1) := by decide +kernel
theorem dX7_guesses_51 : decode cX7_guesses 51 = .ok (.imul, 1) := by decide +kernel
theorem dX7_guesses_52 : decode cX7_guesses 52 = .ok (.iadd, 1) := by decide +kernel
theorem dX7_guesses_53 : decode cX7_guesses 53 = .ok (.iload_n 1, 1) := by decide +kernel
theorem dX7_guesses_54 : decode cX7_guesses 54 = .ok (.iastore, 1) := by decide +kernel
theorem dX7_guesses_55 : decode cX7_guesses 55 = .ok (.aload_n 0, 1) := by decide +kernel
theorem dX7_guesses_56 : decode cX7_guesses 56 = .ok (.getfield 7, 3) := by decide +kernel
theorem dX7_guesses_59 : decode cX7_guesses 59 = .ok (.bipush 22, 2) := by decide +kernel
theorem dX7_guesses_61 : decode cX7_guesses 61 = .ok (.iconst 2, 1) := by decide +kernel
theorem dX7_guesses_62 : decode cX7_guesses 62 = .ok (.aload_n 0, 1) := by decide +kernel
theorem dX7_guesses_63 : decode cX7_guesses 63 = .ok (.getfield 7, 3) := by decide +kernel
theorem dX7_guesses_66 : decode cX7_guesses 66 = .ok (.bipush 40, 2) := by decide +kernel
theorem dX7_guesses_68 : decode cX7_guesses 68 = .ok (.iaload, 1) := by decide +kernel
theorem dX7_guesses_69 : decode cX7_guesses 69 = .ok (.imul, 1) := by decide +kernel
theorem dX7_guesses_70 : decode cX7_guesses 70 = .ok (.iadd, 1) := by decide +kernel
theorem dX7_guesses_71 : decode cX7_guesses 71 = .ok (.iconst 1, 1) := by decide +kernel
theorem dX7_guesses_72 : decode cX7_guesses 72 = .ok (.iadd, 1) := by decide +kernel
theorem dX7_guesses_73 : decode cX7_guesses 73 = .ok (.iload_n 2, 1) := by decide +kernel
theorem dX7_guesses_74 : decode cX7_guesses 74 = .ok (.iastore, 1) := by decide +kernel
theorem dX7_guesses_75 : decode cX7_guesses 75 = .ok (.aload_n 0, 1) := by decide +kernel
theorem dX7_guesses_76 : decode cX7_guesses 76 = .ok (.getfield 7, 3) := by decide +kernel
theorem dX7_guesses_79 : decode cX7_guesses 79 = .ok (.bipush 40, 2) := by decide +kernel
theorem dX7_guesses_81 : decode cX7_guesses 81 = .ok (.dup2, 1) := by decide +kernel
theorem dX7_guesses_82 : decode cX7_guesses 82 = .ok (.iaload, 1) := by decide +kernel
theorem dX7_guesses_83 : decode cX7_guesses 83 = .ok (.iconst 1, 1) := by decide +kernel
theorem dX7_guesses_84 : decode cX7_guesses 84 = .ok (.iadd, 1) := by decide +kernel
theorem dX7_guesses_85 : decode cX7_guesses 85 = .ok (.iastore, 1) := by decide +kernel
theorem dX7_guesses_86 : decode cX7_guesses 86 = .ok (.aload_n 0, 1) := by decide +kernel
theorem dX7_guesses_87 : decode cX7_guesses 87 = .ok (.getfield 7, 3) := by decide +kernel
theorem dX7_guesses_90 : decode cX7_guesses 90 = .ok (.bipush 40, 2) := by decide +kernel
theorem dX7_guesses_92 : decode cX7_guesses 92 = .ok (.iaload, 1) := by decide +kernel
theorem dX7_guesses_93 : decode cX7_guesses 93 = .ok (.ireturn, 1) := by decide +kernel
theorem dX7_guess_0 : decode cX7_guess 0 = .ok (.aload_n 0, 1) := by decide +kernel
theorem dX7_guess_1 : decode cX7_guess 1 = .ok (.iload_n 1, 1) := by decide +kernel
theorem dX7_guess_2 : decode cX7_guess 2 = .ok (.iload_n 2, 1) := by decide +kernel
theorem dX7_guess_3 : decode cX7_guess 3 = .ok (.invokevirtual 207, 3) := by decide +kernel
theorem dX7_guess_6 : decode cX7_guess 6 = .ok (.ireturn, 1) := by decide +kernel
theorem dX7_undo_0 : decode cX7_undo 0 = .ok (.aload_n 0, 1) := by decide +kernel
theorem dX7_undo_1 : decode cX7_undo 1 = .ok (.iload_n 1, 1) := by decide +kernel
theorem dX7_undo_2 : decode cX7_undo 2 = .ok (.i2l, 1) := by decide +kernel
theorem dX7_undo_3 : decode cX7_undo 3 = .ok (.lconst 0, 1) := by decide +kernel
theorem dX7_undo_4 : decode cX7_undo 4 = .ok (.aload_n 0, 1) := by decide +kernel
theorem dX7_undo_5 : decode cX7_undo 5 = .ok (.getfield 7, 3) := by decide +kernel
theorem dX7_undo_8 : decode cX7_undo 8 = .ok (.bipush 40, 2) := by decide +kernel
theorem dX7_undo_10 : decode cX7_undo 10 = .ok (.iaload, 1) := by decide +kernel
theorem dX7_undo_11 : decode cX7_undo 11 = .ok (.i2l, 1) := by decide +kernel
theorem dX7_undo_12 : decode cX7_undo 12 = .ok (.invokestatic 68, 3) := by decide +kernel
theorem dX7_undo_15 : decode cX7_undo 15 = .ok (.bipush 40, 2) := by decide +kernel
theorem dX7_undo_17 : decode cX7_undo 17 = .ok (.iload_n 1, 1) := by decide +kernel
theorem dX7_undo_18 : decode cX7_undo 18 = .ok (.invokevirtual 167, 3) := by decide +kernel
theorem dX7_undo_21 : decode cX7_undo 21 = .ok (.ireturn, 1) := by decide +kernel
theorem dX7_hear_0 : decode cX7_hear 0 = .ok (.iload_n 1, 1) := by decide +kernel
theorem dX7_hear_1 : decode cX7_hear 1 = .ok (.i2l, 1) := by decide +kernel
theorem dX7_hear_2 : decode cX7_hear 2 = .ok (.lconst 0, 1) := by decide +kernel
theorem dX7_hear_3 : decode cX7_hear 3 = .ok (.ldc2_w 210, 3) := by decide +kernel
theorem dX7_hear_6 : decode cX7_hear 6 = .ok (.invokestatic 68, 3) := by decide +kernel
theorem dX7_hear_9 : decode cX7_hear 9 = .ok (.ifCond .eq 10, 3) := by decide +kernel
theorem dX7_hear_12 : decode cX7_hear 12 = .ok (.iload_n 2, 1) := by decide +kernel
theorem dX7_hear_13 : decode cX7_hear 13 = .ok (.invokestatic 175, 3) := by decide +kernel
theorem dX7_hear_16 : decode cX7_hear 16 = .ok (.ifCond .ne 5, 3) := by decide +kernel
theorem dX7_hear_19 : decode cX7_hear 19 = .ok (.iconst (-1), 1) := by decide +kernel
theorem dX7_hear_20 : decode cX7_hear 20 = .ok (.ireturn, 1) := by decide +kernel
theorem dX7_hear_21 : decode cX7_hear 21 = .ok (.aload_n 0, 1) := by decide +kernel
theorem dX7_hear_22 : decode cX7_hear 22 = .ok (.getfield 7, 3) := by decide +kernel
theorem dX7_hear_25 : decode cX7_hear 25 = .ok (.bipush 59, 2) := by decide +kernel
theorem dX7_hear_27 : decode cX7_hear 27 = .ok (.iaload, 1) := by decide +kernel
theorem dX7_hear_28 : decode cX7_hear 28 = .ok (.bipush 6, 2) := by decide +kernel
theorem dX7_hear_30 : decode cX7_hear 30 = .ok (.if_icmp .ne 6, 3) := by decide +kernel
theorem dX7_hear_33 : decode cX7_hear 33 = .ok (.bipush (-3), 2) := by decide +kernel
theorem dX7_hear_35 : decode cX7_hear 35 = .ok (.ireturn, 1) := by decide +kernel
theorem dX7_hear_36 : decode cX7_hear 36 = .ok (.bipush 41, 2) := by decide +kernel
theorem dX7_hear_38 : decode cX7_hear 38 = .ok (.iconst 3, 1) := by decide +kernel
theorem dX7_hear_39 : decode cX7_hear 39 = .ok (.aload_n 0, 1) := by decide +kernel
theorem dX7_hear_40 : decode cX7_hear 40 = .ok (.getfield 7, 3) := by decide +kernel
theorem dX7_hear_43 : decode cX7_hear 43 = .ok (.bipush 59, 2) := by decide +kernel
theorem dX7_hear_45 : decode cX7_hear 45 = .ok (.iaload, 1) := by decide +kernel
theorem dX7_hear_46 : decode cX7_hear 46 = .ok (.imul, 1) := by decide +kernel
theorem dX7_hear_47 : decode cX7_hear 47 = .ok (.iadd, 1) := by decide +kernel
theorem dX7_hear_48 : decode cX7_hear 48 = .ok (.istore 4, 2) := by decide +kernel
theorem dX7_hear_50 : decode cX7_hear 50 = .ok (.aload_n 0, 1) := by decide +kernel
theorem dX7_hear_51 : decode cX7_hear 51 = .ok (.getfield 7, 3) := by decide +kernel
theorem dX7_hear_54 : decode cX7_hear 54 = .ok (.iload 4, 2) := by decide +kernel
theorem dX7_hear_56 : decode cX7_hear 56 = .ok (.iload_n 1, 1) := by decide +kernel
theorem dX7_hear_57 : decode cX7_hear 57 = .ok (.iastore, 1) := by decide +kernel
theorem dX7_hear_58 : decode cX7_hear 58 = .ok (.aload_n 0, 1) := by decide +kernel
theorem dX7_hear_59 : decode cX7_hear 59 = .ok (.getfield 7, 3) := by decide +kernel
theorem dX7_hear_62 : decode cX7_hear 62 = .ok (.iload 4, 2) := by decide +kernel
theorem dX7_hear_64 : decode cX7_hear 64 = .ok (.iconst 1, 1) := by decide +kernel
theorem dX7_hear_65 : decode cX7_hear 65 = .ok (.iadd, 1) := by decide +kernel
theorem dX7_hear_66 : decode cX7_hear 66 = .ok (.iload_n 2, 1) := by decide +kernel
theorem dX7_hear_67 : decode cX7_hear 67 = .ok (.iastore, 1) := by decide +kernel
theorem dX7_hear_68 : decode cX7_hear 68 = .ok (.aload_n 0, 1) := by decide +kernel
theorem dX7_hear_69 : decode cX7_hear 69 = .ok (.getfield 7, 3) := by decide +kernel
theorem dX7_hear_72 : decode cX7_hear 72 = .ok (.iload 4, 2) := by decide +kernel
theorem dX7_hear_74 : decode cX7_hear 74 = .ok (.iconst 2, 1) := by decide +kernel
theorem dX7_hear_75 : decode cX7_hear 75 = .ok (.iadd, 1) := by decide +kernel
theorem dX7_hear_76 : decode cX7_hear 76 = .ok (.iload_n 3, 1) := by decide +kernel
theorem dX7_hear_77 : decode cX7_hear 77 = .ok (.ifCond .eq 7, 3) := by decide +kernel
theorem dX7_hear_80 : decode cX7_hear 80 = .ok (.iconst 1, 1) := by decide +kernel
theorem dX7_hear_81 : decode cX7_hear 81 = .ok (.goto 4, 3) := by decide +kernel
theorem dX7_hear_84 : decode cX7_hear 84 = .ok (.iconst 0, 1) := by decide +kernel
theorem dX7_hear_85 : decode cX7_hear 85 = .ok (.iastore, 1) := by decide +kernel
theorem dX7_hear_86 : decode cX7_hear 86 = .ok (.aload_n 0, 1) := by decide +kernel
theorem dX7_hear_87 : decode cX7_hear 87 = .ok (.getfield 7, 3) := by decide +kernel
theorem dX7_hear_90 : decode cX7_hear 90 = .ok (.bipush 59, 2) := by decide +kernel
theorem dX7_hear_92 : decode cX7_hear 92 = .ok (.dup2, 1) := by decide +kernel
theorem dX7_hear_93 : decode cX7_hear 93 = .ok (.iaload, 1) := by decide +kernel
theorem dX7_hear_94 : decode cX7_hear 94 = .ok (.iconst 1, 1) := by decide +kernel
theorem dX7_hear_95 : decode cX7_hear 95 = .ok (.iadd, 1) := by decide +kernel
theorem dX7_hear_96 : decode cX7_hear 96 = .ok (.iastore, 1) := by decide +kernel
theorem dX7_hear_97 : decode cX7_hear 97 = .ok (.aload_n 0, 1) := by decide +kernel
theorem dX7_hear_98 : decode cX7_hear 98 = .ok (.getfield 7, 3) := by decide +kernel
theorem dX7_hear_101 : decode cX7_hear 101 = .ok (.bipush 59, 2) := by decide +kernel
theorem dX7_hear_103 : decode cX7_hear 103 = .ok (.iaload, 1) := by decide +kernel
theorem dX7_hear_104 : decode cX7_hear 104 = .ok (.ireturn, 1) := by decide +kernel
theorem dX7_forget_0 : decode cX7_forget 0 = .ok (.aload_n 0, 1) := by decide +kernel
theorem dX7_forget_1 : decode cX7_forget 1 = .ok (.iload_n 1, 1) := by decide +kernel
theorem dX7_forget_2 : decode cX7_forget 2 = .ok (.i2l, 1) := by decide +kernel
theorem dX7_forget_3 : decode cX7_forget 3 = .ok (.lconst 0, 1) := by decide +kernel
theorem dX7_forget_4 : decode cX7_forget 4 = .ok (.aload_n 0, 1) := by decide +kernel
theorem dX7_forget_5 : decode cX7_forget 5 = .ok (.getfield 7, 3) := by decide +kernel
theorem dX7_forget_8 : decode cX7_forget 8 = .ok (.bipush 59, 2) := by decide +kernel
theorem dX7_forget_10 : decode cX7_forget 10 = .ok (.iaload, 1) := by decide +kernel
theorem dX7_forget_11 : decode cX7_forget 11 = .ok (.i2l, 1) := by decide +kernel
theorem dX7_forget_12 : decode cX7_forget 12 = .ok (.invokestatic 68, 3) := by decide +kernel
theorem dX7_forget_15 : decode cX7_forget 15 = .ok (.bipush 59, 2) := by decide +kernel
theorem dX7_forget_17 : decode cX7_forget 17 = .ok (.iload_n 1, 1) := by decide +kernel
theorem dX7_forget_18 : decode cX7_forget 18 = .ok (.invokevirtual 167, 3) := by decide +kernel
theorem dX7_forget_21 : decode cX7_forget 21 = .ok (.ireturn, 1) := by decide +kernel
theorem dX7_canBe_0 : decode cX7_canBe 0 = .ok (.iconst 1, 1) := by decide +kernel
theorem dX7_canBe_1 : decode cX7_canBe 1 = .ok (.aload_n 0, 1) := by decide +kernel
theorem dX7_canBe_2 : decode cX7_canBe 2 = .ok (.getfield 155, 3) := by decide +kernel
theorem dX7_canBe_5 : decode cX7_canBe 5 = .ok (.ishl, 1) := by decide +kernel
theorem dX7_canBe_6 : decode cX7_canBe 6 = .ok (.iconst 1, 1) := by decide +kernel
theorem dX7_canBe_7 : decode cX7_canBe 7 = .ok (.isub, 1) := by decide +kernel
theorem dX7_canBe_8 : decode cX7_canBe 8 = .ok (.istore_n 2, 1) := by decide +kernel
theorem dX7_canBe_9 : decode cX7_canBe 9 = .ok (.iconst 0, 1) := by decide +kernel
theorem dX7_canBe_10 : decode cX7_canBe 10 = .ok (.istore_n 3, 1) := by decide +kernel
theorem dX7_canBe_11 : decode cX7_canBe 11 = .ok (.iload_n 3, 1) := by decide +kernel
theorem dX7_canBe_12 : decode cX7_canBe 12 = .ok (.aload_n 0, 1) := by decide +kernel
theorem dX7_canBe_13 : decode cX7_canBe 13 = .ok (.getfield 7, 3) := by decide +kernel
theorem dX7_canBe_16 : decode cX7_canBe 16 = .ok (.bipush 59, 2) := by decide +kernel
theorem dX7_canBe_18 : decode cX7_canBe 18 = .ok (.iaload, 1) := by decide +kernel
theorem dX7_canBe_19 : decode cX7_canBe 19 = .ok (.if_icmp .ge 130, 3) := by decide +kernel
theorem dX7_canBe_22 : decode cX7_canBe 22 = .ok (.bipush 41, 2) := by decide +kernel
theorem dX7_canBe_24 : decode cX7_canBe 24 = .ok (.iconst 3, 1) := by decide +kernel
theorem dX7_canBe_25 : decode cX7_canBe 25 = .ok (.iload_n 3, 1) := by decide +kernel
theorem dX7_canBe_26 : decode cX7_canBe 26 = .ok (.imul, 1) := by decide +kernel
theorem dX7_canBe_27 : decode cX7_canBe 27 = .ok (.iadd, 1) := by decide +kernel
theorem dX7_canBe_28 : decode cX7_canBe 28 = .ok (.istore 4, 2) := by decide +kernel
theorem dX7_canBe_30 : decode cX7_canBe 30 = .ok (.iconst 0, 1) := by decide +kernel
theorem dX7_canBe_31 : decode cX7_canBe 31 = .ok (.istore 5, 2) := by decide +kernel
theorem dX7_canBe_33 : decode cX7_canBe 33 = .ok (.iload 5, 2) := by decide +kernel
theorem dX7_canBe_35 : decode cX7_canBe 35 = .ok (.aload_n 0, 1) := by decide +kernel
theorem dX7_canBe_36 : decode cX7_canBe 36 = .ok (.getfield 155, 3) := by decide +kernel
theorem dX7_canBe_39 : decode cX7_canBe 39 = .ok (.if_icmp .ge 104, 3) := by decide +kernel
theorem dX7_canBe_42 : decode cX7_canBe 42 = .ok (.aload_n 0, 1) := by decide +kernel
theorem dX7_canBe_43 : decode cX7_canBe 43 = .ok (.getfield 7, 3) := by decide +kernel
theorem dX7_canBe_46 : decode cX7_canBe 46 = .ok (.iload 4, 2) := by decide +kernel
theorem dX7_canBe_48 : decode cX7_canBe 48 = .ok (.iaload, 1) := by decide +kernel
theorem dX7_canBe_49 : decode cX7_canBe 49 = .ok (.aload_n 0, 1) := by decide +kernel
theorem dX7_canBe_50 : decode cX7_canBe 50 = .ok (.getfield 13, 3) := by decide +kernel
theorem dX7_canBe_53 : decode cX7_canBe 53 = .ok (.bipush 9, 2) := by decide +kernel
theorem dX7_canBe_55 : decode cX7_canBe 55 = .ok (.iload 5, 2) := by decide +kernel
theorem dX7_canBe_57 : decode cX7_canBe 57 = .ok (.imul, 1) := by decide +kernel
theorem dX7_canBe_58 : decode cX7_canBe 58 = .ok (.iaload, 1) := by decide +kernel
theorem dX7_canBe_59 : decode cX7_canBe 59 = .ok (.if_icmp .ge 39, 3) := by decide +kernel
theorem dX7_canBe_62 : decode cX7_canBe 62 = .ok (.aload_n 0, 1) := by decide +kernel
theorem dX7_canBe_63 : decode cX7_canBe 63 = .ok (.getfield 13, 3) := by decide +kernel
theorem dX7_canBe_66 : decode cX7_canBe 66 = .ok (.bipush 9, 2) := by decide +kernel
theorem dX7_canBe_68 : decode cX7_canBe 68 = .ok (.iload 5, 2) := by decide +kernel
theorem dX7_canBe_70 : decode cX7_canBe 70 = .ok (.imul, 1) := by decide +kernel
theorem dX7_canBe_71 : decode cX7_canBe 71 = .ok (.iconst 1, 1) := by decide +kernel
theorem dX7_canBe_72 : decode cX7_canBe 72 = .ok (.iadd, 1) := by decide +kernel
theorem dX7_canBe_73 : decode cX7_canBe 73 = .ok (.aload_n 0, 1) := by decide +kernel
theorem dX7_canBe_74 : decode cX7_canBe 74 = .ok (.getfield 7, 3) := by decide +kernel
theorem dX7_canBe_77 : decode cX7_canBe 77 = .ok (.iload 4, 2) := by decide +kernel
theorem dX7_canBe_79 : decode cX7_canBe 79 = .ok (.iaload, 1) := by decide +kernel
theorem dX7_canBe_80 : decode cX7_canBe 80 = .ok (.iadd, 1) := by decide +kernel
theorem dX7_canBe_81 : decode cX7_canBe 81 = .ok (.iaload, 1) := by decide +kernel
theorem dX7_canBe_82 : decode cX7_canBe 82 = .ok (.aload_n 0, 1) := by decide +kernel
theorem dX7_canBe_83 : decode cX7_canBe 83 = .ok (.getfield 7, 3) := by decide +kernel
theorem dX7_canBe_86 : decode cX7_canBe 86 = .ok (.iload 4, 2) := by decide +kernel
theorem dX7_canBe_88 : decode cX7_canBe 88 = .ok (.iconst 1, 1) := by decide +kernel
theorem dX7_canBe_89 : decode cX7_canBe 89 = .ok (.iadd, 1) := by decide +kernel
theorem dX7_canBe_90 : decode cX7_canBe 90 = .ok (.iaload, 1) := by decide +kernel
theorem dX7_canBe_91 : decode cX7_canBe 91 = .ok (.if_icmp .ne 7, 3) := by decide +kernel
theorem dX7_canBe_94 : decode cX7_canBe 94 = .ok (.iconst 1, 1) := by decide +kernel
theorem dX7_canBe_95 : decode cX7_canBe 95 = .ok (.goto 4, 3) := by decide +kernel
theorem dX7_canBe_98 : decode cX7_canBe 98 = .ok (.iconst 0, 1) := by decide +kernel
theorem dX7_canBe_99 : decode cX7_canBe 99 = .ok (.istore 6, 2) := by decide +kernel
theorem dX7_canBe_101 : decode cX7_canBe 101 = .ok (.iload_n 2, 1) := by decide +kernel
theorem dX7_canBe_102 : decode cX7_canBe 102 = .ok (.iload 6, 2) := by decide +kernel
theorem dX7_canBe_104 : decode cX7_canBe 104 = .ok (.aload_n 0, 1) := by decide +kernel
theorem dX7_canBe_105 : decode cX7_canBe 105 = .ok (.getfield 7, 3) := by decide +kernel
theorem dX7_canBe_108 : decode cX7_canBe 108 = .ok (.iload 4, 2) := by decide +kernel
theorem dX7_canBe_110 : decode cX7_canBe 110 = .ok (.iconst 2, 1) := by decide +kernel
theorem dX7_canBe_111 : decode cX7_canBe 111 = .ok (.iadd, 1) := by decide +kernel
theorem dX7_canBe_112 : decode cX7_canBe 112 = .ok (.iaload, 1) := by decide +kernel
theorem dX7_canBe_113 : decode cX7_canBe 113 = .ok (.iconst 1, 1) := by decide +kernel
theorem dX7_canBe_114 : decode cX7_canBe 114 = .ok (.if_icmp .ne 7, 3) := by decide +kernel
theorem dX7_canBe_117 : decode cX7_canBe 117 = .ok (.iconst 1, 1) := by decide +kernel
theorem dX7_canBe_118 : decode cX7_canBe 118 = .ok (.goto 4, 3) := by decide +kernel
theorem dX7_canBe_121 : decode cX7_canBe 121 = .ok (.iconst 0, 1) := by decide +kernel
theorem dX7_canBe_122 : decode cX7_canBe 122 = .ok (.if_icmp .ne 7, 3) := by decide +kernel
theorem dX7_canBe_125 : decode cX7_canBe 125 = .ok (.iconst (-1), 1) := by decide +kernel
theorem dX7_canBe_126 : decode cX7_canBe 126 = .ok (.goto 9, 3) := by decide +kernel
theorem dX7_canBe_129 : decode cX7_canBe 129 = .ok (.iconst 1, 1) := by decide +kernel
theorem dX7_canBe_130 : decode cX7_canBe 130 = .ok (.iload 5, 2) := by decide +kernel
theorem dX7_canBe_132 : decode cX7_canBe 132 = .ok (.ishl, 1) := by decide +kernel
theorem dX7_canBe_133 : decode cX7_canBe 133 = .ok (.iconst (-1), 1) := by decide +kernel
theorem dX7_canBe_134 : decode cX7_canBe 134 = .ok (.ixor, 1) := by decide +kernel
theorem dX7_canBe_135 : decode cX7_canBe 135 = .ok (.iand, 1) := by decide +kernel
theorem dX7_canBe_136 : decode cX7_canBe 136 = .ok (.istore_n 2, 1) := by decide +kernel
theorem dX7_canBe_137 : decode cX7_canBe 137 = .ok (.iinc 5 1, 3) := by decide +kernel
theorem dX7_canBe_140 : decode cX7_canBe 140 = .ok (.goto (-107), 3) := by decide +kernel
theorem dX7_canBe_143 : decode cX7_canBe 143 = .ok (.iinc 3 1, 3) := by decide +kernel
theorem dX7_canBe_146 : decode cX7_canBe 146 = .ok (.goto (-135), 3) := by decide +kernel
theorem dX7_canBe_149 : decode cX7_canBe 149 = .ok (.iconst 0, 1) := by decide +kernel
theorem dX7_canBe_150 : decode cX7_canBe 150 = .ok (.istore_n 3, 1) := by decide +kernel
theorem dX7_canBe_151 : decode cX7_canBe 151 = .ok (.iload_n 3, 1) := by decide +kernel
theorem dX7_canBe_152 : decode cX7_canBe 152 = .ok (.iload_n 1, 1) := by decide +kernel
theorem dX7_canBe_153 : decode cX7_canBe 153 = .ok (.if_icmp .ge 39, 3) := by decide +kernel
theorem dX7_canBe_156 : decode cX7_canBe 156 = .ok (.aload_n 0, 1) := by decide +kernel
theorem dX7_canBe_157 : decode cX7_canBe 157 = .ok (.iload_n 2, 1) := by decide +kernel
theorem dX7_canBe_158 : decode cX7_canBe 158 = .ok (.aload_n 0, 1) := by decide +kernel
theorem dX7_canBe_159 : decode cX7_canBe 159 = .ok (.getfield 7, 3) := by decide +kernel
theorem dX7_canBe_162 : decode cX7_canBe 162 = .ok (.bipush 22, 2) := by decide +kernel
theorem dX7_canBe_164 : decode cX7_canBe 164 = .ok (.iconst 2, 1) := by decide +kernel
theorem dX7_canBe_165 : decode cX7_canBe 165 = .ok (.iload_n 3, 1) := by decide +kernel
theorem dX7_canBe_166 : decode cX7_canBe 166 = .ok (.imul, 1) := by decide +kernel
theorem dX7_canBe_167 : decode cX7_canBe 167 = .ok (.iadd, 1) := by decide +kernel
theorem dX7_canBe_168 : decode cX7_canBe 168 = .ok (.iaload, 1) := by decide +kernel
theorem dX7_canBe_169 : decode cX7_canBe 169 = .ok (.aload_n 0, 1) := by decide +kernel
theorem dX7_canBe_170 : decode cX7_canBe 170 = .ok (.getfield 7, 3) := by decide +kernel
theorem dX7_canBe_173 : decode cX7_canBe 173 = .ok (.bipush 22, 2) := by decide +kernel
theorem dX7_canBe_175 : decode cX7_canBe 175 = .ok (.iconst 2, 1) := by decide +kernel
theorem dX7_canBe_176 : decode cX7_canBe 176 = .ok (.iload_n 3, 1) := by decide +kernel
theorem dX7_canBe_177 : decode cX7_canBe 177 = .ok (.imul, 1) := by decide +kernel
theorem dX7_canBe_178 : decode cX7_canBe 178 = .ok (.iadd, 1) := by decide +kernel
theorem dX7_canBe_179 : decode cX7_canBe 179 = .ok (.iconst 1, 1) := by decide +kernel
theorem dX7_canBe_180 : decode cX7_canBe 180 = .ok (.iadd, 1) := by decide +kernel
theorem dX7_canBe_181 : decode cX7_canBe 181 = .ok (.iaload, 1) := by decide +kernel
theorem dX7_canBe_182 : decode cX7_canBe 182 = .ok (.invokevirtual 212, 3) := by decide +kernel
theorem dX7_canBe_185 : decode cX7_canBe 185 = .ok (.istore_n 2, 1) := by decide +kernel
theorem dX7_canBe_186 : decode cX7_canBe 186 = .ok (.iinc 3 1, 3) := by decide +kernel
theorem dX7_canBe_189 : decode cX7_canBe 189 = .ok (.goto (-38), 3) := by decide +kernel
theorem dX7_canBe_192 : decode cX7_canBe 192 = .ok (.iload_n 2, 1) := by decide +kernel
theorem dX7_canBe_193 : decode cX7_canBe 193 = .ok (.ireturn, 1) := by decide +kernel
theorem dX7_canNow_0 : decode cX7_canNow 0 = .ok (.aload_n 0, 1) := by decide +kernel
theorem dX7_canNow_1 : decode cX7_canNow 1 = .ok (.invokevirtual 215, 3) := by decide +kernel
theorem dX7_canNow_4 : decode cX7_canNow 4 = .ok (.aload_n 0, 1) := by decide +kernel
theorem dX7_canNow_5 : decode cX7_canNow 5 = .ok (.aload_n 0, 1) := by decide +kernel
theorem dX7_canNow_6 : decode cX7_canNow 6 = .ok (.getfield 7, 3) := by decide +kernel
theorem dX7_canNow_9 : decode cX7_canNow 9 = .ok (.bipush 40, 2) := by decide +kernel
theorem dX7_canNow_11 : decode cX7_canNow 11 = .ok (.iaload, 1) := by decide +kernel
theorem dX7_canNow_12 : decode cX7_canNow 12 = .ok (.invokevirtual 218, 3) := by decide +kernel
theorem dX7_canNow_15 : decode cX7_canNow 15 = .ok (.ireturn, 1) := by decide +kernel
theorem dX7_can_0 : decode cX7_can 0 = .ok (.aload_n 0, 1) := by decide +kernel
theorem dX7_can_1 : decode cX7_can 1 = .ok (.invokevirtual 221, 3) := by decide +kernel
theorem dX7_can_4 : decode cX7_can 4 = .ok (.ireturn, 1) := by decide +kernel
theorem dX7_lowest_0 : decode cX7_lowest 0 = .ok (.lload_n 0, 1) := by decide +kernel
theorem dX7_lowest_1 : decode cX7_lowest 1 = .ok (.lstore 5, 2) := by decide +kernel
theorem dX7_lowest_3 : decode cX7_lowest 3 = .ok (.lload_n 2, 1) := by decide +kernel
theorem dX7_lowest_4 : decode cX7_lowest 4 = .ok (.lstore 7, 2) := by decide +kernel
theorem dX7_lowest_6 : decode cX7_lowest 6 = .ok (.lload 7, 2) := by decide +kernel
theorem dX7_lowest_8 : decode cX7_lowest 8 = .ok (.lconst 0, 1) := by decide +kernel
theorem dX7_lowest_9 : decode cX7_lowest 9 = .ok (.lcmp, 1) := by decide +kernel
theorem dX7_lowest_10 : decode cX7_lowest 10 = .ok (.ifCond .eq 21, 3) := by decide +kernel
theorem dX7_lowest_13 : decode cX7_lowest 13 = .ok (.lload 5, 2) := by decide +kernel
theorem dX7_lowest_15 : decode cX7_lowest 15 = .ok (.lload 7, 2) := by decide +kernel
theorem dX7_lowest_17 : decode cX7_lowest 17 = .ok (.lrem, 1) := by decide +kernel
theorem dX7_lowest_18 : decode cX7_lowest 18 = .ok (.lstore 9, 2) := by decide +kernel
theorem dX7_lowest_20 : decode cX7_lowest 20 = .ok (.lload 7, 2) := by decide +kernel
theorem dX7_lowest_22 : decode cX7_lowest 22 = .ok (.lstore 5, 2) := by decide +kernel
theorem dX7_lowest_24 : decode cX7_lowest 24 = .ok (.lload 9, 2) := by decide +kernel
theorem dX7_lowest_26 : decode cX7_lowest 26 = .ok (.lstore 7, 2) := by decide +kernel
theorem dX7_lowest_28 : decode cX7_lowest 28 = .ok (.goto (-22), 3) := by decide +kernel
theorem dX7_lowest_31 : decode cX7_lowest 31 = .ok (.iload 4, 2) := by decide +kernel
theorem dX7_lowest_33 : decode cX7_lowest 33 = .ok (.ifCond .ne 7, 3) := by decide +kernel
theorem dX7_lowest_36 : decode cX7_lowest 36 = .ok (.lload_n 0, 1) := by decide +kernel
theorem dX7_lowest_37 : decode cX7_lowest 37 = .ok (.goto 4, 3) := by decide +kernel
theorem dX7_lowest_40 : decode cX7_lowest 40 = .ok (.lload_n 2, 1) := by decide +kernel
theorem dX7_lowest_41 : decode cX7_lowest 41 = .ok (.lload 5, 2) := by decide +kernel
theorem dX7_lowest_43 : decode cX7_lowest 43 = .ok (.ldiv, 1) := by decide +kernel
theorem dX7_lowest_44 : decode cX7_lowest 44 = .ok (.lreturn, 1) := by decide +kernel
theorem dX7_oddsOf_0 : decode cX7_oddsOf 0 = .ok (.lconst 0, 1) := by decide +kernel
theorem dX7_oddsOf_1 : decode cX7_oddsOf 1 = .ok (.lstore_n 2, 1) := by decide +kernel
theorem dX7_oddsOf_2 : decode cX7_oddsOf 2 = .ok (.iconst 0, 1) := by decide +kernel
theorem dX7_oddsOf_3 : decode cX7_oddsOf 3 = .ok (.istore 4, 2) := by decide +kernel
theorem dX7_oddsOf_5 : decode cX7_oddsOf 5 = .ok (.iload 4, 2) := by decide +kernel
theorem dX7_oddsOf_7 : decode cX7_oddsOf 7 = .ok (.aload_n 0, 1) := by decide +kernel
theorem dX7_oddsOf_8 : decode cX7_oddsOf 8 = .ok (.getfield 155, 3) := by decide +kernel
theorem dX7_oddsOf_11 : decode cX7_oddsOf 11 = .ok (.if_icmp .ge 34, 3) := by decide +kernel
theorem dX7_oddsOf_14 : decode cX7_oddsOf 14 = .ok (.lload_n 2, 1) := by decide +kernel
theorem dX7_oddsOf_15 : decode cX7_oddsOf 15 = .ok (.iload_n 1, 1) := by decide +kernel
theorem dX7_oddsOf_16 : decode cX7_oddsOf 16 = .ok (.iload 4, 2) := by decide +kernel
theorem dX7_oddsOf_18 : decode cX7_oddsOf 18 = .ok (.ishr, 1) := by decide +kernel
theorem dX7_oddsOf_19 : decode cX7_oddsOf 19 = .ok (.iconst 1, 1) := by decide +kernel
theorem dX7_oddsOf_20 : decode cX7_oddsOf 20 = .ok (.iand, 1) := by decide +kernel
theorem dX7_oddsOf_21 : decode cX7_oddsOf 21 = .ok (.iconst 1, 1) := by decide +kernel
theorem dX7_oddsOf_22 : decode cX7_oddsOf 22 = .ok (.if_icmp .ne 14, 3) := by decide +kernel
theorem dX7_oddsOf_25 : decode cX7_oddsOf 25 = .ok (.aload_n 0, 1) := by decide +kernel
theorem dX7_oddsOf_26 : decode cX7_oddsOf 26 = .ok (.getfield 7, 3) := by decide +kernel
theorem dX7_oddsOf_29 : decode cX7_oddsOf 29 = .ok (.iload 4, 2) := by decide +kernel
theorem dX7_oddsOf_31 : decode cX7_oddsOf 31 = .ok (.iaload, 1) := by decide +kernel
theorem dX7_oddsOf_32 : decode cX7_oddsOf 32 = .ok (.i2l, 1) := by decide +kernel
theorem dX7_oddsOf_33 : decode cX7_oddsOf 33 = .ok (.goto 4, 3) := by decide +kernel
theorem dX7_oddsOf_36 : decode cX7_oddsOf 36 = .ok (.lconst 0, 1) := by decide +kernel
theorem dX7_oddsOf_37 : decode cX7_oddsOf 37 = .ok (.ladd, 1) := by decide +kernel
theorem dX7_oddsOf_38 : decode cX7_oddsOf 38 = .ok (.lstore_n 2, 1) := by decide +kernel
theorem dX7_oddsOf_39 : decode cX7_oddsOf 39 = .ok (.iinc 4 1, 3) := by decide +kernel
theorem dX7_oddsOf_42 : decode cX7_oddsOf 42 = .ok (.goto (-37), 3) := by decide +kernel
theorem dX7_oddsOf_45 : decode cX7_oddsOf 45 = .ok (.lload_n 2, 1) := by decide +kernel
theorem dX7_oddsOf_46 : decode cX7_oddsOf 46 = .ok (.lreturn, 1) := by decide +kernel
theorem dX7_likely_0 : decode cX7_likely 0 = .ok (.aload_n 0, 1) := by decide +kernel
theorem dX7_likely_1 : decode cX7_likely 1 = .ok (.iload_n 1, 1) := by decide +kernel
theorem dX7_likely_2 : decode cX7_likely 2 = .ok (.invokevirtual 160, 3) := by decide +kernel
theorem dX7_likely_5 : decode cX7_likely 5 = .ok (.ifCond .eq 13, 3) := by decide +kernel
theorem dX7_likely_8 : decode cX7_likely 8 = .ok (.iload_n 2, 1) := by decide +kernel
theorem dX7_likely_9 : decode cX7_likely 9 = .ok (.i2l, 1) := by decide +kernel
theorem dX7_likely_10 : decode cX7_likely 10 = .ok (.lconst 0, 1) := by decide +kernel
theorem dX7_likely_11 : decode cX7_likely 11 = .ok (.lconst 1, 1) := by decide +kernel
theorem dX7_likely_12 : decode cX7_likely 12 = .ok (.invokestatic 68, 3) := by decide +kernel
theorem dX7_likely_15 : decode cX7_likely 15 = .ok (.ifCond .ne 7, 3) := by decide +kernel
theorem dX7_likely_18 : decode cX7_likely 18 = .ok (.ldc2_w 224, 3) := by decide +kernel
theorem dX7_likely_21 : decode cX7_likely 21 = .ok (.lreturn, 1) := by decide +kernel
theorem dX7_likely_22 : decode cX7_likely 22 = .ok (.aload_n 0, 1) := by decide +kernel
theorem dX7_likely_23 : decode cX7_likely 23 = .ok (.invokevirtual 221, 3) := by decide +kernel
theorem dX7_likely_26 : decode cX7_likely 26 = .ok (.istore_n 3, 1) := by decide +kernel
theorem dX7_likely_27 : decode cX7_likely 27 = .ok (.iload_n 3, 1) := by decide +kernel
theorem dX7_likely_28 : decode cX7_likely 28 = .ok (.ifCond .ne 9, 3) := by decide +kernel
theorem dX7_likely_31 : decode cX7_likely 31 = .ok (.ldc2_w 226, 3) := by decide +kernel
theorem dX7_likely_34 : decode cX7_likely 34 = .ok (.goto 21, 3) := by decide +kernel
theorem dX7_likely_37 : decode cX7_likely 37 = .ok (.aload_n 0, 1) := by decide +kernel
theorem dX7_likely_38 : decode cX7_likely 38 = .ok (.iload_n 3, 1) := by decide +kernel
theorem dX7_likely_39 : decode cX7_likely 39 = .ok (.iconst 1, 1) := by decide +kernel
theorem dX7_likely_40 : decode cX7_likely 40 = .ok (.iload_n 1, 1) := by decide +kernel
theorem dX7_likely_41 : decode cX7_likely 41 = .ok (.ishl, 1) := by decide +kernel
theorem dX7_likely_42 : decode cX7_likely 42 = .ok (.iand, 1) := by decide +kernel
theorem dX7_likely_43 : decode cX7_likely 43 = .ok (.invokevirtual 228, 3) := by decide +kernel
theorem dX7_likely_46 : decode cX7_likely 46 = .ok (.aload_n 0, 1) := by decide +kernel
theorem dX7_likely_47 : decode cX7_likely 47 = .ok (.iload_n 3, 1) := by decide +kernel
theorem dX7_likely_48 : decode cX7_likely 48 = .ok (.invokevirtual 228, 3) := by decide +kernel
theorem dX7_likely_51 : decode cX7_likely 51 = .ok (.iload_n 2, 1) := by decide +kernel
theorem dX7_likely_52 : decode cX7_likely 52 = .ok (.invokestatic 232, 3) := by decide +kernel
theorem dX7_likely_55 : decode cX7_likely 55 = .ok (.lreturn, 1) := by decide +kernel
theorem dX7_lied_0 : decode cX7_lied 0 = .ok (.aload_n 0, 1) := by decide +kernel
theorem dX7_lied_1 : decode cX7_lied 1 = .ok (.invokevirtual 215, 3) := by decide +kernel
theorem dX7_lied_4 : decode cX7_lied 4 = .ok (.iconst 0, 1) := by decide +kernel
theorem dX7_lied_5 : decode cX7_lied 5 = .ok (.istore_n 1, 1) := by decide +kernel
theorem dX7_lied_6 : decode cX7_lied 6 = .ok (.iload_n 1, 1) := by decide +kernel
theorem dX7_lied_7 : decode cX7_lied 7 = .ok (.aload_n 0, 1) := by decide +kernel
theorem dX7_lied_8 : decode cX7_lied 8 = .ok (.getfield 7, 3) := by decide +kernel
theorem dX7_lied_11 : decode cX7_lied 11 = .ok (.bipush 40, 2) := by decide +kernel
theorem dX7_lied_13 : decode cX7_lied 13 = .ok (.iaload, 1) := by decide +kernel
theorem dX7_lied_14 : decode cX7_lied 14 = .ok (.if_icmp .ge 21, 3) := by decide +kernel
theorem dX7_lied_17 : decode cX7_lied 17 = .ok (.aload_n 0, 1) := by decide +kernel
theorem dX7_lied_18 : decode cX7_lied 18 = .ok (.iload_n 1, 1) := by decide +kernel
theorem dX7_lied_19 : decode cX7_lied 19 = .ok (.iconst 1, 1) := by decide +kernel
theorem dX7_lied_20 : decode cX7_lied 20 = .ok (.iadd, 1) := by decide +kernel
theorem dX7_lied_21 : decode cX7_lied 21 = .ok (.invokevirtual 218, 3) := by decide +kernel
theorem dX7_lied_24 : decode cX7_lied 24 = .ok (.ifCond .ne 5, 3) := by decide +kernel
theorem dX7_lied_27 : decode cX7_lied 27 = .ok (.iload_n 1, 1) := by decide +kernel
theorem dX7_lied_28 : decode cX7_lied 28 = .ok (.ireturn, 1) := by decide +kernel
theorem dX7_lied_29 : decode cX7_lied 29 = .ok (.iinc 1 1, 3) := by decide +kernel
theorem dX7_lied_32 : decode cX7_lied 32 = .ok (.goto (-26), 3) := by decide +kernel
theorem dX7_lied_35 : decode cX7_lied 35 = .ok (.bipush (-4), 2) := by decide +kernel
theorem dX7_lied_37 : decode cX7_lied 37 = .ok (.ireturn, 1) := by decide +kernel
theorem dX7_worstBy_0 : decode cX7_worstBy 0 = .ok (.aload_n 0, 1) := by decide +kernel
theorem dX7_worstBy_1 : decode cX7_worstBy 1 = .ok (.iload_n 1, 1) := by decide +kernel
theorem dX7_worstBy_2 : decode cX7_worstBy 2 = .ok (.iload_n 2, 1) := by decide +kernel
theorem dX7_worstBy_3 : decode cX7_worstBy 3 = .ok (.iconst 1, 1) := by decide +kernel
theorem dX7_worstBy_4 : decode cX7_worstBy 4 = .ok (.invokevirtual 212, 3) := by decide +kernel
theorem dX7_worstBy_7 : decode cX7_worstBy 7 = .ok (.invokestatic 191, 3) := by decide +kernel
theorem dX7_worstBy_10 : decode cX7_worstBy 10 = .ok (.istore_n 3, 1) := by decide +kernel
theorem dX7_worstBy_11 : decode cX7_worstBy 11 = .ok (.aload_n 0, 1) := by decide +kernel
theorem dX7_worstBy_12 : decode cX7_worstBy 12 = .ok (.iload_n 1, 1) := by decide +kernel
theorem dX7_worstBy_13 : decode cX7_worstBy 13 = .ok (.iload_n 2, 1) := by decide +kernel
theorem dX7_worstBy_14 : decode cX7_worstBy 14 = .ok (.iconst 0, 1) := by decide +kernel
theorem dX7_worstBy_15 : decode cX7_worstBy 15 = .ok (.invokevirtual 212, 3) := by decide +kernel
theorem dX7_worstBy_18 : decode cX7_worstBy 18 = .ok (.invokestatic 191, 3) := by decide +kernel
theorem dX7_worstBy_21 : decode cX7_worstBy 21 = .ok (.istore 4, 2) := by decide +kernel
theorem dX7_worstBy_23 : decode cX7_worstBy 23 = .ok (.iload_n 3, 1) := by decide +kernel
theorem dX7_worstBy_24 : decode cX7_worstBy 24 = .ok (.iload 4, 2) := by decide +kernel
theorem dX7_worstBy_26 : decode cX7_worstBy 26 = .ok (.if_icmp .le 7, 3) := by decide +kernel
theorem dX7_worstBy_29 : decode cX7_worstBy 29 = .ok (.iload_n 3, 1) := by decide +kernel
theorem dX7_worstBy_30 : decode cX7_worstBy 30 = .ok (.goto 5, 3) := by decide +kernel
theorem dX7_worstBy_33 : decode cX7_worstBy 33 = .ok (.iload 4, 2) := by decide +kernel
theorem dX7_worstBy_35 : decode cX7_worstBy 35 = .ok (.ireturn, 1) := by decide +kernel
theorem dX7_next_0 : decode cX7_next 0 = .ok (.iload_n 1, 1) := by decide +kernel
theorem dX7_next_1 : decode cX7_next 1 = .ok (.i2l, 1) := by decide +kernel
theorem dX7_next_2 : decode cX7_next 2 = .ok (.lconst 0, 1) := by decide +kernel
theorem dX7_next_3 : decode cX7_next 3 = .ok (.lconst 1, 1) := by decide +kernel
theorem dX7_next_4 : decode cX7_next 4 = .ok (.invokestatic 68, 3) := by decide +kernel
theorem dX7_next_7 : decode cX7_next 7 = .ok (.ifCond .ne 5, 3) := by decide +kernel
theorem dX7_next_10 : decode cX7_next 10 = .ok (.iconst (-1), 1) := by decide +kernel
theorem dX7_next_11 : decode cX7_next 11 = .ok (.ireturn, 1) := by decide +kernel
theorem dX7_next_12 : decode cX7_next 12 = .ok (.aload_n 0, 1) := by decide +kernel
theorem dX7_next_13 : decode cX7_next 13 = .ok (.invokevirtual 221, 3) := by decide +kernel
theorem dX7_next_16 : decode cX7_next 16 = .ok (.istore_n 2, 1) := by decide +kernel
theorem dX7_next_17 : decode cX7_next 17 = .ok (.iload_n 2, 1) := by decide +kernel
theorem dX7_next_18 : decode cX7_next 18 = .ok (.ifCond .ne 6, 3) := by decide +kernel
theorem dX7_next_21 : decode cX7_next 21 = .ok (.bipush (-2), 2) := by decide +kernel
theorem dX7_next_23 : decode cX7_next 23 = .ok (.ireturn, 1) := by decide +kernel
theorem dX7_next_24 : decode cX7_next 24 = .ok (.sipush 1000, 3) := by decide +kernel
theorem dX7_next_27 : decode cX7_next 27 = .ok (.istore_n 3, 1) := by decide +kernel
theorem dX7_next_28 : decode cX7_next 28 = .ok (.iconst 0, 1) := by decide +kernel
theorem dX7_next_29 : decode cX7_next 29 = .ok (.istore 4, 2) := by decide +kernel
theorem dX7_next_31 : decode cX7_next 31 = .ok (.iconst 0, 1) := by decide +kernel
theorem dX7_next_32 : decode cX7_next 32 = .ok (.istore 5, 2) := by decide +kernel
theorem dX7_next_34 : decode cX7_next 34 = .ok (.iload 5, 2) := by decide +kernel
theorem dX7_next_36 : decode cX7_next 36 = .ok (.aload_n 0, 1) := by decide +kernel
theorem dX7_next_37 : decode cX7_next 37 = .ok (.getfield 155, 3) := by decide +kernel
theorem dX7_next_40 : decode cX7_next 40 = .ok (.if_icmp .ge 46, 3) := by decide +kernel
theorem dX7_next_43 : decode cX7_next 43 = .ok (.aload_n 0, 1) := by decide +kernel
theorem dX7_next_44 : decode cX7_next 44 = .ok (.iload_n 2, 1) := by decide +kernel
theorem dX7_next_45 : decode cX7_next 45 = .ok (.iload 5, 2) := by decide +kernel
theorem dX7_next_47 : decode cX7_next 47 = .ok (.invokevirtual 236, 3) := by decide +kernel
theorem dX7_next_50 : decode cX7_next 50 = .ok (.istore 6, 2) := by decide +kernel
theorem dX7_next_52 : decode cX7_next 52 = .ok (.iload 6, 2) := by decide +kernel
theorem dX7_next_54 : decode cX7_next 54 = .ok (.iload_n 3, 1) := by decide +kernel
theorem dX7_next_55 : decode cX7_next 55 = .ok (.if_icmp .ge 8, 3) := by decide +kernel
theorem dX7_next_58 : decode cX7_next 58 = .ok (.iload 5, 2) := by decide +kernel
theorem dX7_next_60 : decode cX7_next 60 = .ok (.goto 5, 3) := by decide +kernel
theorem dX7_next_63 : decode cX7_next 63 = .ok (.iload 4, 2) := by decide +kernel
theorem dX7_next_65 : decode cX7_next 65 = .ok (.istore 4, 2) := by decide +kernel
theorem dX7_next_67 : decode cX7_next 67 = .ok (.iload 6, 2) := by decide +kernel
theorem dX7_next_69 : decode cX7_next 69 = .ok (.iload_n 3, 1) := by decide +kernel
theorem dX7_next_70 : decode cX7_next 70 = .ok (.if_icmp .ge 8, 3) := by decide +kernel
theorem dX7_next_73 : decode cX7_next 73 = .ok (.iload 6, 2) := by decide +kernel
theorem dX7_next_75 : decode cX7_next 75 = .ok (.goto 4, 3) := by decide +kernel
theorem dX7_next_78 : decode cX7_next 78 = .ok (.iload_n 3, 1) := by decide +kernel
theorem dX7_next_79 : decode cX7_next 79 = .ok (.istore_n 3, 1) := by decide +kernel
theorem dX7_next_80 : decode cX7_next 80 = .ok (.iinc 5 1, 3) := by decide +kernel
theorem dX7_next_83 : decode cX7_next 83 = .ok (.goto (-49), 3) := by decide +kernel
theorem dX7_next_86 : decode cX7_next 86 = .ok (.iload_n 1, 1) := by decide +kernel
theorem dX7_next_87 : decode cX7_next 87 = .ok (.ifCond .ne 8, 3) := by decide +kernel
theorem dX7_next_90 : decode cX7_next 90 = .ok (.iload 4, 2) := by decide +kernel
theorem dX7_next_92 : decode cX7_next 92 = .ok (.goto 4, 3) := by decide +kernel
theorem dX7_next_95 : decode cX7_next 95 = .ok (.iload_n 3, 1) := by decide +kernel
theorem dX7_next_96 : decode cX7_next 96 = .ok (.ireturn, 1) := by decide +kernel
theorem dX7_mostBy_0 : decode cX7_mostBy 0 = .ok (.aload_n 0, 1) := by decide +kernel
theorem dX7_mostBy_1 : decode cX7_mostBy 1 = .ok (.iload_n 1, 1) := by decide +kernel
theorem dX7_mostBy_2 : decode cX7_mostBy 2 = .ok (.iload_n 2, 1) := by decide +kernel
theorem dX7_mostBy_3 : decode cX7_mostBy 3 = .ok (.iconst 1, 1) := by decide +kernel
theorem dX7_mostBy_4 : decode cX7_mostBy 4 = .ok (.invokevirtual 212, 3) := by decide +kernel
theorem dX7_mostBy_7 : decode cX7_mostBy 7 = .ok (.istore_n 3, 1) := by decide +kernel
theorem dX7_mostBy_8 : decode cX7_mostBy 8 = .ok (.aload_n 0, 1) := by decide +kernel
theorem dX7_mostBy_9 : decode cX7_mostBy 9 = .ok (.iload_n 1, 1) := by decide +kernel
theorem dX7_mostBy_10 : decode cX7_mostBy 10 = .ok (.iload_n 2, 1) := by decide +kernel
theorem dX7_mostBy_11 : decode cX7_mostBy 11 = .ok (.iconst 0, 1) := by decide +kernel
theorem dX7_mostBy_12 : decode cX7_mostBy 12 = .ok (.invokevirtual 212, 3) := by decide +kernel
theorem dX7_mostBy_15 : decode cX7_mostBy 15 = .ok (.istore 4, 2) := by decide +kernel
theorem dX7_mostBy_17 : decode cX7_mostBy 17 = .ok (.iload_n 3, 1) := by decide +kernel
theorem dX7_mostBy_18 : decode cX7_mostBy 18 = .ok (.iload_n 1, 1) := by decide +kernel
theorem dX7_mostBy_19 : decode cX7_mostBy 19 = .ok (.if_icmp .eq 9, 3) := by decide +kernel
theorem dX7_mostBy_22 : decode cX7_mostBy 22 = .ok (.iload 4, 2) := by decide +kernel
theorem dX7_mostBy_24 : decode cX7_mostBy 24 = .ok (.iload_n 1, 1) := by decide +kernel
theorem dX7_mostBy_25 : decode cX7_mostBy 25 = .ok (.if_icmp .ne 7, 3) := by decide +kernel
theorem dX7_mostBy_28 : decode cX7_mostBy 28 = .ok (.sipush 1000, 3) := by decide +kernel
theorem dX7_mostBy_31 : decode cX7_mostBy 31 = .ok (.ireturn, 1) := by decide +kernel
theorem dX7_mostBy_32 : decode cX7_mostBy 32 = .ok (.iconst 1, 1) := by decide +kernel
theorem dX7_mostBy_33 : decode cX7_mostBy 33 = .ok (.aload_n 0, 1) := by decide +kernel
theorem dX7_mostBy_34 : decode cX7_mostBy 34 = .ok (.getfield 40, 3) := by decide +kernel
theorem dX7_mostBy_37 : decode cX7_mostBy 37 = .ok (.iload_n 3, 1) := by decide +kernel
theorem dX7_mostBy_38 : decode cX7_mostBy 38 = .ok (.iaload, 1) := by decide +kernel
theorem dX7_mostBy_39 : decode cX7_mostBy 39 = .ok (.aload_n 0, 1) := by decide +kernel
theorem dX7_mostBy_40 : decode cX7_mostBy 40 = .ok (.getfield 40, 3) := by decide +kernel
theorem dX7_mostBy_43 : decode cX7_mostBy 43 = .ok (.iload 4, 2) := by decide +kernel
theorem dX7_mostBy_45 : decode cX7_mostBy 45 = .ok (.iaload, 1) := by decide +kernel
theorem dX7_mostBy_46 : decode cX7_mostBy 46 = .ok (.if_icmp .le 12, 3) := by decide +kernel
theorem dX7_mostBy_49 : decode cX7_mostBy 49 = .ok (.aload_n 0, 1) := by decide +kernel
theorem dX7_mostBy_50 : decode cX7_mostBy 50 = .ok (.getfield 40, 3) := by decide +kernel
theorem dX7_mostBy_53 : decode cX7_mostBy 53 = .ok (.iload_n 3, 1) := by decide +kernel
theorem dX7_mostBy_54 : decode cX7_mostBy 54 = .ok (.iaload, 1) := by decide +kernel
theorem dX7_mostBy_55 : decode cX7_mostBy 55 = .ok (.goto 10, 3) := by decide +kernel
theorem dX7_mostBy_58 : decode cX7_mostBy 58 = .ok (.aload_n 0, 1) := by decide +kernel
theorem dX7_mostBy_59 : decode cX7_mostBy 59 = .ok (.getfield 40, 3) := by decide +kernel
theorem dX7_mostBy_62 : decode cX7_mostBy 62 = .ok (.iload 4, 2) := by decide +kernel
theorem dX7_mostBy_64 : decode cX7_mostBy 64 = .ok (.iaload, 1) := by decide +kernel
theorem dX7_mostBy_65 : decode cX7_mostBy 65 = .ok (.iadd, 1) := by decide +kernel
theorem dX7_mostBy_66 : decode cX7_mostBy 66 = .ok (.ireturn, 1) := by decide +kernel
theorem dX7_sumBy_0 : decode cX7_sumBy 0 = .ok (.aload_n 0, 1) := by decide +kernel
theorem dX7_sumBy_1 : decode cX7_sumBy 1 = .ok (.iload_n 1, 1) := by decide +kernel
theorem dX7_sumBy_2 : decode cX7_sumBy 2 = .ok (.iload_n 2, 1) := by decide +kernel
theorem dX7_sumBy_3 : decode cX7_sumBy 3 = .ok (.iconst 1, 1) := by decide +kernel
theorem dX7_sumBy_4 : decode cX7_sumBy 4 = .ok (.invokevirtual 212, 3) := by decide +kernel
theorem dX7_sumBy_7 : decode cX7_sumBy 7 = .ok (.istore_n 3, 1) := by decide +kernel
theorem dX7_sumBy_8 : decode cX7_sumBy 8 = .ok (.aload_n 0, 1) := by decide +kernel
theorem dX7_sumBy_9 : decode cX7_sumBy 9 = .ok (.iload_n 1, 1) := by decide +kernel
theorem dX7_sumBy_10 : decode cX7_sumBy 10 = .ok (.iload_n 2, 1) := by decide +kernel
theorem dX7_sumBy_11 : decode cX7_sumBy 11 = .ok (.iconst 0, 1) := by decide +kernel
theorem dX7_sumBy_12 : decode cX7_sumBy 12 = .ok (.invokevirtual 212, 3) := by decide +kernel
theorem dX7_sumBy_15 : decode cX7_sumBy 15 = .ok (.istore 4, 2) := by decide +kernel
theorem dX7_sumBy_17 : decode cX7_sumBy 17 = .ok (.iload_n 3, 1) := by decide +kernel
theorem dX7_sumBy_18 : decode cX7_sumBy 18 = .ok (.iload_n 1, 1) := by decide +kernel
theorem dX7_sumBy_19 : decode cX7_sumBy 19 = .ok (.if_icmp .eq 9, 3) := by decide +kernel
theorem dX7_sumBy_22 : decode cX7_sumBy 22 = .ok (.iload 4, 2) := by decide +kernel
theorem dX7_sumBy_24 : decode cX7_sumBy 24 = .ok (.iload_n 1, 1) := by decide +kernel
theorem dX7_sumBy_25 : decode cX7_sumBy 25 = .ok (.if_icmp .ne 9, 3) := by decide +kernel
theorem dX7_sumBy_28 : decode cX7_sumBy 28 = .ok (.ldc2_w 224, 3) := by decide +kernel
theorem dX7_sumBy_31 : decode cX7_sumBy 31 = .ok (.goto 23, 3) := by decide +kernel
theorem dX7_sumBy_34 : decode cX7_sumBy 34 = .ok (.aload_n 0, 1) := by decide +kernel
theorem dX7_sumBy_35 : decode cX7_sumBy 35 = .ok (.iload_n 1, 1) := by decide +kernel
theorem dX7_sumBy_36 : decode cX7_sumBy 36 = .ok (.invokevirtual 228, 3) := by decide +kernel
theorem dX7_sumBy_39 : decode cX7_sumBy 39 = .ok (.aload_n 0, 1) := by decide +kernel
theorem dX7_sumBy_40 : decode cX7_sumBy 40 = .ok (.getfield 43, 3) := by decide +kernel
theorem dX7_sumBy_43 : decode cX7_sumBy 43 = .ok (.iload_n 3, 1) := by decide +kernel
theorem dX7_sumBy_44 : decode cX7_sumBy 44 = .ok (.laload, 1) := by decide +kernel
theorem dX7_sumBy_45 : decode cX7_sumBy 45 = .ok (.ladd, 1) := by decide +kernel
theorem dX7_sumBy_46 : decode cX7_sumBy 46 = .ok (.aload_n 0, 1) := by decide +kernel
theorem dX7_sumBy_47 : decode cX7_sumBy 47 = .ok (.getfield 43, 3) := by decide +kernel
theorem dX7_sumBy_50 : decode cX7_sumBy 50 = .ok (.iload 4, 2) := by decide +kernel
theorem dX7_sumBy_52 : decode cX7_sumBy 52 = .ok (.laload, 1) := by decide +kernel
theorem dX7_sumBy_53 : decode cX7_sumBy 53 = .ok (.ladd, 1) := by decide +kernel
theorem dX7_sumBy_54 : decode cX7_sumBy 54 = .ok (.lreturn, 1) := by decide +kernel
theorem dX7_layFew_0 : decode cX7_layFew 0 = .ok (.aload_n 0, 1) := by decide +kernel
theorem dX7_layFew_1 : decode cX7_layFew 1 = .ok (.getfield 40, 3) := by decide +kernel
theorem dX7_layFew_4 : decode cX7_layFew 4 = .ok (.iconst 0, 1) := by decide +kernel
theorem dX7_layFew_5 : decode cX7_layFew 5 = .ok (.iconst 0, 1) := by decide +kernel
theorem dX7_layFew_6 : decode cX7_layFew 6 = .ok (.iastore, 1) := by decide +kernel
theorem dX7_layFew_7 : decode cX7_layFew 7 = .ok (.iconst 1, 1) := by decide +kernel
theorem dX7_layFew_8 : decode cX7_layFew 8 = .ok (.istore_n 1, 1) := by decide +kernel
theorem dX7_layFew_9 : decode cX7_layFew 9 = .ok (.iload_n 1, 1) := by decide +kernel
theorem dX7_layFew_10 : decode cX7_layFew 10 = .ok (.iconst 1, 1) := by decide +kernel
theorem dX7_layFew_11 : decode cX7_layFew 11 = .ok (.aload_n 0, 1) := by decide +kernel
theorem dX7_layFew_12 : decode cX7_layFew 12 = .ok (.getfield 155, 3) := by decide +kernel
theorem dX7_layFew_15 : decode cX7_layFew 15 = .ok (.ishl, 1) := by decide +kernel
theorem dX7_layFew_16 : decode cX7_layFew 16 = .ok (.if_icmp .ge 67, 3) := by decide +kernel
theorem dX7_layFew_19 : decode cX7_layFew 19 = .ok (.aload_n 0, 1) := by decide +kernel
theorem dX7_layFew_20 : decode cX7_layFew 20 = .ok (.getfield 40, 3) := by decide +kernel
theorem dX7_layFew_23 : decode cX7_layFew 23 = .ok (.iload_n 1, 1) := by decide +kernel
theorem dX7_layFew_24 : decode cX7_layFew 24 = .ok (.sipush 1000, 3) := by decide +kernel
theorem dX7_layFew_27 : decode cX7_layFew 27 = .ok (.iastore, 1) := by decide +kernel
theorem dX7_layFew_28 : decode cX7_layFew 28 = .ok (.iconst 0, 1) := by decide +kernel
theorem dX7_layFew_29 : decode cX7_layFew 29 = .ok (.istore_n 2, 1) := by decide +kernel
theorem dX7_layFew_30 : decode cX7_layFew 30 = .ok (.iload_n 2, 1) := by decide +kernel
theorem dX7_layFew_31 : decode cX7_layFew 31 = .ok (.aload_n 0, 1) := by decide +kernel
theorem dX7_layFew_32 : decode cX7_layFew 32 = .ok (.getfield 155, 3) := by decide +kernel
theorem dX7_layFew_35 : decode cX7_layFew 35 = .ok (.if_icmp .ge 42, 3) := by decide +kernel
theorem dX7_layFew_38 : decode cX7_layFew 38 = .ok (.aload_n 0, 1) := by decide +kernel
theorem dX7_layFew_39 : decode cX7_layFew 39 = .ok (.iload_n 1, 1) := by decide +kernel
theorem dX7_layFew_40 : decode cX7_layFew 40 = .ok (.iload_n 2, 1) := by decide +kernel
theorem dX7_layFew_41 : decode cX7_layFew 41 = .ok (.invokevirtual 239, 3) := by decide +kernel
theorem dX7_layFew_44 : decode cX7_layFew 44 = .ok (.istore_n 3, 1) := by decide +kernel
theorem dX7_layFew_45 : decode cX7_layFew 45 = .ok (.aload_n 0, 1) := by decide +kernel
theorem dX7_layFew_46 : decode cX7_layFew 46 = .ok (.getfield 40, 3) := by decide +kernel
theorem dX7_layFew_49 : decode cX7_layFew 49 = .ok (.iload_n 1, 1) := by decide +kernel
theorem dX7_layFew_50 : decode cX7_layFew 50 = .ok (.iload_n 3, 1) := by decide +kernel
theorem dX7_layFew_51 : decode cX7_layFew 51 = .ok (.aload_n 0, 1) := by decide +kernel
theorem dX7_layFew_52 : decode cX7_layFew 52 = .ok (.getfield 40, 3) := by decide +kernel
theorem dX7_layFew_55 : decode cX7_layFew 55 = .ok (.iload_n 1, 1) := by decide +kernel
theorem dX7_layFew_56 : decode cX7_layFew 56 = .ok (.iaload, 1) := by decide +kernel
theorem dX7_layFew_57 : decode cX7_layFew 57 = .ok (.if_icmp .ge 7, 3) := by decide +kernel
theorem dX7_layFew_60 : decode cX7_layFew 60 = .ok (.iload_n 3, 1) := by decide +kernel
theorem dX7_layFew_61 : decode cX7_layFew 61 = .ok (.goto 9, 3) := by decide +kernel
theorem dX7_layFew_64 : decode cX7_layFew 64 = .ok (.aload_n 0, 1) := by decide +kernel
theorem dX7_layFew_65 : decode cX7_layFew 65 = .ok (.getfield 40, 3) := by decide +kernel
theorem dX7_layFew_68 : decode cX7_layFew 68 = .ok (.iload_n 1, 1) := by decide +kernel
theorem dX7_layFew_69 : decode cX7_layFew 69 = .ok (.iaload, 1) := by decide +kernel
theorem dX7_layFew_70 : decode cX7_layFew 70 = .ok (.iastore, 1) := by decide +kernel
theorem dX7_layFew_71 : decode cX7_layFew 71 = .ok (.iinc 2 1, 3) := by decide +kernel
theorem dX7_layFew_74 : decode cX7_layFew 74 = .ok (.goto (-44), 3) := by decide +kernel
theorem dX7_layFew_77 : decode cX7_layFew 77 = .ok (.iinc 1 1, 3) := by decide +kernel
theorem dX7_layFew_80 : decode cX7_layFew 80 = .ok (.goto (-71), 3) := by decide +kernel
theorem dX7_layFew_83 : decode cX7_layFew 83 = .ok (.return_, 1) := by decide +kernel
theorem dX7_laySums_0 : decode cX7_laySums 0 = .ok (.aload_n 0, 1) := by decide +kernel
theorem dX7_laySums_1 : decode cX7_laySums 1 = .ok (.getfield 43, 3) := by decide +kernel
theorem dX7_laySums_4 : decode cX7_laySums 4 = .ok (.iconst 0, 1) := by decide +kernel
theorem dX7_laySums_5 : decode cX7_laySums 5 = .ok (.lconst 0, 1) := by decide +kernel
theorem dX7_laySums_6 : decode cX7_laySums 6 = .ok (.lastore, 1) := by decide +kernel
theorem dX7_laySums_7 : decode cX7_laySums 7 = .ok (.iconst 1, 1) := by decide +kernel
theorem dX7_laySums_8 : decode cX7_laySums 8 = .ok (.istore_n 1, 1) := by decide +kernel
theorem dX7_laySums_9 : decode cX7_laySums 9 = .ok (.iload_n 1, 1) := by decide +kernel
theorem dX7_laySums_10 : decode cX7_laySums 10 = .ok (.iconst 1, 1) := by decide +kernel
theorem dX7_laySums_11 : decode cX7_laySums 11 = .ok (.aload_n 0, 1) := by decide +kernel
theorem dX7_laySums_12 : decode cX7_laySums 12 = .ok (.getfield 155, 3) := by decide +kernel
theorem dX7_laySums_15 : decode cX7_laySums 15 = .ok (.ishl, 1) := by decide +kernel
theorem dX7_laySums_16 : decode cX7_laySums 16 = .ok (.if_icmp .ge 85, 3) := by decide +kernel
theorem dX7_laySums_19 : decode cX7_laySums 19 = .ok (.aload_n 0, 1) := by decide +kernel
theorem dX7_laySums_20 : decode cX7_laySums 20 = .ok (.getfield 43, 3) := by decide +kernel
theorem dX7_laySums_23 : decode cX7_laySums 23 = .ok (.iload_n 1, 1) := by decide +kernel
theorem dX7_laySums_24 : decode cX7_laySums 24 = .ok (.ldc2_w 224, 3) := by decide +kernel
theorem dX7_laySums_27 : decode cX7_laySums 27 = .ok (.lastore, 1) := by decide +kernel
theorem dX7_laySums_28 : decode cX7_laySums 28 = .ok (.iconst 0, 1) := by decide +kernel
theorem dX7_laySums_29 : decode cX7_laySums 29 = .ok (.istore_n 2, 1) := by decide +kernel
theorem dX7_laySums_30 : decode cX7_laySums 30 = .ok (.iload_n 2, 1) := by decide +kernel
theorem dX7_laySums_31 : decode cX7_laySums 31 = .ok (.aload_n 0, 1) := by decide +kernel
theorem dX7_laySums_32 : decode cX7_laySums 32 = .ok (.getfield 155, 3) := by decide +kernel
theorem dX7_laySums_35 : decode cX7_laySums 35 = .ok (.if_icmp .ge 60, 3) := by decide +kernel
theorem dX7_laySums_38 : decode cX7_laySums 38 = .ok (.aload_n 0, 1) := by decide +kernel
theorem dX7_laySums_39 : decode cX7_laySums 39 = .ok (.iload_n 1, 1) := by decide +kernel
theorem dX7_laySums_40 : decode cX7_laySums 40 = .ok (.iload_n 2, 1) := by decide +kernel
theorem dX7_laySums_41 : decode cX7_laySums 41 = .ok (.invokevirtual 242, 3) := by decide +kernel
theorem dX7_laySums_44 : decode cX7_laySums 44 = .ok (.lstore_n 3, 1) := by decide +kernel
theorem dX7_laySums_45 : decode cX7_laySums 45 = .ok (.aload_n 0, 1) := by decide +kernel
theorem dX7_laySums_46 : decode cX7_laySums 46 = .ok (.getfield 43, 3) := by decide +kernel
theorem dX7_laySums_49 : decode cX7_laySums 49 = .ok (.iload_n 1, 1) := by decide +kernel
theorem dX7_laySums_50 : decode cX7_laySums 50 = .ok (.lload_n 3, 1) := by decide +kernel
theorem dX7_laySums_51 : decode cX7_laySums 51 = .ok (.lconst 0, 1) := by decide +kernel
theorem dX7_laySums_52 : decode cX7_laySums 52 = .ok (.lcmp, 1) := by decide +kernel
theorem dX7_laySums_53 : decode cX7_laySums 53 = .ok (.ifCond .lt 29, 3) := by decide +kernel
theorem dX7_laySums_56 : decode cX7_laySums 56 = .ok (.aload_n 0, 1) := by decide +kernel
theorem dX7_laySums_57 : decode cX7_laySums 57 = .ok (.getfield 43, 3) := by decide +kernel
theorem dX7_laySums_60 : decode cX7_laySums 60 = .ok (.iload_n 1, 1) := by decide +kernel
theorem dX7_laySums_61 : decode cX7_laySums 61 = .ok (.laload, 1) := by decide +kernel
theorem dX7_laySums_62 : decode cX7_laySums 62 = .ok (.lconst 0, 1) := by decide +kernel
theorem dX7_laySums_63 : decode cX7_laySums 63 = .ok (.lcmp, 1) := by decide +kernel
theorem dX7_laySums_64 : decode cX7_laySums 64 = .ok (.ifCond .lt 14, 3) := by decide +kernel
theorem dX7_laySums_67 : decode cX7_laySums 67 = .ok (.lload_n 3, 1) := by decide +kernel
theorem dX7_laySums_68 : decode cX7_laySums 68 = .ok (.aload_n 0, 1) := by decide +kernel
theorem dX7_laySums_69 : decode cX7_laySums 69 = .ok (.getfield 43, 3) := by decide +kernel
theorem dX7_laySums_72 : decode cX7_laySums 72 = .ok (.iload_n 1, 1) := by decide +kernel
theorem dX7_laySums_73 : decode cX7_laySums 73 = .ok (.laload, 1) := by decide +kernel
theorem dX7_laySums_74 : decode cX7_laySums 74 = .ok (.lcmp, 1) := by decide +kernel
theorem dX7_laySums_75 : decode cX7_laySums 75 = .ok (.ifCond .ge 7, 3) := by decide +kernel
theorem dX7_laySums_78 : decode cX7_laySums 78 = .ok (.lload_n 3, 1) := by decide +kernel
theorem dX7_laySums_79 : decode cX7_laySums 79 = .ok (.goto 9, 3) := by decide +kernel
theorem dX7_laySums_82 : decode cX7_laySums 82 = .ok (.aload_n 0, 1) := by decide +kernel
theorem dX7_laySums_83 : decode cX7_laySums 83 = .ok (.getfield 43, 3) := by decide +kernel
theorem dX7_laySums_86 : decode cX7_laySums 86 = .ok (.iload_n 1, 1) := by decide +kernel
theorem dX7_laySums_87 : decode cX7_laySums 87 = .ok (.laload, 1) := by decide +kernel
theorem dX7_laySums_88 : decode cX7_laySums 88 = .ok (.lastore, 1) := by decide +kernel
theorem dX7_laySums_89 : decode cX7_laySums 89 = .ok (.iinc 2 1, 3) := by decide +kernel
theorem dX7_laySums_92 : decode cX7_laySums 92 = .ok (.goto (-62), 3) := by decide +kernel
theorem dX7_laySums_95 : decode cX7_laySums 95 = .ok (.iinc 1 1, 3) := by decide +kernel
theorem dX7_laySums_98 : decode cX7_laySums 98 = .ok (.goto (-89), 3) := by decide +kernel
theorem dX7_laySums_101 : decode cX7_laySums 101 = .ok (.return_, 1) := by decide +kernel
theorem dX7_sure_0 : decode cX7_sure 0 = .ok (.iload_n 1, 1) := by decide +kernel
theorem dX7_sure_1 : decode cX7_sure 1 = .ok (.i2l, 1) := by decide +kernel
theorem dX7_sure_2 : decode cX7_sure 2 = .ok (.lconst 0, 1) := by decide +kernel
theorem dX7_sure_3 : decode cX7_sure 3 = .ok (.lconst 1, 1) := by decide +kernel
theorem dX7_sure_4 : decode cX7_sure 4 = .ok (.invokestatic 68, 3) := by decide +kernel
theorem dX7_sure_7 : decode cX7_sure 7 = .ok (.ifCond .ne 5, 3) := by decide +kernel
theorem dX7_sure_10 : decode cX7_sure 10 = .ok (.iconst (-1), 1) := by decide +kernel
theorem dX7_sure_11 : decode cX7_sure 11 = .ok (.ireturn, 1) := by decide +kernel
theorem dX7_sure_12 : decode cX7_sure 12 = .ok (.aload_n 0, 1) := by decide +kernel
theorem dX7_sure_13 : decode cX7_sure 13 = .ok (.invokevirtual 221, 3) := by decide +kernel
theorem dX7_sure_16 : decode cX7_sure 16 = .ok (.istore_n 2, 1) := by decide +kernel
theorem dX7_sure_17 : decode cX7_sure 17 = .ok (.iload_n 2, 1) := by decide +kernel
theorem dX7_sure_18 : decode cX7_sure 18 = .ok (.ifCond .ne 6, 3) := by decide +kernel
theorem dX7_sure_21 : decode cX7_sure 21 = .ok (.bipush (-2), 2) := by decide +kernel
theorem dX7_sure_23 : decode cX7_sure 23 = .ok (.ireturn, 1) := by decide +kernel
theorem dX7_sure_24 : decode cX7_sure 24 = .ok (.aload_n 0, 1) := by decide +kernel
theorem dX7_sure_25 : decode cX7_sure 25 = .ok (.invokevirtual 246, 3) := by decide +kernel
theorem dX7_sure_28 : decode cX7_sure 28 = .ok (.iconst 0, 1) := by decide +kernel
theorem dX7_sure_29 : decode cX7_sure 29 = .ok (.istore_n 3, 1) := by decide +kernel
theorem dX7_sure_30 : decode cX7_sure 30 = .ok (.aload_n 0, 1) := by decide +kernel
theorem dX7_sure_31 : decode cX7_sure 31 = .ok (.iload_n 2, 1) := by decide +kernel
theorem dX7_sure_32 : decode cX7_sure 32 = .ok (.iload_n 3, 1) := by decide +kernel
theorem dX7_sure_33 : decode cX7_sure 33 = .ok (.invokevirtual 239, 3) := by decide +kernel
theorem dX7_sure_36 : decode cX7_sure 36 = .ok (.aload_n 0, 1) := by decide +kernel
theorem dX7_sure_37 : decode cX7_sure 37 = .ok (.getfield 40, 3) := by decide +kernel
theorem dX7_sure_40 : decode cX7_sure 40 = .ok (.iload_n 2, 1) := by decide +kernel
theorem dX7_sure_41 : decode cX7_sure 41 = .ok (.iaload, 1) := by decide +kernel
theorem dX7_sure_42 : decode cX7_sure 42 = .ok (.if_icmp .eq 9, 3) := by decide +kernel
theorem dX7_sure_45 : decode cX7_sure 45 = .ok (.iinc 3 1, 3) := by decide +kernel
theorem dX7_sure_48 : decode cX7_sure 48 = .ok (.goto (-18), 3) := by decide +kernel
theorem dX7_sure_51 : decode cX7_sure 51 = .ok (.iload_n 1, 1) := by decide +kernel
theorem dX7_sure_52 : decode cX7_sure 52 = .ok (.ifCond .ne 12, 3) := by decide +kernel
theorem dX7_sure_55 : decode cX7_sure 55 = .ok (.aload_n 0, 1) := by decide +kernel
theorem dX7_sure_56 : decode cX7_sure 56 = .ok (.getfield 40, 3) := by decide +kernel
theorem dX7_sure_59 : decode cX7_sure 59 = .ok (.iload_n 2, 1) := by decide +kernel
theorem dX7_sure_60 : decode cX7_sure 60 = .ok (.iaload, 1) := by decide +kernel
theorem dX7_sure_61 : decode cX7_sure 61 = .ok (.goto 4, 3) := by decide +kernel
theorem dX7_sure_64 : decode cX7_sure 64 = .ok (.iload_n 3, 1) := by decide +kernel
theorem dX7_sure_65 : decode cX7_sure 65 = .ok (.ireturn, 1) := by decide +kernel
theorem dX7_mean_0 : decode cX7_mean 0 = .ok (.iload_n 1, 1) := by decide +kernel
theorem dX7_mean_1 : decode cX7_mean 1 = .ok (.i2l, 1) := by decide +kernel
theorem dX7_mean_2 : decode cX7_mean 2 = .ok (.lconst 0, 1) := by decide +kernel
theorem dX7_mean_3 : decode cX7_mean 3 = .ok (.ldc2_w 205, 3) := by decide +kernel
theorem dX7_mean_6 : decode cX7_mean 6 = .ok (.invokestatic 68, 3) := by decide +kernel
theorem dX7_mean_9 : decode cX7_mean 9 = .ok (.ifCond .ne 7, 3) := by decide +kernel
theorem dX7_mean_12 : decode cX7_mean 12 = .ok (.ldc2_w 224, 3) := by decide +kernel
theorem dX7_mean_15 : decode cX7_mean 15 = .ok (.lreturn, 1) := by decide +kernel
theorem dX7_mean_16 : decode cX7_mean 16 = .ok (.aload_n 0, 1) := by decide +kernel
theorem dX7_mean_17 : decode cX7_mean 17 = .ok (.invokevirtual 221, 3) := by decide +kernel
theorem dX7_mean_20 : decode cX7_mean 20 = .ok (.istore_n 2, 1) := by decide +kernel
theorem dX7_mean_21 : decode cX7_mean 21 = .ok (.iload_n 2, 1) := by decide +kernel
theorem dX7_mean_22 : decode cX7_mean 22 = .ok (.ifCond .ne 7, 3) := by decide +kernel
theorem dX7_mean_25 : decode cX7_mean 25 = .ok (.ldc2_w 226, 3) := by decide +kernel
theorem dX7_mean_28 : decode cX7_mean 28 = .ok (.lreturn, 1) := by decide +kernel
theorem dX7_mean_29 : decode cX7_mean 29 = .ok (.aload_n 0, 1) := by decide +kernel
theorem dX7_mean_30 : decode cX7_mean 30 = .ok (.invokevirtual 249, 3) := by decide +kernel
