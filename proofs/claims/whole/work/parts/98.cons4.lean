section
variable {Γ : q_G} {T : List (q_K × Nat)} {N : Nat → Nat → Nat} {L : Nat → Nat → Int} {G : Nat → Nat → Option Nat}
theorem k_iX7 {b : Nat} (hl78 : T.length = 78) (hT : T[77]? = some (.inr 7, b)) (hz : Z0 T N L G) : q_Con Γ mX7_init 1 18 1901 [.ref b] (T, N, L, G) (fun u h => u = none ∧ ∃ f : Nat → Nat, h = ((T ++ [(.inl (0, 240), (f 1)), (.inl (0, 81), (f 2)), (.inl (0, 9), (f 3)), (.inl (0, 60), (f 4)), (.inl (0, 81), (f 5)), (.inl (0, 9), (f 6)), (.inl (0, 160), (f 7)), (.inl (0, 10), (f 8)), (.inl (0, 42), (f 9)), (.inl (0, 9), (f 10)), (.inl (0, 512), (f 11)), (.inl (3, 512), (f 12)), (.inl (0, 3), (f 13)), (.inl (0, 3), (f 14)), (.inl (2, 2), (f 15)), (.inl (0, 4), (f 16)), (.inl (0, 4), (f 17)), (.inl (0, 160), (f 18))]), (q_s (q_s (q_s (q_s (q_s (q_s (q_s (q_s (q_s (q_s (q_s (q_s (q_s (q_s (q_s (q_s (q_s (q_s (q_s (q_s (q_s (q_s (q_s (q_s (q_s (q_s (q_s (q_s (q_s (q_s (q_s (q_s (q_s (q_s (q_s (q_s (q_s (q_s (q_s (q_s (q_s (q_s (q_s (q_s (q_s (q_s (q_s (q_s (q_s (q_s (q_s (q_s (q_s (q_s (q_s (q_s N 85 0 0) 85 1 4) 85 2 8) 85 3 12) 85 4 16) 85 5 23) 85 6 28) 85 7 32) 85 8 37) 85 9 42) 86 0 110) 86 1 97) 86 2 109) 86 3 101) 86 4 110) 86 5 101) 86 6 97) 86 7 114) 86 8 112) 86 9 97) 86 10 105) 86 11 114) 86 12 109) 86 13 97) 86 14 105) 86 15 100) 86 16 108) 86 17 101) 86 18 116) 86 19 116) 86 20 101) 86 21 114) 86 22 115) 86 23 115) 86 24 116) 86 25 97) 86 26 114) 86 27 116) 86 28 108) 86 29 111) 86 30 110) 86 31 103) 86 32 115) 86 33 104) 86 34 97) 86 35 114) 86 36 101) 86 37 115) 86 38 111) 86 39 117) 86 40 110) 86 41 100) 93 0 4294967292) 93 1 4294967292) 93 2 4294967292) 93 3 4294967292), L, (q_s (q_s (q_s (q_s (q_s (q_s (q_s (q_s (q_s (q_s (q_s (q_s (q_s (q_s (q_s (q_s (q_s (q_s G 77 0 (some (f 1))) 77 1 (some (f 2))) 77 3 (some (f 3))) 77 4 (some (f 4))) 77 5 (some (f 5))) 77 7 (some (f 6))) 77 9 (some (f 7))) 77 18 (some (f 8))) 77 19 (some (f 9))) 77 20 (some (f 10))) 77 21 (some (f 11))) 77 22 (some (f 12))) 77 23 (some (f 13))) 77 24 (some (f 14))) 77 25 (some (f 15))) 77 26 (some (f 16))) 77 27 (some (f 17))) 77 28 (some (f 18))))) := by
  refine q_con (by decide) rfl rfl (Nat.le_of_ble_eq_true rfl) ?_
  refine q_aload_n 1 rfl rfl dX7_init_0 ?_
  refine q_obj 4 rfl loX7_1 lo_ins lo_cod (Nat.le_of_ble_eq_true rfl) (Nat.le_of_ble_eq_true rfl) (Nat.le_of_ble_eq_true rfl) dX7_init_1 ?_
  refine q_aload_n 5 rfl rfl dX7_init_4 ?_
  refine q_sipush 8 rfl 240 (by decide +kernel) dX7_init_5 ?_
  refine q_newi 10 rfl 1 240 rfl rfl hz (by decide) (Nat.le_of_ble_eq_true rfl) (Nat.le_of_ble_eq_true rfl) an_int dX7_init_8 (fun a1 => ?_)
  have hT := q_app (R := [(.inl (0, 240), a1)]) hT
  have hz := hz.app (R := [(.inl (0, 240), a1)])
  have hl79 := q_len (x := (.inl (0, 240), a1)) hl78
  refine q_putR 13 rfl pX7_7 (fun _ => ⟨rfl, rfl⟩) rfl rfl rfl 77 hT dX7_init_10 ?_
  have hz := hz.putG (f := 0) (v := some a1) hT
  refine q_aload_n 14 rfl rfl dX7_init_13 ?_
  refine q_bipush 16 rfl 81 (by decide +kernel) dX7_init_14 ?_
  refine q_newi 18 rfl 2 321 rfl rfl hz (by decide) (Nat.le_of_ble_eq_true rfl) (Nat.le_of_ble_eq_true rfl) an_int dX7_init_16 (fun a2 => ?_)
  have hT := q_app (R := [(.inl (0, 81), a2)]) hT
  have hz := hz.app (R := [(.inl (0, 81), a2)])
  have hl80 := q_len (x := (.inl (0, 81), a2)) hl79
  refine q_putR 21 rfl pX7_13 (fun _ => ⟨rfl, rfl⟩) rfl rfl rfl 77 hT dX7_init_18 ?_
  have hz := hz.putG (f := 1) (v := some a2) hT
  refine q_aload_n 22 rfl rfl dX7_init_21 ?_
  refine q_bipush 24 rfl 9 (by decide +kernel) dX7_init_22 ?_
  refine q_newi 26 rfl 3 330 rfl rfl hz (by decide) (Nat.le_of_ble_eq_true rfl) (Nat.le_of_ble_eq_true rfl) an_int dX7_init_24 (fun a3 => ?_)
  have hT := q_app (R := [(.inl (0, 9), a3)]) hT
  have hz := hz.app (R := [(.inl (0, 9), a3)])
  have hl81 := q_len (x := (.inl (0, 9), a3)) hl80
  refine q_putR 29 rfl pX7_16 (fun _ => ⟨rfl, rfl⟩) rfl rfl rfl 77 hT dX7_init_26 ?_
  have hz := hz.putG (f := 3) (v := some a3) hT
  refine q_aload_n 30 rfl rfl dX7_init_29 ?_
  refine q_bipush 32 rfl 60 (by decide +kernel) dX7_init_30 ?_
  refine q_newi 34 rfl 4 390 rfl rfl hz (by decide) (Nat.le_of_ble_eq_true rfl) (Nat.le_of_ble_eq_true rfl) an_int dX7_init_32 (fun a4 => ?_)
  have hT := q_app (R := [(.inl (0, 60), a4)]) hT
  have hz := hz.app (R := [(.inl (0, 60), a4)])
  have hl82 := q_len (x := (.inl (0, 60), a4)) hl81
  refine q_putR 37 rfl pX7_19 (fun _ => ⟨rfl, rfl⟩) rfl rfl rfl 77 hT dX7_init_34 ?_
  have hz := hz.putG (f := 4) (v := some a4) hT
  refine q_aload_n 38 rfl rfl dX7_init_37 ?_
  refine q_bipush 40 rfl 81 (by decide +kernel) dX7_init_38 ?_
  refine q_newi 42 rfl 5 471 rfl rfl hz (by decide) (Nat.le_of_ble_eq_true rfl) (Nat.le_of_ble_eq_true rfl) an_int dX7_init_40 (fun a5 => ?_)
  have hT := q_app (R := [(.inl (0, 81), a5)]) hT
  have hz := hz.app (R := [(.inl (0, 81), a5)])
  have hl83 := q_len (x := (.inl (0, 81), a5)) hl82
  refine q_putR 45 rfl pX7_22 (fun _ => ⟨rfl, rfl⟩) rfl rfl rfl 77 hT dX7_init_42 ?_
  have hz := hz.putG (f := 5) (v := some a5) hT
  refine q_aload_n 46 rfl rfl dX7_init_45 ?_
  refine q_bipush 48 rfl 9 (by decide +kernel) dX7_init_46 ?_
  refine q_newi 50 rfl 6 480 rfl rfl hz (by decide) (Nat.le_of_ble_eq_true rfl) (Nat.le_of_ble_eq_true rfl) an_int dX7_init_48 (fun a6 => ?_)
  have hT := q_app (R := [(.inl (0, 9), a6)]) hT
  have hz := hz.app (R := [(.inl (0, 9), a6)])
  have hl84 := q_len (x := (.inl (0, 9), a6)) hl83
  refine q_putR 53 rfl pX7_25 (fun _ => ⟨rfl, rfl⟩) rfl rfl rfl 77 hT dX7_init_50 ?_
  have hz := hz.putG (f := 7) (v := some a6) hT
  refine q_aload_n 54 rfl rfl dX7_init_53 ?_
  refine q_sipush 57 rfl 160 (by decide +kernel) dX7_init_54 ?_
  refine q_newi 59 rfl 7 640 rfl rfl hz (by decide) (Nat.le_of_ble_eq_true rfl) (Nat.le_of_ble_eq_true rfl) an_int dX7_init_57 (fun a7 => ?_)
  have hT := q_app (R := [(.inl (0, 160), a7)]) hT
  have hz := hz.app (R := [(.inl (0, 160), a7)])
  have hl85 := q_len (x := (.inl (0, 160), a7)) hl84
  refine q_putR 62 rfl pX7_28 (fun _ => ⟨rfl, rfl⟩) rfl rfl rfl 77 hT dX7_init_59 ?_
  have hz := hz.putG (f := 9) (v := some a7) hT
  refine q_aload_n 63 rfl rfl dX7_init_62 ?_
  refine q_bipush 65 rfl 10 (by decide +kernel) dX7_init_63 ?_
  refine q_newi 67 rfl 8 650 rfl rfl hz (by decide) (Nat.le_of_ble_eq_true rfl) (Nat.le_of_ble_eq_true rfl) an_int dX7_init_65 (fun a8 => ?_)
  have hT := q_app (R := [(.inl (0, 10), a8)]) hT
  have hz := hz.app (R := [(.inl (0, 10), a8)])
  have hl86 := q_len (x := (.inl (0, 10), a8)) hl85
  have hT85 := q_lastN (x := (.inl (0, 10), a8)) hl85
  refine q_dup 68 rfl rfl dX7_init_67 ?_
  refine q_iconst 69 rfl 0 (by decide +kernel) dX7_init_68 ?_
  refine q_iconst 70 rfl 0 (by decide +kernel) dX7_init_69 ?_
  refine q_iast 71 rfl 85 hT85 (by decide) (by decide) dX7_init_70 ?_
  have hz := hz.putN (f := 0) (v := 0) hT85
  refine q_dup 72 rfl rfl dX7_init_71 ?_
  refine q_iconst 73 rfl 1 (by decide +kernel) dX7_init_72 ?_
  refine q_iconst 74 rfl 4 (by decide +kernel) dX7_init_73 ?_
  refine q_iast 75 rfl 85 hT85 (by decide) (by decide) dX7_init_74 ?_
  have hz := hz.putN (f := 1) (v := 4) hT85
  refine q_dup 76 rfl rfl dX7_init_75 ?_
  refine q_iconst 77 rfl 2 (by decide +kernel) dX7_init_76 ?_
  refine q_bipush 79 rfl 8 (by decide +kernel) dX7_init_77 ?_
  refine q_iast 80 rfl 85 hT85 (by decide) (by decide) dX7_init_79 ?_
  have hz := hz.putN (f := 2) (v := 8) hT85
  refine q_dup 81 rfl rfl dX7_init_80 ?_
  refine q_iconst 82 rfl 3 (by decide +kernel) dX7_init_81 ?_
  refine q_bipush 84 rfl 12 (by decide +kernel) dX7_init_82 ?_
  refine q_iast 85 rfl 85 hT85 (by decide) (by decide) dX7_init_84 ?_
  have hz := hz.putN (f := 3) (v := 12) hT85
  refine q_dup 86 rfl rfl dX7_init_85 ?_
  refine q_iconst 87 rfl 4 (by decide +kernel) dX7_init_86 ?_
  refine q_bipush 89 rfl 16 (by decide +kernel) dX7_init_87 ?_
  refine q_iast 90 rfl 85 hT85 (by decide) (by decide) dX7_init_89 ?_
  have hz := hz.putN (f := 4) (v := 16) hT85
  refine q_dup 91 rfl rfl dX7_init_90 ?_
  refine q_iconst 92 rfl 5 (by decide +kernel) dX7_init_91 ?_
  refine q_bipush 94 rfl 23 (by decide +kernel) dX7_init_92 ?_
  refine q_iast 95 rfl 85 hT85 (by decide) (by decide) dX7_init_94 ?_
  have hz := hz.putN (f := 5) (v := 23) hT85
  refine q_dup 96 rfl rfl dX7_init_95 ?_
  refine q_bipush 98 rfl 6 (by decide +kernel) dX7_init_96 ?_
  refine q_bipush 100 rfl 28 (by decide +kernel) dX7_init_98 ?_
  refine q_iast 101 rfl 85 hT85 (by decide) (by decide) dX7_init_100 ?_
  have hz := hz.putN (f := 6) (v := 28) hT85
  refine q_dup 102 rfl rfl dX7_init_101 ?_
  refine q_bipush 104 rfl 7 (by decide +kernel) dX7_init_102 ?_
  refine q_bipush 106 rfl 32 (by decide +kernel) dX7_init_104 ?_
  refine q_iast 107 rfl 85 hT85 (by decide) (by decide) dX7_init_106 ?_
  have hz := hz.putN (f := 7) (v := 32) hT85
  refine q_dup 108 rfl rfl dX7_init_107 ?_
  refine q_bipush 110 rfl 8 (by decide +kernel) dX7_init_108 ?_
  refine q_bipush 112 rfl 37 (by decide +kernel) dX7_init_110 ?_
  refine q_iast 113 rfl 85 hT85 (by decide) (by decide) dX7_init_112 ?_
  have hz := hz.putN (f := 8) (v := 37) hT85
  refine q_dup 114 rfl rfl dX7_init_113 ?_
  refine q_bipush 116 rfl 9 (by decide +kernel) dX7_init_114 ?_
  refine q_bipush 118 rfl 42 (by decide +kernel) dX7_init_116 ?_
  refine q_iast 119 rfl 85 hT85 (by decide) (by decide) dX7_init_118 ?_
  have hz := hz.putN (f := 9) (v := 42) hT85
  refine q_putR 122 rfl pX7_31 (fun _ => ⟨rfl, rfl⟩) rfl rfl rfl 77 hT dX7_init_119 ?_
  have hz := hz.putG (f := 18) (v := some a8) hT
  refine q_aload_n 123 rfl rfl dX7_init_122 ?_
  refine q_bipush 125 rfl 42 (by decide +kernel) dX7_init_123 ?_
  refine q_newi 127 rfl 9 692 rfl rfl hz (by decide) (Nat.le_of_ble_eq_true rfl) (Nat.le_of_ble_eq_true rfl) an_int dX7_init_125 (fun a9 => ?_)
  have hT85 := q_app (R := [(.inl (0, 42), a9)]) hT85
  have hT := q_app (R := [(.inl (0, 42), a9)]) hT
  have hz := hz.app (R := [(.inl (0, 42), a9)])
  have hl87 := q_len (x := (.inl (0, 42), a9)) hl86
  have hT86 := q_lastN (x := (.inl (0, 42), a9)) hl86
  refine q_dup 128 rfl rfl dX7_init_127 ?_
  refine q_iconst 129 rfl 0 (by decide +kernel) dX7_init_128 ?_
  refine q_bipush 131 rfl 110 (by decide +kernel) dX7_init_129 ?_
  refine q_iast 132 rfl 86 hT86 (by decide) (by decide) dX7_init_131 ?_
  have hz := hz.putN (f := 0) (v := 110) hT86
  refine q_dup 133 rfl rfl dX7_init_132 ?_
  refine q_iconst 134 rfl 1 (by decide +kernel) dX7_init_133 ?_
  refine q_bipush 136 rfl 97 (by decide +kernel) dX7_init_134 ?_
  refine q_iast 137 rfl 86 hT86 (by decide) (by decide) dX7_init_136 ?_
  have hz := hz.putN (f := 1) (v := 97) hT86
  refine q_dup 138 rfl rfl dX7_init_137 ?_
  refine q_iconst 139 rfl 2 (by decide +kernel) dX7_init_138 ?_
  refine q_bipush 141 rfl 109 (by decide +kernel) dX7_init_139 ?_
  refine q_iast 142 rfl 86 hT86 (by decide) (by decide) dX7_init_141 ?_
  have hz := hz.putN (f := 2) (v := 109) hT86
  refine q_dup 143 rfl rfl dX7_init_142 ?_
  refine q_iconst 144 rfl 3 (by decide +kernel) dX7_init_143 ?_
  refine q_bipush 146 rfl 101 (by decide +kernel) dX7_init_144 ?_
  refine q_iast 147 rfl 86 hT86 (by decide) (by decide) dX7_init_146 ?_
  have hz := hz.putN (f := 3) (v := 101) hT86
  refine q_dup 148 rfl rfl dX7_init_147 ?_
  refine q_iconst 149 rfl 4 (by decide +kernel) dX7_init_148 ?_
  refine q_bipush 151 rfl 110 (by decide +kernel) dX7_init_149 ?_
  refine q_iast 152 rfl 86 hT86 (by decide) (by decide) dX7_init_151 ?_
  have hz := hz.putN (f := 4) (v := 110) hT86
  refine q_dup 153 rfl rfl dX7_init_152 ?_
  refine q_iconst 154 rfl 5 (by decide +kernel) dX7_init_153 ?_
  refine q_bipush 156 rfl 101 (by decide +kernel) dX7_init_154 ?_
  refine q_iast 157 rfl 86 hT86 (by decide) (by decide) dX7_init_156 ?_
  have hz := hz.putN (f := 5) (v := 101) hT86
  refine q_dup 158 rfl rfl dX7_init_157 ?_
  refine q_bipush 160 rfl 6 (by decide +kernel) dX7_init_158 ?_
  refine q_bipush 162 rfl 97 (by decide +kernel) dX7_init_160 ?_
  refine q_iast 163 rfl 86 hT86 (by decide) (by decide) dX7_init_162 ?_
  have hz := hz.putN (f := 6) (v := 97) hT86
  refine q_dup 164 rfl rfl dX7_init_163 ?_
  refine q_bipush 166 rfl 7 (by decide +kernel) dX7_init_164 ?_
  refine q_bipush 168 rfl 114 (by decide +kernel) dX7_init_166 ?_
  refine q_iast 169 rfl 86 hT86 (by decide) (by decide) dX7_init_168 ?_
  have hz := hz.putN (f := 7) (v := 114) hT86
  refine q_dup 170 rfl rfl dX7_init_169 ?_
  refine q_bipush 172 rfl 8 (by decide +kernel) dX7_init_170 ?_
  refine q_bipush 174 rfl 112 (by decide +kernel) dX7_init_172 ?_
  refine q_iast 175 rfl 86 hT86 (by decide) (by decide) dX7_init_174 ?_
  have hz := hz.putN (f := 8) (v := 112) hT86
  refine q_dup 176 rfl rfl dX7_init_175 ?_
  refine q_bipush 178 rfl 9 (by decide +kernel) dX7_init_176 ?_
  refine q_bipush 180 rfl 97 (by decide +kernel) dX7_init_178 ?_
  refine q_iast 181 rfl 86 hT86 (by decide) (by decide) dX7_init_180 ?_
  have hz := hz.putN (f := 9) (v := 97) hT86
  refine q_dup 182 rfl rfl dX7_init_181 ?_
  refine q_bipush 184 rfl 10 (by decide +kernel) dX7_init_182 ?_
  refine q_bipush 186 rfl 105 (by decide +kernel) dX7_init_184 ?_
  refine q_iast 187 rfl 86 hT86 (by decide) (by decide) dX7_init_186 ?_
  have hz := hz.putN (f := 10) (v := 105) hT86
  refine q_dup 188 rfl rfl dX7_init_187 ?_
  refine q_bipush 190 rfl 11 (by decide +kernel) dX7_init_188 ?_
  refine q_bipush 192 rfl 114 (by decide +kernel) dX7_init_190 ?_
  refine q_iast 193 rfl 86 hT86 (by decide) (by decide) dX7_init_192 ?_
  have hz := hz.putN (f := 11) (v := 114) hT86
  refine q_dup 194 rfl rfl dX7_init_193 ?_
  refine q_bipush 196 rfl 12 (by decide +kernel) dX7_init_194 ?_
  refine q_bipush 198 rfl 109 (by decide +kernel) dX7_init_196 ?_
  refine q_iast 199 rfl 86 hT86 (by decide) (by decide) dX7_init_198 ?_
  have hz := hz.putN (f := 12) (v := 109) hT86
  refine q_dup 200 rfl rfl dX7_init_199 ?_
  refine q_bipush 202 rfl 13 (by decide +kernel) dX7_init_200 ?_
  refine q_bipush 204 rfl 97 (by decide +kernel) dX7_init_202 ?_
  refine q_iast 205 rfl 86 hT86 (by decide) (by decide) dX7_init_204 ?_
  have hz := hz.putN (f := 13) (v := 97) hT86
  refine q_dup 206 rfl rfl dX7_init_205 ?_
  refine q_bipush 208 rfl 14 (by decide +kernel) dX7_init_206 ?_
  refine q_bipush 210 rfl 105 (by decide +kernel) dX7_init_208 ?_
  refine q_iast 211 rfl 86 hT86 (by decide) (by decide) dX7_init_210 ?_
  have hz := hz.putN (f := 14) (v := 105) hT86
  refine q_dup 212 rfl rfl dX7_init_211 ?_
  refine q_bipush 214 rfl 15 (by decide +kernel) dX7_init_212 ?_
  refine q_bipush 216 rfl 100 (by decide +kernel) dX7_init_214 ?_
  refine q_iast 217 rfl 86 hT86 (by decide) (by decide) dX7_init_216 ?_
  have hz := hz.putN (f := 15) (v := 100) hT86
  refine q_dup 218 rfl rfl dX7_init_217 ?_
  refine q_bipush 220 rfl 16 (by decide +kernel) dX7_init_218 ?_
  refine q_bipush 222 rfl 108 (by decide +kernel) dX7_init_220 ?_
  refine q_iast 223 rfl 86 hT86 (by decide) (by decide) dX7_init_222 ?_
  have hz := hz.putN (f := 16) (v := 108) hT86
  refine q_dup 224 rfl rfl dX7_init_223 ?_
  refine q_bipush 226 rfl 17 (by decide +kernel) dX7_init_224 ?_
  refine q_bipush 228 rfl 101 (by decide +kernel) dX7_init_226 ?_
  refine q_iast 229 rfl 86 hT86 (by decide) (by decide) dX7_init_228 ?_
  have hz := hz.putN (f := 17) (v := 101) hT86
  refine q_dup 230 rfl rfl dX7_init_229 ?_
  refine q_bipush 232 rfl 18 (by decide +kernel) dX7_init_230 ?_
  refine q_bipush 234 rfl 116 (by decide +kernel) dX7_init_232 ?_
  refine q_iast 235 rfl 86 hT86 (by decide) (by decide) dX7_init_234 ?_
  have hz := hz.putN (f := 18) (v := 116) hT86
  refine q_dup 236 rfl rfl dX7_init_235 ?_
  refine q_bipush 238 rfl 19 (by decide +kernel) dX7_init_236 ?_
  refine q_bipush 240 rfl 116 (by decide +kernel) dX7_init_238 ?_
  refine q_iast 241 rfl 86 hT86 (by decide) (by decide) dX7_init_240 ?_
  have hz := hz.putN (f := 19) (v := 116) hT86
  refine q_dup 242 rfl rfl dX7_init_241 ?_
  refine q_bipush 244 rfl 20 (by decide +kernel) dX7_init_242 ?_
  refine q_bipush 246 rfl 101 (by decide +kernel) dX7_init_244 ?_
  refine q_iast 247 rfl 86 hT86 (by decide) (by decide) dX7_init_246 ?_
  have hz := hz.putN (f := 20) (v := 101) hT86
  refine q_dup 248 rfl rfl dX7_init_247 ?_
  refine q_bipush 250 rfl 21 (by decide +kernel) dX7_init_248 ?_
  refine q_bipush 252 rfl 114 (by decide +kernel) dX7_init_250 ?_
  refine q_iast 253 rfl 86 hT86 (by decide) (by decide) dX7_init_252 ?_
  have hz := hz.putN (f := 21) (v := 114) hT86
  refine q_dup 254 rfl rfl dX7_init_253 ?_
  refine q_bipush 256 rfl 22 (by decide +kernel) dX7_init_254 ?_
  refine q_bipush 258 rfl 115 (by decide +kernel) dX7_init_256 ?_
  refine q_iast 259 rfl 86 hT86 (by decide) (by decide) dX7_init_258 ?_
  have hz := hz.putN (f := 22) (v := 115) hT86
  refine q_dup 260 rfl rfl dX7_init_259 ?_
  refine q_bipush 262 rfl 23 (by decide +kernel) dX7_init_260 ?_
  refine q_bipush 264 rfl 115 (by decide +kernel) dX7_init_262 ?_
  refine q_iast 265 rfl 86 hT86 (by decide) (by decide) dX7_init_264 ?_
  have hz := hz.putN (f := 23) (v := 115) hT86
  refine q_dup 266 rfl rfl dX7_init_265 ?_
  refine q_bipush 268 rfl 24 (by decide +kernel) dX7_init_266 ?_
  refine q_bipush 270 rfl 116 (by decide +kernel) dX7_init_268 ?_
  refine q_iast 271 rfl 86 hT86 (by decide) (by decide) dX7_init_270 ?_
  have hz := hz.putN (f := 24) (v := 116) hT86
  refine q_dup 272 rfl rfl dX7_init_271 ?_
  refine q_bipush 274 rfl 25 (by decide +kernel) dX7_init_272 ?_
  refine q_bipush 276 rfl 97 (by decide +kernel) dX7_init_274 ?_
  refine q_iast 277 rfl 86 hT86 (by decide) (by decide) dX7_init_276 ?_
  have hz := hz.putN (f := 25) (v := 97) hT86
  refine q_dup 278 rfl rfl dX7_init_277 ?_
  refine q_bipush 280 rfl 26 (by decide +kernel) dX7_init_278 ?_
  refine q_bipush 282 rfl 114 (by decide +kernel) dX7_init_280 ?_
  refine q_iast 283 rfl 86 hT86 (by decide) (by decide) dX7_init_282 ?_
  have hz := hz.putN (f := 26) (v := 114) hT86
  refine q_dup 284 rfl rfl dX7_init_283 ?_
  refine q_bipush 286 rfl 27 (by decide +kernel) dX7_init_284 ?_
  refine q_bipush 288 rfl 116 (by decide +kernel) dX7_init_286 ?_
  refine q_iast 289 rfl 86 hT86 (by decide) (by decide) dX7_init_288 ?_
  have hz := hz.putN (f := 27) (v := 116) hT86
  refine q_dup 290 rfl rfl dX7_init_289 ?_
  refine q_bipush 292 rfl 28 (by decide +kernel) dX7_init_290 ?_
  refine q_bipush 294 rfl 108 (by decide +kernel) dX7_init_292 ?_
  refine q_iast 295 rfl 86 hT86 (by decide) (by decide) dX7_init_294 ?_
  have hz := hz.putN (f := 28) (v := 108) hT86
  refine q_dup 296 rfl rfl dX7_init_295 ?_
  refine q_bipush 298 rfl 29 (by decide +kernel) dX7_init_296 ?_
  refine q_bipush 300 rfl 111 (by decide +kernel) dX7_init_298 ?_
  refine q_iast 301 rfl 86 hT86 (by decide) (by decide) dX7_init_300 ?_
  have hz := hz.putN (f := 29) (v := 111) hT86
  refine q_dup 302 rfl rfl dX7_init_301 ?_
  refine q_bipush 304 rfl 30 (by decide +kernel) dX7_init_302 ?_
  refine q_bipush 306 rfl 110 (by decide +kernel) dX7_init_304 ?_
  refine q_iast 307 rfl 86 hT86 (by decide) (by decide) dX7_init_306 ?_
  have hz := hz.putN (f := 30) (v := 110) hT86
  refine q_dup 308 rfl rfl dX7_init_307 ?_
  refine q_bipush 310 rfl 31 (by decide +kernel) dX7_init_308 ?_
  refine q_bipush 312 rfl 103 (by decide +kernel) dX7_init_310 ?_
  refine q_iast 313 rfl 86 hT86 (by decide) (by decide) dX7_init_312 ?_
  have hz := hz.putN (f := 31) (v := 103) hT86
  refine q_dup 314 rfl rfl dX7_init_313 ?_
  refine q_bipush 316 rfl 32 (by decide +kernel) dX7_init_314 ?_
  refine q_bipush 318 rfl 115 (by decide +kernel) dX7_init_316 ?_
  refine q_iast 319 rfl 86 hT86 (by decide) (by decide) dX7_init_318 ?_
  have hz := hz.putN (f := 32) (v := 115) hT86
  refine q_dup 320 rfl rfl dX7_init_319 ?_
  refine q_bipush 322 rfl 33 (by decide +kernel) dX7_init_320 ?_
  refine q_bipush 324 rfl 104 (by decide +kernel) dX7_init_322 ?_
  refine q_iast 325 rfl 86 hT86 (by decide) (by decide) dX7_init_324 ?_
  have hz := hz.putN (f := 33) (v := 104) hT86
  refine q_dup 326 rfl rfl dX7_init_325 ?_
  refine q_bipush 328 rfl 34 (by decide +kernel) dX7_init_326 ?_
  refine q_bipush 330 rfl 97 (by decide +kernel) dX7_init_328 ?_
  refine q_iast 331 rfl 86 hT86 (by decide) (by decide) dX7_init_330 ?_
  have hz := hz.putN (f := 34) (v := 97) hT86
  refine q_dup 332 rfl rfl dX7_init_331 ?_
  refine q_bipush 334 rfl 35 (by decide +kernel) dX7_init_332 ?_
  refine q_bipush 336 rfl 114 (by decide +kernel) dX7_init_334 ?_
  refine q_iast 337 rfl 86 hT86 (by decide) (by decide) dX7_init_336 ?_
  have hz := hz.putN (f := 35) (v := 114) hT86
  refine q_dup 338 rfl rfl dX7_init_337 ?_
  refine q_bipush 340 rfl 36 (by decide +kernel) dX7_init_338 ?_
  refine q_bipush 342 rfl 101 (by decide +kernel) dX7_init_340 ?_
  refine q_iast 343 rfl 86 hT86 (by decide) (by decide) dX7_init_342 ?_
  have hz := hz.putN (f := 36) (v := 101) hT86
  refine q_dup 344 rfl rfl dX7_init_343 ?_
  refine q_bipush 346 rfl 37 (by decide +kernel) dX7_init_344 ?_
  refine q_bipush 348 rfl 115 (by decide +kernel) dX7_init_346 ?_
  refine q_iast 349 rfl 86 hT86 (by decide) (by decide) dX7_init_348 ?_
  have hz := hz.putN (f := 37) (v := 115) hT86
  refine q_dup 350 rfl rfl dX7_init_349 ?_
  refine q_bipush 352 rfl 38 (by decide +kernel) dX7_init_350 ?_
  refine q_bipush 354 rfl 111 (by decide +kernel) dX7_init_352 ?_
  refine q_iast 355 rfl 86 hT86 (by decide) (by decide) dX7_init_354 ?_
  have hz := hz.putN (f := 38) (v := 111) hT86
  refine q_dup 356 rfl rfl dX7_init_355 ?_
  refine q_bipush 358 rfl 39 (by decide +kernel) dX7_init_356 ?_
  refine q_bipush 360 rfl 117 (by decide +kernel) dX7_init_358 ?_
  refine q_iast 361 rfl 86 hT86 (by decide) (by decide) dX7_init_360 ?_
  have hz := hz.putN (f := 39) (v := 117) hT86
  refine q_dup 362 rfl rfl dX7_init_361 ?_
  refine q_bipush 364 rfl 40 (by decide +kernel) dX7_init_362 ?_
  refine q_bipush 366 rfl 110 (by decide +kernel) dX7_init_364 ?_
  refine q_iast 367 rfl 86 hT86 (by decide) (by decide) dX7_init_366 ?_
  have hz := hz.putN (f := 40) (v := 110) hT86
  refine q_dup 368 rfl rfl dX7_init_367 ?_
  refine q_bipush 370 rfl 41 (by decide +kernel) dX7_init_368 ?_
  refine q_bipush 372 rfl 100 (by decide +kernel) dX7_init_370 ?_
  refine q_iast 373 rfl 86 hT86 (by decide) (by decide) dX7_init_372 ?_
  have hz := hz.putN (f := 41) (v := 100) hT86
  refine q_putR 376 rfl pX7_34 (fun _ => ⟨rfl, rfl⟩) rfl rfl rfl 77 hT dX7_init_373 ?_
  have hz := hz.putG (f := 19) (v := some a9) hT
  refine q_aload_n 377 rfl rfl dX7_init_376 ?_
  refine q_bipush 379 rfl 9 (by decide +kernel) dX7_init_377 ?_
  refine q_newi 381 rfl 10 701 rfl rfl hz (by decide) (Nat.le_of_ble_eq_true rfl) (Nat.le_of_ble_eq_true rfl) an_int dX7_init_379 (fun a10 => ?_)
  have hT85 := q_app (R := [(.inl (0, 9), a10)]) hT85
  have hT86 := q_app (R := [(.inl (0, 9), a10)]) hT86
  have hT := q_app (R := [(.inl (0, 9), a10)]) hT
  have hz := hz.app (R := [(.inl (0, 9), a10)])
  have hl88 := q_len (x := (.inl (0, 9), a10)) hl87
  refine q_putR 384 rfl pX7_37 (fun _ => ⟨rfl, rfl⟩) rfl rfl rfl 77 hT dX7_init_381 ?_
  have hz := hz.putG (f := 20) (v := some a10) hT
  refine q_aload_n 385 rfl rfl dX7_init_384 ?_
  refine q_sipush 388 rfl 512 (by decide +kernel) dX7_init_385 ?_
  refine q_newi 390 rfl 11 1213 rfl rfl hz (by decide) (Nat.le_of_ble_eq_true rfl) (Nat.le_of_ble_eq_true rfl) an_int dX7_init_388 (fun a11 => ?_)
  have hT85 := q_app (R := [(.inl (0, 512), a11)]) hT85
  have hT86 := q_app (R := [(.inl (0, 512), a11)]) hT86
  have hT := q_app (R := [(.inl (0, 512), a11)]) hT
  have hz := hz.app (R := [(.inl (0, 512), a11)])
  have hl89 := q_len (x := (.inl (0, 512), a11)) hl88
  refine q_putR 393 rfl pX7_40 (fun _ => ⟨rfl, rfl⟩) rfl rfl rfl 77 hT dX7_init_390 ?_
  have hz := hz.putG (f := 21) (v := some a11) hT
  refine q_aload_n 394 rfl rfl dX7_init_393 ?_
  refine q_sipush 397 rfl 512 (by decide +kernel) dX7_init_394 ?_
  refine q_newl 399 rfl 12 1725 rfl rfl hz (by decide) (Nat.le_of_ble_eq_true rfl) (Nat.le_of_ble_eq_true rfl) an_long dX7_init_397 (fun a12 => ?_)
  have hT85 := q_app (R := [(.inl (3, 512), a12)]) hT85
  have hT86 := q_app (R := [(.inl (3, 512), a12)]) hT86
  have hT := q_app (R := [(.inl (3, 512), a12)]) hT
  have hz := hz.app (R := [(.inl (3, 512), a12)])
  have hl90 := q_len (x := (.inl (3, 512), a12)) hl89
  refine q_putR 402 rfl pX7_43 (fun _ => ⟨rfl, rfl⟩) rfl rfl rfl 77 hT dX7_init_399 ?_
  have hz := hz.putG (f := 22) (v := some a12) hT
  refine q_aload_n 403 rfl rfl dX7_init_402 ?_
  refine q_iconst 404 rfl 3 (by decide +kernel) dX7_init_403 ?_
  refine q_newi 406 rfl 13 1728 rfl rfl hz (by decide) (Nat.le_of_ble_eq_true rfl) (Nat.le_of_ble_eq_true rfl) an_int dX7_init_404 (fun a13 => ?_)
  have hT85 := q_app (R := [(.inl (0, 3), a13)]) hT85
  have hT86 := q_app (R := [(.inl (0, 3), a13)]) hT86
  have hT := q_app (R := [(.inl (0, 3), a13)]) hT
  have hz := hz.app (R := [(.inl (0, 3), a13)])
  have hl91 := q_len (x := (.inl (0, 3), a13)) hl90
  refine q_putR 409 rfl pX7_47 (fun _ => ⟨rfl, rfl⟩) rfl rfl rfl 77 hT dX7_init_406 ?_
  have hz := hz.putG (f := 23) (v := some a13) hT
  refine q_aload_n 410 rfl rfl dX7_init_409 ?_
  refine q_iconst 411 rfl 3 (by decide +kernel) dX7_init_410 ?_
  refine q_newi 413 rfl 14 1731 rfl rfl hz (by decide) (Nat.le_of_ble_eq_true rfl) (Nat.le_of_ble_eq_true rfl) an_int dX7_init_411 (fun a14 => ?_)
  have hT85 := q_app (R := [(.inl (0, 3), a14)]) hT85
  have hT86 := q_app (R := [(.inl (0, 3), a14)]) hT86
  have hT := q_app (R := [(.inl (0, 3), a14)]) hT
  have hz := hz.app (R := [(.inl (0, 3), a14)])
  have hl92 := q_len (x := (.inl (0, 3), a14)) hl91
  refine q_putR 416 rfl pX7_50 (fun _ => ⟨rfl, rfl⟩) rfl rfl rfl 77 hT dX7_init_413 ?_
  have hz := hz.putG (f := 24) (v := some a14) hT
  refine q_aload_n 417 rfl rfl dX7_init_416 ?_
  refine q_iconst 418 rfl 2 (by decide +kernel) dX7_init_417 ?_
  refine q_newz 420 rfl 15 1733 rfl rfl hz (by decide) (Nat.le_of_ble_eq_true rfl) (Nat.le_of_ble_eq_true rfl) an_boolean dX7_init_418 (fun a15 => ?_)
  have hT85 := q_app (R := [(.inl (2, 2), a15)]) hT85
  have hT86 := q_app (R := [(.inl (2, 2), a15)]) hT86
  have hT := q_app (R := [(.inl (2, 2), a15)]) hT
  have hz := hz.app (R := [(.inl (2, 2), a15)])
  have hl93 := q_len (x := (.inl (2, 2), a15)) hl92
  refine q_putR 423 rfl pX7_53 (fun _ => ⟨rfl, rfl⟩) rfl rfl rfl 77 hT dX7_init_420 ?_
  have hz := hz.putG (f := 25) (v := some a15) hT
  refine q_aload_n 424 rfl rfl dX7_init_423 ?_
  refine q_iconst 425 rfl 4 (by decide +kernel) dX7_init_424 ?_
  refine q_newi 427 rfl 16 1737 rfl rfl hz (by decide) (Nat.le_of_ble_eq_true rfl) (Nat.le_of_ble_eq_true rfl) an_int dX7_init_425 (fun a16 => ?_)
  have hT85 := q_app (R := [(.inl (0, 4), a16)]) hT85
  have hT86 := q_app (R := [(.inl (0, 4), a16)]) hT86
  have hT := q_app (R := [(.inl (0, 4), a16)]) hT
  have hz := hz.app (R := [(.inl (0, 4), a16)])
  have hl94 := q_len (x := (.inl (0, 4), a16)) hl93
  have hT93 := q_lastN (x := (.inl (0, 4), a16)) hl93
  refine q_dup 428 rfl rfl dX7_init_427 ?_
  refine q_iconst 429 rfl 0 (by decide +kernel) dX7_init_428 ?_
  refine q_bipush 431 rfl 4294967292 (by decide +kernel) dX7_init_429 ?_
  refine q_iast 432 rfl 93 hT93 (by decide) (by decide) dX7_init_431 ?_
  have hz := hz.putN (f := 0) (v := 4294967292) hT93
  refine q_dup 433 rfl rfl dX7_init_432 ?_
  refine q_iconst 434 rfl 1 (by decide +kernel) dX7_init_433 ?_
  refine q_bipush 436 rfl 4294967292 (by decide +kernel) dX7_init_434 ?_
  refine q_iast 437 rfl 93 hT93 (by decide) (by decide) dX7_init_436 ?_
  have hz := hz.putN (f := 1) (v := 4294967292) hT93
  refine q_dup 438 rfl rfl dX7_init_437 ?_
  refine q_iconst 439 rfl 2 (by decide +kernel) dX7_init_438 ?_
  refine q_bipush 441 rfl 4294967292 (by decide +kernel) dX7_init_439 ?_
  refine q_iast 442 rfl 93 hT93 (by decide) (by decide) dX7_init_441 ?_
  have hz := hz.putN (f := 2) (v := 4294967292) hT93
  refine q_dup 443 rfl rfl dX7_init_442 ?_
  refine q_iconst 444 rfl 3 (by decide +kernel) dX7_init_443 ?_
  refine q_bipush 446 rfl 4294967292 (by decide +kernel) dX7_init_444 ?_
  refine q_iast 447 rfl 93 hT93 (by decide) (by decide) dX7_init_446 ?_
  have hz := hz.putN (f := 3) (v := 4294967292) hT93
  refine q_putR 450 rfl pX7_57 (fun _ => ⟨rfl, rfl⟩) rfl rfl rfl 77 hT dX7_init_447 ?_
  have hz := hz.putG (f := 26) (v := some a16) hT
  refine q_aload_n 451 rfl rfl dX7_init_450 ?_
  refine q_iconst 452 rfl 4 (by decide +kernel) dX7_init_451 ?_
  refine q_newi 454 rfl 17 1741 rfl rfl hz (by decide) (Nat.le_of_ble_eq_true rfl) (Nat.le_of_ble_eq_true rfl) an_int dX7_init_452 (fun a17 => ?_)
  have hT85 := q_app (R := [(.inl (0, 4), a17)]) hT85
  have hT93 := q_app (R := [(.inl (0, 4), a17)]) hT93
  have hT86 := q_app (R := [(.inl (0, 4), a17)]) hT86
  have hT := q_app (R := [(.inl (0, 4), a17)]) hT
  have hz := hz.app (R := [(.inl (0, 4), a17)])
  have hl95 := q_len (x := (.inl (0, 4), a17)) hl94
  refine q_putR 457 rfl pX7_60 (fun _ => ⟨rfl, rfl⟩) rfl rfl rfl 77 hT dX7_init_454 ?_
  have hz := hz.putG (f := 27) (v := some a17) hT
  refine q_aload_n 458 rfl rfl dX7_init_457 ?_
  refine q_sipush 461 rfl 160 (by decide +kernel) dX7_init_458 ?_
  refine q_newi 463 rfl 18 1901 rfl rfl hz (by decide) (Nat.le_of_ble_eq_true rfl) (Nat.le_of_ble_eq_true rfl) an_int dX7_init_461 (fun a18 => ?_)
  have hT85 := q_app (R := [(.inl (0, 160), a18)]) hT85
  have hT93 := q_app (R := [(.inl (0, 160), a18)]) hT93
  have hT86 := q_app (R := [(.inl (0, 160), a18)]) hT86
  have hT := q_app (R := [(.inl (0, 160), a18)]) hT
  have hz := hz.app (R := [(.inl (0, 160), a18)])
  have hl96 := q_len (x := (.inl (0, 160), a18)) hl95
  refine q_putR 466 rfl pX7_63 (fun _ => ⟨rfl, rfl⟩) rfl rfl rfl 77 hT dX7_init_463 ?_
  have hz := hz.putG (f := 28) (v := some a18) hT
  refine q_vret rfl dX7_init_466 ?_
  exact ⟨rfl, fun j => [0, a1, a2, a3, a4, a5, a6, a7, a8, a9, a10, a11, a12, a13, a14, a15, a16, a17, a18].getD j 0, by simp only [List.append_assoc, List.cons_append, List.nil_append] <;> rfl⟩
end
