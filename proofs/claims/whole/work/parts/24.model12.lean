/-- the fault of a pair of cells -/
def ftj (lane l f len j : Nat) : Nat := if lane = 4294967292 then 1 else if lane ≠ l then 3 else if f + 2 * j + 1 < len then 0 else 2
/-- reading on: r pairs are left, j came -/
def rdm (c lane l f len : Nat) (x y : Nat → Nat) : Nat → Nat → (Nat → Nat → Nat) → Nat × Nat × Nat × (Nat → Nat → Nat)
  | 0, j, H => (0, j, 0, H)
  | r + 1, j, H => if ftj lane l f len j ≠ 0 then (0, j, ftj lane l f len j, H) else if (x j < c ∧ y j ≤ 2) ∧ H 78 40 ≠ 9 then rdm c lane l f len x y r (j + 1) (gue7 H c (x j) (y j)).2 else (1, j, 0, H)
def rdf (q : Nat × Nat × Nat × (Nat → Nat → Nat)) : Nat × (Nat → Nat → Nat) := if q.1 = 0 then (q.2.1, q_s q.2.2.2 77 29 q.2.2.1) else (4294967276 - q.2.1, q_r q.2.2.2 78 (va_cpy (q.2.2.2 78) (q.2.2.2 78) 180 0 60))
abbrev asd (N : Nat → Nat → Nat) : Nat → Nat → Nat := q_r N 78 (va_cpy (N 78) (N 78) 0 180 60)
def read7 (N : Nat → Nat → Nat) (c X Y F n : Nat) : Nat × (Nat → Nat → Nat) := if (X ≤ 3 ∧ Y ≤ 2) ∧ n ≤ 20 then rdf (rdm c (N 93 X) Y F (N 94 X) (fun j => N 95 (40 * X + F + 2 * j)) (fun j => N 95 (40 * X + F + (2 * j + 1))) n 0 (asd N)) else (4294967295, N)
theorem gue7_ok {H : Nat → Nat → Nat} {c x y : Nat} (h : (x < c ∧ y ≤ 2) ∧ H 78 40 ≠ 9) : (gue7 H c x y).1 = H 78 40 + 1 := by rw [gue7, if_pos h.1, if_neg h.2]
theorem gue7_no {H : Nat → Nat → Nat} {c x y : Nat} (h : ¬ ((x < c ∧ y ≤ 2) ∧ H 78 40 ≠ 9)) : 2147483648 ≤ (gue7 H c x y).1 ∧ (gue7 H c x y).1 < 4294967296 ∧ (gue7 H c x y).2 = H := by
  rw [gue7]
  by_cases h1 : x < c ∧ y ≤ 2
  · have h2 : H 78 40 = 9 := Classical.byContradiction fun q => h ⟨h1, q⟩
    rw [if_pos h1, if_pos h2]
    exact ⟨by show 2147483648 ≤ 4294967293; omega, by show 4294967293 < 4294967296; omega, rfl⟩
  · rw [if_neg h1]
    exact ⟨by show 2147483648 ≤ 4294967295; omega, by show 4294967295 < 4294967296; omega, rfl⟩
theorem gue7_ne {H : Nat → Nat → Nat} {c x y a : Nat} (h : a ≠ 78) : (gue7 H c x y).2 a = H a := by
  rw [gue7]
  split
  · split
    · rfl
    · show q_s (q_s (q_s H 78 _ x) 78 _ y) 78 40 _ a = H a
      rw [q_s_ne h, q_s_ne h, q_s_ne h]
  · rfl
theorem gue7_40 {H : Nat → Nat → Nat} {c x y : Nat} (h : (x < c ∧ y ≤ 2) ∧ H 78 40 ≠ 9) : (gue7 H c x y).2 78 40 = H 78 40 + 1 := by
  rw [gue7, if_pos h.1, if_neg h.2]
  have := q_s_at (f := q_s (q_s H 78 (22 + 2 * H 78 40) x) 78 (22 + 2 * H 78 40 + 1) y) (i := 78) (j := 40) (v := H 78 40 + 1)
  exact this
theorem ftj_1 {lane l f len j : Nat} (h : lane = 4294967292) : ftj lane l f len j = 1 := if_pos h
theorem ftj_3 {lane l f len j : Nat} (h : lane ≠ 4294967292) (h2 : lane ≠ l) : ftj lane l f len j = 3 := by rw [ftj, if_neg h, if_pos h2]
theorem ftj_2 {lane l f len j : Nat} (h : lane ≠ 4294967292) (h2 : lane = l) (h3 : ¬ f + 2 * j + 1 < len) : ftj lane l f len j = 2 := by rw [ftj, if_neg h, if_neg (fun q => q h2), if_neg h3]
theorem ftj_0 {lane l f len j : Nat} (h : lane ≠ 4294967292) (h2 : lane = l) (h3 : f + 2 * j + 1 < len) : ftj lane l f len j = 0 := by rw [ftj, if_neg h, if_neg (fun q => q h2), if_pos h3]
theorem rdm_s {c lane l f len : Nat} {x y : Nat → Nat} {r j : Nat} {H : Nat → Nat → Nat} : rdm c lane l f len x y (r + 1) j H = if ftj lane l f len j ≠ 0 then (0, j, ftj lane l f len j, H) else if (x j < c ∧ y j ≤ 2) ∧ H 78 40 ≠ 9 then rdm c lane l f len x y r (j + 1) (gue7 H c (x j) (y j)).2 else (1, j, 0, H) := rfl
section
variable {Γ : q_G} {ad : Nat → Nat} {N : Nat → Nat → Nat} {L : Nat → Nat → Int} {G : Nat → Nat → Option Nat}
theorem read_end {X Y F n b cm i mc mz : Nat} {H : Nat → Nat → Nat} {Q : Option Value → q_H → Prop} (hG : GF ad G) (hb : b ≠ 0) (hb4 : b < 4) (hi : i ≤ 100) (hn : n ≤ 20) (hQ : Q (some (.int (nI cm))) (LT ad, q_s H 77 29 b, L, G)) : q_R Γ mX7_read (q_room 3 mc mz) (q_Z Γ Q 0 0) 0 0 56 [(0, .ref (ad 77)), (1, .int (nI X)), (2, .int (nI Y)), (3, .int (nI F)), (4, .int (nI n)), (5, .int (nI b)), (6, .int (nI cm)), (7, .int (nI (i)))] [] (LT ad, H, L, G) := by
  refine q_iload 58 rfl rfl dX7_read_56 ?_
  refine q_iconst 59 rfl 2 k_i2 dX7_read_58 ?_
  refine q_iload 61 rfl rfl dX7_read_59 ?_
  refine q_imul 62 rfl dX7_read_61 ?_
  refine q_icmp_ge 65 rfl 198 (by decide) (by omega) (by omega) dX7_read_62 (fun h62 => ?_) (fun h62 => ?_)
  · refine q_aload_n 199 rfl rfl dX7_read_198 ?_
    refine q_iload 201 rfl rfl dX7_read_199 ?_
    refine q_putI 204 rfl pX7_279 (fun q => by cases q) rfl 77 t_77 dX7_read_201 ?_
    refine q_iload 206 rfl rfl dX7_read_204 ?_
    refine q_iret rfl dX7_read_206 ?_
    exact hQ
  · refine q_iload 67 rfl rfl dX7_read_65 ?_
    refine q_if_ne 70 rfl 198 (by decide) (by omega) dX7_read_67 (fun h67 => ?_) (fun h67 => ?_)
    · refine q_aload_n 199 rfl rfl dX7_read_198 ?_
      refine q_iload 201 rfl rfl dX7_read_199 ?_
      refine q_putI 204 rfl pX7_279 (fun q => by cases q) rfl 77 t_77 dX7_read_201 ?_
      refine q_iload 206 rfl rfl dX7_read_204 ?_
      refine q_iret rfl dX7_read_206 ?_
      exact hQ
    · exfalso; omega
set_option maxHeartbeats 60000 in
theorem read_odd {X Y F n j r c mc mz : Nat} {H : Nat → Nat → Nat} {Q : Option Value → q_H → Prop} (hG : GF ad G) (hX : X ≤ 3) (hY : Y ≤ 2) (hF : F < 4294967296) (hn : n ≤ 20) (hc : N 77 2 = c) (hc9 : c ≤ 9) (hla : N 93 X < 4294967296) (hle : N 94 X ≤ 40) (hcl : ∀ i, i < 160 → N 95 i < 4294967296) (hH : ∀ a, a ≠ 78 → H a = N a) (hg : H 78 40 ≤ 9) (hj : j < n) (hl1 : N 93 X ≠ 4294967292) (hl2 : N 93 X = Y) (hf1 : F + 2 * j < N 94 X) (hQ : ∀ v K, (v, K) = rdf (rdm c (N 93 X) Y F (N 94 X) (fun j => N 95 (40 * X + F + 2 * j)) (fun j => N 95 (40 * X + F + (2 * j + 1))) (r + 1) j H) → Q (some (.int (nI v))) (LT ad, K, L, G)) (hnext : ∀ K, K = (gue7 H c (N 95 (40 * X + F + 2 * j)) (N 95 (40 * X + F + (2 * j + 1)))).2 → (N 95 (40 * X + F + 2 * j) < c ∧ N 95 (40 * X + F + (2 * j + 1)) ≤ 2) ∧ H 78 40 ≠ 9 → F + 2 * j + 1 < N 94 X → q_R Γ mX7_read (q_room 3 mc mz) (q_Z Γ Q 0 0) 0 0 56 [(0, .ref (ad 77)), (1, .int (nI X)), (2, .int (nI Y)), (3, .int (nI F)), (4, .int (nI n)), (5, .int (nI 0)), (6, .int (nI (j + 1))), (7, .int (nI (2 * j + 1 + 1)))] [] (LT ad, K, L, G)) : q_R Γ mX7_read (q_room 3 mc mz) (q_Z Γ Q 0 0) 0 0 56 [(0, .ref (ad 77)), (1, .int (nI X)), (2, .int (nI Y)), (3, .int (nI F)), (4, .int (nI n)), (5, .int (nI 0)), (6, .int (nI j)), (7, .int (nI (2 * j + 1)))] [] (LT ad, H, L, G) := by
  have e93 : H 93 X = N 93 X := by rw [hH 93 (by decide)]
  have e94 : H 94 X = N 94 X := by rw [hH 94 (by decide)]
  have e77 : H 77 2 = c := by rw [hH 77 (by decide)]; exact hc
  have zF := z_two F hF
  have rg0 : RG 0 := ⟨by decide, by decide⟩
  have rg2 : RG ((N 94 X : Int) - 1) := ⟨by omega, by omega⟩
  have rgF := z_s_rng F
  have zi := z_s_lo (a := 2 * j + 1) (by omega)
  have rg1 : RG (z_s F + ((2 * j + 1 : Nat) : Int)) := ⟨by omega, by omega⟩
  have e95 : H 95 = N 95 := hH 95 (by decide)
  have b1 := hcl (40 * X + F + 2 * j)
  have b2 := hcl (40 * X + F + (2 * j + 1))
  refine q_iload 58 rfl rfl dX7_read_56 ?_
  refine q_iconst 59 rfl 2 k_i2 dX7_read_58 ?_
  refine q_iload 61 rfl rfl dX7_read_59 ?_
  refine q_imul 62 rfl dX7_read_61 ?_
  refine q_icmp_ge 65 rfl 198 (by decide) (by omega) (by omega) dX7_read_62 (fun h62 => ?_) (fun h62 => ?_)
  · exfalso; omega
  · refine q_iload 67 rfl rfl dX7_read_65 ?_
    refine q_if_ne 70 rfl 198 (by decide) (by omega) dX7_read_67 (fun h67 => ?_) (fun h67 => ?_)
    · exfalso; omega
    · refine q_aload_n 71 rfl rfl dX7_read_70 ?_
      refine q_getR 74 rfl fX7_57 rfl 77 t_77 (g_77_26 hG) dX7_read_71 ?_
      refine q_iload_n 75 rfl rfl dX7_read_74 ?_
      refine q_iald 76 rfl 93 t_93 (by omega) (by decide) dX7_read_75 ?_
      rw [e93]
      refine q_bipush 78 rfl 4294967292 k_bm4 dX7_read_76 ?_
      refine q_icmp_ne 81 rfl 85 (by decide) (by omega) (by omega) dX7_read_78 (fun h78 => ?_) (fun h78 => ?_)
      · refine q_aload_n 86 rfl rfl dX7_read_85 ?_
        refine q_getR 89 rfl fX7_57 rfl 77 t_77 (g_77_26 hG) dX7_read_86 ?_
        refine q_iload_n 90 rfl rfl dX7_read_89 ?_
        refine q_iald 91 rfl 93 t_93 (by omega) (by decide) dX7_read_90 ?_
        rw [e93]
        refine q_iload_n 92 rfl rfl dX7_read_91 ?_
        refine q_icmp_eq 95 rfl 99 (by decide) (by omega) (by omega) dX7_read_92 (fun h92 => ?_) (fun h92 => ?_)
        · refine q_iload_n 100 rfl rfl dX7_read_99 ?_
          refine q_i2l 101 rfl dX7_read_100 ?_
          refine q_iload 103 rfl rfl dX7_read_101 ?_
          refine q_i2l 104 rfl dX7_read_103 ?_
          rw [zi]
          refine q_ladd 105 rfl dX7_read_104 ?_
          refine q_lconst 106 rfl 0 lN0 dX7_read_105 ?_
          refine q_aload_n 107 rfl rfl dX7_read_106 ?_
          refine q_getR 110 rfl fX7_60 rfl 77 t_77 (g_77_27 hG) dX7_read_107 ?_
          refine q_iload_n 111 rfl rfl dX7_read_110 ?_
          refine q_iald 112 rfl 94 t_94 (by omega) (by decide) dX7_read_111 ?_
          rw [e94]
          refine q_iconst 113 rfl 1 k_i1 dX7_read_112 ?_
          refine q_isubG 114 rfl (by omega) dX7_read_113 ?_
          refine q_i2l 115 rfl dX7_read_114 ?_
          rw [z_s_pred (c := N 94 X) (by omega)]
          refine q_cS3 118 rfl lX7_68 (k_inG rg1 rg0 rg2) rfl rfl rfl dX7_read_115 ?_
          refine q_if_neD 121 rfl 125 (by decide) dX7_read_118 (fun h118 => ?_) (fun h118 => ?_)
          · refine q_iconst 126 rfl 0 k_i0 dX7_read_125 ?_
            refine q_istore 128 rfl (by decide) dX7_read_126 ?_
            refine q_iload 130 rfl rfl dX7_read_128 ?_
            refine q_if_ne 133 rfl 192 (by decide) (by omega) dX7_read_130 (fun h130 => ?_) (fun h130 => ?_)
            · first
              | (exfalso; omega)
              | (refine q_iinc1 195 rfl 1 k_i1 rfl (by decide) dX7_read_192 ?_
                 refine q_goto 56 (by decide) dX7_read_195 ?_
                 exact q_loc (hnext _ rfl hok (by omega)) (q_sub1 rfl (q_sub1 rfl (q_sub1 rfl (q_sub1 rfl (q_sub1 rfl (q_sub1 rfl (q_sub1 rfl (q_sub1 rfl q_sub0)))))))))
            · first
              | (exfalso; omega)
              | (refine q_iload 135 rfl rfl dX7_read_133 ?_
                 refine q_iconst 136 rfl 2 k_i2 dX7_read_135 ?_
                 refine q_irem 137 rfl (by omega) (by omega) (by omega) dX7_read_136 ?_
                 refine q_iconst 138 rfl 1 k_i1 dX7_read_137 ?_
                 refine q_icmp_ne 141 rfl 192 (by decide) (by omega) (by omega) dX7_read_138 (fun h138 => ?_) (fun h138 => ?_)
                 · exfalso; omega
                 · refine q_bipush 143 rfl 40 k_b40 dX7_read_141 ?_
                   refine q_iload_n 144 rfl rfl dX7_read_143 ?_
                   refine q_imul 145 rfl dX7_read_144 ?_
                   refine q_iload_n 146 rfl rfl dX7_read_145 ?_
                   refine q_iadd 147 rfl dX7_read_146 ?_
                   refine q_iload 149 rfl rfl dX7_read_147 ?_
                   refine q_iadd 150 rfl dX7_read_149 ?_
                   refine q_istore 152 rfl (by decide) dX7_read_150 ?_
                   refine q_aload_n 153 rfl rfl dX7_read_152 ?_
                   refine q_aload_n 154 rfl rfl dX7_read_153 ?_
                   refine q_getR 157 rfl fX7_63 rfl 77 t_77 (g_77_28 hG) dX7_read_154 ?_
                   refine q_iload 159 rfl rfl dX7_read_157 ?_
                   refine q_iconst 160 rfl 1 k_i1 dX7_read_159 ?_
                   refine q_isub 161 rfl (by omega) dX7_read_160 ?_
                   rw [show 40 * X + F + (2 * j + 1) - 1 = 40 * X + F + 2 * j by omega]
                   refine q_iald 162 rfl 95 t_95 (by omega) (by decide) dX7_read_161 ?_
                   rw [e95]
                   refine q_aload_n 163 rfl rfl dX7_read_162 ?_
                   refine q_getR 166 rfl fX7_63 rfl 77 t_77 (g_77_28 hG) dX7_read_163 ?_
                   refine q_iload 168 rfl rfl dX7_read_166 ?_
                   refine q_iald 169 rfl 95 t_95 (by omega) (by decide) dX7_read_168 ?_
                   rw [e95]
                   refine q_cV2 172 rfl lX7_207 (k_guesses (N := H) hG e77 hc9 hg (b1 (by omega)) (b2 (by omega))) rfl 77 t_77 rfl rfl rfl dX7_read_169 ?_
                   have z00 : z_s 0 = 0 := rfl
                   by_cases hok : (N 95 (40 * X + F + 2 * j) < c ∧ N 95 (40 * X + F + (2 * j + 1)) ≤ 2) ∧ H 78 40 ≠ 9
                   rotate_left
                   · have g1 := gue7_no hok
                     have zg := z_two _ g1.2.1
                     refine q_ifS_ge 175 rfl 189 (by decide) dX7_read_172 (fun h172 => ?_) (fun h172 => ?_)
                     · exfalso; omega
                     · rw [g1.2.2]
                       refine q_aload_n 176 rfl rfl dX7_read_175 ?_
                       refine q_sipush 179 rfl 180 k_s180 dX7_read_176 ?_
                       refine q_iconst 180 rfl 0 k_i0 dX7_read_179 ?_
                       refine q_cV2v 183 rfl lX7_274 (k_copies hG (by omega) (by omega) (by omega)) rfl 77 t_77 rfl rfl rfl dX7_read_180 ?_
                       refine q_bipush 185 rfl 4294967276 k_bm20 dX7_read_183 ?_
                       refine q_iload 187 rfl rfl dX7_read_185 ?_
                       refine q_isub 188 rfl (by omega) dX7_read_187 ?_
                       refine q_iret rfl dX7_read_188 ?_
                       refine hQ _ _ ?_
                       rw [rdm_s, ftj_0 hl1 hl2 (by omega), if_neg (by decide), if_neg hok]; rfl
                   have g1 := gue7_ok hok
                   have zg := z_two (gue7 H c (N 95 (40 * X + F + 2 * j)) (N 95 (40 * X + F + (2 * j + 1)))).1 (by omega)
                   refine q_ifS_ge 175 rfl 189 (by decide) dX7_read_172 (fun h172 => ?_) (fun h172 => ?_)
                   · refine q_iinc1 192 rfl 1 k_i1 rfl (by decide) dX7_read_189 ?_
                     refine q_iinc1 195 rfl 1 k_i1 rfl (by decide) dX7_read_192 ?_
                     refine q_goto 56 (by decide) dX7_read_195 ?_
                     exact q_loc (hnext _ rfl hok (by omega)) (q_sub1 rfl (q_sub1 rfl (q_sub1 rfl (q_sub1 rfl (q_sub1 rfl (q_sub1 rfl (q_sub1 rfl (q_sub1 rfl q_sub0))))))))
                   · exfalso; omega)
          · refine q_iconst 122 rfl 2 k_i2 dX7_read_121 ?_
            refine q_goto 126 (by decide) dX7_read_122 ?_
            refine q_istore 128 rfl (by decide) dX7_read_126 ?_
            refine q_iload 130 rfl rfl dX7_read_128 ?_
            refine q_if_ne 133 rfl 192 (by decide) (by omega) dX7_read_130 (fun h130 => ?_) (fun h130 => ?_)
            · first
              | (exfalso; omega)
              | (refine q_iinc1 195 rfl 1 k_i1 rfl (by decide) dX7_read_192 ?_
                 refine q_goto 56 (by decide) dX7_read_195 ?_
                 exact q_loc (read_end hG (b := 2) (by decide) (by decide) (by omega) hn (hQ _ _ (by rw [rdm_s, ftj_2 hl1 hl2 (by omega)]; rfl))) (q_sub1 rfl (q_sub1 rfl (q_sub1 rfl (q_sub1 rfl (q_sub1 rfl (q_sub1 rfl (q_sub1 rfl (q_sub1 rfl q_sub0)))))))))
            · first
              | (exfalso; omega)
              | (refine q_iload 135 rfl rfl dX7_read_133 ?_
                 refine q_iconst 136 rfl 2 k_i2 dX7_read_135 ?_
                 refine q_irem 137 rfl (by omega) (by omega) (by omega) dX7_read_136 ?_
                 refine q_iconst 138 rfl 1 k_i1 dX7_read_137 ?_
                 refine q_icmp_ne 141 rfl 192 (by decide) (by omega) (by omega) dX7_read_138 (fun h138 => ?_) (fun h138 => ?_)
                 · exfalso; omega
                 · refine q_bipush 143 rfl 40 k_b40 dX7_read_141 ?_
                   refine q_iload_n 144 rfl rfl dX7_read_143 ?_
                   refine q_imul 145 rfl dX7_read_144 ?_
                   refine q_iload_n 146 rfl rfl dX7_read_145 ?_
                   refine q_iadd 147 rfl dX7_read_146 ?_
                   refine q_iload 149 rfl rfl dX7_read_147 ?_
                   refine q_iadd 150 rfl dX7_read_149 ?_
                   refine q_istore 152 rfl (by decide) dX7_read_150 ?_
                   refine q_aload_n 153 rfl rfl dX7_read_152 ?_
                   refine q_aload_n 154 rfl rfl dX7_read_153 ?_
                   refine q_getR 157 rfl fX7_63 rfl 77 t_77 (g_77_28 hG) dX7_read_154 ?_
                   refine q_iload 159 rfl rfl dX7_read_157 ?_
                   refine q_iconst 160 rfl 1 k_i1 dX7_read_159 ?_
                   refine q_isub 161 rfl (by omega) dX7_read_160 ?_
                   rw [show 40 * X + F + (2 * j + 1) - 1 = 40 * X + F + 2 * j by omega]
                   refine q_iald 162 rfl 95 t_95 (by omega) (by decide) dX7_read_161 ?_
                   rw [e95]
                   refine q_aload_n 163 rfl rfl dX7_read_162 ?_
                   refine q_getR 166 rfl fX7_63 rfl 77 t_77 (g_77_28 hG) dX7_read_163 ?_
                   refine q_iload 168 rfl rfl dX7_read_166 ?_
                   refine q_iald 169 rfl 95 t_95 (by omega) (by decide) dX7_read_168 ?_
                   rw [e95]
                   refine q_cV2 172 rfl lX7_207 (k_guesses (N := H) hG e77 hc9 hg (b1 (by omega)) (b2 (by omega))) rfl 77 t_77 rfl rfl rfl dX7_read_169 ?_
                   have z00 : z_s 0 = 0 := rfl
                   by_cases hok : (N 95 (40 * X + F + 2 * j) < c ∧ N 95 (40 * X + F + (2 * j + 1)) ≤ 2) ∧ H 78 40 ≠ 9
                   rotate_left
                   · have g1 := gue7_no hok
                     have zg := z_two _ g1.2.1
                     refine q_ifS_ge 175 rfl 189 (by decide) dX7_read_172 (fun h172 => ?_) (fun h172 => ?_)
                     · exfalso; omega
                     · rw [g1.2.2]
                       refine q_aload_n 176 rfl rfl dX7_read_175 ?_
                       refine q_sipush 179 rfl 180 k_s180 dX7_read_176 ?_
                       refine q_iconst 180 rfl 0 k_i0 dX7_read_179 ?_
                       refine q_cV2v 183 rfl lX7_274 (k_copies hG (by omega) (by omega) (by omega)) rfl 77 t_77 rfl rfl rfl dX7_read_180 ?_
                       refine q_bipush 185 rfl 4294967276 k_bm20 dX7_read_183 ?_
                       refine q_iload 187 rfl rfl dX7_read_185 ?_
                       refine q_isub 188 rfl (by omega) dX7_read_187 ?_
                       refine q_iret rfl dX7_read_188 ?_
                       refine hQ _ _ ?_
                       rw [rdm_s, ftj_0 hl1 hl2 (by omega), if_neg (by decide), if_neg hok]; rfl
                   have g1 := gue7_ok hok
                   have zg := z_two (gue7 H c (N 95 (40 * X + F + 2 * j)) (N 95 (40 * X + F + (2 * j + 1)))).1 (by omega)
                   refine q_ifS_ge 175 rfl 189 (by decide) dX7_read_172 (fun h172 => ?_) (fun h172 => ?_)
                   · refine q_iinc1 192 rfl 1 k_i1 rfl (by decide) dX7_read_189 ?_
                     refine q_iinc1 195 rfl 1 k_i1 rfl (by decide) dX7_read_192 ?_
                     refine q_goto 56 (by decide) dX7_read_195 ?_
                     exact q_loc (read_end hG (b := 2) (by decide) (by decide) (by omega) hn (hQ _ _ (by rw [rdm_s, ftj_2 hl1 hl2 (by omega)]; rfl))) (q_sub1 rfl (q_sub1 rfl (q_sub1 rfl (q_sub1 rfl (q_sub1 rfl (q_sub1 rfl (q_sub1 rfl (q_sub1 rfl q_sub0))))))))
                   · exfalso; omega)
        · exfalso; omega
      · exfalso; omega
theorem read_lp {X Y F n c mc mz : Nat} {Q : Option Value → q_H → Prop} (hG : GF ad G) (hX : X ≤ 3) (hY : Y ≤ 2) (hF : F < 4294967296) (hn : n ≤ 20) (hc : N 77 2 = c) (hc9 : c ≤ 9) (hla : N 93 X < 4294967296) (hle : N 94 X ≤ 40) (hcl : ∀ i, i < 160 → N 95 i < 4294967296) : ∀ r j (H : Nat → Nat → Nat), j + r = n → (j = 0 ∨ F < 2147483648) → (∀ a, a ≠ 78 → H a = N a) → H 78 40 ≤ 9 → (∀ v K, (v, K) = rdf (rdm c (N 93 X) Y F (N 94 X) (fun j => N 95 (40 * X + F + 2 * j)) (fun j => N 95 (40 * X + F + (2 * j + 1))) r j H) → Q (some (.int (nI v))) (LT ad, K, L, G)) → q_R Γ mX7_read (q_room 3 mc mz) (q_Z Γ Q 0 0) 0 0 56 [(0, .ref (ad 77)), (1, .int (nI X)), (2, .int (nI Y)), (3, .int (nI F)), (4, .int (nI n)), (5, .int (nI 0)), (6, .int (nI j)), (7, .int (nI (2 * j)))] [] (LT ad, H, L, G) := by
  intro r
  induction r with
  | zero =>
    intro j H hjr hj0 hH hg hQ
    refine q_iload 58 rfl rfl dX7_read_56 ?_
    refine q_iconst 59 rfl 2 k_i2 dX7_read_58 ?_
    refine q_iload 61 rfl rfl dX7_read_59 ?_
    refine q_imul 62 rfl dX7_read_61 ?_
    refine q_icmp_ge 65 rfl 198 (by decide) (by omega) (by omega) dX7_read_62 (fun h62 => ?_) (fun h62 => ?_)
    · refine q_aload_n 199 rfl rfl dX7_read_198 ?_
      refine q_iload 201 rfl rfl dX7_read_199 ?_
      refine q_putI 204 rfl pX7_279 (fun q => by cases q) rfl 77 t_77 dX7_read_201 ?_
      refine q_iload 206 rfl rfl dX7_read_204 ?_
      refine q_iret rfl dX7_read_206 ?_
      exact hQ _ _ rfl
    · exfalso; omega
  | succ r ih =>
    intro j H hjr hj0 hH hg hQ
    have e93 : H 93 X = N 93 X := by rw [hH 93 (by decide)]
    have e94 : H 94 X = N 94 X := by rw [hH 94 (by decide)]
    have e77 : H 77 2 = c := by rw [hH 77 (by decide)]; exact hc
    have zF := z_two F hF
    have rg0 : RG 0 := ⟨by decide, by decide⟩
    have rg2 : RG ((N 94 X : Int) - 1) := ⟨by omega, by omega⟩
    have rgF := z_s_rng F
    have zi := z_s_lo (a := 2 * j) (by omega)
    have rg1 : RG (z_s F + ((2 * j : Nat) : Int)) := ⟨by omega, by omega⟩
    refine q_iload 58 rfl rfl dX7_read_56 ?_
    refine q_iconst 59 rfl 2 k_i2 dX7_read_58 ?_
    refine q_iload 61 rfl rfl dX7_read_59 ?_
    refine q_imul 62 rfl dX7_read_61 ?_
    refine q_icmp_ge 65 rfl 198 (by decide) (by omega) (by omega) dX7_read_62 (fun h62 => ?_) (fun h62 => ?_)
    · exfalso; omega
    · refine q_iload 67 rfl rfl dX7_read_65 ?_
      refine q_if_ne 70 rfl 198 (by decide) (by omega) dX7_read_67 (fun h67 => ?_) (fun h67 => ?_)
      · exfalso; omega
      · refine q_aload_n 71 rfl rfl dX7_read_70 ?_
        refine q_getR 74 rfl fX7_57 rfl 77 t_77 (g_77_26 hG) dX7_read_71 ?_
        refine q_iload_n 75 rfl rfl dX7_read_74 ?_
        refine q_iald 76 rfl 93 t_93 (by omega) (by decide) dX7_read_75 ?_
        rw [e93]
        refine q_bipush 78 rfl 4294967292 k_bm4 dX7_read_76 ?_
        refine q_icmp_ne 81 rfl 85 (by decide) (by omega) (by omega) dX7_read_78 (fun h78 => ?_) (fun h78 => ?_)
        · refine q_aload_n 86 rfl rfl dX7_read_85 ?_
          refine q_getR 89 rfl fX7_57 rfl 77 t_77 (g_77_26 hG) dX7_read_86 ?_
          refine q_iload_n 90 rfl rfl dX7_read_89 ?_
          refine q_iald 91 rfl 93 t_93 (by omega) (by decide) dX7_read_90 ?_
          rw [e93]
          refine q_iload_n 92 rfl rfl dX7_read_91 ?_
          refine q_icmp_eq 95 rfl 99 (by decide) (by omega) (by omega) dX7_read_92 (fun h92 => ?_) (fun h92 => ?_)
          · refine q_iload_n 100 rfl rfl dX7_read_99 ?_
            refine q_i2l 101 rfl dX7_read_100 ?_
            refine q_iload 103 rfl rfl dX7_read_101 ?_
            refine q_i2l 104 rfl dX7_read_103 ?_
            rw [zi]
            refine q_ladd 105 rfl dX7_read_104 ?_
            refine q_lconst 106 rfl 0 lN0 dX7_read_105 ?_
            refine q_aload_n 107 rfl rfl dX7_read_106 ?_
            refine q_getR 110 rfl fX7_60 rfl 77 t_77 (g_77_27 hG) dX7_read_107 ?_
            refine q_iload_n 111 rfl rfl dX7_read_110 ?_
            refine q_iald 112 rfl 94 t_94 (by omega) (by decide) dX7_read_111 ?_
            rw [e94]
            refine q_iconst 113 rfl 1 k_i1 dX7_read_112 ?_
            refine q_isubG 114 rfl (by omega) dX7_read_113 ?_
            refine q_i2l 115 rfl dX7_read_114 ?_
            rw [z_s_pred (c := N 94 X) (by omega)]
            refine q_cS3 118 rfl lX7_68 (k_inG rg1 rg0 rg2) rfl rfl rfl dX7_read_115 ?_
            refine q_if_neD 121 rfl 125 (by decide) dX7_read_118 (fun h118 => ?_) (fun h118 => ?_)
            · refine q_iconst 126 rfl 0 k_i0 dX7_read_125 ?_
              refine q_istore 128 rfl (by decide) dX7_read_126 ?_
              refine q_iload 130 rfl rfl dX7_read_128 ?_
              refine q_if_ne 133 rfl 192 (by decide) (by omega) dX7_read_130 (fun h130 => ?_) (fun h130 => ?_)
              · first
                | (exfalso; omega)
                | (refine q_iinc1 195 rfl 1 k_i1 rfl (by decide) dX7_read_192 ?_
                   refine q_goto 56 (by decide) dX7_read_195 ?_
                   refine q_loc (read_odd (N := N) (r := r) hG hX hY hF hn hc hc9 hla hle hcl hH hg (by omega) (by omega) (by omega) (by omega) hQ ?_) (q_sub1 rfl (q_sub1 rfl (q_sub1 rfl (q_sub1 rfl (q_sub1 rfl (q_sub1 rfl (q_sub1 rfl (q_sub1 rfl q_sub0))))))))
                   intro K hK hok hin
                   have ef0 : ftj (N 93 X) Y F (N 94 X) j = 0 := ftj_0 (by omega) (by omega) hin
                   refine ih (j + 1) K (by omega) (by omega) (fun a ha => by rw [hK, gue7_ne ha]; exact hH a ha) (by rw [hK, gue7_40 hok]; omega) ?_
                   intro v K2 hv
                   refine hQ v K2 ?_
                   rw [rdm_s, ef0, if_neg (by decide), if_pos hok, ← hK]
                   exact hv)
              · first
                | (exfalso; omega)
                | (refine q_iload 135 rfl rfl dX7_read_133 ?_
                   refine q_iconst 136 rfl 2 k_i2 dX7_read_135 ?_
                   refine q_irem 137 rfl (by omega) (by omega) (by omega) dX7_read_136 ?_
                   refine q_iconst 138 rfl 1 k_i1 dX7_read_137 ?_
                   refine q_icmp_ne 141 rfl 192 (by decide) (by omega) (by omega) dX7_read_138 (fun h138 => ?_) (fun h138 => ?_)
                   · refine q_iinc1 195 rfl 1 k_i1 rfl (by decide) dX7_read_192 ?_
                     refine q_goto 56 (by decide) dX7_read_195 ?_
                     refine q_loc (read_odd (N := N) (r := r) hG hX hY hF hn hc hc9 hla hle hcl hH hg (by omega) (by omega) (by omega) (by omega) hQ ?_) (q_sub1 rfl (q_sub1 rfl (q_sub1 rfl (q_sub1 rfl (q_sub1 rfl (q_sub1 rfl (q_sub1 rfl (q_sub1 rfl q_sub0))))))))
                     intro K hK hok hin
                     have ef0 : ftj (N 93 X) Y F (N 94 X) j = 0 := ftj_0 (by omega) (by omega) hin
                     refine ih (j + 1) K (by omega) (by omega) (fun a ha => by rw [hK, gue7_ne ha]; exact hH a ha) (by rw [hK, gue7_40 hok]; omega) ?_
                     intro v K2 hv
                     refine hQ v K2 ?_
                     rw [rdm_s, ef0, if_neg (by decide), if_pos hok, ← hK]
                     exact hv
                   · exfalso; omega)
            · refine q_iconst 122 rfl 2 k_i2 dX7_read_121 ?_
              refine q_goto 126 (by decide) dX7_read_122 ?_
              refine q_istore 128 rfl (by decide) dX7_read_126 ?_
              refine q_iload 130 rfl rfl dX7_read_128 ?_
              refine q_if_ne 133 rfl 192 (by decide) (by omega) dX7_read_130 (fun h130 => ?_) (fun h130 => ?_)
              · first
                | (exfalso; omega)
                | (refine q_iinc1 195 rfl 1 k_i1 rfl (by decide) dX7_read_192 ?_
                   refine q_goto 56 (by decide) dX7_read_195 ?_
                   exact q_loc (read_end hG (b := 2) (by decide) (by decide) (by omega) hn (hQ _ _ (by rw [rdm_s, ftj_2 (by omega) (by omega) (by omega)]; rfl))) (q_sub1 rfl (q_sub1 rfl (q_sub1 rfl (q_sub1 rfl (q_sub1 rfl (q_sub1 rfl (q_sub1 rfl (q_sub1 rfl q_sub0)))))))))
              · first
                | (exfalso; omega)
                | (refine q_iload 135 rfl rfl dX7_read_133 ?_
                   refine q_iconst 136 rfl 2 k_i2 dX7_read_135 ?_
                   refine q_irem 137 rfl (by omega) (by omega) (by omega) dX7_read_136 ?_
                   refine q_iconst 138 rfl 1 k_i1 dX7_read_137 ?_
                   refine q_icmp_ne 141 rfl 192 (by decide) (by omega) (by omega) dX7_read_138 (fun h138 => ?_) (fun h138 => ?_)
                   · refine q_iinc1 195 rfl 1 k_i1 rfl (by decide) dX7_read_192 ?_
                     refine q_goto 56 (by decide) dX7_read_195 ?_
                     exact q_loc (read_end hG (b := 2) (by decide) (by decide) (by omega) hn (hQ _ _ (by rw [rdm_s, ftj_2 (by omega) (by omega) (by omega)]; rfl))) (q_sub1 rfl (q_sub1 rfl (q_sub1 rfl (q_sub1 rfl (q_sub1 rfl (q_sub1 rfl (q_sub1 rfl (q_sub1 rfl q_sub0))))))))
                   · exfalso; omega)
          · refine q_iconst 96 rfl 3 k_i3 dX7_read_95 ?_
            refine q_goto 126 (by decide) dX7_read_96 ?_
            refine q_istore 128 rfl (by decide) dX7_read_126 ?_
            refine q_iload 130 rfl rfl dX7_read_128 ?_
            refine q_if_ne 133 rfl 192 (by decide) (by omega) dX7_read_130 (fun h130 => ?_) (fun h130 => ?_)
            · first
              | (exfalso; omega)
              | (refine q_iinc1 195 rfl 1 k_i1 rfl (by decide) dX7_read_192 ?_
                 refine q_goto 56 (by decide) dX7_read_195 ?_
                 exact q_loc (read_end hG (b := 3) (by decide) (by decide) (by omega) hn (hQ _ _ (by rw [rdm_s, ftj_3 (by omega) (by omega)]; rfl))) (q_sub1 rfl (q_sub1 rfl (q_sub1 rfl (q_sub1 rfl (q_sub1 rfl (q_sub1 rfl (q_sub1 rfl (q_sub1 rfl q_sub0)))))))))
            · first
              | (exfalso; omega)
              | (refine q_iload 135 rfl rfl dX7_read_133 ?_
                 refine q_iconst 136 rfl 2 k_i2 dX7_read_135 ?_
                 refine q_irem 137 rfl (by omega) (by omega) (by omega) dX7_read_136 ?_
                 refine q_iconst 138 rfl 1 k_i1 dX7_read_137 ?_
                 refine q_icmp_ne 141 rfl 192 (by decide) (by omega) (by omega) dX7_read_138 (fun h138 => ?_) (fun h138 => ?_)
                 · refine q_iinc1 195 rfl 1 k_i1 rfl (by decide) dX7_read_192 ?_
                   refine q_goto 56 (by decide) dX7_read_195 ?_
                   exact q_loc (read_end hG (b := 3) (by decide) (by decide) (by omega) hn (hQ _ _ (by rw [rdm_s, ftj_3 (by omega) (by omega)]; rfl))) (q_sub1 rfl (q_sub1 rfl (q_sub1 rfl (q_sub1 rfl (q_sub1 rfl (q_sub1 rfl (q_sub1 rfl (q_sub1 rfl q_sub0))))))))
                 · exfalso; omega)
        · refine q_iconst 82 rfl 1 k_i1 dX7_read_81 ?_
          refine q_goto 126 (by decide) dX7_read_82 ?_
          refine q_istore 128 rfl (by decide) dX7_read_126 ?_
          refine q_iload 130 rfl rfl dX7_read_128 ?_
          refine q_if_ne 133 rfl 192 (by decide) (by omega) dX7_read_130 (fun h130 => ?_) (fun h130 => ?_)
          · first
            | (exfalso; omega)
            | (refine q_iinc1 195 rfl 1 k_i1 rfl (by decide) dX7_read_192 ?_
               refine q_goto 56 (by decide) dX7_read_195 ?_
               exact q_loc (read_end hG (b := 1) (by decide) (by decide) (by omega) hn (hQ _ _ (by rw [rdm_s, ftj_1 (by omega)]; rfl))) (q_sub1 rfl (q_sub1 rfl (q_sub1 rfl (q_sub1 rfl (q_sub1 rfl (q_sub1 rfl (q_sub1 rfl (q_sub1 rfl q_sub0)))))))))
          · first
            | (exfalso; omega)
            | (refine q_iload 135 rfl rfl dX7_read_133 ?_
               refine q_iconst 136 rfl 2 k_i2 dX7_read_135 ?_
               refine q_irem 137 rfl (by omega) (by omega) (by omega) dX7_read_136 ?_
               refine q_iconst 138 rfl 1 k_i1 dX7_read_137 ?_
               refine q_icmp_ne 141 rfl 192 (by decide) (by omega) (by omega) dX7_read_138 (fun h138 => ?_) (fun h138 => ?_)
               · refine q_iinc1 195 rfl 1 k_i1 rfl (by decide) dX7_read_192 ?_
                 refine q_goto 56 (by decide) dX7_read_195 ?_
                 exact q_loc (read_end hG (b := 1) (by decide) (by decide) (by omega) hn (hQ _ _ (by rw [rdm_s, ftj_1 (by omega)]; rfl))) (q_sub1 rfl (q_sub1 rfl (q_sub1 rfl (q_sub1 rfl (q_sub1 rfl (q_sub1 rfl (q_sub1 rfl (q_sub1 rfl q_sub0))))))))
               · exfalso; omega)
theorem k_read7 {X Y F n c : Nat} (hG : GF ad G) (hc : N 77 2 = c) (hc9 : c ≤ 9) (hg : N 78 40 ≤ 9) (hla : ∀ i, i < 4 → N 93 i < 4294967296) (hle : ∀ i, i < 4 → N 94 i ≤ 40) (hcl : ∀ i, i < 160 → N 95 i < 4294967296) (hX : X < 4294967296) (hY : Y < 4294967296) (hF : F < 4294967296) (hn : n < 4294967296) : q_Con Γ mX7_read 3 0 0 [.ref (ad 77), .int (nI X), .int (nI Y), .int (nI F), .int (nI n)] (LT ad, N, L, G) (q_is (some (.int (nI (read7 N c X Y F n).1))) (LT ad, (read7 N c X Y F n).2, L, G)) := by
  refine q_con (by decide) rfl rfl (Nat.le_of_ble_eq_true rfl) ?_
  refine q_iload_n 1 rfl rfl dX7_read_0 ?_
  refine q_i2l 2 rfl dX7_read_1 ?_
  refine q_lconst 3 rfl 0 lN0 dX7_read_2 ?_
  refine q_ldc2 6 rfl (3) klX7_135 rfl dX7_read_3 ?_
  refine q_cS3 9 rfl lX7_68 (k_in hX (by omega) (by omega) rfl (by omega) (by omega)) rfl rfl rfl dX7_read_6 ?_
  refine q_if_eqD 12 rfl 37 (by decide) dX7_read_9 (fun h9 => ?_) (fun h9 => ?_)
  · refine q_iconst 38 rfl 4294967295 k_im1 dX7_read_37 ?_
    refine q_iret rfl dX7_read_38 ?_
    rw [read7, if_neg (by omega)]
    exact ⟨rfl, rfl⟩
  · refine q_iload_n 13 rfl rfl dX7_read_12 ?_
    refine q_i2l 14 rfl dX7_read_13 ?_
    refine q_lconst 15 rfl 0 lN0 dX7_read_14 ?_
    refine q_ldc2 18 rfl (2) klX7_205 rfl dX7_read_15 ?_
    refine q_cS3 21 rfl lX7_68 (k_in hY (by omega) (by omega) rfl (by omega) (by omega)) rfl rfl rfl dX7_read_18 ?_
    refine q_if_eqD 24 rfl 37 (by decide) dX7_read_21 (fun h21 => ?_) (fun h21 => ?_)
    · refine q_iconst 38 rfl 4294967295 k_im1 dX7_read_37 ?_
      refine q_iret rfl dX7_read_38 ?_
      rw [read7, if_neg (by omega)]
      exact ⟨rfl, rfl⟩
    · refine q_iload 26 rfl rfl dX7_read_24 ?_
      refine q_i2l 27 rfl dX7_read_26 ?_
      refine q_lconst 28 rfl 0 lN0 dX7_read_27 ?_
      refine q_ldc2 31 rfl (20) klX7_277 rfl dX7_read_28 ?_
      refine q_cS3 34 rfl lX7_68 (k_in hn (by omega) (by omega) rfl (by omega) (by omega)) rfl rfl rfl dX7_read_31 ?_
      refine q_if_neD 37 rfl 39 (by decide) dX7_read_34 (fun h34 => ?_) (fun h34 => ?_)
      · refine q_aload_n 40 rfl rfl dX7_read_39 ?_
        refine q_iconst 41 rfl 0 k_i0 dX7_read_40 ?_
        refine q_sipush 44 rfl 180 k_s180 dX7_read_41 ?_
        refine q_cV2v 47 rfl lX7_274 (k_copies hG (by omega) (by omega) (by omega)) rfl 77 t_77 rfl rfl rfl dX7_read_44 ?_
        refine q_iconst 48 rfl 0 k_i0 dX7_read_47 ?_
        refine q_istore 50 rfl (by decide) dX7_read_48 ?_
        refine q_iconst 51 rfl 0 k_i0 dX7_read_50 ?_
        refine q_istore 53 rfl (by decide) dX7_read_51 ?_
        refine q_iconst 54 rfl 0 k_i0 dX7_read_53 ?_
        refine q_istore 56 rfl (by decide) dX7_read_54 ?_
        refine q_loc (read_lp (N := N) (c := c) hG (by omega) (by omega) hF (by omega) hc hc9 (hla X (by omega)) (hle X (by omega)) hcl n 0 (asd N) (by omega) (Or.inl rfl) (fun a ha => q_r_ne ha) (by show q_r N 78 (va_cpy (N 78) (N 78) 0 180 60) 78 40 ≤ 9; rw [q_r_at, va_cpy, if_neg (by omega)]; exact hg) ?_) (q_sub1 rfl (q_sub1 rfl (q_sub1 rfl (q_sub1 rfl (q_sub1 rfl (q_sub1 rfl (q_sub1 rfl (q_sub1 rfl q_sub0))))))))
        intro v K hv
        rw [read7, if_pos (by omega), ← hv]
        exact ⟨rfl, rfl⟩
      · refine q_iconst 38 rfl 4294967295 k_im1 dX7_read_37 ?_
        refine q_iret rfl dX7_read_38 ?_
        rw [read7, if_neg (by omega)]
        exact ⟨rfl, rfl⟩
end
