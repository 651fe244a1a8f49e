theorem anS_aof {N : Nat → Nat → Nat} {c : Nat} {Rl : Nat → Nat → Bool} (hnr : ∀ g, g < c → N 36 g = mk (Rl g) c) {g X : Nat} (hg : g < c) (hX : X < c) : anS (N 36 g) g X = aof Rl g X := by
  unfold anS aof
  by_cases e : g = X
  · rw [if_pos e, if_pos e.symm]
  · rw [if_neg e, if_neg (fun q => e q.symm), near_bit hnr hg hX]
    cases Rl g X <;> rfl
section
variable {Γ : q_G} {ad : Nat → Nat} {N : Nat → Nat → Nat} {L : Nat → Nat → Int} {G : Nat → Nat → Option Nat}
theorem play6_end {X n Y s d t mc mz : Nat} {Q : Option Value → q_H → Prop} {h : q_H} (hn : n ≤ 60) (ht : t ≤ 60) (hY : Y < 4294967296) (hQ : Q (some (.int (nI (if Y = 0 then t else 1)))) h) : q_R Γ mX6_play (q_room 4 mc mz) (q_Z Γ Q 0 0) 0 0 46 [(0, .ref (ad 0)), (1, .int (nI d)), (2, .int (nI X)), (3, .int (nI n)), (4, .int (nI Y)), (5, .int (nI s)), (6, .int (nI t)), (7, .int (nI 1))] [] h := by
  refine q_iload 48 rfl rfl dX6_play_46 ?_
  refine q_iload_n 49 rfl rfl dX6_play_48 ?_
  refine q_icmp_ge 52 rfl 124 (by decide) (by omega) (by omega) dX6_play_49 (fun h49 => ?_) (fun h49 => ?_)
  · refine q_iload 126 rfl rfl dX6_play_124 ?_
    refine q_if_ne 129 rfl 132 (by decide) (by omega) dX6_play_126 (fun h126 => ?_) (fun h126 => ?_)
    · refine q_iload 134 rfl rfl dX6_play_132 ?_
      refine q_if_eq 137 rfl 141 (by decide) (by omega) dX6_play_134 (fun h134 => ?_) (fun h134 => ?_)
      · exfalso; omega
      · refine q_iconst 138 rfl 1 k_i1 dX6_play_137 ?_
        refine q_goto 142 (by decide) dX6_play_138 ?_
        refine q_iret rfl dX6_play_142 ?_
        first
          | (rw [if_pos (by assumption)] at hQ; exact hQ)
          | (rw [if_neg (by assumption)] at hQ; exact hQ)
    · refine q_iload 131 rfl rfl dX6_play_129 ?_
      refine q_iret rfl dX6_play_131 ?_
      first
        | (rw [if_pos (by assumption)] at hQ; exact hQ)
        | (rw [if_neg (by assumption)] at hQ; exact hQ)
  · refine q_iload 54 rfl rfl dX6_play_52 ?_
    refine q_if_ne 57 rfl 124 (by decide) (by omega) dX6_play_54 (fun h54 => ?_) (fun h54 => ?_)
    · refine q_iload 126 rfl rfl dX6_play_124 ?_
      refine q_if_ne 129 rfl 132 (by decide) (by omega) dX6_play_126 (fun h126 => ?_) (fun h126 => ?_)
      · refine q_iload 134 rfl rfl dX6_play_132 ?_
        refine q_if_eq 137 rfl 141 (by decide) (by omega) dX6_play_134 (fun h134 => ?_) (fun h134 => ?_)
        · exfalso; omega
        · refine q_iconst 138 rfl 1 k_i1 dX6_play_137 ?_
          refine q_goto 142 (by decide) dX6_play_138 ?_
          refine q_iret rfl dX6_play_142 ?_
          first
            | (rw [if_pos (by assumption)] at hQ; exact hQ)
            | (rw [if_neg (by assumption)] at hQ; exact hQ)
      · refine q_iload 131 rfl rfl dX6_play_129 ?_
        refine q_iret rfl dX6_play_131 ?_
        first
          | (rw [if_pos (by assumption)] at hQ; exact hQ)
          | (rw [if_neg (by assumption)] at hQ; exact hQ)
    · exfalso; omega
theorem play6_lp {X n Y mc mz : Nat} {Q : Option Value → q_H → Prop} {nm nw c : Nat} {Rl : Nat → Nat → Bool} (hG : GF ad G) (hX : CX ad G N nm nw c Rl) (hXc : X < c) (hn : n ≤ 60) (hY : Y < 4294967296) : ∀ f t s d, t + f = n → s < 2 ^ c → s.testBit X = true → (∀ v, v = (if Y = 0 then (ply Rl c X f t s d).1 else (ply Rl c X f t s d).2) → Q (some (.int (nI v))) (LT ad, N, L, G)) → q_R Γ mX6_play (q_room 4 mc mz) (q_Z Γ Q 0 0) 0 0 46 [(0, .ref (ad 0)), (1, .int (nI d)), (2, .int (nI X)), (3, .int (nI n)), (4, .int (nI Y)), (5, .int (nI s)), (6, .int (nI t)), (7, .int (nI 0))] [] (LT ad, N, L, G) := by
  obtain ⟨hnm, hnw, hv5, hv6, hN, hM, hnr⟩ := id hX
  have hc : N nm 0 = c := hN.1
  have hc9 : c ≤ 9 := hN.2.1
  intro f
  induction f with
  | zero =>
    intro t s d ht hs hb hQ
    refine q_iload 48 rfl rfl dX6_play_46 ?_
    refine q_iload_n 49 rfl rfl dX6_play_48 ?_
    refine q_icmp_ge 52 rfl 124 (by decide) (by omega) (by omega) dX6_play_49 (fun h49 => ?_) (fun h49 => ?_)
    · refine q_iload 126 rfl rfl dX6_play_124 ?_
      refine q_if_ne 129 rfl 132 (by decide) (by omega) dX6_play_126 (fun h126 => ?_) (fun h126 => ?_)
      · refine q_iload 134 rfl rfl dX6_play_132 ?_
        refine q_if_eq 137 rfl 141 (by decide) (by omega) dX6_play_134 (fun h134 => ?_) (fun h134 => ?_)
        · refine q_iconst 142 rfl 0 k_i0 dX6_play_141 ?_
          refine q_iret rfl dX6_play_142 ?_
          refine hQ _ ?_
          first
            | (rw [if_pos (by assumption)]; rfl)
            | (rw [if_neg (by assumption)]; rfl)
        · exfalso; omega
      · refine q_iload 131 rfl rfl dX6_play_129 ?_
        refine q_iret rfl dX6_play_131 ?_
        refine hQ _ ?_
        first
          | (rw [if_pos (by assumption)]; rfl)
          | (rw [if_neg (by assumption)]; rfl)
    · exfalso; omega
  | succ f ih =>
    intro t s d ht hs hb hQ
    have p9 := p2_9 hc9
    have h512 : s < 512 := by omega
    have hs0 : s ≠ 0 := fun e => by rw [e, Nat.zero_testBit] at hb; cases hb
    obtain ⟨g1, g2⟩ := gss_spec (d := d) h512 hs0
    have g3 : gss s d < c := by
      rcases Nat.lt_or_ge (gss s d) c with q | q
      · exact q
      · exact absurd g2 (by rw [Nat.testBit_lt_two_pow (Nat.lt_of_lt_of_le hs (Nat.pow_le_pow_right (by decide) q))]; decide)
    have hm : (d * 1103515245 + 12345) % 4294967296 < 4294967296 := Nat.mod_lt _ (by decide)
    have e15 : ((d * 1103515245 + 12345) % 4294967296 / 2 ^ 16) &&& 32767 = drw d % 4294967296 / 65536 % 32768 := by
      rw [show (32767 : Nat) = 2 ^ 15 - 1 from rfl, Nat.and_two_pow_sub_one_eq_mod]; rfl
    have h15 : drw d % 4294967296 / 65536 % 32768 < 32768 := Nat.mod_lt _ (by decide)
    have n1 := near_lt hc9 hnr g3
    have ea := anS_aof hnr g3 hXc
    have eply : ply Rl c X (f + 1) t s d = if gss s d = X then (t + 1, 1) else ply Rl c X f (t + 1) (prt Rl c s (gss s d) (aof Rl (gss s d) X)) (drw d) := rfl
    have al : aof Rl (gss s d) X ≤ 2 := by simp only [aof]; split <;> (try split) <;> omega
    refine q_iload 48 rfl rfl dX6_play_46 ?_
    refine q_iload_n 49 rfl rfl dX6_play_48 ?_
    refine q_icmp_ge 52 rfl 124 (by decide) (by omega) (by omega) dX6_play_49 (fun h49 => ?_) (fun h49 => ?_)
    · exfalso; omega
    · refine q_iload 54 rfl rfl dX6_play_52 ?_
      refine q_if_ne 57 rfl 124 (by decide) (by omega) dX6_play_54 (fun h54 => ?_) (fun h54 => ?_)
      · exfalso; omega
      · refine q_iload_n 58 rfl rfl dX6_play_57 ?_
        refine q_ldc 60 rfl 1103515245 kcX6_250 rfl dX6_play_58 ?_
        refine q_imul 61 rfl dX6_play_60 ?_
        refine q_sipush 64 rfl 12345 k_s12345 dX6_play_61 ?_
        refine q_iadd 65 rfl dX6_play_64 ?_
        refine q_istore_n 66 rfl (by decide) dX6_play_65 ?_
        refine q_iload 68 rfl rfl dX6_play_66 ?_
        refine q_iload_n 69 rfl rfl dX6_play_68 ?_
        rw [← z_mod (d * 1103515245 + 12345)]
        refine q_bipush 71 rfl 16 k_b16 dX6_play_69 ?_
        refine q_iushr 72 rfl (by exact hm) (by decide) dX6_play_71 ?_
        refine q_sipush 75 rfl 32767 k_s32767 dX6_play_72 ?_
        refine q_iand 76 rfl dX6_play_75 ?_
        rw [z_mod (d * 1103515245 + 12345), e15]
        refine q_cS2 79 rfl lX6_251 (k_nameAt h512 hs0 (Nat.lt_trans h15 (by decide))) rfl rfl rfl dX6_play_76 ?_
        rw [show kth s (drw d % 4294967296 / 65536 % 32768 % pc s 26) = gss s d from rfl]
        refine q_istore 81 rfl (by decide) dX6_play_79 ?_
        refine q_iinc1 84 rfl 1 k_i1 rfl (by decide) dX6_play_81 ?_
        refine q_iload 86 rfl rfl dX6_play_84 ?_
        refine q_iload_n 87 rfl rfl dX6_play_86 ?_
        refine q_icmp_ne 90 rfl 94 (by decide) (by omega) (by omega) dX6_play_87 (fun h87 => ?_) (fun h87 => ?_)
        · refine q_iconst 95 rfl 0 k_i0 dX6_play_94 ?_
          refine q_istore 97 rfl (by decide) dX6_play_95 ?_
          refine q_iload 99 rfl rfl dX6_play_97 ?_
          refine q_aload_n 100 rfl rfl dX6_play_99 ?_
          refine q_iload 102 rfl rfl dX6_play_100 ?_
          refine q_aload_n 103 rfl rfl dX6_play_102 ?_
          refine q_getR 106 rfl fX6_54 rfl 0 t_0 (g_0_12 hG) dX6_play_103 ?_
          refine q_iload 108 rfl rfl dX6_play_106 ?_
          refine q_iald 109 rfl 36 t_36 (by omega) (by decide) dX6_play_108 ?_
          refine q_iload 111 rfl rfl dX6_play_109 ?_
          refine q_iload_n 112 rfl rfl dX6_play_111 ?_
          refine q_cS3 115 rfl lX6_254 (k_answer (by omega) (by omega) (by omega)) rfl rfl rfl dX6_play_112 ?_
          rw [ea]
          refine q_cV2 118 rfl lX6_208 (k_answeredSo hG hX g3 al) rfl 0 t_0 rfl rfl rfl dX6_play_115 ?_
          refine q_iand 119 rfl dX6_play_118 ?_
          rw [and_prt hs]
          refine q_istore 121 rfl (by decide) dX6_play_119 ?_
          refine q_goto 46 (by decide) dX6_play_121 ?_
          first
            | (refine q_loc (play6_end (Γ := Γ) hn (t := t + 1) (by omega) hY (hQ _ ?_)) (q_sub1 rfl (q_sub1 rfl (q_sub1 rfl (q_sub1 rfl (q_sub1 rfl (q_sub1 rfl (q_sub1 rfl (q_sub1 rfl q_sub0))))))))
               rw [eply, if_pos (show gss s d = X by assumption)])
            | (refine q_loc (ih (t + 1) _ (drw d) (by omega) prt_lt ?_ ?_) (q_sub1 rfl (q_sub1 rfl (q_sub1 rfl (q_sub1 rfl (q_sub1 rfl (q_sub1 rfl (q_sub1 rfl (q_sub1 rfl q_sub0))))))))
               · rw [prt_bit, decide_eq_true hXc, hb]; simp
               · intro v hv2
                 refine hQ v ?_
                 rw [eply, if_neg (show ¬ gss s d = X by assumption)]
                 exact hv2)
        · refine q_iconst 91 rfl 1 k_i1 dX6_play_90 ?_
          refine q_goto 95 (by decide) dX6_play_91 ?_
          refine q_istore 97 rfl (by decide) dX6_play_95 ?_
          refine q_iload 99 rfl rfl dX6_play_97 ?_
          refine q_aload_n 100 rfl rfl dX6_play_99 ?_
          refine q_iload 102 rfl rfl dX6_play_100 ?_
          refine q_aload_n 103 rfl rfl dX6_play_102 ?_
          refine q_getR 106 rfl fX6_54 rfl 0 t_0 (g_0_12 hG) dX6_play_103 ?_
          refine q_iload 108 rfl rfl dX6_play_106 ?_
          refine q_iald 109 rfl 36 t_36 (by omega) (by decide) dX6_play_108 ?_
          refine q_iload 111 rfl rfl dX6_play_109 ?_
          refine q_iload_n 112 rfl rfl dX6_play_111 ?_
          refine q_cS3 115 rfl lX6_254 (k_answer (by omega) (by omega) (by omega)) rfl rfl rfl dX6_play_112 ?_
          rw [ea]
          refine q_cV2 118 rfl lX6_208 (k_answeredSo hG hX g3 al) rfl 0 t_0 rfl rfl rfl dX6_play_115 ?_
          refine q_iand 119 rfl dX6_play_118 ?_
          rw [and_prt hs]
          refine q_istore 121 rfl (by decide) dX6_play_119 ?_
          refine q_goto 46 (by decide) dX6_play_121 ?_
          first
            | (refine q_loc (play6_end (Γ := Γ) hn (t := t + 1) (by omega) hY (hQ _ ?_)) (q_sub1 rfl (q_sub1 rfl (q_sub1 rfl (q_sub1 rfl (q_sub1 rfl (q_sub1 rfl (q_sub1 rfl (q_sub1 rfl q_sub0))))))))
               rw [eply, if_pos (show gss s d = X by assumption)])
            | (refine q_loc (ih (t + 1) _ (drw d) (by omega) prt_lt ?_ ?_) (q_sub1 rfl (q_sub1 rfl (q_sub1 rfl (q_sub1 rfl (q_sub1 rfl (q_sub1 rfl (q_sub1 rfl (q_sub1 rfl q_sub0))))))))
               · rw [prt_bit, decide_eq_true hXc, hb]; simp
               · intro v hv2
                 refine hQ v ?_
                 rw [eply, if_neg (show ¬ gss s d = X by assumption)]
                 exact hv2)
theorem k_play6 {S X n Y : Nat} {s : Nat} {nm nw c : Nat} {Rl : Nat → Nat → Bool} (hG : GF ad G) (hX : CX ad G N nm nw c Rl) (hsd : can6 N nm nw c Rl (N nw 6) = s) (hXX : X < 4294967296) (hnn : n < 4294967296) (hYY : Y < 4294967296) : q_Con Γ mX6_play 4 0 0 [.ref (ad 0), .int (nI S), .int (nI X), .int (nI n), .int (nI Y)] (LT ad, N, L, G) (q_is (some (.int (nI (plv Rl c S X n Y s)))) (LT ad, N, L, G)) := by
  obtain ⟨hnm, hnw, hv5, hv6, hN, hM, hnr⟩ := id hX
  have hc : N nm 0 = c := hN.1
  have hc9 : c ≤ 9 := hN.2.1
  obtain ⟨hkd, hms, hpr, hpf, hps, hg9, hgn, hga, hh6, hhp, hhl, hhi, hod, ho1⟩ := id hM
  have hs9 : s < 512 := hsd ▸ can_lt hc9
  have hsc : s < 2 ^ c := hsd ▸ mk_lt _ c
  refine q_con (by decide) rfl rfl (Nat.le_of_ble_eq_true rfl) ?_
  refine q_aload_n 1 rfl rfl dX6_play_0 ?_
  refine q_iload_n 2 rfl rfl dX6_play_1 ?_
  refine q_cV1 5 rfl lX6_130 (k_isName hG hX hXX) rfl 0 t_0 rfl rfl rfl dX6_play_2 ?_
  refine q_if_eqD 8 rfl 28 (by decide) dX6_play_5 (fun h5 => ?_) (fun h5 => ?_)
  · refine q_iconst 29 rfl 4294967295 k_im1 dX6_play_28 ?_
    refine q_iret rfl dX6_play_29 ?_
    rw [plv, if_neg (by omega)]
    exact ⟨rfl, rfl⟩
  · refine q_iload_n 9 rfl rfl dX6_play_8 ?_
    refine q_iconst 10 rfl 1 k_i1 dX6_play_9 ?_
    refine q_bipush 12 rfl 60 k_b60 dX6_play_10 ?_
    refine q_cS3 15 rfl lX6_87 (k_within hnn (by omega) (by omega)) rfl rfl rfl dX6_play_12 ?_
    refine q_if_eqD 18 rfl 28 (by decide) dX6_play_15 (fun h15 => ?_) (fun h15 => ?_)
    · refine q_iconst 29 rfl 4294967295 k_im1 dX6_play_28 ?_
      refine q_iret rfl dX6_play_29 ?_
      rw [plv, if_neg (by omega)]
      exact ⟨rfl, rfl⟩
    · refine q_iload 20 rfl rfl dX6_play_18 ?_
      refine q_iconst 21 rfl 0 k_i0 dX6_play_20 ?_
      refine q_iconst 22 rfl 1 k_i1 dX6_play_21 ?_
      refine q_cS3 25 rfl lX6_87 (k_within hYY (by omega) (by omega)) rfl rfl rfl dX6_play_22 ?_
      refine q_if_neD 28 rfl 30 (by decide) dX6_play_25 (fun h25 => ?_) (fun h25 => ?_)
      · refine q_aload_n 31 rfl rfl dX6_play_30 ?_
        refine q_cV0 34 rfl lX6_183 (k_possS hG hX hsd) rfl 0 t_0 rfl rfl rfl dX6_play_31 ?_
        refine q_iconst 35 rfl 1 k_i1 dX6_play_34 ?_
        refine q_iload_n 36 rfl rfl dX6_play_35 ?_
        refine q_ishl 37 rfl (by omega) dX6_play_36 ?_
        refine q_ior 38 rfl dX6_play_37 ?_
        refine q_istore 40 rfl (by decide) dX6_play_38 ?_
        refine q_iconst 41 rfl 0 k_i0 dX6_play_40 ?_
        refine q_istore 43 rfl (by decide) dX6_play_41 ?_
        refine q_iconst 44 rfl 0 k_i0 dX6_play_43 ?_
        refine q_istore 46 rfl (by decide) dX6_play_44 ?_
        refine q_loc (play6_lp (Rl := Rl) (nm := nm) (nw := nw) (c := c) hG hX (by omega) (by omega) hYY n 0 (s ||| (1 * 2 ^ X)) S (by omega) ?_ ?_ ?_) (q_sub1 rfl (q_sub1 rfl (q_sub1 rfl (q_sub1 rfl (q_sub1 rfl (q_sub1 rfl (q_sub1 rfl (q_sub1 rfl q_sub0))))))))
        · exact Nat.or_lt_two_pow hsc (by rw [Nat.one_mul]; exact Nat.pow_lt_pow_of_lt (by omega) (by omega))
        · rw [Nat.testBit_or, pow_bit]; simp
        · intro v hv
          rw [hv, plv, if_pos (show X < c ∧ (1 ≤ n ∧ n ≤ 60) ∧ Y ≤ 1 by omega)]
          exact ⟨rfl, rfl⟩
      · refine q_iconst 29 rfl 4294967295 k_im1 dX6_play_28 ?_
        refine q_iret rfl dX6_play_29 ?_
        rw [plv, if_neg (by omega)]
        exact ⟨rfl, rfl⟩
end
