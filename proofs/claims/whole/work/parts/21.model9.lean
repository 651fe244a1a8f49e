theorem kth_ex {s k : Nat} (j : Nat) (h : k < pc s j) : ∃ n, n < j ∧ s.testBit n = true ∧ pc s n = k := by
  induction j with
  | zero => exact absurd h (by simp [pc])
  | succ j ih =>
    by_cases h1 : k < pc s j
    · obtain ⟨n, a, b⟩ := ih h1
      exact ⟨n, by omega, b⟩
    · simp only [pc, div_bit2] at h
      cases hb : s.testBit j with
      | true => rw [hb] at h; simp at h; exact ⟨j, by omega, hb, by omega⟩
      | false => rw [hb] at h; simp at h; omega
theorem kth_spec {s k : Nat} (h : k < pc s 9) : kth s k < 9 ∧ s.testBit (kth s k) = true ∧ pc s (kth s k) = k := by
  obtain ⟨n, a, b, c⟩ := kth_ex 9 h
  rw [kth_eq a b c]
  exact ⟨a, b, c⟩
theorem pc_26 {s : Nat} (hs : s < 512) : pc s 26 = pc s 9 := pc_hi (k := 9) hs (by omega)
theorem shr16 {d v : Nat} (h : nI d >>> (nI 16 &&& 31) = nI v) (hv : v < 4294967296) : v &&& 32767 = d % 4294967296 / 65536 % 32768 := by
  rw [show (32767 : Nat) = 2 ^ 15 - 1 from rfl, Nat.and_two_pow_sub_one_eq_mod]
  have hs : ∀ n, n < 32 → ((nI n &&& 31).toBitVec.smod 32).toNat = n := by decide +kernel
  have h1 := pk_shr (nI d) (nI 16 &&& 31) 16 (hs 16 (by omega))
  rw [h] at h1
  rw [Int.shiftRight_eq_div_pow] at h1
  have e2 : z_s v = z_s (d % 4294967296) / 65536 := by
    show (nI v).toInt = (nI (d % 4294967296)).toInt / 65536
    rw [z_mod, h1]
    rfl
  have hd : d % 4294967296 < 4294967296 := Nat.mod_lt _ (by omega)
  generalize d % 4294967296 = x at *
  by_cases hx : x < 2147483648
  · rw [z_s_lo hx] at e2
    by_cases hv2 : v < 2147483648
    · rw [z_s_lo hv2] at e2; omega
    · rw [z_s_hi (by omega) hv] at e2; omega
  · rw [z_s_hi (by omega) hd] at e2
    by_cases hv2 : v < 2147483648
    · rw [z_s_lo hv2] at e2; omega
    · rw [z_s_hi (by omega) hv] at e2; omega
/-- one draw: the seed goes on; which of s is guessed -/
def drw (d : Nat) : Nat := d * 1103515245 + 12345
def gss (s d : Nat) : Nat := kth s ((drw d % 4294967296 / 65536 % 32768) % pc s 26)
/-- rounds by a seed: f guesses are left, t were made -/
def ply (Rl : Nat → Nat → Bool) (c nm : Nat) : Nat → Nat → Nat → Nat → Nat × Nat
  | 0, t, _, _ => (t, 0)
  | f + 1, t, s, d => if gss s d = nm then (t + 1, 1) else ply Rl c nm f (t + 1) (prt Rl c s (gss s d) (aof Rl (gss s d) nm)) (drw d)
def plv (Rl : Nat → Nat → Bool) (c S X n Y s : Nat) : Nat := if X < c ∧ (1 ≤ n ∧ n ≤ 60) ∧ Y ≤ 1 then (if Y = 0 then (ply Rl c X n 0 (s ||| (1 * 2 ^ X)) S).1 else (ply Rl c X n 0 (s ||| (1 * 2 ^ X)) S).2) else 4294967295
theorem gss_spec {s d : Nat} (hs : s < 512) (h0 : s ≠ 0) : gss s d < 9 ∧ s.testBit (gss s d) = true := by
  have hp : 0 < pc s 26 := by rw [pc_26 hs]; exact pc_pos h0 hs
  have := kth_spec (s := s) (k := (drw d % 4294967296 / 65536 % 32768) % pc s 26) (by rw [← pc_26 hs]; exact Nat.mod_lt _ hp)
  exact ⟨this.1, this.2.1⟩
section
variable {Γ : q_G} {ad : Nat → Nat} {N : Nat → Nat → Nat} {L : Nat → Nat → Int} {G : Nat → Nat → Option Nat}
theorem placeOf_lp {rm : Room} {Z : q_Zt} {s k : Nat} {h : q_H} (hs : s < 512) (hk : k < pc s 9) (hx : q_R Γ mX7_placeOf rm Z 0 0 30 [(3, .int (nI (kth s k)))] [] h) : ∀ i, i ≤ kth s k → pc s i ≤ k → ∀ l, l = k - pc s i → q_R Γ mX7_placeOf rm Z 0 0 4 [(0, .int (nI s)), (2, .int (nI l)), (3, .int (nI i))] [] h := by
  obtain ⟨f1, f2, f3⟩ := kth_spec hk
  have pk := pc_le s 9
  refine dn_loop (kth s k) ?_ ?_
  · intro h_ex l h_l
    have e1 := div_bit s (kth s k)
    rw [f2] at e1
    have e2 : true.toNat = 1 := rfl
    refine q_iload_n 5 rfl rfl dX7_placeOf_4 ?_
    refine q_iload_n 6 rfl rfl dX7_placeOf_5 ?_
    refine q_ishr 7 rfl (by omega) (by omega) dX7_placeOf_6 ?_
    refine q_iconst 8 rfl 1 k_i1 dX7_placeOf_7 ?_
    refine q_iand 9 rfl dX7_placeOf_8 ?_
    refine q_if_eq 12 rfl 16 (by decide) (by omega) dX7_placeOf_9 (fun h9 => ?_) (fun h9 => ?_)
    · exfalso; omega
    · refine q_iload_n 13 rfl rfl dX7_placeOf_12 ?_
      refine q_ifN_le 16 rfl 30 (by decide) (by omega) dX7_placeOf_13 (fun h13 => ?_) (fun h13 => ?_)
      · exact q_loc hx (q_sub1 rfl q_sub0)
      · exfalso; omega
  · intro i h_i ih h_ex l h_l
    have e1 := div_bit s i
    have e0 := Bool.toNat_le (s.testBit i)
    have e3 : pc s (i + 1) = pc s i + (s.testBit i).toNat := by simp only [pc, div_bit2]
    have e4 : pc s (i + 1) ≤ pc s (kth s k) := pc_mono (by omega)
    refine q_iload_n 5 rfl rfl dX7_placeOf_4 ?_
    refine q_iload_n 6 rfl rfl dX7_placeOf_5 ?_
    refine q_ishr 7 rfl (by omega) (by omega) dX7_placeOf_6 ?_
    refine q_iconst 8 rfl 1 k_i1 dX7_placeOf_7 ?_
    refine q_iand 9 rfl dX7_placeOf_8 ?_
    refine q_if_eq 12 rfl 16 (by decide) (by omega) dX7_placeOf_9 (fun h9 => ?_) (fun h9 => ?_)
    · refine q_iload_n 17 rfl rfl dX7_placeOf_16 ?_
      refine q_iload_n 18 rfl rfl dX7_placeOf_17 ?_
      refine q_iload_n 19 rfl rfl dX7_placeOf_18 ?_
      refine q_ishr 20 rfl (by omega) (by omega) dX7_placeOf_19 ?_
      refine q_iconst 21 rfl 1 k_i1 dX7_placeOf_20 ?_
      refine q_iand 22 rfl dX7_placeOf_21 ?_
      refine q_isub 23 rfl (by omega) dX7_placeOf_22 ?_
      refine q_istore_n 24 rfl (by decide) dX7_placeOf_23 ?_
      refine q_iinc1 27 rfl 1 k_i1 rfl (by decide) dX7_placeOf_24 ?_
      refine q_goto 4 (by decide) dX7_placeOf_27 ?_
      refine q_loc (ih (by omega) _ ?_) (q_sub1 rfl (q_sub1 rfl (q_sub1 rfl q_sub0)))
      omega
    · refine q_iload_n 13 rfl rfl dX7_placeOf_12 ?_
      refine q_ifN_le 16 rfl 30 (by decide) (by omega) dX7_placeOf_13 (fun h13 => ?_) (fun h13 => ?_)
      · exfalso; omega
      · refine q_iload_n 17 rfl rfl dX7_placeOf_16 ?_
        refine q_iload_n 18 rfl rfl dX7_placeOf_17 ?_
        refine q_iload_n 19 rfl rfl dX7_placeOf_18 ?_
        refine q_ishr 20 rfl (by omega) (by omega) dX7_placeOf_19 ?_
        refine q_iconst 21 rfl 1 k_i1 dX7_placeOf_20 ?_
        refine q_iand 22 rfl dX7_placeOf_21 ?_
        refine q_isub 23 rfl (by omega) dX7_placeOf_22 ?_
        refine q_istore_n 24 rfl (by decide) dX7_placeOf_23 ?_
        refine q_iinc1 27 rfl 1 k_i1 rfl (by decide) dX7_placeOf_24 ?_
        refine q_goto 4 (by decide) dX7_placeOf_27 ?_
        refine q_loc (ih (by omega) _ ?_) (q_sub1 rfl (q_sub1 rfl (q_sub1 rfl q_sub0)))
        omega
theorem k_placeOf {s k : Nat} {h : q_H} (hs : s < 512) (hk : k < pc s 9) : q_Con Γ mX7_placeOf 0 0 0 [.int (nI s), .int (nI k)] h (q_is (some (.int (nI (kth s k)))) h) := by
  refine q_con (by decide) rfl rfl (Nat.le_of_ble_eq_true rfl) ?_
  refine q_iload_n 1 rfl rfl dX7_placeOf_0 ?_
  refine q_istore_n 2 rfl (by decide) dX7_placeOf_1 ?_
  refine q_iconst 3 rfl 0 k_i0 dX7_placeOf_2 ?_
  refine q_istore_n 4 rfl (by decide) dX7_placeOf_3 ?_
  refine q_loc (placeOf_lp hs hk ?_ 0 (by omega) (by simp [pc]) _ rfl) (q_sub1 rfl (q_sub1 rfl (q_sub1 rfl q_sub0)))
  refine q_iload_n 31 rfl rfl dX7_placeOf_30 ?_
  refine q_iret rfl dX7_placeOf_31 ?_
  exact ⟨rfl, rfl⟩
theorem play_end {X n Y s d t mc mz : Nat} {Q : Option Value → q_H → Prop} {h : q_H} (hn : n ≤ 60) (ht : t ≤ 60) (hY : Y < 4294967296) (hQ : Q (some (.int (nI (if Y = 0 then t else 1)))) h) : q_R Γ mX7_play (q_room 6 mc mz) (q_Z Γ Q 0 0) 0 0 52 [(0, .ref (ad 77)), (2, .int (nI X)), (3, .int (nI n)), (4, .int (nI Y)), (5, .int (nI s)), (6, .int (nI d)), (7, .int (nI t)), (8, .int (nI 1))] [] h := by
  refine q_iload 54 rfl rfl dX7_play_52 ?_
  refine q_iload_n 55 rfl rfl dX7_play_54 ?_
  refine q_icmp_ge 58 rfl 147 (by decide) (by omega) (by omega) dX7_play_55 (fun h55 => ?_) (fun h55 => ?_)
  · refine q_iload 149 rfl rfl dX7_play_147 ?_
    refine q_if_ne 152 rfl 157 (by decide) (by omega) dX7_play_149 (fun h149 => ?_) (fun h149 => ?_)
    · refine q_iload 159 rfl rfl dX7_play_157 ?_
      refine q_iret rfl dX7_play_159 ?_
      first
        | (rw [if_pos (by assumption)] at hQ; exact hQ)
        | (rw [if_neg (by assumption)] at hQ; exact hQ)
    · refine q_iload 154 rfl rfl dX7_play_152 ?_
      refine q_goto 159 (by decide) dX7_play_154 ?_
      refine q_iret rfl dX7_play_159 ?_
      first
        | (rw [if_pos (by assumption)] at hQ; exact hQ)
        | (rw [if_neg (by assumption)] at hQ; exact hQ)
  · refine q_iload 60 rfl rfl dX7_play_58 ?_
    refine q_if_ne 63 rfl 147 (by decide) (by omega) dX7_play_60 (fun h60 => ?_) (fun h60 => ?_)
    · refine q_iload 149 rfl rfl dX7_play_147 ?_
      refine q_if_ne 152 rfl 157 (by decide) (by omega) dX7_play_149 (fun h149 => ?_) (fun h149 => ?_)
      · refine q_iload 159 rfl rfl dX7_play_157 ?_
        refine q_iret rfl dX7_play_159 ?_
        first
          | (rw [if_pos (by assumption)] at hQ; exact hQ)
          | (rw [if_neg (by assumption)] at hQ; exact hQ)
      · refine q_iload 154 rfl rfl dX7_play_152 ?_
        refine q_goto 159 (by decide) dX7_play_154 ?_
        refine q_iret rfl dX7_play_159 ?_
        first
          | (rw [if_pos (by assumption)] at hQ; exact hQ)
          | (rw [if_neg (by assumption)] at hQ; exact hQ)
    · exfalso; omega
theorem play_lp {c X n Y mc mz : Nat} {Rl : Nat → Nat → Bool} {Q : Option Value → q_H → Prop} (hG : GF ad G) (hc : N 77 2 = c) (hc9 : c ≤ 9) (hnx : ∀ g, g < c → N 87 g = mk (fun m => decide (g ≠ m) && Rl g m) c) (hX : X < c) (hn : n ≤ 60) (hY : Y < 4294967296) : ∀ f t s d, t + f = n → s < 2 ^ c → s.testBit X = true → (∀ v, v = (if Y = 0 then (ply Rl c X f t s d).1 else (ply Rl c X f t s d).2) → Q (some (.int (nI v))) (LT ad, N, L, G)) → q_R Γ mX7_play (q_room 6 mc mz) (q_Z Γ Q 0 0) 0 0 52 [(0, .ref (ad 77)), (2, .int (nI X)), (3, .int (nI n)), (4, .int (nI Y)), (5, .int (nI s)), (6, .int (nI d)), (7, .int (nI t)), (8, .int (nI 0))] [] (LT ad, N, L, G) := by
  intro f
  induction f with
  | zero =>
    intro t s d ht hs hb hQ
    refine q_iload 54 rfl rfl dX7_play_52 ?_
    refine q_iload_n 55 rfl rfl dX7_play_54 ?_
    refine q_icmp_ge 58 rfl 147 (by decide) (by omega) (by omega) dX7_play_55 (fun h55 => ?_) (fun h55 => ?_)
    · refine q_iload 149 rfl rfl dX7_play_147 ?_
      refine q_if_ne 152 rfl 157 (by decide) (by omega) dX7_play_149 (fun h149 => ?_) (fun h149 => ?_)
      · refine q_iload 159 rfl rfl dX7_play_157 ?_
        refine q_iret rfl dX7_play_159 ?_
        refine hQ _ ?_
        first
          | (rw [if_pos (by assumption)]; rfl)
          | (rw [if_neg (by assumption)]; rfl)
      · refine q_iload 154 rfl rfl dX7_play_152 ?_
        refine q_goto 159 (by decide) dX7_play_154 ?_
        refine q_iret rfl dX7_play_159 ?_
        refine hQ _ ?_
        first
          | (rw [if_pos (by assumption)]; rfl)
          | (rw [if_neg (by assumption)]; rfl)
    · exfalso; omega
  | succ f ih =>
    intro t s d ht hs hb hQ
    have p9 := p2_9 hc9
    have h512 : s < 512 := by omega
    have hs0 : s ≠ 0 := fun e => by rw [e, Nat.zero_testBit] at hb; cases hb
    have hp : 0 < pc s 26 := by rw [pc_26 h512]; exact pc_pos hs0 h512
    have hpl := pc_le s 26
    obtain ⟨g1, g2⟩ := gss_spec (d := d) h512 hs0
    have g3 : gss s d < c := by
      rcases Nat.lt_or_ge (gss s d) c with q | q
      · exact q
      · exact absurd g2 (by rw [Nat.testBit_lt_two_pow (Nat.lt_of_lt_of_le hs (Nat.pow_le_pow_right (by decide) q))]; decide)
    obtain ⟨v, hv, ev⟩ := z_of (nI (d * 1103515245 + 12345) >>> (nI 16 &&& 31))
    have e16 : v &&& 32767 = drw d % 4294967296 / 65536 % 32768 := shr16 ev hv
    have q1 := hnx _ g3
    have q2 := mk_lt (fun m => decide (gss s d ≠ m) && Rl (gss s d) m) c
    have eply : ply Rl c X (f + 1) t s d = if gss s d = X then (t + 1, 1) else ply Rl c X f (t + 1) (prt Rl c s (gss s d) (aof Rl (gss s d) X)) (drw d) := rfl
    have ea : gss s d ≠ X → (decide (X < c) && (decide (gss s d ≠ X) && Rl (gss s d) X)).toNat = aof Rl (gss s d) X := fun q => by
      rw [decide_eq_true hX, Bool.true_and, decide_eq_true q, Bool.true_and, aof, if_neg (fun z => q z.symm)]
      cases Rl (gss s d) X <;> rfl
    have al : aof Rl (gss s d) X ≤ 2 := by simp only [aof]; split <;> (try split) <;> omega
    refine q_iload 54 rfl rfl dX7_play_52 ?_
    refine q_iload_n 55 rfl rfl dX7_play_54 ?_
    refine q_icmp_ge 58 rfl 147 (by decide) (by omega) (by omega) dX7_play_55 (fun h55 => ?_) (fun h55 => ?_)
    · exfalso; omega
    · refine q_iload 60 rfl rfl dX7_play_58 ?_
      refine q_if_ne 63 rfl 147 (by decide) (by omega) dX7_play_60 (fun h60 => ?_) (fun h60 => ?_)
      · exfalso; omega
      · refine q_iload 65 rfl rfl dX7_play_63 ?_
        refine q_ldcw 68 rfl 1103515245 kcX7_270 rfl dX7_play_65 ?_
        refine q_imul 69 rfl dX7_play_68 ?_
        refine q_sipush 72 rfl 12345 k_s12345 dX7_play_69 ?_
        refine q_iadd 73 rfl dX7_play_72 ?_
        refine q_istore 75 rfl (by decide) dX7_play_73 ?_
        refine q_iload 77 rfl rfl dX7_play_75 ?_
        refine q_iload 79 rfl rfl dX7_play_77 ?_
        refine q_bipush 81 rfl 16 k_b16 dX7_play_79 ?_
        refine q_ishrG 82 rfl v ev dX7_play_81 ?_
        refine q_sipush 85 rfl 32767 k_s32767 dX7_play_82 ?_
        refine q_iand 86 rfl dX7_play_85 ?_
        rw [e16]
        refine q_iload 88 rfl rfl dX7_play_86 ?_
        refine q_cS1 91 rfl lX7_191 (k_bitsOf (by omega)) rfl rfl rfl dX7_play_88 ?_
        refine q_irem 92 rfl (by omega) (by omega) (by omega) dX7_play_91 ?_
        refine q_cS2 95 rfl lX7_271 (k_placeOf h512 (by rw [← pc_26 h512]; exact Nat.mod_lt _ hp)) rfl rfl rfl dX7_play_92 ?_
        rw [show kth s (drw d % 4294967296 / 65536 % 32768 % pc s 26) = gss s d from rfl]
        refine q_istore 97 rfl (by decide) dX7_play_95 ?_
        refine q_iinc1 100 rfl 1 k_i1 rfl (by decide) dX7_play_97 ?_
        refine q_iload 102 rfl rfl dX7_play_100 ?_
        refine q_iload_n 103 rfl rfl dX7_play_102 ?_
        refine q_icmp_ne 106 rfl 110 (by decide) (by omega) (by omega) dX7_play_103 (fun h103 => ?_) (fun h103 => ?_)
        · refine q_iconst 111 rfl 0 k_i0 dX7_play_110 ?_
          refine q_istore 113 rfl (by decide) dX7_play_111 ?_
          refine q_aload_n 114 rfl rfl dX7_play_113 ?_
          refine q_iload 116 rfl rfl dX7_play_114 ?_
          refine q_iload 118 rfl rfl dX7_play_116 ?_
          refine q_iload 120 rfl rfl dX7_play_118 ?_
          refine q_iload_n 121 rfl rfl dX7_play_120 ?_
          refine q_icmp_ne 124 rfl 128 (by decide) (by omega) (by omega) dX7_play_121 (fun h121 => ?_) (fun h121 => ?_)
          · first
            | (exfalso; omega)
            | (refine q_aload_n 129 rfl rfl dX7_play_128 ?_
               refine q_getR 132 rfl fX7_37 rfl 77 t_77 (g_77_20 hG) dX7_play_129 ?_
               refine q_iload 134 rfl rfl dX7_play_132 ?_
               refine q_iald 135 rfl 87 t_87 (by omega) (by decide) dX7_play_134 ?_
               refine q_iload_n 136 rfl rfl dX7_play_135 ?_
               refine q_ishr 137 rfl (by omega) (by omega) dX7_play_136 ?_
               refine q_iconst 138 rfl 1 k_i1 dX7_play_137 ?_
               refine q_iand 139 rfl dX7_play_138 ?_
               rw [q1, mk_sh, ea (by assumption)]
               refine q_cV3 142 rfl lX7_212 (k_answering hG (by omega) (by omega)) rfl 77 t_77 rfl rfl rfl dX7_play_139 ?_
               refine q_istore 144 rfl (by decide) dX7_play_142 ?_
               refine q_goto 52 (by decide) dX7_play_144 ?_
               first
                 | (refine q_loc (play_end (Γ := Γ) hn (t := t + 1) (by omega) hY (hQ _ ?_)) (q_sub1 rfl (q_sub1 rfl (q_sub1 rfl (q_sub1 rfl (q_sub1 rfl (q_sub1 rfl (q_sub1 rfl (q_sub1 rfl q_sub0))))))))
                    rw [eply, if_pos (show gss s d = X by assumption)])
                 | (refine q_loc (ih (t + 1) _ (drw d) (by omega) ?_ ?_ ?_) (q_sub1 rfl (q_sub1 rfl (q_sub1 rfl (q_sub1 rfl (q_sub1 rfl (q_sub1 rfl (q_sub1 rfl (q_sub1 rfl q_sub0))))))))
                    · rw [ansW_s (Rl := Rl) hs (by omega) (hnx _ g3) al]; exact prt_lt
                    · rw [ansW_s (Rl := Rl) hs (by omega) (hnx _ g3) al, prt_bit, decide_eq_true hX, hb]; simp
                    · rw [ansW_s (Rl := Rl) hs (by omega) (hnx _ g3) al]
                      intro v hv2
                      refine hQ v ?_
                      rw [eply, if_neg (show ¬ gss s d = X by assumption)]
                      exact hv2))
          · first
            | (exfalso; omega)
            | (refine q_iconst 125 rfl 2 k_i2 dX7_play_124 ?_
               refine q_goto 139 (by decide) dX7_play_125 ?_
               refine q_cV3 142 rfl lX7_212 (k_answering hG (by omega) (by omega)) rfl 77 t_77 rfl rfl rfl dX7_play_139 ?_
               refine q_istore 144 rfl (by decide) dX7_play_142 ?_
               refine q_goto 52 (by decide) dX7_play_144 ?_
               first
                 | (refine q_loc (play_end (Γ := Γ) hn (t := t + 1) (by omega) hY (hQ _ ?_)) (q_sub1 rfl (q_sub1 rfl (q_sub1 rfl (q_sub1 rfl (q_sub1 rfl (q_sub1 rfl (q_sub1 rfl (q_sub1 rfl q_sub0))))))))
                    rw [eply, if_pos (show gss s d = X by assumption)])
                 | (refine q_loc (ih (t + 1) _ (drw d) (by omega) ?_ ?_ ?_) (q_sub1 rfl (q_sub1 rfl (q_sub1 rfl (q_sub1 rfl (q_sub1 rfl (q_sub1 rfl (q_sub1 rfl (q_sub1 rfl q_sub0))))))))
                    · rw [ansW_s (Rl := Rl) hs (by omega) (hnx _ g3) al]; exact prt_lt
                    · rw [ansW_s (Rl := Rl) hs (by omega) (hnx _ g3) al, prt_bit, decide_eq_true hX, hb]; simp
                    · rw [ansW_s (Rl := Rl) hs (by omega) (hnx _ g3) al]
                      intro v hv2
                      refine hQ v ?_
                      rw [eply, if_neg (show ¬ gss s d = X by assumption)]
                      exact hv2))
        · refine q_iconst 107 rfl 1 k_i1 dX7_play_106 ?_
          refine q_goto 111 (by decide) dX7_play_107 ?_
          refine q_istore 113 rfl (by decide) dX7_play_111 ?_
          refine q_aload_n 114 rfl rfl dX7_play_113 ?_
          refine q_iload 116 rfl rfl dX7_play_114 ?_
          refine q_iload 118 rfl rfl dX7_play_116 ?_
          refine q_iload 120 rfl rfl dX7_play_118 ?_
          refine q_iload_n 121 rfl rfl dX7_play_120 ?_
          refine q_icmp_ne 124 rfl 128 (by decide) (by omega) (by omega) dX7_play_121 (fun h121 => ?_) (fun h121 => ?_)
          · first
            | (exfalso; omega)
            | (refine q_aload_n 129 rfl rfl dX7_play_128 ?_
               refine q_getR 132 rfl fX7_37 rfl 77 t_77 (g_77_20 hG) dX7_play_129 ?_
               refine q_iload 134 rfl rfl dX7_play_132 ?_
               refine q_iald 135 rfl 87 t_87 (by omega) (by decide) dX7_play_134 ?_
               refine q_iload_n 136 rfl rfl dX7_play_135 ?_
               refine q_ishr 137 rfl (by omega) (by omega) dX7_play_136 ?_
               refine q_iconst 138 rfl 1 k_i1 dX7_play_137 ?_
               refine q_iand 139 rfl dX7_play_138 ?_
               rw [q1, mk_sh, ea (by assumption)]
               refine q_cV3 142 rfl lX7_212 (k_answering hG (by omega) (by omega)) rfl 77 t_77 rfl rfl rfl dX7_play_139 ?_
               refine q_istore 144 rfl (by decide) dX7_play_142 ?_
               refine q_goto 52 (by decide) dX7_play_144 ?_
               first
                 | (refine q_loc (play_end (Γ := Γ) hn (t := t + 1) (by omega) hY (hQ _ ?_)) (q_sub1 rfl (q_sub1 rfl (q_sub1 rfl (q_sub1 rfl (q_sub1 rfl (q_sub1 rfl (q_sub1 rfl (q_sub1 rfl q_sub0))))))))
                    rw [eply, if_pos (show gss s d = X by assumption)])
                 | (refine q_loc (ih (t + 1) _ (drw d) (by omega) ?_ ?_ ?_) (q_sub1 rfl (q_sub1 rfl (q_sub1 rfl (q_sub1 rfl (q_sub1 rfl (q_sub1 rfl (q_sub1 rfl (q_sub1 rfl q_sub0))))))))
                    · rw [ansW_s (Rl := Rl) hs (by omega) (hnx _ g3) al]; exact prt_lt
                    · rw [ansW_s (Rl := Rl) hs (by omega) (hnx _ g3) al, prt_bit, decide_eq_true hX, hb]; simp
                    · rw [ansW_s (Rl := Rl) hs (by omega) (hnx _ g3) al]
                      intro v hv2
                      refine hQ v ?_
                      rw [eply, if_neg (show ¬ gss s d = X by assumption)]
                      exact hv2))
          · first
            | (exfalso; omega)
            | (refine q_iconst 125 rfl 2 k_i2 dX7_play_124 ?_
               refine q_goto 139 (by decide) dX7_play_125 ?_
               refine q_cV3 142 rfl lX7_212 (k_answering hG (by omega) (by omega)) rfl 77 t_77 rfl rfl rfl dX7_play_139 ?_
               refine q_istore 144 rfl (by decide) dX7_play_142 ?_
               refine q_goto 52 (by decide) dX7_play_144 ?_
               first
                 | (refine q_loc (play_end (Γ := Γ) hn (t := t + 1) (by omega) hY (hQ _ ?_)) (q_sub1 rfl (q_sub1 rfl (q_sub1 rfl (q_sub1 rfl (q_sub1 rfl (q_sub1 rfl (q_sub1 rfl (q_sub1 rfl q_sub0))))))))
                    rw [eply, if_pos (show gss s d = X by assumption)])
                 | (refine q_loc (ih (t + 1) _ (drw d) (by omega) ?_ ?_ ?_) (q_sub1 rfl (q_sub1 rfl (q_sub1 rfl (q_sub1 rfl (q_sub1 rfl (q_sub1 rfl (q_sub1 rfl (q_sub1 rfl q_sub0))))))))
                    · rw [ansW_s (Rl := Rl) hs (by omega) (hnx _ g3) al]; exact prt_lt
                    · rw [ansW_s (Rl := Rl) hs (by omega) (hnx _ g3) al, prt_bit, decide_eq_true hX, hb]; simp
                    · rw [ansW_s (Rl := Rl) hs (by omega) (hnx _ g3) al]
                      intro v hv2
                      refine hQ v ?_
                      rw [eply, if_neg (show ¬ gss s d = X by assumption)]
                      exact hv2))
theorem k_play7 {S X n Y : Nat} {c : Nat} (hG : GF ad G) (hM : MS N c) (hS : S < 4294967296) (hX : X < 4294967296) (hn : n < 4294967296) (hY : Y < 4294967296) : q_Con Γ mX7_play 6 0 0 [.ref (ad 77), .int (nI S), .int (nI X), .int (nI n), .int (nI Y)] (LT ad, N, L, G) (q_sc ad N G (.int (nI (plv (R7 N) c S X n Y (can7 N c (R7 N) (N 78 40)))))) := by
  obtain ⟨hc, hc9, hb, hl, hs, hk, hms, hpr, hg9, hh, hgn, hga, hod, ho1⟩ := id hM
  have hcl : can7 N c (R7 N) (N 78 40) < 512 := can_lt hc9
  have hcc : can7 N c (R7 N) (N 78 40) < 2 ^ c := mk_lt _ c
  generalize hsd : can7 N c (R7 N) (N 78 40) = s at *
  refine q_con (by decide) rfl rfl (Nat.le_of_ble_eq_true rfl) ?_
  refine q_aload_n 1 rfl rfl dX7_play_0 ?_
  refine q_iload_n 2 rfl rfl dX7_play_1 ?_
  refine q_cV1 5 rfl lX7_160 (k_isName7 hG hc hc9 hX) rfl 77 t_77 rfl rfl rfl dX7_play_2 ?_
  refine q_if_eqD 8 rfl 31 (by decide) dX7_play_5 (fun h5 => ?_) (fun h5 => ?_)
  · refine q_iconst 32 rfl 4294967295 k_im1 dX7_play_31 ?_
    refine q_iret rfl dX7_play_32 ?_
    refine ⟨?_, _, _, rfl, Sc.rf⟩
    rw [plv, if_neg (by omega)]
  · refine q_iload_n 9 rfl rfl dX7_play_8 ?_
    refine q_i2l 10 rfl dX7_play_9 ?_
    refine q_lconst 11 rfl 1 lN1 dX7_play_10 ?_
    refine q_ldc2 14 rfl (60) klX7_268 rfl dX7_play_11 ?_
    refine q_cS3 17 rfl lX7_68 (k_in hn (by omega) (by omega) rfl (by omega) (by omega)) rfl rfl rfl dX7_play_14 ?_
    refine q_if_eqD 20 rfl 31 (by decide) dX7_play_17 (fun h17 => ?_) (fun h17 => ?_)
    · refine q_iconst 32 rfl 4294967295 k_im1 dX7_play_31 ?_
      refine q_iret rfl dX7_play_32 ?_
      refine ⟨?_, _, _, rfl, Sc.rf⟩
      rw [plv, if_neg (by omega)]
    · refine q_iload 22 rfl rfl dX7_play_20 ?_
      refine q_i2l 23 rfl dX7_play_22 ?_
      refine q_lconst 24 rfl 0 lN0 dX7_play_23 ?_
      refine q_lconst 25 rfl 1 lN1 dX7_play_24 ?_
      refine q_cS3 28 rfl lX7_68 (k_in hY (by omega) (by omega) rfl (by omega) (by omega)) rfl rfl rfl dX7_play_25 ?_
      refine q_if_neD 31 rfl 33 (by decide) dX7_play_28 (fun h28 => ?_) (fun h28 => ?_)
      · refine q_aload_n 34 rfl rfl dX7_play_33 ?_
        refine q_cV0 37 rfl lX7_221 (by have := k_canNow (Γ := Γ) (L := L) hG hM; rw [hsd] at this; exact this) rfl 77 t_77 rfl rfl rfl dX7_play_34 ?_
        refine q_iconst 38 rfl 1 k_i1 dX7_play_37 ?_
        refine q_iload_n 39 rfl rfl dX7_play_38 ?_
        refine q_ishl 40 rfl (by omega) dX7_play_39 ?_
        refine q_ior 41 rfl dX7_play_40 ?_
        refine q_istore 43 rfl (by decide) dX7_play_41 ?_
        refine q_iload_n 44 rfl rfl dX7_play_43 ?_
        refine q_istore 46 rfl (by decide) dX7_play_44 ?_
        refine q_iconst 47 rfl 0 k_i0 dX7_play_46 ?_
        refine q_istore 49 rfl (by decide) dX7_play_47 ?_
        refine q_iconst 50 rfl 0 k_i0 dX7_play_49 ?_
        refine q_istore 52 rfl (by decide) dX7_play_50 ?_
        refine q_loc (play_lp (N := now7 N c) (Rl := R7 N) hG hc hc9 (fun g hg => now7_87 hg) (by omega) (by omega) hY n 0 (s ||| (1 * 2 ^ X)) S (by omega) ?_ ?_ ?_) (q_sub1 rfl (q_sub1 rfl (q_sub1 rfl (q_sub1 rfl (q_sub1 rfl (q_sub1 rfl (q_sub1 rfl (q_sub1 rfl q_sub0))))))))
        · exact Nat.or_lt_two_pow hcc (by rw [Nat.one_mul]; exact Nat.pow_lt_pow_of_lt (by omega) (by omega))
        · rw [Nat.testBit_or, pow_bit]; simp
        · intro v hv
          refine ⟨?_, _, _, rfl, Sc.now⟩
          rw [hv, plv, if_pos (show X < c ∧ (1 ≤ n ∧ n ≤ 60) ∧ Y ≤ 1 by omega)]
      · refine q_iconst 32 rfl 4294967295 k_im1 dX7_play_31 ?_
        refine q_iret rfl dX7_play_32 ?_
        refine ⟨?_, _, _, rfl, Sc.rf⟩
        rw [plv, if_neg (by omega)]
end
