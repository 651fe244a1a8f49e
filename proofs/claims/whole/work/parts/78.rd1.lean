/-- the Reader's registers at, token, start, value, fault -/
def P2 (N : Nat → Nat → Nat) (at_ tk st vl ft : Nat) : Nat → Nat → Nat := q_r N 2 (fun j => if j = 4 then at_ else if j = 5 then tk else if j = 6 then st else if j = 7 then vl else if j = 8 then ft else N 2 j)
section
variable {N : Nat → Nat → Nat} {p tk st vl ft x : Nat}
theorem P2_4 : P2 N p tk st vl ft 2 4 = p := rfl
theorem P2_5 : P2 N p tk st vl ft 2 5 = tk := rfl
theorem P2_6 : P2 N p tk st vl ft 2 6 = st := rfl
theorem P2_7 : P2 N p tk st vl ft 2 7 = vl := rfl
theorem P2_8 : P2 N p tk st vl ft 2 8 = ft := rfl
theorem P2_o {j : Nat} (h1 : j < 12) (h : j < 4 ∨ 8 < j) : P2 N p tk st vl ft 2 j = N 2 j := by
  unfold P2; rw [q_r_at, if_neg (by omega), if_neg (by omega), if_neg (by omega), if_neg (by omega), if_neg (by omega)]
theorem P2_ne {a : Nat} (h : a ≠ 2) : P2 N p tk st vl ft a = N a := q_r_ne h
theorem P2_as {a i : Nat} (h : a ≠ 2) : q_s (P2 N p tk st vl ft) a i x = P2 (q_s N a i x) p tk st vl ft := by
  funext c d
  unfold P2
  simp only [q_s, q_r]
  by_cases h1 : c = a
  · subst h1; simp [h]
  · by_cases h2 : c = 2
    · subst h2; simp [h1]
    · simp [h1, h2]
theorem P2_ar {a : Nat} {g : Nat → Nat} (h : a ≠ 2) : q_r (P2 N p tk st vl ft) a g = P2 (q_r N a g) p tk st vl ft := by
  funext c d
  unfold P2
  simp only [q_r]
  by_cases h1 : c = a
  · subst h1; simp [h]
  · by_cases h2 : c = 2
    · subst h2; simp [h1]
    · simp [h1, h2]
theorem P2_so {j : Nat} (h1 : j < 12) (h : j < 4 ∨ 8 < j) : q_s (P2 N p tk st vl ft) 2 j x = P2 (q_s N 2 j x) p tk st vl ft := by
  funext c d
  unfold P2
  simp only [q_s, q_r]
  by_cases h2 : c = 2
  · subst h2
    simp only [if_true]
    by_cases h3 : d = j
    · subst h3; simp only [if_true]
      rw [if_neg (by omega), if_neg (by omega), if_neg (by omega), if_neg (by omega), if_neg (by omega)]
    · simp [h3]
  · simp [h2]
theorem P2_s4 : q_s (P2 N p tk st vl ft) 2 4 x = P2 N x tk st vl ft := by
  funext c d
  unfold P2
  simp only [q_s, q_r]
  by_cases h2 : c = 2
  · subst h2
    simp only [if_true]
    by_cases h3 : d = 4
    · subst h3; simp
    · simp [h3]
  · simp [h2]
theorem P2_s5 : q_s (P2 N p tk st vl ft) 2 5 x = P2 N p x st vl ft := by
  funext c d
  unfold P2
  simp only [q_s, q_r]
  by_cases h2 : c = 2
  · subst h2
    simp only [if_true]
    by_cases h3 : d = 5
    · subst h3; simp
    · simp [h3]
  · simp [h2]
theorem P2_s6 : q_s (P2 N p tk st vl ft) 2 6 x = P2 N p tk x vl ft := by
  funext c d
  unfold P2
  simp only [q_s, q_r]
  by_cases h2 : c = 2
  · subst h2
    simp only [if_true]
    by_cases h3 : d = 6
    · subst h3; simp
    · simp [h3]
  · simp [h2]
theorem P2_s7 : q_s (P2 N p tk st vl ft) 2 7 x = P2 N p tk st x ft := by
  funext c d
  unfold P2
  simp only [q_s, q_r]
  by_cases h2 : c = 2
  · subst h2
    simp only [if_true]
    by_cases h3 : d = 7
    · subst h3; simp
    · simp [h3]
  · simp [h2]
theorem P2_s8 : q_s (P2 N p tk st vl ft) 2 8 x = P2 N p tk st vl x := by
  funext c d
  unfold P2
  simp only [q_s, q_r]
  by_cases h2 : c = 2
  · subst h2
    simp only [if_true]
    by_cases h3 : d = 8
    · subst h3; simp
    · simp [h3]
  · simp [h2]
theorem P2_id : P2 N (N 2 4) (N 2 5) (N 2 6) (N 2 7) (N 2 8) = N := by
  funext c d
  unfold P2
  simp only [q_r]
  by_cases h : c = 2
  · subst h
    simp only [if_true]
    by_cases h1 : d = 4
    · subst h1; simp
    · by_cases h2 : d = 5
      · subst h2; simp
      · by_cases h3 : d = 6
        · subst h3; simp
        · by_cases h4 : d = 7
          · subst h4; simp
          · by_cases h5 : d = 8
            · subst h5; simp
            · simp [h1, h2, h3, h4, h5]
  · simp [h]
end
section
variable {Γ : q_G} {ad : Nat → Nat} {N : Nat → Nat → Nat} {L : Nat → Nat → Int} {G : Nat → Nat → Option Nat}
theorem sk2_lp {lo hi e p mc mz : Nat} {rm : Room} {Z : q_Zt} {tk st vl ft : Nat} (hG : GF ad G) (hr0 : G 2 0 = some (ad 1)) (hl : N 2 1 ≤ 160) (ht : ∀ i, i < 160 → N 1 i < 128) (hlo : lo < 2147483648) (hhi : hi < 2147483648) (he : e ≤ N 2 1) (h1 : ∀ i, p ≤ i → i < e → lo ≤ N 1 i ∧ N 1 i ≤ hi) (h2 : e < N 2 1 → ¬ (lo ≤ N 1 e ∧ N 1 e ≤ hi)) (hx : q_R Γ mX2_skipAll rm Z 0 0 50 [] [] (LT ad, P2 N e tk st vl ft, L, G)) : ∀ i, i ≤ e → p ≤ i → q_R Γ mX2_skipAll rm Z 0 0 0 [(0, .ref (ad 2)), (1, .int (nI lo)), (2, .int (nI hi))] [] (LT ad, P2 N i tk st vl ft, L, G) := by
  refine dn_loop e ?_ ?_
  · intro _
    have bt := ht e
    refine q_aload_n 1 rfl rfl dX2_skipAll_0 ?_
    refine q_getI 4 rfl fX2_27 rfl 2 t_2 dX2_skipAll_1 ?_
    rw [P2_4]
    refine q_aload_n 5 rfl rfl dX2_skipAll_4 ?_
    refine q_getI 8 rfl fX2_15 rfl 2 t_2 dX2_skipAll_5 ?_
    rw [P2_o (by decide) (by decide)]
    refine q_icmp_ge 11 rfl 50 (by decide) (by omega) (by omega) dX2_skipAll_8 (fun h8 => ?_) (fun h8 => ?_)
    · first
      | (exfalso; omega)
      | (exact q_loc hx q_sub0)
    · first
      | (exfalso; omega)
      | (refine q_aload_n 12 rfl rfl dX2_skipAll_11 ?_
         refine q_getR 15 rfl fX2_9 rfl 2 t_2 hr0 dX2_skipAll_12 ?_
         refine q_aload_n 16 rfl rfl dX2_skipAll_15 ?_
         refine q_getI 19 rfl fX2_27 rfl 2 t_2 dX2_skipAll_16 ?_
         rw [P2_4]
         refine q_bald 20 rfl 1 t_1 (by omega) (by decide) dX2_skipAll_19 ?_
         rw [P2_ne (by omega)]
         refine q_iload_n 21 rfl rfl dX2_skipAll_20 ?_
         refine q_icmp_lt 24 rfl 50 (by decide) (by omega) (by omega) dX2_skipAll_21 (fun h21 => ?_) (fun h21 => ?_)
         · first
           | (exfalso; omega)
           | (exact q_loc hx q_sub0)
         · first
           | (exfalso; omega)
           | (refine q_aload_n 25 rfl rfl dX2_skipAll_24 ?_
              refine q_getR 28 rfl fX2_9 rfl 2 t_2 hr0 dX2_skipAll_25 ?_
              refine q_aload_n 29 rfl rfl dX2_skipAll_28 ?_
              refine q_getI 32 rfl fX2_27 rfl 2 t_2 dX2_skipAll_29 ?_
              rw [P2_4]
              refine q_bald 33 rfl 1 t_1 (by omega) (by decide) dX2_skipAll_32 ?_
              rw [P2_ne (by omega)]
              refine q_iload_n 34 rfl rfl dX2_skipAll_33 ?_
              refine q_icmp_gt 37 rfl 50 (by decide) (by omega) (by omega) dX2_skipAll_34 (fun h34 => ?_) (fun h34 => ?_)
              · first
                | (exfalso; omega)
                | (exact q_loc hx q_sub0)
              · first
                | (exfalso; omega)
                | (exfalso; omega)))
  · intro i h_i ih h_ex
    have bt := ht i
    have hh := h1 i h_ex h_i
    refine q_aload_n 1 rfl rfl dX2_skipAll_0 ?_
    refine q_getI 4 rfl fX2_27 rfl 2 t_2 dX2_skipAll_1 ?_
    rw [P2_4]
    refine q_aload_n 5 rfl rfl dX2_skipAll_4 ?_
    refine q_getI 8 rfl fX2_15 rfl 2 t_2 dX2_skipAll_5 ?_
    rw [P2_o (by decide) (by decide)]
    refine q_icmp_ge 11 rfl 50 (by decide) (by omega) (by omega) dX2_skipAll_8 (fun h8 => ?_) (fun h8 => ?_)
    · exfalso; omega
    · refine q_aload_n 12 rfl rfl dX2_skipAll_11 ?_
      refine q_getR 15 rfl fX2_9 rfl 2 t_2 hr0 dX2_skipAll_12 ?_
      refine q_aload_n 16 rfl rfl dX2_skipAll_15 ?_
      refine q_getI 19 rfl fX2_27 rfl 2 t_2 dX2_skipAll_16 ?_
      rw [P2_4]
      refine q_bald 20 rfl 1 t_1 (by omega) (by decide) dX2_skipAll_19 ?_
      rw [P2_ne (by omega)]
      refine q_iload_n 21 rfl rfl dX2_skipAll_20 ?_
      refine q_icmp_lt 24 rfl 50 (by decide) (by omega) (by omega) dX2_skipAll_21 (fun h21 => ?_) (fun h21 => ?_)
      · exfalso; omega
      · refine q_aload_n 25 rfl rfl dX2_skipAll_24 ?_
        refine q_getR 28 rfl fX2_9 rfl 2 t_2 hr0 dX2_skipAll_25 ?_
        refine q_aload_n 29 rfl rfl dX2_skipAll_28 ?_
        refine q_getI 32 rfl fX2_27 rfl 2 t_2 dX2_skipAll_29 ?_
        rw [P2_4]
        refine q_bald 33 rfl 1 t_1 (by omega) (by decide) dX2_skipAll_32 ?_
        rw [P2_ne (by omega)]
        refine q_iload_n 34 rfl rfl dX2_skipAll_33 ?_
        refine q_icmp_gt 37 rfl 50 (by decide) (by omega) (by omega) dX2_skipAll_34 (fun h34 => ?_) (fun h34 => ?_)
        · exfalso; omega
        · refine q_aload_n 38 rfl rfl dX2_skipAll_37 ?_
          refine q_dup 39 rfl rfl dX2_skipAll_38 ?_
          refine q_getI 42 rfl fX2_27 rfl 2 t_2 dX2_skipAll_39 ?_
          rw [P2_4]
          refine q_iconst 43 rfl 1 k_i1 dX2_skipAll_42 ?_
          refine q_iadd 44 rfl dX2_skipAll_43 ?_
          refine q_putI 47 rfl pX2_27 (fun q => by cases q) rfl 2 t_2 dX2_skipAll_44 ?_
          rw [P2_s4]
          refine q_goto 0 (by decide) dX2_skipAll_47 ?_
          exact q_loc (ih (by omega)) (q_sub1 rfl (q_sub1 rfl (q_sub1 rfl q_sub0)))
theorem k_skipAll {lo hi p : Nat} {tk st vl ft : Nat} (hG : GF ad G) (hr0 : G 2 0 = some (ad 1)) (hl : N 2 1 ≤ 160) (ht : ∀ i, i < 160 → N 1 i < 128) (hlo : lo < 2147483648) (hhi : hi < 2147483648) (hp : p ≤ N 2 1) : q_Con Γ mX2_skipAll 0 0 0 [.ref (ad 2), .int (nI lo), .int (nI hi)] (LT ad, P2 N p tk st vl ft, L, G) (q_is none (LT ad, P2 N (sk (N 1) (N 2 1) lo hi p) tk st vl ft, L, G)) := by
  obtain ⟨a1, a2, a3, a4⟩ := sk_spec (t := N 1) (len := N 2 1) (lo := lo) (hi := hi) hp
  generalize sk (N 1) (N 2 1) lo hi p = e at *
  refine q_con (by decide) rfl rfl (Nat.le_of_ble_eq_true rfl) ?_
  refine q_loc (sk2_lp (mc := 0) (mz := 0) hG hr0 hl ht hlo hhi a2 a3 a4 ?_ p a1 (Nat.le_refl _)) (q_sub1 rfl (q_sub1 rfl (q_sub1 rfl q_sub0)))
  refine q_vret rfl dX2_skipAll_50 ?_
  exact ⟨rfl, rfl⟩
theorem k_refuse {x p : Nat} {tk st vl ft : Nat} (hG : GF ad G) : q_Con Γ mX2_refuse 0 0 0 [.ref (ad 2), .int (nI x)] (LT ad, P2 N p tk st vl ft, L, G) (q_is (some (.int (nI (0)))) (LT ad, P2 N p tk st vl x, L, G)) := by
  refine q_con (by decide) rfl rfl (Nat.le_of_ble_eq_true rfl) ?_
  refine q_aload_n 1 rfl rfl dX2_refuse_0 ?_
  refine q_iload_n 2 rfl rfl dX2_refuse_1 ?_
  refine q_putI 5 rfl pX2_30 (fun q => by cases q) rfl 2 t_2 dX2_refuse_2 ?_
  rw [P2_s8]
  refine q_iconst 6 rfl 0 k_i0 dX2_refuse_5 ?_
  refine q_zret rfl (by first | exact q_n0 | exact q_n1 | exact q_nb _) dX2_refuse_6 ?_
  exact ⟨rfl, rfl⟩
theorem k_take {p : Nat} {tk st vl ft : Nat} (hG : GF ad G) (hr0 : G 2 0 = some (ad 1)) (hl : N 2 1 ≤ 160) (ht : ∀ i, i < 160 → N 1 i < 128) (hp : p ≤ N 2 1) : q_Con Γ mX2_take 1 0 0 [.ref (ad 2)] (LT ad, P2 N p tk st vl ft, L, G) (q_is (some (.int (nI (decide ((tkn (N 1) (N 2 1) p).1 ≠ 4)).toNat))) (LT ad, P2 N (tkE (N 1) (N 2 1) p) (if (tkn (N 1) (N 2 1) p).1 = 4 then 2 else (tkn (N 1) (N 2 1) p).1) (tkS (N 1) (N 2 1) p) vl (if (tkn (N 1) (N 2 1) p).1 = 4 then 1 else ft), L, G)) := by
  unfold tkE tkS tkn
  obtain ⟨a1, a2, a3, a4⟩ := sk_spec (t := N 1) (len := N 2 1) (lo := 32) (hi := 32) hp
  generalize hE : sk (N 1) (N 2 1) 32 32 p = e at *
  obtain ⟨c1, c2, c3, c4⟩ := sk_spec (t := N 1) (len := N 2 1) (lo := 97) (hi := 122) a2
  generalize hE2 : sk (N 1) (N 2 1) 97 122 e = e2 at *
  obtain ⟨d1, d2, d3, d4⟩ := sk_spec (t := N 1) (len := N 2 1) (lo := 48) (hi := 57) a2
  generalize hE3 : sk (N 1) (N 2 1) 48 57 e = e3 at *
  have bt := ht e
  have ce : e < e2 → 97 ≤ N 1 e ∧ N 1 e ≤ 122 := fun q => c3 e (Nat.le_refl _) q
  have de : e < e3 → 48 ≤ N 1 e ∧ N 1 e ≤ 57 := fun q => d3 e (Nat.le_refl _) q
  refine q_con (by decide) rfl rfl (Nat.le_of_ble_eq_true rfl) ?_
  refine q_aload_n 1 rfl rfl dX2_take_0 ?_
  refine q_bipush 3 rfl 32 k_b32 dX2_take_1 ?_
  refine q_bipush 5 rfl 32 k_b32 dX2_take_3 ?_
  refine q_cV2v 8 rfl lX2_137 (k_skipAll hG hr0 hl ht (by omega) (by omega) hp) rfl 2 t_2 rfl rfl rfl dX2_take_5 ?_
  rw [hE]
  refine q_aload_n 9 rfl rfl dX2_take_8 ?_
  refine q_aload_n 10 rfl rfl dX2_take_9 ?_
  refine q_getI 13 rfl fX2_27 rfl 2 t_2 dX2_take_10 ?_
  rw [P2_4]
  refine q_putI 16 rfl pX2_89 (fun q => by cases q) rfl 2 t_2 dX2_take_13 ?_
  rw [P2_s6]
  refine q_aload_n 17 rfl rfl dX2_take_16 ?_
  refine q_getI 20 rfl fX2_27 rfl 2 t_2 dX2_take_17 ?_
  rw [P2_4]
  refine q_aload_n 21 rfl rfl dX2_take_20 ?_
  refine q_getI 24 rfl fX2_15 rfl 2 t_2 dX2_take_21 ?_
  rw [P2_o (by decide) (by decide)]
  refine q_icmp_lt 27 rfl 34 (by decide) (by omega) (by omega) dX2_take_24 (fun h24 => ?_) (fun h24 => ?_)
  · refine q_aload_n 35 rfl rfl dX2_take_34 ?_
    refine q_getR 38 rfl fX2_9 rfl 2 t_2 hr0 dX2_take_35 ?_
    refine q_aload_n 39 rfl rfl dX2_take_38 ?_
    refine q_getI 42 rfl fX2_27 rfl 2 t_2 dX2_take_39 ?_
    rw [P2_4]
    refine q_bald 43 rfl 1 t_1 (by omega) (by decide) dX2_take_42 ?_
    rw [P2_ne (by omega)]
    refine q_bipush 45 rfl 59 k_b59 dX2_take_43 ?_
    refine q_icmp_ne 48 rfl 65 (by decide) (by omega) (by omega) dX2_take_45 (fun h45 => ?_) (fun h45 => ?_)
    · refine q_aload_n 66 rfl rfl dX2_take_65 ?_
      refine q_bipush 68 rfl 97 k_b97 dX2_take_66 ?_
      refine q_bipush 70 rfl 122 k_b122 dX2_take_68 ?_
      refine q_cV2v 73 rfl lX2_137 (k_skipAll hG hr0 hl ht (by omega) (by omega) a2) rfl 2 t_2 rfl rfl rfl dX2_take_70 ?_
      rw [hE2]
      refine q_aload_n 74 rfl rfl dX2_take_73 ?_
      refine q_getI 77 rfl fX2_27 rfl 2 t_2 dX2_take_74 ?_
      rw [P2_4]
      refine q_aload_n 78 rfl rfl dX2_take_77 ?_
      refine q_getI 81 rfl fX2_89 rfl 2 t_2 dX2_take_78 ?_
      rw [P2_6]
      refine q_icmp_le 84 rfl 91 (by decide) (by omega) (by omega) dX2_take_81 (fun h81 => ?_) (fun h81 => ?_)
      · have e22 : e2 = e := by omega
        have c5 : ¬ (97 ≤ N 1 e ∧ N 1 e ≤ 122) := by have := c4 (by omega); rw [e22] at this; exact this
        have d5 : e3 = e → ¬ (48 ≤ N 1 e ∧ N 1 e ≤ 57) := fun q => by have := d4 (by omega); rw [q] at this; exact this
        rw [e22]
        refine q_aload_n 92 rfl rfl dX2_take_91 ?_
        refine q_bipush 94 rfl 48 k_b48 dX2_take_92 ?_
        refine q_bipush 96 rfl 57 k_b57 dX2_take_94 ?_
        refine q_cV2v 99 rfl lX2_137 (k_skipAll hG hr0 hl ht (by omega) (by omega) a2) rfl 2 t_2 rfl rfl rfl dX2_take_96 ?_
        rw [hE3]
        refine q_aload_n 100 rfl rfl dX2_take_99 ?_
        refine q_iconst 101 rfl 2 k_i2 dX2_take_100 ?_
        refine q_putI 104 rfl pX2_44 (fun q => by cases q) rfl 2 t_2 dX2_take_101 ?_
        rw [P2_s5]
        refine q_aload_n 105 rfl rfl dX2_take_104 ?_
        refine q_getI 108 rfl fX2_27 rfl 2 t_2 dX2_take_105 ?_
        rw [P2_4]
        refine q_aload_n 109 rfl rfl dX2_take_108 ?_
        refine q_getI 112 rfl fX2_89 rfl 2 t_2 dX2_take_109 ?_
        rw [P2_6]
        refine q_isub 113 rfl (by omega) dX2_take_112 ?_
        refine q_iconst 114 rfl 1 k_i1 dX2_take_113 ?_
        refine q_iconst 115 rfl 2 k_i2 dX2_take_114 ?_
        refine q_cS3 118 rfl lX2_133 (k_within (by omega) (by omega) (by omega)) rfl rfl rfl dX2_take_115 ?_
        refine q_if_neD 121 rfl 129 (by decide) dX2_take_118 (fun h118 => ?_) (fun h118 => ?_)
        · refine q_iconst 130 rfl 1 k_i1 dX2_take_129 ?_
          refine q_goto 134 (by decide) dX2_take_130 ?_
          refine q_zret rfl (by first | exact q_n0 | exact q_n1 | exact q_nb _) dX2_take_134 ?_
          first
            | (rw [if_pos (by omega)]; exact ⟨rfl, rfl⟩)
            | (rw [if_neg (show ¬ N 2 1 ≤ e by omega), if_neg (by omega), if_neg (by omega), if_pos (by omega)]; exact ⟨rfl, rfl⟩)
            | (rw [if_neg (show ¬ N 2 1 ≤ e by omega), if_pos (by omega)]; exact ⟨rfl, rfl⟩)
            | (rw [if_neg (show ¬ N 2 1 ≤ e by omega), if_neg (by omega), if_pos (by omega), if_pos (show e3 - e ≤ 2 by omega)]; exact ⟨rfl, rfl⟩)
            | (by_cases q : e3 = e
               · rw [if_neg (show ¬ N 2 1 ≤ e by omega), if_neg (by omega), if_neg (by omega), if_neg (by omega), q]; exact ⟨rfl, rfl⟩
               · rw [if_neg (show ¬ N 2 1 ≤ e by omega), if_neg (by omega), if_pos (by omega), if_neg (show ¬ e3 - e ≤ 2 by omega)]; exact ⟨rfl, rfl⟩)
        · refine q_aload_n 122 rfl rfl dX2_take_121 ?_
          refine q_iconst 123 rfl 1 k_i1 dX2_take_122 ?_
          refine q_cV1 126 rfl lX2_50 (k_refuse hG) rfl 2 t_2 rfl rfl rfl dX2_take_123 ?_
          refine q_if_eq 129 rfl 133 (by decide) (by omega) dX2_take_126 (fun h126 => ?_) (fun h126 => ?_)
          · refine q_iconst 134 rfl 0 k_i0 dX2_take_133 ?_
            refine q_zret rfl (by first | exact q_n0 | exact q_n1 | exact q_nb _) dX2_take_134 ?_
            first
              | (rw [if_pos (by omega)]; exact ⟨rfl, rfl⟩)
              | (rw [if_neg (show ¬ N 2 1 ≤ e by omega), if_neg (by omega), if_neg (by omega), if_pos (by omega)]; exact ⟨rfl, rfl⟩)
              | (rw [if_neg (show ¬ N 2 1 ≤ e by omega), if_pos (by omega)]; exact ⟨rfl, rfl⟩)
              | (rw [if_neg (show ¬ N 2 1 ≤ e by omega), if_neg (by omega), if_pos (by omega), if_pos (show e3 - e ≤ 2 by omega)]; exact ⟨rfl, rfl⟩)
              | (by_cases q : e3 = e
                 · rw [if_neg (show ¬ N 2 1 ≤ e by omega), if_neg (by omega), if_neg (by omega), if_neg (by omega), q]; exact ⟨rfl, rfl⟩
                 · rw [if_neg (show ¬ N 2 1 ≤ e by omega), if_neg (by omega), if_pos (by omega), if_neg (show ¬ e3 - e ≤ 2 by omega)]; exact ⟨rfl, rfl⟩)
          · exfalso; omega
      · refine q_aload_n 85 rfl rfl dX2_take_84 ?_
        refine q_iconst 86 rfl 1 k_i1 dX2_take_85 ?_
        refine q_putI 89 rfl pX2_44 (fun q => by cases q) rfl 2 t_2 dX2_take_86 ?_
        rw [P2_s5]
        refine q_iconst 90 rfl 1 k_i1 dX2_take_89 ?_
        refine q_zret rfl (by first | exact q_n0 | exact q_n1 | exact q_nb _) dX2_take_90 ?_
        first
          | (rw [if_pos (by omega)]; exact ⟨rfl, rfl⟩)
          | (rw [if_neg (show ¬ N 2 1 ≤ e by omega), if_neg (by omega), if_neg (by omega), if_pos (by omega)]; exact ⟨rfl, rfl⟩)
          | (rw [if_neg (show ¬ N 2 1 ≤ e by omega), if_pos (by omega)]; exact ⟨rfl, rfl⟩)
          | (rw [if_neg (show ¬ N 2 1 ≤ e by omega), if_neg (by omega), if_pos (by omega), if_pos (show e3 - e ≤ 2 by omega)]; exact ⟨rfl, rfl⟩)
          | (by_cases q : e3 = e
             · rw [if_neg (show ¬ N 2 1 ≤ e by omega), if_neg (by omega), if_neg (by omega), if_neg (by omega), q]; exact ⟨rfl, rfl⟩
             · rw [if_neg (show ¬ N 2 1 ≤ e by omega), if_neg (by omega), if_pos (by omega), if_neg (show ¬ e3 - e ≤ 2 by omega)]; exact ⟨rfl, rfl⟩)
    · refine q_aload_n 49 rfl rfl dX2_take_48 ?_
      refine q_dup 50 rfl rfl dX2_take_49 ?_
      refine q_getI 53 rfl fX2_27 rfl 2 t_2 dX2_take_50 ?_
      rw [P2_4]
      refine q_iconst 54 rfl 1 k_i1 dX2_take_53 ?_
      refine q_iadd 55 rfl dX2_take_54 ?_
      refine q_putI 58 rfl pX2_27 (fun q => by cases q) rfl 2 t_2 dX2_take_55 ?_
      rw [P2_s4]
      refine q_aload_n 59 rfl rfl dX2_take_58 ?_
      refine q_iconst 60 rfl 3 k_i3 dX2_take_59 ?_
      refine q_putI 63 rfl pX2_44 (fun q => by cases q) rfl 2 t_2 dX2_take_60 ?_
      rw [P2_s5]
      refine q_iconst 64 rfl 1 k_i1 dX2_take_63 ?_
      refine q_zret rfl (by first | exact q_n0 | exact q_n1 | exact q_nb _) dX2_take_64 ?_
      first
        | (rw [if_pos (by omega)]; exact ⟨rfl, rfl⟩)
        | (rw [if_neg (show ¬ N 2 1 ≤ e by omega), if_neg (by omega), if_neg (by omega), if_pos (by omega)]; exact ⟨rfl, rfl⟩)
        | (rw [if_neg (show ¬ N 2 1 ≤ e by omega), if_pos (by omega)]; exact ⟨rfl, rfl⟩)
        | (rw [if_neg (show ¬ N 2 1 ≤ e by omega), if_neg (by omega), if_pos (by omega), if_pos (show e3 - e ≤ 2 by omega)]; exact ⟨rfl, rfl⟩)
        | (by_cases q : e3 = e
           · rw [if_neg (show ¬ N 2 1 ≤ e by omega), if_neg (by omega), if_neg (by omega), if_neg (by omega), q]; exact ⟨rfl, rfl⟩
           · rw [if_neg (show ¬ N 2 1 ≤ e by omega), if_neg (by omega), if_pos (by omega), if_neg (show ¬ e3 - e ≤ 2 by omega)]; exact ⟨rfl, rfl⟩)
  · refine q_aload_n 28 rfl rfl dX2_take_27 ?_
    refine q_iconst 29 rfl 0 k_i0 dX2_take_28 ?_
    refine q_putI 32 rfl pX2_44 (fun q => by cases q) rfl 2 t_2 dX2_take_29 ?_
    rw [P2_s5]
    refine q_iconst 33 rfl 1 k_i1 dX2_take_32 ?_
    refine q_zret rfl (by first | exact q_n0 | exact q_n1 | exact q_nb _) dX2_take_33 ?_
    first
      | (rw [if_pos (by omega)]; exact ⟨rfl, rfl⟩)
      | (rw [if_neg (show ¬ N 2 1 ≤ e by omega), if_neg (by omega), if_neg (by omega), if_pos (by omega)]; exact ⟨rfl, rfl⟩)
      | (rw [if_neg (show ¬ N 2 1 ≤ e by omega), if_pos (by omega)]; exact ⟨rfl, rfl⟩)
      | (rw [if_neg (show ¬ N 2 1 ≤ e by omega), if_neg (by omega), if_pos (by omega), if_pos (show e3 - e ≤ 2 by omega)]; exact ⟨rfl, rfl⟩)
      | (by_cases q : e3 = e
         · rw [if_neg (show ¬ N 2 1 ≤ e by omega), if_neg (by omega), if_neg (by omega), if_neg (by omega), q]; exact ⟨rfl, rfl⟩
         · rw [if_neg (show ¬ N 2 1 ≤ e by omega), if_neg (by omega), if_pos (by omega), if_neg (show ¬ e3 - e ≤ 2 by omega)]; exact ⟨rfl, rfl⟩)
end
