section
variable {Γ : q_G} {ad : Nat → Nat} {N : Nat → Nat → Nat} {L : Nat → Nat → Int} {G : Nat → Nat → Option Nat}
theorem k_isLetter7 {h : q_H} {X : Nat} (hX : X < 4294967296) : q_Con Γ mX7_isLetter 1 0 0 [.int (nI X)] h (q_is (some (.int (nI (decide (X < 26)).toNat))) h) := by
  refine q_con (by decide) rfl rfl (Nat.le_of_ble_eq_true rfl) ?_
  refine q_iload_n 1 rfl rfl dX7_isLetter_0 ?_
  refine q_i2l 2 rfl dX7_isLetter_1 ?_
  refine q_lconst 3 rfl 0 lN0 dX7_isLetter_2 ?_
  refine q_ldc2 6 rfl (25) klX7_158 rfl dX7_isLetter_3 ?_
  refine q_cS3 9 rfl lX7_68 (k_in hX (by omega) (by omega) rfl (by omega) (by omega)) rfl rfl rfl dX7_isLetter_6 ?_
  refine q_zret rfl (by first | exact q_n0 | exact q_n1 | exact q_nb _) dX7_isLetter_9 ?_
  rw [decide_eq_decide.mpr (by omega : (X < 26) ↔ ((0 : Int) ≤ (X : Int) ∧ (X : Int) ≤ 25))]
  exact ⟨rfl, rfl⟩
theorem k_vowel {h : q_H} {x : Nat} (hx : x < 4294967296) : q_Con Γ mX7_vowel 0 0 0 [.int (nI x)] h (q_is (some (.int (nI (vwl x)))) h) := by
  refine q_con (by decide) rfl rfl (Nat.le_of_ble_eq_true rfl) ?_
  refine q_iload_n 1 rfl rfl dX7_vowel_0 ?_
  refine q_if_eq 4 rfl 27 (by decide) (by omega) dX7_vowel_1 (fun h1 => ?_) (fun h1 => ?_)
  · refine q_iconst 28 rfl 1 k_i1 dX7_vowel_27 ?_
    refine q_goto 32 (by decide) dX7_vowel_28 ?_
    refine q_iret rfl dX7_vowel_32 ?_
    first
      | (rw [vwl, if_pos (by omega)]; exact ⟨rfl, rfl⟩)
      | (rw [vwl, if_neg (by omega)]; exact ⟨rfl, rfl⟩)
  · refine q_iload_n 5 rfl rfl dX7_vowel_4 ?_
    refine q_iconst 6 rfl 4 k_i4 dX7_vowel_5 ?_
    refine q_icmp_eq 9 rfl 27 (by decide) (by omega) (by omega) dX7_vowel_6 (fun h6 => ?_) (fun h6 => ?_)
    · refine q_iconst 28 rfl 1 k_i1 dX7_vowel_27 ?_
      refine q_goto 32 (by decide) dX7_vowel_28 ?_
      refine q_iret rfl dX7_vowel_32 ?_
      first
        | (rw [vwl, if_pos (by omega)]; exact ⟨rfl, rfl⟩)
        | (rw [vwl, if_neg (by omega)]; exact ⟨rfl, rfl⟩)
    · refine q_iload_n 10 rfl rfl dX7_vowel_9 ?_
      refine q_bipush 12 rfl 8 k_b8 dX7_vowel_10 ?_
      refine q_icmp_eq 15 rfl 27 (by decide) (by omega) (by omega) dX7_vowel_12 (fun h12 => ?_) (fun h12 => ?_)
      · refine q_iconst 28 rfl 1 k_i1 dX7_vowel_27 ?_
        refine q_goto 32 (by decide) dX7_vowel_28 ?_
        refine q_iret rfl dX7_vowel_32 ?_
        first
          | (rw [vwl, if_pos (by omega)]; exact ⟨rfl, rfl⟩)
          | (rw [vwl, if_neg (by omega)]; exact ⟨rfl, rfl⟩)
      · refine q_iload_n 16 rfl rfl dX7_vowel_15 ?_
        refine q_bipush 18 rfl 14 k_b14 dX7_vowel_16 ?_
        refine q_icmp_eq 21 rfl 27 (by decide) (by omega) (by omega) dX7_vowel_18 (fun h18 => ?_) (fun h18 => ?_)
        · refine q_iconst 28 rfl 1 k_i1 dX7_vowel_27 ?_
          refine q_goto 32 (by decide) dX7_vowel_28 ?_
          refine q_iret rfl dX7_vowel_32 ?_
          first
            | (rw [vwl, if_pos (by omega)]; exact ⟨rfl, rfl⟩)
            | (rw [vwl, if_neg (by omega)]; exact ⟨rfl, rfl⟩)
        · refine q_iload_n 22 rfl rfl dX7_vowel_21 ?_
          refine q_bipush 24 rfl 20 k_b20 dX7_vowel_22 ?_
          refine q_icmp_ne 27 rfl 31 (by decide) (by omega) (by omega) dX7_vowel_24 (fun h24 => ?_) (fun h24 => ?_)
          · refine q_iconst 32 rfl 0 k_i0 dX7_vowel_31 ?_
            refine q_iret rfl dX7_vowel_32 ?_
            first
              | (rw [vwl, if_pos (by omega)]; exact ⟨rfl, rfl⟩)
              | (rw [vwl, if_neg (by omega)]; exact ⟨rfl, rfl⟩)
          · refine q_iconst 28 rfl 1 k_i1 dX7_vowel_27 ?_
            refine q_goto 32 (by decide) dX7_vowel_28 ?_
            refine q_iret rfl dX7_vowel_32 ?_
            first
              | (rw [vwl, if_pos (by omega)]; exact ⟨rfl, rfl⟩)
              | (rw [vwl, if_neg (by omega)]; exact ⟨rfl, rfl⟩)
theorem k_apart {h : q_H} {a b : Nat} (ha : a < 2147483648) (hb : b < 2147483648) : q_Con Γ mX7_apart 0 0 0 [.int (nI a), .int (nI b)] h (q_is (some (.int (nI (dst a b)))) h) := by
  refine q_con (by decide) rfl rfl (Nat.le_of_ble_eq_true rfl) ?_
  refine q_iload_n 1 rfl rfl dX7_apart_0 ?_
  refine q_iload_n 2 rfl rfl dX7_apart_1 ?_
  refine q_icmp_ge 5 rfl 11 (by decide) (by omega) (by omega) dX7_apart_2 (fun h2 => ?_) (fun h2 => ?_)
  · refine q_iload_n 12 rfl rfl dX7_apart_11 ?_
    refine q_iload_n 13 rfl rfl dX7_apart_12 ?_
    refine q_isub 14 rfl (by omega) dX7_apart_13 ?_
    refine q_iret rfl dX7_apart_14 ?_
    first
      | (rw [dst, if_pos (by omega)]; exact ⟨rfl, rfl⟩)
      | (rw [dst, if_neg (by omega)]; exact ⟨rfl, rfl⟩)
  · refine q_iload_n 6 rfl rfl dX7_apart_5 ?_
    refine q_iload_n 7 rfl rfl dX7_apart_6 ?_
    refine q_isub 8 rfl (by omega) dX7_apart_7 ?_
    refine q_goto 14 (by decide) dX7_apart_8 ?_
    refine q_iret rfl dX7_apart_14 ?_
    first
      | (rw [dst, if_pos (by omega)]; exact ⟨rfl, rfl⟩)
      | (rw [dst, if_neg (by omega)]; exact ⟨rfl, rfl⟩)
theorem bitsOf_lp {rm : Room} {Z : q_Zt} {s : Nat} {h : q_H} (hs : s < 2147483648) (hx : q_R Γ mX7_bitsOf rm Z 0 0 24 [(1, .int (nI (pc s (26))))] [] h) : ∀ i, i ≤ 26 →  ∀ a : Nat, a = pc s i → q_R Γ mX7_bitsOf rm Z 0 0 4 [(0, .int (nI s)), (1, .int (nI a)), (2, .int (nI i))] [] h := by
  refine dn_loop (26) ?_ ?_
  · intro a h_a
    refine q_iload_n 5 rfl rfl dX7_bitsOf_4 ?_
    refine q_bipush 7 rfl 26 k_b26 dX7_bitsOf_5 ?_
    refine q_icmp_ge 10 rfl 24 (by decide) (by omega) (by omega) dX7_bitsOf_7 (fun h7 => ?_) (fun h7 => ?_)
    · subst h_a
      exact q_loc hx (q_sub1 rfl q_sub0)
    · exfalso; omega
  · intro i h_i ih a h_a
    refine q_iload_n 5 rfl rfl dX7_bitsOf_4 ?_
    refine q_bipush 7 rfl 26 k_b26 dX7_bitsOf_5 ?_
    refine q_icmp_ge 10 rfl 24 (by decide) (by omega) (by omega) dX7_bitsOf_7 (fun h7 => ?_) (fun h7 => ?_)
    · exfalso; omega
    · refine q_iload_n 11 rfl rfl dX7_bitsOf_10 ?_
      refine q_iload_n 12 rfl rfl dX7_bitsOf_11 ?_
      refine q_iload_n 13 rfl rfl dX7_bitsOf_12 ?_
      refine q_ishr 14 rfl (by omega) (by omega) dX7_bitsOf_13 ?_
      refine q_iconst 15 rfl 1 k_i1 dX7_bitsOf_14 ?_
      refine q_iand 16 rfl dX7_bitsOf_15 ?_
      refine q_iadd 17 rfl dX7_bitsOf_16 ?_
      refine q_istore_n 18 rfl (by decide) dX7_bitsOf_17 ?_
      refine q_iinc1 21 rfl 1 k_i1 rfl (by decide) dX7_bitsOf_18 ?_
      refine q_goto 4 (by decide) dX7_bitsOf_21 ?_
      refine q_loc (ih _ ?_) (q_sub1 rfl (q_sub1 rfl (q_sub1 rfl q_sub0)))
      · rw [h_a, Nat.and_one_is_mod]; rfl
theorem k_bitsOf {h : q_H} {s : Nat} (hs : s < 2147483648) : q_Con Γ mX7_bitsOf 0 0 0 [.int (nI s)] h (q_is (some (.int (nI (pc s 26)))) h) := by
  refine q_con (by decide) rfl rfl (Nat.le_of_ble_eq_true rfl) ?_
  refine q_iconst 1 rfl 0 k_i0 dX7_bitsOf_0 ?_
  refine q_istore_n 2 rfl (by decide) dX7_bitsOf_1 ?_
  refine q_iconst 3 rfl 0 k_i0 dX7_bitsOf_2 ?_
  refine q_istore_n 4 rfl (by decide) dX7_bitsOf_3 ?_
  refine q_loc (bitsOf_lp hs ?_ 0 (by omega) _ rfl) (q_sub1 rfl (q_sub1 rfl (q_sub1 rfl q_sub0)))
  refine q_iload_n 25 rfl rfl dX7_bitsOf_24 ?_
  refine q_iret rfl dX7_bitsOf_25 ?_
  exact ⟨rfl, rfl⟩
abbrev l7 (f : Nat → Nat) (n : Nat) : Nat := f (9 * n)
abbrev c7 (f : Nat → Nat) (n i : Nat) : Nat := f (9 * n + (i + 1))
abbrev ls7 (f : Nat → Nat) (n : Nat) : Nat := lst (c7 f n) (l7 f n)
abbrev vw7 (f : Nat → Nat) (n : Nat) : Nat := vws (c7 f n) (l7 f n)
theorem unlike_lp {rm : Room} {Z : q_Zt} {n m p : Nat} (hG : GF ad G) (hn : n < 9) (hm : m < 9) (hp : p ≤ 8) (hb : ∀ i, i < 81 → N 79 i < 26) (hx : q_R Γ mX7_unlike rm Z 0 0 55 [(4, .int (nI (unl (c7 (N 79)) n m ((p + 1) - 1))))] [] (LT ad, N, L, G)) : ∀ i, i ≤ p + 1 → 1 ≤ i →  ∀ s : Nat, s = unl (c7 (N 79)) n m (i - 1) → q_R Γ mX7_unlike rm Z 0 0 6 [(0, .ref (ad 77)), (1, .int (nI n)), (2, .int (nI m)), (3, .int (nI p)), (4, .int (nI s)), (5, .int (nI i))] [] (LT ad, N, L, G) := by
  refine dn_loop (p + 1) ?_ ?_
  · intro h_ex s h_s
    refine q_iload 8 rfl rfl dX7_unlike_6 ?_
    refine q_iload_n 9 rfl rfl dX7_unlike_8 ?_
    refine q_icmp_gt 12 rfl 55 (by decide) (by omega) (by omega) dX7_unlike_9 (fun h9 => ?_) (fun h9 => ?_)
    · subst h_s
      exact q_loc hx (q_sub1 rfl q_sub0)
    · exfalso; omega
  · intro i h_i ih h_ex s h_s
    refine q_iload 8 rfl rfl dX7_unlike_6 ?_
    refine q_iload_n 9 rfl rfl dX7_unlike_8 ?_
    refine q_icmp_gt 12 rfl 55 (by decide) (by omega) (by omega) dX7_unlike_9 (fun h9 => ?_) (fun h9 => ?_)
    · exfalso; omega
    · refine q_iload 14 rfl rfl dX7_unlike_12 ?_
      refine q_aload_n 15 rfl rfl dX7_unlike_14 ?_
      refine q_getR 18 rfl fX7_13 rfl 77 t_77 (g_77_1 hG) dX7_unlike_15 ?_
      refine q_bipush 20 rfl 9 k_b9 dX7_unlike_18 ?_
      refine q_iload_n 21 rfl rfl dX7_unlike_20 ?_
      refine q_imul 22 rfl dX7_unlike_21 ?_
      refine q_iload 24 rfl rfl dX7_unlike_22 ?_
      refine q_iadd 25 rfl dX7_unlike_24 ?_
      refine q_iald 26 rfl 79 t_79 (by omega) (by decide) dX7_unlike_25 ?_
      refine q_aload_n 27 rfl rfl dX7_unlike_26 ?_
      refine q_getR 30 rfl fX7_13 rfl 77 t_77 (g_77_1 hG) dX7_unlike_27 ?_
      refine q_bipush 32 rfl 9 k_b9 dX7_unlike_30 ?_
      refine q_iload_n 33 rfl rfl dX7_unlike_32 ?_
      refine q_imul 34 rfl dX7_unlike_33 ?_
      refine q_iload 36 rfl rfl dX7_unlike_34 ?_
      refine q_iadd 37 rfl dX7_unlike_36 ?_
      refine q_iald 38 rfl 79 t_79 (by omega) (by decide) dX7_unlike_37 ?_
      have b1 := hb (9 * n + i) (by omega)
      have b2 := hb (9 * m + i) (by omega)
      refine q_icmp_ne 41 rfl 45 (by decide) (by omega) (by omega) dX7_unlike_38 (fun h38 => ?_) (fun h38 => ?_)
      · refine q_iconst 46 rfl 1 k_i1 dX7_unlike_45 ?_
        refine q_iadd 47 rfl dX7_unlike_46 ?_
        refine q_istore 49 rfl (by decide) dX7_unlike_47 ?_
        refine q_iinc1 52 rfl 1 k_i1 rfl (by decide) dX7_unlike_49 ?_
        refine q_goto 6 (by decide) dX7_unlike_52 ?_
        refine q_loc (ih (by omega) _ ?_) (q_sub1 rfl (q_sub1 rfl (q_sub1 rfl (q_sub1 rfl (q_sub1 rfl (q_sub1 rfl q_sub0))))))
        · obtain ⟨j, rfl⟩ : ∃ j, i = j + 1 := ⟨i - 1, by omega⟩
          simp only [Nat.add_sub_cancel] at h_s ⊢
          rw [h_s]
          simp_all [unl, c7]
      · refine q_iconst 42 rfl 0 k_i0 dX7_unlike_41 ?_
        refine q_goto 46 (by decide) dX7_unlike_42 ?_
        refine q_iadd 47 rfl dX7_unlike_46 ?_
        refine q_istore 49 rfl (by decide) dX7_unlike_47 ?_
        refine q_iinc1 52 rfl 1 k_i1 rfl (by decide) dX7_unlike_49 ?_
        refine q_goto 6 (by decide) dX7_unlike_52 ?_
        refine q_loc (ih (by omega) _ ?_) (q_sub1 rfl (q_sub1 rfl (q_sub1 rfl (q_sub1 rfl (q_sub1 rfl (q_sub1 rfl q_sub0))))))
        · obtain ⟨j, rfl⟩ : ∃ j, i = j + 1 := ⟨i - 1, by omega⟩
          simp only [Nat.add_sub_cancel] at h_s ⊢
          rw [h_s]
          simp_all [unl, c7]
theorem k_unlike {n m p : Nat} (hG : GF ad G) (hn : n < 9) (hm : m < 9) (hp : p ≤ 8) (hb : ∀ i, i < 81 → N 79 i < 26) : q_Con Γ mX7_unlike 0 0 0 [.ref (ad 77), .int (nI n), .int (nI m), .int (nI p)] (LT ad, N, L, G) (q_is (some (.int (nI (unl (c7 (N 79)) n m p)))) (LT ad, N, L, G)) := by
  refine q_con (by decide) rfl rfl (Nat.le_of_ble_eq_true rfl) ?_
  refine q_iconst 1 rfl 0 k_i0 dX7_unlike_0 ?_
  refine q_istore 3 rfl (by decide) dX7_unlike_1 ?_
  refine q_iconst 4 rfl 1 k_i1 dX7_unlike_3 ?_
  refine q_istore 6 rfl (by decide) dX7_unlike_4 ?_
  refine q_loc (unlike_lp hG hn hm hp hb ?_ 1 (by omega) (by omega) _ rfl) (q_sub1 rfl (q_sub1 rfl (q_sub1 rfl (q_sub1 rfl (q_sub1 rfl (q_sub1 rfl q_sub0))))))
  refine q_iload 57 rfl rfl dX7_unlike_55 ?_
  refine q_iret rfl dX7_unlike_57 ?_
  exact ⟨rfl, rfl⟩
theorem lettersOf_lp {rm : Room} {Z : q_Zt} {n : Nat} (hG : GF ad G) (hn : n < 9) (hb : ∀ i, i < 81 → N 79 i < 26) (hl : ∀ n, n < 9 → N 79 (9 * n) ≤ 8) (hx : q_R Γ mX7_lettersOf rm Z 0 0 39 [(2, .int (nI (lst (c7 (N 79) n) ((l7 (N 79) n + 1) - 1))))] [] (LT ad, N, L, G)) : ∀ i, i ≤ l7 (N 79) n + 1 → 1 ≤ i →  ∀ s : Nat, s = lst (c7 (N 79) n) (i - 1) → q_R Γ mX7_lettersOf rm Z 0 0 4 [(0, .ref (ad 77)), (1, .int (nI n)), (2, .int (nI s)), (3, .int (nI i))] [] (LT ad, N, L, G) := by
  refine dn_loop (l7 (N 79) n + 1) ?_ ?_
  · intro h_ex s h_s
    have h9 := hl n hn
    refine q_iload_n 5 rfl rfl dX7_lettersOf_4 ?_
    refine q_aload_n 6 rfl rfl dX7_lettersOf_5 ?_
    refine q_getR 9 rfl fX7_13 rfl 77 t_77 (g_77_1 hG) dX7_lettersOf_6 ?_
    refine q_bipush 11 rfl 9 k_b9 dX7_lettersOf_9 ?_
    refine q_iload_n 12 rfl rfl dX7_lettersOf_11 ?_
    refine q_imul 13 rfl dX7_lettersOf_12 ?_
    refine q_iald 14 rfl 79 t_79 (by omega) (by decide) dX7_lettersOf_13 ?_
    refine q_icmp_gt 17 rfl 39 (by decide) (by simp only [l7] at *; omega) (by simp only [l7] at *; omega) dX7_lettersOf_14 (fun h14 => ?_) (fun h14 => ?_)
    · subst h_s
      exact q_loc hx (q_sub1 rfl q_sub0)
    · exfalso; simp only [l7] at *; omega
  · intro i h_i ih h_ex s h_s
    have h9 := hl n hn
    refine q_iload_n 5 rfl rfl dX7_lettersOf_4 ?_
    refine q_aload_n 6 rfl rfl dX7_lettersOf_5 ?_
    refine q_getR 9 rfl fX7_13 rfl 77 t_77 (g_77_1 hG) dX7_lettersOf_6 ?_
    refine q_bipush 11 rfl 9 k_b9 dX7_lettersOf_9 ?_
    refine q_iload_n 12 rfl rfl dX7_lettersOf_11 ?_
    refine q_imul 13 rfl dX7_lettersOf_12 ?_
    refine q_iald 14 rfl 79 t_79 (by omega) (by decide) dX7_lettersOf_13 ?_
    refine q_icmp_gt 17 rfl 39 (by decide) (by simp only [l7] at *; omega) (by simp only [l7] at *; omega) dX7_lettersOf_14 (fun h14 => ?_) (fun h14 => ?_)
    · exfalso; simp only [l7] at *; omega
    · refine q_iload_n 18 rfl rfl dX7_lettersOf_17 ?_
      refine q_iconst 19 rfl 1 k_i1 dX7_lettersOf_18 ?_
      refine q_aload_n 20 rfl rfl dX7_lettersOf_19 ?_
      refine q_getR 23 rfl fX7_13 rfl 77 t_77 (g_77_1 hG) dX7_lettersOf_20 ?_
      refine q_bipush 25 rfl 9 k_b9 dX7_lettersOf_23 ?_
      refine q_iload_n 26 rfl rfl dX7_lettersOf_25 ?_
      refine q_imul 27 rfl dX7_lettersOf_26 ?_
      refine q_iload_n 28 rfl rfl dX7_lettersOf_27 ?_
      refine q_iadd 29 rfl dX7_lettersOf_28 ?_
      refine q_iald 30 rfl 79 t_79 (by simp only [l7] at *; omega) (by decide) dX7_lettersOf_29 ?_
      have b1 := hb (9 * n + i) (by simp only [l7] at *; omega)
      refine q_ishl 31 rfl (by omega) dX7_lettersOf_30 ?_
      refine q_ior 32 rfl dX7_lettersOf_31 ?_
      refine q_istore_n 33 rfl (by decide) dX7_lettersOf_32 ?_
      refine q_iinc1 36 rfl 1 k_i1 rfl (by decide) dX7_lettersOf_33 ?_
      refine q_goto 4 (by decide) dX7_lettersOf_36 ?_
      refine q_loc (ih (by omega) _ ?_) (q_sub1 rfl (q_sub1 rfl (q_sub1 rfl (q_sub1 rfl q_sub0))))
      · obtain ⟨j, rfl⟩ : ∃ j, i = j + 1 := ⟨i - 1, by omega⟩
        simp only [Nat.add_sub_cancel] at h_s ⊢
        rw [h_s, Nat.one_mul]
        rfl
theorem k_lettersOf {n : Nat} (hG : GF ad G) (hn : n < 9) (hb : ∀ i, i < 81 → N 79 i < 26) (hl : ∀ n, n < 9 → N 79 (9 * n) ≤ 8) : q_Con Γ mX7_lettersOf 0 0 0 [.ref (ad 77), .int (nI n)] (LT ad, N, L, G) (q_is (some (.int (nI (ls7 (N 79) n)))) (LT ad, N, L, G)) := by
  refine q_con (by decide) rfl rfl (Nat.le_of_ble_eq_true rfl) ?_
  refine q_iconst 1 rfl 0 k_i0 dX7_lettersOf_0 ?_
  refine q_istore_n 2 rfl (by decide) dX7_lettersOf_1 ?_
  refine q_iconst 3 rfl 1 k_i1 dX7_lettersOf_2 ?_
  refine q_istore_n 4 rfl (by decide) dX7_lettersOf_3 ?_
  refine q_loc (lettersOf_lp hG hn hb hl ?_ 1 (by omega) (by omega) _ rfl) (q_sub1 rfl (q_sub1 rfl (q_sub1 rfl (q_sub1 rfl q_sub0))))
  refine q_iload_n 40 rfl rfl dX7_lettersOf_39 ?_
  refine q_iret rfl dX7_lettersOf_40 ?_
  exact ⟨rfl, rfl⟩
theorem vowelsOf_lp {Z : q_Zt} {n mc ms : Nat} (hG : GF ad G) (hn : n < 9) (hb : ∀ i, i < 81 → N 79 i < 26) (hl : ∀ n, n < 9 → N 79 (9 * n) ≤ 8) (hx : q_R Γ mX7_vowelsOf (q_room 1 mc ms) Z 0 0 40 [(2, .int (nI (vws (c7 (N 79) n) ((l7 (N 79) n + 1) - 1))))] [] (LT ad, N, L, G)) : ∀ i, i ≤ l7 (N 79) n + 1 → 1 ≤ i →  ∀ s : Nat, s = vws (c7 (N 79) n) (i - 1) → q_R Γ mX7_vowelsOf (q_room 1 mc ms) Z 0 0 4 [(0, .ref (ad 77)), (1, .int (nI n)), (2, .int (nI s)), (3, .int (nI i))] [] (LT ad, N, L, G) := by
  refine dn_loop (l7 (N 79) n + 1) ?_ ?_
  · intro h_ex s h_s
    have h9 := hl n hn
    refine q_iload_n 5 rfl rfl dX7_vowelsOf_4 ?_
    refine q_aload_n 6 rfl rfl dX7_vowelsOf_5 ?_
    refine q_getR 9 rfl fX7_13 rfl 77 t_77 (g_77_1 hG) dX7_vowelsOf_6 ?_
    refine q_bipush 11 rfl 9 k_b9 dX7_vowelsOf_9 ?_
    refine q_iload_n 12 rfl rfl dX7_vowelsOf_11 ?_
    refine q_imul 13 rfl dX7_vowelsOf_12 ?_
    refine q_iald 14 rfl 79 t_79 (by omega) (by decide) dX7_vowelsOf_13 ?_
    refine q_icmp_gt 17 rfl 40 (by decide) (by simp only [l7] at *; omega) (by simp only [l7] at *; omega) dX7_vowelsOf_14 (fun h14 => ?_) (fun h14 => ?_)
    · subst h_s
      exact q_loc hx (q_sub1 rfl q_sub0)
    · exfalso; simp only [l7] at *; omega
  · intro i h_i ih h_ex s h_s
    have h9 := hl n hn
    refine q_iload_n 5 rfl rfl dX7_vowelsOf_4 ?_
    refine q_aload_n 6 rfl rfl dX7_vowelsOf_5 ?_
    refine q_getR 9 rfl fX7_13 rfl 77 t_77 (g_77_1 hG) dX7_vowelsOf_6 ?_
    refine q_bipush 11 rfl 9 k_b9 dX7_vowelsOf_9 ?_
    refine q_iload_n 12 rfl rfl dX7_vowelsOf_11 ?_
    refine q_imul 13 rfl dX7_vowelsOf_12 ?_
    refine q_iald 14 rfl 79 t_79 (by omega) (by decide) dX7_vowelsOf_13 ?_
    refine q_icmp_gt 17 rfl 40 (by decide) (by simp only [l7] at *; omega) (by simp only [l7] at *; omega) dX7_vowelsOf_14 (fun h14 => ?_) (fun h14 => ?_)
    · exfalso; simp only [l7] at *; omega
    · refine q_iload_n 18 rfl rfl dX7_vowelsOf_17 ?_
      refine q_aload_n 19 rfl rfl dX7_vowelsOf_18 ?_
      refine q_getR 22 rfl fX7_13 rfl 77 t_77 (g_77_1 hG) dX7_vowelsOf_19 ?_
      refine q_bipush 24 rfl 9 k_b9 dX7_vowelsOf_22 ?_
      refine q_iload_n 25 rfl rfl dX7_vowelsOf_24 ?_
      refine q_imul 26 rfl dX7_vowelsOf_25 ?_
      refine q_iload_n 27 rfl rfl dX7_vowelsOf_26 ?_
      refine q_iadd 28 rfl dX7_vowelsOf_27 ?_
      have b1 := hb (9 * n + i) (by simp only [l7] at *; omega)
      refine q_iald 29 rfl 79 t_79 (by simp only [l7] at *; omega) (by decide) dX7_vowelsOf_28 ?_
      refine q_cS1 32 rfl lX7_178 (k_vowel (Nat.lt_trans b1 (by omega))) rfl rfl rfl dX7_vowelsOf_29 ?_
      refine q_iadd 33 rfl dX7_vowelsOf_32 ?_
      refine q_istore_n 34 rfl (by decide) dX7_vowelsOf_33 ?_
      refine q_iinc1 37 rfl 1 k_i1 rfl (by decide) dX7_vowelsOf_34 ?_
      refine q_goto 4 (by decide) dX7_vowelsOf_37 ?_
      refine q_loc (ih (by omega) _ ?_) (q_sub1 rfl (q_sub1 rfl (q_sub1 rfl (q_sub1 rfl q_sub0))))
      · obtain ⟨j, rfl⟩ : ∃ j, i = j + 1 := ⟨i - 1, by omega⟩
        simp only [Nat.add_sub_cancel] at h_s ⊢
        rw [h_s]
        rfl
theorem k_vowelsOf {n : Nat} (hG : GF ad G) (hn : n < 9) (hb : ∀ i, i < 81 → N 79 i < 26) (hl : ∀ n, n < 9 → N 79 (9 * n) ≤ 8) : q_Con Γ mX7_vowelsOf 1 0 0 [.ref (ad 77), .int (nI n)] (LT ad, N, L, G) (q_is (some (.int (nI (vw7 (N 79) n)))) (LT ad, N, L, G)) := by
  refine q_con (by decide) rfl rfl (Nat.le_of_ble_eq_true rfl) ?_
  refine q_iconst 1 rfl 0 k_i0 dX7_vowelsOf_0 ?_
  refine q_istore_n 2 rfl (by decide) dX7_vowelsOf_1 ?_
  refine q_iconst 3 rfl 1 k_i1 dX7_vowelsOf_2 ?_
  refine q_istore_n 4 rfl (by decide) dX7_vowelsOf_3 ?_
  refine q_loc (vowelsOf_lp hG hn hb hl ?_ 1 (by omega) (by omega) _ rfl) (q_sub1 rfl (q_sub1 rfl (q_sub1 rfl (q_sub1 rfl q_sub0))))
  refine q_iload_n 41 rfl rfl dX7_vowelsOf_40 ?_
  refine q_iret rfl dX7_vowelsOf_41 ?_
  exact ⟨rfl, rfl⟩
abbrev nr7 (kd ms : Nat) (f : Nat → Nat) (n m : Nat) : Bool := nr kd ms (l7 f) (c7 f) (ls7 f) (vw7 f) n m
theorem k_areNear7 {n m kd ms : Nat} (hG : GF ad G) (hn : n < 9) (hm : m < 9) (hk : kd < 5) (hms : ms ≤ 8) (hb : ∀ i, i < 81 → N 79 i < 26) (hl : ∀ n, n < 9 → N 79 (9 * n) ≤ 8) : q_Con Γ mX7_areNear 2 0 0 [.ref (ad 77), .int (nI n), .int (nI m), .int (nI kd), .int (nI ms)] (LT ad, N, L, G) (q_is (some (.int (nI ((nr7 kd ms (N 79) n m).toNat)))) (LT ad, N, L, G)) := by
  have hln := hl n hn
  have hlm := hl m hm
  have u1 : unl (c7 (N 79)) n m (N 79 (9 * n)) ≤ N 79 (9 * n) := unl_le (c7 (N 79)) n m (N 79 (9 * n))
  have u2 := unl_le (c7 (N 79)) n m ms
  have v1 : vw7 (N 79) n ≤ N 79 (9 * n) := vws_le _ _
  have v2 : vw7 (N 79) m ≤ N 79 (9 * m) := vws_le _ _
  have d1 : dst (N 79 (9 * n)) (N 79 (9 * m)) ≤ 8 := by simp only [dst]; split <;> omega
  have d2 : dst (vw7 (N 79) n) (vw7 (N 79) m) ≤ 8 := by simp only [dst]; split <;> omega
  have t1 : ls7 (N 79) n < 2 ^ 26 := lst_lt _ _ (fun i hi => hb _ (by simp only [l7] at hi; omega))
  have t2 : ls7 (N 79) n &&& ls7 (N 79) m < 2147483648 := Nat.lt_of_le_of_lt Nat.and_le_left (Nat.lt_trans t1 (by decide))
  have p1 := pc_le (ls7 (N 79) n &&& ls7 (N 79) m) 26
  rcases (show kd = 0 ∨ kd = 1 ∨ kd = 2 ∨ kd = 3 ∨ kd = 4 by omega) with rfl | rfl | rfl | rfl | rfl
  · refine q_con (by decide) rfl rfl (Nat.le_of_ble_eq_true rfl) ?_
    refine q_aload_n 1 rfl rfl dX7_areNear_0 ?_
    refine q_getR 4 rfl fX7_13 rfl 77 t_77 (g_77_1 hG) dX7_areNear_1 ?_
    refine q_bipush 6 rfl 9 k_b9 dX7_areNear_4 ?_
    refine q_iload_n 7 rfl rfl dX7_areNear_6 ?_
    refine q_imul 8 rfl dX7_areNear_7 ?_
    refine q_iald 9 rfl 79 t_79 (by omega) (by decide) dX7_areNear_8 ?_
    refine q_istore 11 rfl (by decide) dX7_areNear_9 ?_
    refine q_aload_n 12 rfl rfl dX7_areNear_11 ?_
    refine q_getR 15 rfl fX7_13 rfl 77 t_77 (g_77_1 hG) dX7_areNear_12 ?_
    refine q_bipush 17 rfl 9 k_b9 dX7_areNear_15 ?_
    refine q_iload_n 18 rfl rfl dX7_areNear_17 ?_
    refine q_imul 19 rfl dX7_areNear_18 ?_
    refine q_iald 20 rfl 79 t_79 (by omega) (by decide) dX7_areNear_19 ?_
    refine q_istore 22 rfl (by decide) dX7_areNear_20 ?_
    refine q_iload_n 23 rfl rfl dX7_areNear_22 ?_
    refine q_tab 52 (by decide) (by decide) (by decide) rfl (by decide) dX7_areNear_23 ?_
    refine q_iload 54 rfl rfl dX7_areNear_52 ?_
    refine q_iload 56 rfl rfl dX7_areNear_54 ?_
    refine q_icmp_ne 59 rfl 76 (by decide) (by omega) (by omega) dX7_areNear_56 (fun h56 => ?_) (fun h56 => ?_)
    · refine q_iconst 77 rfl 0 k_i0 dX7_areNear_76 ?_
      refine q_zret rfl (by first | exact q_n0 | exact q_n1 | exact q_nb _) dX7_areNear_77 ?_
      first
        | (rw [show nr7 0 ms (N 79) n m = true from decide_eq_true (by show N 79 (9 * n) = N 79 (9 * m) ∧ unl (c7 (N 79)) n m (N 79 (9 * n)) ≤ ms; omega)]; exact ⟨rfl, rfl⟩)
        | (rw [show nr7 0 ms (N 79) n m = false from decide_eq_false (by show ¬ (N 79 (9 * n) = N 79 (9 * m) ∧ unl (c7 (N 79)) n m (N 79 (9 * n)) ≤ ms); omega)]; exact ⟨rfl, rfl⟩)
    · refine q_aload_n 60 rfl rfl dX7_areNear_59 ?_
      refine q_iload_n 61 rfl rfl dX7_areNear_60 ?_
      refine q_iload_n 62 rfl rfl dX7_areNear_61 ?_
      refine q_iload 64 rfl rfl dX7_areNear_62 ?_
      refine q_cV3 67 rfl lX7_181 (k_unlike hG hn hm (by omega) hb) rfl 77 t_77 rfl rfl rfl dX7_areNear_64 ?_
      refine q_iload 69 rfl rfl dX7_areNear_67 ?_
      refine q_icmp_gt 72 rfl 76 (by decide) (by omega) (by omega) dX7_areNear_69 (fun h69 => ?_) (fun h69 => ?_)
      · refine q_iconst 77 rfl 0 k_i0 dX7_areNear_76 ?_
        refine q_zret rfl (by first | exact q_n0 | exact q_n1 | exact q_nb _) dX7_areNear_77 ?_
        first
          | (rw [show nr7 0 ms (N 79) n m = true from decide_eq_true (by show N 79 (9 * n) = N 79 (9 * m) ∧ unl (c7 (N 79)) n m (N 79 (9 * n)) ≤ ms; omega)]; exact ⟨rfl, rfl⟩)
          | (rw [show nr7 0 ms (N 79) n m = false from decide_eq_false (by show ¬ (N 79 (9 * n) = N 79 (9 * m) ∧ unl (c7 (N 79)) n m (N 79 (9 * n)) ≤ ms); omega)]; exact ⟨rfl, rfl⟩)
      · refine q_iconst 73 rfl 1 k_i1 dX7_areNear_72 ?_
        refine q_goto 77 (by decide) dX7_areNear_73 ?_
        refine q_zret rfl (by first | exact q_n0 | exact q_n1 | exact q_nb _) dX7_areNear_77 ?_
        first
          | (rw [show nr7 0 ms (N 79) n m = true from decide_eq_true (by show N 79 (9 * n) = N 79 (9 * m) ∧ unl (c7 (N 79)) n m (N 79 (9 * n)) ≤ ms; omega)]; exact ⟨rfl, rfl⟩)
          | (rw [show nr7 0 ms (N 79) n m = false from decide_eq_false (by show ¬ (N 79 (9 * n) = N 79 (9 * m) ∧ unl (c7 (N 79)) n m (N 79 (9 * n)) ≤ ms); omega)]; exact ⟨rfl, rfl⟩)
  · refine q_con (by decide) rfl rfl (Nat.le_of_ble_eq_true rfl) ?_
    refine q_aload_n 1 rfl rfl dX7_areNear_0 ?_
    refine q_getR 4 rfl fX7_13 rfl 77 t_77 (g_77_1 hG) dX7_areNear_1 ?_
    refine q_bipush 6 rfl 9 k_b9 dX7_areNear_4 ?_
    refine q_iload_n 7 rfl rfl dX7_areNear_6 ?_
    refine q_imul 8 rfl dX7_areNear_7 ?_
    refine q_iald 9 rfl 79 t_79 (by omega) (by decide) dX7_areNear_8 ?_
    refine q_istore 11 rfl (by decide) dX7_areNear_9 ?_
    refine q_aload_n 12 rfl rfl dX7_areNear_11 ?_
    refine q_getR 15 rfl fX7_13 rfl 77 t_77 (g_77_1 hG) dX7_areNear_12 ?_
    refine q_bipush 17 rfl 9 k_b9 dX7_areNear_15 ?_
    refine q_iload_n 18 rfl rfl dX7_areNear_17 ?_
    refine q_imul 19 rfl dX7_areNear_18 ?_
    refine q_iald 20 rfl 79 t_79 (by omega) (by decide) dX7_areNear_19 ?_
    refine q_istore 22 rfl (by decide) dX7_areNear_20 ?_
    refine q_iload_n 23 rfl rfl dX7_areNear_22 ?_
    refine q_tab 78 (by decide) (by decide) (by decide) rfl (by decide) dX7_areNear_23 ?_
    refine q_iload 80 rfl rfl dX7_areNear_78 ?_
    refine q_iload 82 rfl rfl dX7_areNear_80 ?_
    refine q_icmp_lt 85 rfl 107 (by decide) (by omega) (by omega) dX7_areNear_82 (fun h82 => ?_) (fun h82 => ?_)
    · refine q_iconst 108 rfl 0 k_i0 dX7_areNear_107 ?_
      refine q_zret rfl (by first | exact q_n0 | exact q_n1 | exact q_nb _) dX7_areNear_108 ?_
      first
        | (rw [show nr7 1 ms (N 79) n m = true from decide_eq_true (by show ms ≤ N 79 (9 * n) ∧ ms ≤ N 79 (9 * m) ∧ unl (c7 (N 79)) n m ms = 0; omega)]; exact ⟨rfl, rfl⟩)
        | (rw [show nr7 1 ms (N 79) n m = false from decide_eq_false (by show ¬ (ms ≤ N 79 (9 * n) ∧ ms ≤ N 79 (9 * m) ∧ unl (c7 (N 79)) n m ms = 0); omega)]; exact ⟨rfl, rfl⟩)
    · refine q_iload 87 rfl rfl dX7_areNear_85 ?_
      refine q_iload 89 rfl rfl dX7_areNear_87 ?_
      refine q_icmp_lt 92 rfl 107 (by decide) (by omega) (by omega) dX7_areNear_89 (fun h89 => ?_) (fun h89 => ?_)
      · refine q_iconst 108 rfl 0 k_i0 dX7_areNear_107 ?_
        refine q_zret rfl (by first | exact q_n0 | exact q_n1 | exact q_nb _) dX7_areNear_108 ?_
        first
          | (rw [show nr7 1 ms (N 79) n m = true from decide_eq_true (by show ms ≤ N 79 (9 * n) ∧ ms ≤ N 79 (9 * m) ∧ unl (c7 (N 79)) n m ms = 0; omega)]; exact ⟨rfl, rfl⟩)
          | (rw [show nr7 1 ms (N 79) n m = false from decide_eq_false (by show ¬ (ms ≤ N 79 (9 * n) ∧ ms ≤ N 79 (9 * m) ∧ unl (c7 (N 79)) n m ms = 0); omega)]; exact ⟨rfl, rfl⟩)
      · refine q_aload_n 93 rfl rfl dX7_areNear_92 ?_
        refine q_iload_n 94 rfl rfl dX7_areNear_93 ?_
        refine q_iload_n 95 rfl rfl dX7_areNear_94 ?_
        refine q_iload 97 rfl rfl dX7_areNear_95 ?_
        refine q_cV3 100 rfl lX7_181 (k_unlike hG hn hm (by omega) hb) rfl 77 t_77 rfl rfl rfl dX7_areNear_97 ?_
        refine q_if_ne 103 rfl 107 (by decide) (by omega) dX7_areNear_100 (fun h100 => ?_) (fun h100 => ?_)
        · refine q_iconst 108 rfl 0 k_i0 dX7_areNear_107 ?_
          refine q_zret rfl (by first | exact q_n0 | exact q_n1 | exact q_nb _) dX7_areNear_108 ?_
          first
            | (rw [show nr7 1 ms (N 79) n m = true from decide_eq_true (by show ms ≤ N 79 (9 * n) ∧ ms ≤ N 79 (9 * m) ∧ unl (c7 (N 79)) n m ms = 0; omega)]; exact ⟨rfl, rfl⟩)
            | (rw [show nr7 1 ms (N 79) n m = false from decide_eq_false (by show ¬ (ms ≤ N 79 (9 * n) ∧ ms ≤ N 79 (9 * m) ∧ unl (c7 (N 79)) n m ms = 0); omega)]; exact ⟨rfl, rfl⟩)
        · refine q_iconst 104 rfl 1 k_i1 dX7_areNear_103 ?_
          refine q_goto 108 (by decide) dX7_areNear_104 ?_
          refine q_zret rfl (by first | exact q_n0 | exact q_n1 | exact q_nb _) dX7_areNear_108 ?_
          first
            | (rw [show nr7 1 ms (N 79) n m = true from decide_eq_true (by show ms ≤ N 79 (9 * n) ∧ ms ≤ N 79 (9 * m) ∧ unl (c7 (N 79)) n m ms = 0; omega)]; exact ⟨rfl, rfl⟩)
            | (rw [show nr7 1 ms (N 79) n m = false from decide_eq_false (by show ¬ (ms ≤ N 79 (9 * n) ∧ ms ≤ N 79 (9 * m) ∧ unl (c7 (N 79)) n m ms = 0); omega)]; exact ⟨rfl, rfl⟩)
  · refine q_con (by decide) rfl rfl (Nat.le_of_ble_eq_true rfl) ?_
    refine q_aload_n 1 rfl rfl dX7_areNear_0 ?_
    refine q_getR 4 rfl fX7_13 rfl 77 t_77 (g_77_1 hG) dX7_areNear_1 ?_
    refine q_bipush 6 rfl 9 k_b9 dX7_areNear_4 ?_
    refine q_iload_n 7 rfl rfl dX7_areNear_6 ?_
    refine q_imul 8 rfl dX7_areNear_7 ?_
    refine q_iald 9 rfl 79 t_79 (by omega) (by decide) dX7_areNear_8 ?_
    refine q_istore 11 rfl (by decide) dX7_areNear_9 ?_
    refine q_aload_n 12 rfl rfl dX7_areNear_11 ?_
    refine q_getR 15 rfl fX7_13 rfl 77 t_77 (g_77_1 hG) dX7_areNear_12 ?_
    refine q_bipush 17 rfl 9 k_b9 dX7_areNear_15 ?_
    refine q_iload_n 18 rfl rfl dX7_areNear_17 ?_
    refine q_imul 19 rfl dX7_areNear_18 ?_
    refine q_iald 20 rfl 79 t_79 (by omega) (by decide) dX7_areNear_19 ?_
    refine q_istore 22 rfl (by decide) dX7_areNear_20 ?_
    refine q_iload_n 23 rfl rfl dX7_areNear_22 ?_
    refine q_tab 109 (by decide) (by decide) (by decide) rfl (by decide) dX7_areNear_23 ?_
    refine q_iload 111 rfl rfl dX7_areNear_109 ?_
    refine q_iload 113 rfl rfl dX7_areNear_111 ?_
    refine q_cS2 116 rfl lX7_185 (k_apart (by omega) (by omega)) rfl rfl rfl dX7_areNear_113 ?_
    refine q_iload 118 rfl rfl dX7_areNear_116 ?_
    refine q_icmp_gt 121 rfl 125 (by decide) (by omega) (by omega) dX7_areNear_118 (fun h118 => ?_) (fun h118 => ?_)
    · refine q_iconst 126 rfl 0 k_i0 dX7_areNear_125 ?_
      refine q_zret rfl (by first | exact q_n0 | exact q_n1 | exact q_nb _) dX7_areNear_126 ?_
      first
        | (rw [show nr7 2 ms (N 79) n m = true from decide_eq_true (by show dst (N 79 (9 * n)) (N 79 (9 * m)) ≤ ms; omega)]; exact ⟨rfl, rfl⟩)
        | (rw [show nr7 2 ms (N 79) n m = false from decide_eq_false (by show ¬ (dst (N 79 (9 * n)) (N 79 (9 * m)) ≤ ms); omega)]; exact ⟨rfl, rfl⟩)
    · refine q_iconst 122 rfl 1 k_i1 dX7_areNear_121 ?_
      refine q_goto 126 (by decide) dX7_areNear_122 ?_
      refine q_zret rfl (by first | exact q_n0 | exact q_n1 | exact q_nb _) dX7_areNear_126 ?_
      first
        | (rw [show nr7 2 ms (N 79) n m = true from decide_eq_true (by show dst (N 79 (9 * n)) (N 79 (9 * m)) ≤ ms; omega)]; exact ⟨rfl, rfl⟩)
        | (rw [show nr7 2 ms (N 79) n m = false from decide_eq_false (by show ¬ (dst (N 79 (9 * n)) (N 79 (9 * m)) ≤ ms); omega)]; exact ⟨rfl, rfl⟩)
  · refine q_con (by decide) rfl rfl (Nat.le_of_ble_eq_true rfl) ?_
    refine q_aload_n 1 rfl rfl dX7_areNear_0 ?_
    refine q_getR 4 rfl fX7_13 rfl 77 t_77 (g_77_1 hG) dX7_areNear_1 ?_
    refine q_bipush 6 rfl 9 k_b9 dX7_areNear_4 ?_
    refine q_iload_n 7 rfl rfl dX7_areNear_6 ?_
    refine q_imul 8 rfl dX7_areNear_7 ?_
    refine q_iald 9 rfl 79 t_79 (by omega) (by decide) dX7_areNear_8 ?_
    refine q_istore 11 rfl (by decide) dX7_areNear_9 ?_
    refine q_aload_n 12 rfl rfl dX7_areNear_11 ?_
    refine q_getR 15 rfl fX7_13 rfl 77 t_77 (g_77_1 hG) dX7_areNear_12 ?_
    refine q_bipush 17 rfl 9 k_b9 dX7_areNear_15 ?_
    refine q_iload_n 18 rfl rfl dX7_areNear_17 ?_
    refine q_imul 19 rfl dX7_areNear_18 ?_
    refine q_iald 20 rfl 79 t_79 (by omega) (by decide) dX7_areNear_19 ?_
    refine q_istore 22 rfl (by decide) dX7_areNear_20 ?_
    refine q_iload_n 23 rfl rfl dX7_areNear_22 ?_
    refine q_tab 127 (by decide) (by decide) (by decide) rfl (by decide) dX7_areNear_23 ?_
    refine q_aload_n 128 rfl rfl dX7_areNear_127 ?_
    refine q_iload_n 129 rfl rfl dX7_areNear_128 ?_
    refine q_cV1 132 rfl lX7_188 (k_lettersOf hG (by assumption) hb hl) rfl 77 t_77 rfl rfl rfl dX7_areNear_129 ?_
    refine q_aload_n 133 rfl rfl dX7_areNear_132 ?_
    refine q_iload_n 134 rfl rfl dX7_areNear_133 ?_
    refine q_cV1 137 rfl lX7_188 (k_lettersOf hG (by assumption) hb hl) rfl 77 t_77 rfl rfl rfl dX7_areNear_134 ?_
    refine q_iand 138 rfl dX7_areNear_137 ?_
    refine q_cS1 141 rfl lX7_191 (k_bitsOf t2) rfl rfl rfl dX7_areNear_138 ?_
    refine q_iload 143 rfl rfl dX7_areNear_141 ?_
    refine q_icmp_lt 146 rfl 150 (by decide) (by omega) (by omega) dX7_areNear_143 (fun h143 => ?_) (fun h143 => ?_)
    · refine q_iconst 151 rfl 0 k_i0 dX7_areNear_150 ?_
      refine q_zret rfl (by first | exact q_n0 | exact q_n1 | exact q_nb _) dX7_areNear_151 ?_
      first
        | (rw [show nr7 3 ms (N 79) n m = true from decide_eq_true (by show ms ≤ pc (ls7 (N 79) n &&& ls7 (N 79) m) 26; omega)]; exact ⟨rfl, rfl⟩)
        | (rw [show nr7 3 ms (N 79) n m = false from decide_eq_false (by show ¬ (ms ≤ pc (ls7 (N 79) n &&& ls7 (N 79) m) 26); omega)]; exact ⟨rfl, rfl⟩)
    · refine q_iconst 147 rfl 1 k_i1 dX7_areNear_146 ?_
      refine q_goto 151 (by decide) dX7_areNear_147 ?_
      refine q_zret rfl (by first | exact q_n0 | exact q_n1 | exact q_nb _) dX7_areNear_151 ?_
      first
        | (rw [show nr7 3 ms (N 79) n m = true from decide_eq_true (by show ms ≤ pc (ls7 (N 79) n &&& ls7 (N 79) m) 26; omega)]; exact ⟨rfl, rfl⟩)
        | (rw [show nr7 3 ms (N 79) n m = false from decide_eq_false (by show ¬ (ms ≤ pc (ls7 (N 79) n &&& ls7 (N 79) m) 26); omega)]; exact ⟨rfl, rfl⟩)
  · refine q_con (by decide) rfl rfl (Nat.le_of_ble_eq_true rfl) ?_
    refine q_aload_n 1 rfl rfl dX7_areNear_0 ?_
    refine q_getR 4 rfl fX7_13 rfl 77 t_77 (g_77_1 hG) dX7_areNear_1 ?_
    refine q_bipush 6 rfl 9 k_b9 dX7_areNear_4 ?_
    refine q_iload_n 7 rfl rfl dX7_areNear_6 ?_
    refine q_imul 8 rfl dX7_areNear_7 ?_
    refine q_iald 9 rfl 79 t_79 (by omega) (by decide) dX7_areNear_8 ?_
    refine q_istore 11 rfl (by decide) dX7_areNear_9 ?_
    refine q_aload_n 12 rfl rfl dX7_areNear_11 ?_
    refine q_getR 15 rfl fX7_13 rfl 77 t_77 (g_77_1 hG) dX7_areNear_12 ?_
    refine q_bipush 17 rfl 9 k_b9 dX7_areNear_15 ?_
    refine q_iload_n 18 rfl rfl dX7_areNear_17 ?_
    refine q_imul 19 rfl dX7_areNear_18 ?_
    refine q_iald 20 rfl 79 t_79 (by omega) (by decide) dX7_areNear_19 ?_
    refine q_istore 22 rfl (by decide) dX7_areNear_20 ?_
    refine q_iload_n 23 rfl rfl dX7_areNear_22 ?_
    refine q_tabO 152 (by decide) (by decide) dX7_areNear_23 ?_
    refine q_aload_n 153 rfl rfl dX7_areNear_152 ?_
    refine q_iload_n 154 rfl rfl dX7_areNear_153 ?_
    refine q_cV1 157 rfl lX7_194 (k_vowelsOf hG (by assumption) hb hl) rfl 77 t_77 rfl rfl rfl dX7_areNear_154 ?_
    refine q_aload_n 158 rfl rfl dX7_areNear_157 ?_
    refine q_iload_n 159 rfl rfl dX7_areNear_158 ?_
    refine q_cV1 162 rfl lX7_194 (k_vowelsOf hG (by assumption) hb hl) rfl 77 t_77 rfl rfl rfl dX7_areNear_159 ?_
    refine q_cS2 165 rfl lX7_185 (k_apart (by omega) (by omega)) rfl rfl rfl dX7_areNear_162 ?_
    refine q_iload 167 rfl rfl dX7_areNear_165 ?_
    refine q_icmp_gt 170 rfl 174 (by decide) (by omega) (by omega) dX7_areNear_167 (fun h167 => ?_) (fun h167 => ?_)
    · refine q_iconst 175 rfl 0 k_i0 dX7_areNear_174 ?_
      refine q_zret rfl (by first | exact q_n0 | exact q_n1 | exact q_nb _) dX7_areNear_175 ?_
      first
        | (rw [show nr7 4 ms (N 79) n m = true from decide_eq_true (by show dst (vw7 (N 79) n) (vw7 (N 79) m) ≤ ms; omega)]; exact ⟨rfl, rfl⟩)
        | (rw [show nr7 4 ms (N 79) n m = false from decide_eq_false (by show ¬ (dst (vw7 (N 79) n) (vw7 (N 79) m) ≤ ms); omega)]; exact ⟨rfl, rfl⟩)
    · refine q_iconst 171 rfl 1 k_i1 dX7_areNear_170 ?_
      refine q_goto 175 (by decide) dX7_areNear_171 ?_
      refine q_zret rfl (by first | exact q_n0 | exact q_n1 | exact q_nb _) dX7_areNear_175 ?_
      first
        | (rw [show nr7 4 ms (N 79) n m = true from decide_eq_true (by show dst (vw7 (N 79) n) (vw7 (N 79) m) ≤ ms; omega)]; exact ⟨rfl, rfl⟩)
        | (rw [show nr7 4 ms (N 79) n m = false from decide_eq_false (by show ¬ (dst (vw7 (N 79) n) (vw7 (N 79) m) ≤ ms); omega)]; exact ⟨rfl, rfl⟩)
abbrev nx7 (kd ms : Nat) (f : Nat → Nat) (c n : Nat) : Nat := mk (fun m => decide (n ≠ m) && nr7 kd ms f n m) c
theorem layNear_in {Z : q_Zt} {n c kd ms mc mz : Nat} (hG : GF ad G) (hc : N 77 2 = c) (hc9 : c ≤ 9) (hk : kd < 5) (hms : ms ≤ 8) (hb : ∀ i, i < 81 → N 79 i < 26) (hl : ∀ n, n < 9 → N 79 (9 * n) ≤ 8) (hn : n < c) (hx : q_R Γ mX7_layNear (q_room 3 mc mz) Z 0 0 70 [(0, .ref (ad 77)), (1, .int (nI kd)), (2, .int (nI ms)), (3, .int (nI n))] [] (LT ad, (q_s (q_r N 87 (fun j => if j < n then nx7 kd ms (N 79) c j else N 87 j)) 87 n (mk (fun m => decide (n ≠ m) && nr7 kd ms (N 79) n m) (c))), L, G)) : ∀ i, i ≤ c →  ∀ H : Nat → Nat → Nat, H = q_s (q_r N 87 (fun j => if j < n then nx7 kd ms (N 79) c j else N 87 j)) 87 n (mk (fun m => decide (n ≠ m) && nr7 kd ms (N 79) n m) i) → q_R Γ mX7_layNear (q_room 3 mc mz) Z 0 0 20 [(0, .ref (ad 77)), (1, .int (nI kd)), (2, .int (nI ms)), (3, .int (nI n)), (4, .int (nI i))] [] (LT ad, H, L, G) := by
  refine dn_loop (c) ?_ ?_
  · intro H h_H
    have e79 : H 79 = N 79 := by rw [h_H]; rfl
    have e77 : H 77 2 = c := by rw [h_H]; exact hc
    refine q_iload 22 rfl rfl dX7_layNear_20 ?_
    refine q_aload_n 23 rfl rfl dX7_layNear_22 ?_
    refine q_getI 26 rfl fX7_155 rfl 77 t_77 dX7_layNear_23 ?_
    refine q_icmp_ge 29 rfl 70 (by decide) (by omega) (by omega) dX7_layNear_26 (fun h26 => ?_) (fun h26 => ?_)
    · subst h_H
      exact q_loc hx (q_sub1 rfl (q_sub1 rfl (q_sub1 rfl (q_sub1 rfl q_sub0))))
    · exfalso; omega
  · intro i h_i ih H h_H
    have e79 : H 79 = N 79 := by rw [h_H]; rfl
    have e77 : H 77 2 = c := by rw [h_H]; exact hc
    have e87 : H 87 n = mk (fun m => decide (n ≠ m) && nr7 kd ms (N 79) n m) i := by rw [h_H]; simp [q_s]
    refine q_iload 22 rfl rfl dX7_layNear_20 ?_
    refine q_aload_n 23 rfl rfl dX7_layNear_22 ?_
    refine q_getI 26 rfl fX7_155 rfl 77 t_77 dX7_layNear_23 ?_
    refine q_icmp_ge 29 rfl 70 (by decide) (by omega) (by omega) dX7_layNear_26 (fun h26 => ?_) (fun h26 => ?_)
    · exfalso; omega
    · refine q_aload_n 30 rfl rfl dX7_layNear_29 ?_
      refine q_getR 33 rfl fX7_37 rfl 77 t_77 (g_77_20 hG) dX7_layNear_30 ?_
      refine q_iload_n 34 rfl rfl dX7_layNear_33 ?_
      refine q_dup2 35 rfl rfl rfl dX7_layNear_34 ?_
      refine q_iald 36 rfl 87 t_87 (by omega) (by decide) dX7_layNear_35 ?_
      refine q_iload_n 37 rfl rfl dX7_layNear_36 ?_
      refine q_iload 39 rfl rfl dX7_layNear_37 ?_
      refine q_icmp_eq 42 rfl 61 (by decide) (by omega) (by omega) dX7_layNear_39 (fun h39 => ?_) (fun h39 => ?_)
      · refine q_iconst 62 rfl 0 k_i0 dX7_layNear_61 ?_
        refine q_ior 63 rfl dX7_layNear_62 ?_
        refine q_iast 64 rfl 87 t_87 (by omega) (by decide) dX7_layNear_63 ?_
        refine q_iinc1 67 rfl 1 k_i1 rfl (by decide) dX7_layNear_64 ?_
        refine q_goto 20 (by decide) dX7_layNear_67 ?_
        refine q_loc (ih _ ?_) (q_sub1 rfl (q_sub1 rfl (q_sub1 rfl (q_sub1 rfl (q_sub1 rfl q_sub0)))))
        · rw [e87, h_H]
          funext x y
          simp only [q_s]
          by_cases hx1 : x = 87
          · subst hx1
            simp only [if_true]
            by_cases hy : y = n
            · subst hy
              simp only [if_true, mk]
              congr 1
              simp_all
            · simp [hy]
          · simp [hx1]
      · refine q_aload_n 43 rfl rfl dX7_layNear_42 ?_
        refine q_iload_n 44 rfl rfl dX7_layNear_43 ?_
        refine q_iload 46 rfl rfl dX7_layNear_44 ?_
        refine q_iload_n 47 rfl rfl dX7_layNear_46 ?_
        refine q_iload_n 48 rfl rfl dX7_layNear_47 ?_
        refine q_cV4 51 rfl lX7_197 (k_areNear7 hG (by omega) (by omega) hk hms (by rw [e79]; exact hb) (by rw [e79]; exact hl)) rfl 77 t_77 rfl rfl rfl dX7_layNear_48 ?_
        refine q_if_eqB 54 rfl 61 (by decide) dX7_layNear_51 (fun h51 => ?_) (fun h51 => ?_)
        · refine q_iconst 62 rfl 0 k_i0 dX7_layNear_61 ?_
          refine q_ior 63 rfl dX7_layNear_62 ?_
          refine q_iast 64 rfl 87 t_87 (by omega) (by decide) dX7_layNear_63 ?_
          refine q_iinc1 67 rfl 1 k_i1 rfl (by decide) dX7_layNear_64 ?_
          refine q_goto 20 (by decide) dX7_layNear_67 ?_
          refine q_loc (ih _ ?_) (q_sub1 rfl (q_sub1 rfl (q_sub1 rfl (q_sub1 rfl (q_sub1 rfl q_sub0)))))
          · rw [e87, h_H]
            funext x y
            simp only [q_s]
            by_cases hx1 : x = 87
            · subst hx1
              simp only [if_true]
              by_cases hy : y = n
              · subst hy
                simp only [if_true, mk]
                congr 1
                simp_all
              · simp [hy]
            · simp [hx1]
        · refine q_iconst 55 rfl 1 k_i1 dX7_layNear_54 ?_
          refine q_iload 57 rfl rfl dX7_layNear_55 ?_
          refine q_ishl 58 rfl (by omega) dX7_layNear_57 ?_
          refine q_goto 62 (by decide) dX7_layNear_58 ?_
          refine q_ior 63 rfl dX7_layNear_62 ?_
          refine q_iast 64 rfl 87 t_87 (by omega) (by decide) dX7_layNear_63 ?_
          refine q_iinc1 67 rfl 1 k_i1 rfl (by decide) dX7_layNear_64 ?_
          refine q_goto 20 (by decide) dX7_layNear_67 ?_
          refine q_loc (ih _ ?_) (q_sub1 rfl (q_sub1 rfl (q_sub1 rfl (q_sub1 rfl (q_sub1 rfl q_sub0)))))
          · rw [e87, h_H]
            funext x y
            simp only [q_s]
            by_cases hx1 : x = 87
            · subst hx1
              simp only [if_true]
              by_cases hy : y = n
              · subst hy
                simp only [if_true, mk]
                congr 1
                simp_all
              · simp [hy]
            · simp [hx1]
end
