abbrev ltr (N : Nat → Nat → Nat) (s i : Nat) : Nat := N 1 (s + i) - 97
/-- the n-th of the names in cells q is spelled as the k bytes from s on -/
def splC (N : Nat → Nat → Nat) (q s k n : Nat) : Bool := decide (N (q + 1) n = k) && alw (fun i => decide (N (q + 2) (n * 8 + i) = ltr N s i)) k
def newC (N : Nat → Nat → Nat) (q s k : Nat) : Bool := alw (fun n => !splC N q s k n) (N q 0)
/-- letters put down -/
def wr2 (N : Nat → Nat → Nat) (r a s i : Nat) : Nat → Nat → Nat := q_r N r (fun j => if a ≤ j ∧ j < a + i then N 1 (s + (j - a)) - 97 else N r j)
theorem wr2_0 {N : Nat → Nat → Nat} {r a s : Nat} : wr2 N r a s 0 = N := by
  funext c d
  simp only [wr2, q_r]
  by_cases h : c = r
  · subst h; simp only [if_true]; rw [if_neg (by omega)]
  · rw [if_neg h]
theorem wr2_s {N : Nat → Nat → Nat} {r a s i : Nat} : q_s (wr2 N r a s i) r (a + i) (N 1 (s + i) - 97) = wr2 N r a s (i + 1) := by
  funext c d
  simp only [wr2, q_s, q_r]
  by_cases h : c = r
  · subst h
    simp only [if_true]
    by_cases h2 : d = a + i
    · rw [if_pos h2, if_pos (by omega), h2]
      congr 2
      congr 1
      omega
    · rw [if_neg h2]
      by_cases h4 : a ≤ d ∧ d < a + i
      · rw [if_pos h4, if_pos (by omega)]
      · rw [if_neg h4, if_neg (by omega)]
  · rw [if_neg h, if_neg h, if_neg h]
theorem wr2_ne {N : Nat → Nat → Nat} {r a s i x : Nat} (h : x ≠ r) : wr2 N r a s i x = N x := q_r_ne h
def adC (N : Nat → Nat → Nat) (q s k : Nat) : Nat → Nat → Nat := q_s (q_s (q_s (q_s (wr2 N (q + 2) (N q 0 * 8) s k) (q + 1) (N q 0) k) (q + 3) (N q 0) (lst (ltr N s) k)) (q + 4) (N q 0) (vws (ltr N s) k)) q 0 (N q 0 + 1)
def wdC (N : Nat → Nat → Nat) (q s k : Nat) : Nat → Nat → Nat := q_s (wr2 N (q + 5) 0 s k) q 5 k
section
variable {Γ : q_G} {ad : Nat → Nat} {N : Nat → Nat → Nat} {L : Nat → Nat → Int} {G : Nat → Nat → Option Nat}
theorem k_isVowel {h : q_H} {x : Nat} (hx : x < 128) : q_Con Γ mX1_isVowel 0 0 0 [.int (nI x)] h (q_is (some (.int (nI (if 97 ≤ x then vwl (x - 97) else 0)))) h) := by
  refine q_con (by decide) rfl rfl (Nat.le_of_ble_eq_true rfl) ?_
  refine q_iload_n 1 rfl rfl dX1_isVowel_0 ?_
  refine q_bipush 3 rfl 97 k_b97 dX1_isVowel_1 ?_
  refine q_icmp_eq 6 rfl 30 (by decide) (by omega) (by omega) dX1_isVowel_3 (fun h3 => ?_) (fun h3 => ?_)
  · refine q_iconst 31 rfl 1 k_i1 dX1_isVowel_30 ?_
    refine q_goto 35 (by decide) dX1_isVowel_31 ?_
    refine q_zret rfl (by first | exact q_n0 | exact q_n1 | exact q_nb _) dX1_isVowel_35 ?_
    first
      | (rw [if_pos (by omega), vwl, if_pos (by omega)]; exact ⟨rfl, rfl⟩)
      | (by_cases q : 97 ≤ x
         · rw [if_pos q, vwl, if_neg (by omega)]; exact ⟨rfl, rfl⟩
         · rw [if_neg q]; exact ⟨rfl, rfl⟩)
  · refine q_iload_n 7 rfl rfl dX1_isVowel_6 ?_
    refine q_bipush 9 rfl 101 k_b101 dX1_isVowel_7 ?_
    refine q_icmp_eq 12 rfl 30 (by decide) (by omega) (by omega) dX1_isVowel_9 (fun h9 => ?_) (fun h9 => ?_)
    · refine q_iconst 31 rfl 1 k_i1 dX1_isVowel_30 ?_
      refine q_goto 35 (by decide) dX1_isVowel_31 ?_
      refine q_zret rfl (by first | exact q_n0 | exact q_n1 | exact q_nb _) dX1_isVowel_35 ?_
      first
        | (rw [if_pos (by omega), vwl, if_pos (by omega)]; exact ⟨rfl, rfl⟩)
        | (by_cases q : 97 ≤ x
           · rw [if_pos q, vwl, if_neg (by omega)]; exact ⟨rfl, rfl⟩
           · rw [if_neg q]; exact ⟨rfl, rfl⟩)
    · refine q_iload_n 13 rfl rfl dX1_isVowel_12 ?_
      refine q_bipush 15 rfl 105 k_b105 dX1_isVowel_13 ?_
      refine q_icmp_eq 18 rfl 30 (by decide) (by omega) (by omega) dX1_isVowel_15 (fun h15 => ?_) (fun h15 => ?_)
      · refine q_iconst 31 rfl 1 k_i1 dX1_isVowel_30 ?_
        refine q_goto 35 (by decide) dX1_isVowel_31 ?_
        refine q_zret rfl (by first | exact q_n0 | exact q_n1 | exact q_nb _) dX1_isVowel_35 ?_
        first
          | (rw [if_pos (by omega), vwl, if_pos (by omega)]; exact ⟨rfl, rfl⟩)
          | (by_cases q : 97 ≤ x
             · rw [if_pos q, vwl, if_neg (by omega)]; exact ⟨rfl, rfl⟩
             · rw [if_neg q]; exact ⟨rfl, rfl⟩)
      · refine q_iload_n 19 rfl rfl dX1_isVowel_18 ?_
        refine q_bipush 21 rfl 111 k_b111 dX1_isVowel_19 ?_
        refine q_icmp_eq 24 rfl 30 (by decide) (by omega) (by omega) dX1_isVowel_21 (fun h21 => ?_) (fun h21 => ?_)
        · refine q_iconst 31 rfl 1 k_i1 dX1_isVowel_30 ?_
          refine q_goto 35 (by decide) dX1_isVowel_31 ?_
          refine q_zret rfl (by first | exact q_n0 | exact q_n1 | exact q_nb _) dX1_isVowel_35 ?_
          first
            | (rw [if_pos (by omega), vwl, if_pos (by omega)]; exact ⟨rfl, rfl⟩)
            | (by_cases q : 97 ≤ x
               · rw [if_pos q, vwl, if_neg (by omega)]; exact ⟨rfl, rfl⟩
               · rw [if_neg q]; exact ⟨rfl, rfl⟩)
        · refine q_iload_n 25 rfl rfl dX1_isVowel_24 ?_
          refine q_bipush 27 rfl 117 k_b117 dX1_isVowel_25 ?_
          refine q_icmp_ne 30 rfl 34 (by decide) (by omega) (by omega) dX1_isVowel_27 (fun h27 => ?_) (fun h27 => ?_)
          · refine q_iconst 35 rfl 0 k_i0 dX1_isVowel_34 ?_
            refine q_zret rfl (by first | exact q_n0 | exact q_n1 | exact q_nb _) dX1_isVowel_35 ?_
            first
              | (rw [if_pos (by omega), vwl, if_pos (by omega)]; exact ⟨rfl, rfl⟩)
              | (by_cases q : 97 ≤ x
                 · rw [if_pos q, vwl, if_neg (by omega)]; exact ⟨rfl, rfl⟩
                 · rw [if_neg q]; exact ⟨rfl, rfl⟩)
          · refine q_iconst 31 rfl 1 k_i1 dX1_isVowel_30 ?_
            refine q_goto 35 (by decide) dX1_isVowel_31 ?_
            refine q_zret rfl (by first | exact q_n0 | exact q_n1 | exact q_nb _) dX1_isVowel_35 ?_
            first
              | (rw [if_pos (by omega), vwl, if_pos (by omega)]; exact ⟨rfl, rfl⟩)
              | (by_cases q : 97 ≤ x
                 · rw [if_pos q, vwl, if_neg (by omega)]; exact ⟨rfl, rfl⟩
                 · rw [if_neg q]; exact ⟨rfl, rfl⟩)
theorem spl_lp  {q n s k mc mz : Nat} (hG : GF ad G) (hq : isN q) (hs : s + k ≤ 160) (hwd : ∀ i, i < k → 97 ≤ N 1 (s + i) ∧ N 1 (s + i) ≤ 122) (hn : n < 9) (hk : k ≤ 8) (hb2 : ∀ i, i < 72 → N (q + 2) i < 4294967296) (he : N (q + 1) n = k)  : ∀ i, i ≤ k → alw (fun i => decide (N (q + 2) (n * 8 + i) = ltr N s i)) i = true →  q_R Γ mX1_isSpelled (q_room 1 mc mz) (q_Z Γ (q_is (some (.int (nI (splC N q s k n).toNat))) (LT ad, N, L, G)) 0 0) 0 0 16 [(0, .ref (ad q)), (1, .int (nI n)), (2, .ref (ad 1)), (3, .int (nI s)), (4, .int (nI k)), (5, .int (nI i))] [] (LT ad, N, L, G) := by
  refine dn_loop (k) ?_ ?_
  · intro h_ex 
    refine q_iload 18 rfl rfl dX1_isSpelled_16 ?_
    refine q_iload 20 rfl rfl dX1_isSpelled_18 ?_
    refine q_icmp_ge 23 rfl 50 (by decide) (by omega) (by omega) dX1_isSpelled_20 (fun h20 => ?_) (fun h20 => ?_)
    · refine q_iconst 51 rfl 1 k_i1 dX1_isSpelled_50 ?_
      refine q_zret rfl (by first | exact q_n0 | exact q_n1 | exact q_nb _) dX1_isSpelled_51 ?_
      rw [splC, decide_eq_true he, h_ex]; exact ⟨rfl, rfl⟩
    · exfalso; omega
  · intro i h_i ih h_ex 
    have hw := hwd i h_i
    have hb := hb2 (n * 8 + i) (by omega)
    refine q_iload 18 rfl rfl dX1_isSpelled_16 ?_
    refine q_iload 20 rfl rfl dX1_isSpelled_18 ?_
    refine q_icmp_ge 23 rfl 50 (by decide) (by omega) (by omega) dX1_isSpelled_20 (fun h20 => ?_) (fun h20 => ?_)
    · exfalso; omega
    · refine q_aload_n 24 rfl rfl dX1_isSpelled_23 ?_
      refine q_iload_n 25 rfl rfl dX1_isSpelled_24 ?_
      refine q_iload 27 rfl rfl dX1_isSpelled_25 ?_
      refine q_cV2 30 rfl lX1_42 (k_letterAt (N := N) hG hq (by omega) (by omega)) rfl q (tN hq) rfl rfl rfl dX1_isSpelled_27 ?_
      refine q_aload_n 31 rfl rfl dX1_isSpelled_30 ?_
      refine q_iload_n 32 rfl rfl dX1_isSpelled_31 ?_
      refine q_iload 34 rfl rfl dX1_isSpelled_32 ?_
      refine q_iadd 35 rfl dX1_isSpelled_34 ?_
      refine q_bald 36 rfl 1 t_1 (by omega) (by decide) dX1_isSpelled_35 ?_
      refine q_bipush 38 rfl 97 k_b97 dX1_isSpelled_36 ?_
      refine q_isub 39 rfl (by omega) dX1_isSpelled_38 ?_
      refine q_icmp_eq 42 rfl 44 (by decide) (by omega) (by omega) dX1_isSpelled_39 (fun h39 => ?_) (fun h39 => ?_)
      · refine q_iinc1 47 rfl 1 k_i1 rfl (by decide) dX1_isSpelled_44 ?_
        refine q_goto 16 (by decide) dX1_isSpelled_47 ?_
        refine q_loc (ih ?_) (q_sub1 rfl (q_sub1 rfl (q_sub1 rfl (q_sub1 rfl (q_sub1 rfl (q_sub1 rfl q_sub0))))))
        rw [show alw (fun i => decide (N (q + 2) (n * 8 + i) = ltr N s i)) (i + 1) = (alw (fun i => decide (N (q + 2) (n * 8 + i) = ltr N s i)) i && decide (N (q + 2) (n * 8 + i) = ltr N s i)) from rfl, h_ex, Bool.true_and]
        exact decide_eq_true (show N (q + 2) (n * 8 + i) = N 1 (s + i) - 97 by omega)
      · refine q_iconst 43 rfl 0 k_i0 dX1_isSpelled_42 ?_
        refine q_zret rfl (by first | exact q_n0 | exact q_n1 | exact q_nb _) dX1_isSpelled_43 ?_
        rw [splC, alw_split h_i (decide_eq_false (show ¬ N (q + 2) (n * 8 + i) = N 1 (s + i) - 97 by omega)), Bool.and_false]; exact ⟨rfl, rfl⟩
theorem k_isSpelled {q n s k : Nat} (hG : GF ad G) (hq : isN q) (hs : s + k ≤ 160) (hwd : ∀ i, i < k → 97 ≤ N 1 (s + i) ∧ N 1 (s + i) ≤ 122) (hn : n < 9) (hk : k ≤ 8) (hb1 : ∀ n, n < 9 → N (q + 1) n < 4294967296) (hb2 : ∀ i, i < 72 → N (q + 2) i < 4294967296) : q_Con Γ mX1_isSpelled 1 0 0 [.ref (ad q), .int (nI n), .ref (ad 1), .int (nI s), .int (nI k)] (LT ad, N, L, G) (q_is (some (.int (nI ((splC N q s k n).toNat)))) (LT ad, N, L, G)) := by
  have hb := hb1 n hn
  refine q_con (by decide) rfl rfl (Nat.le_of_ble_eq_true rfl) ?_
  refine q_aload_n 1 rfl rfl dX1_isSpelled_0 ?_
  refine q_getR 4 rfl fX1_9 rfl q (tN hq) (gN_1 hq hG) dX1_isSpelled_1 ?_
  refine q_iload_n 5 rfl rfl dX1_isSpelled_4 ?_
  refine q_iald 6 rfl (q + 1) (tN1 hq) (by omega) (by decide) dX1_isSpelled_5 ?_
  refine q_iload 8 rfl rfl dX1_isSpelled_6 ?_
  refine q_icmp_eq 11 rfl 13 (by decide) (by omega) (by omega) dX1_isSpelled_8 (fun h8 => ?_) (fun h8 => ?_)
  · refine q_iconst 14 rfl 0 k_i0 dX1_isSpelled_13 ?_
    refine q_istore 16 rfl (by decide) dX1_isSpelled_14 ?_
    exact q_loc (spl_lp (N := N) hG hq hs hwd hn hk hb2 (by omega) 0 (by omega) rfl) (q_sub1 rfl (q_sub1 rfl (q_sub1 rfl (q_sub1 rfl (q_sub1 rfl (q_sub1 rfl q_sub0))))))
  · refine q_iconst 12 rfl 0 k_i0 dX1_isSpelled_11 ?_
    refine q_zret rfl (by first | exact q_n0 | exact q_n1 | exact q_nb _) dX1_isSpelled_12 ?_
    rw [splC, decide_eq_false (by omega)]; exact ⟨rfl, rfl⟩
theorem tld_lp  {q c s k mc mz : Nat} (hG : GF ad G) (hq : isN q) (hc : N q 0 = c) (hs : s + k ≤ 160) (hwd : ∀ i, i < k → 97 ≤ N 1 (s + i) ∧ N 1 (s + i) ≤ 122) (hk : k ≤ 8) (hc9 : N q 0 ≤ 9) (hb1 : ∀ n, n < 9 → N (q + 1) n < 4294967296) (hb2 : ∀ i, i < 72 → N (q + 2) i < 4294967296)  : ∀ i, i ≤ c → alw (fun n => !splC N q s k n) i = true →  q_R Γ mX1_isTold (q_room 2 mc mz) (q_Z Γ (q_is (some (.int (nI (!newC N q s k).toNat))) (LT ad, N, L, G)) 0 0) 0 0 3 [(0, .ref (ad q)), (1, .ref (ad 1)), (2, .int (nI s)), (3, .int (nI k)), (4, .int (nI i))] [] (LT ad, N, L, G) := by
  refine dn_loop (c) ?_ ?_
  · intro h_ex 
    refine q_iload 5 rfl rfl dX1_isTold_3 ?_
    refine q_aload_n 6 rfl rfl dX1_isTold_5 ?_
    refine q_getI 9 rfl fX1_27 rfl q (tN hq) dX1_isTold_6 ?_
    refine q_icmp_ge 12 rfl 32 (by decide) (by omega) (by omega) dX1_isTold_9 (fun h9 => ?_) (fun h9 => ?_)
    · refine q_iconst 33 rfl 0 k_i0 dX1_isTold_32 ?_
      refine q_zret rfl (by first | exact q_n0 | exact q_n1 | exact q_nb _) dX1_isTold_33 ?_
      rw [newC, hc, h_ex]; exact ⟨rfl, rfl⟩
    · exfalso; omega
  · intro i h_i ih h_ex 
    refine q_iload 5 rfl rfl dX1_isTold_3 ?_
    refine q_aload_n 6 rfl rfl dX1_isTold_5 ?_
    refine q_getI 9 rfl fX1_27 rfl q (tN hq) dX1_isTold_6 ?_
    refine q_icmp_ge 12 rfl 32 (by decide) (by omega) (by omega) dX1_isTold_9 (fun h9 => ?_) (fun h9 => ?_)
    · exfalso; omega
    · refine q_aload_n 13 rfl rfl dX1_isTold_12 ?_
      refine q_iload 15 rfl rfl dX1_isTold_13 ?_
      refine q_aload_n 16 rfl rfl dX1_isTold_15 ?_
      refine q_iload_n 17 rfl rfl dX1_isTold_16 ?_
      refine q_iload_n 18 rfl rfl dX1_isTold_17 ?_
      refine q_cV4 21 rfl lX1_38 (k_isSpelled hG hq hs hwd (by omega) hk hb1 hb2) rfl q (tN hq) rfl rfl rfl dX1_isTold_18 ?_
      refine q_if_eqB 24 rfl 26 (by decide) dX1_isTold_21 (fun h21 => ?_) (fun h21 => ?_)
      · refine q_iinc1 29 rfl 1 k_i1 rfl (by decide) dX1_isTold_26 ?_
        refine q_goto 3 (by decide) dX1_isTold_29 ?_
        refine q_loc (ih ?_) (q_sub1 rfl (q_sub1 rfl (q_sub1 rfl (q_sub1 rfl (q_sub1 rfl q_sub0)))))
        rw [show alw (fun n => !splC N q s k n) (i + 1) = (alw (fun n => !splC N q s k n) i && !splC N q s k i) from rfl, h_ex, h21]; rfl
      · refine q_iconst 25 rfl 1 k_i1 dX1_isTold_24 ?_
        refine q_zret rfl (by first | exact q_n0 | exact q_n1 | exact q_nb _) dX1_isTold_25 ?_
        rw [newC, hc, alw_split h_i (by rw [h21]; rfl)]; exact ⟨rfl, rfl⟩
theorem k_isTold6 {q s k : Nat} (hG : GF ad G) (hq : isN q) (hs : s + k ≤ 160) (hwd : ∀ i, i < k → 97 ≤ N 1 (s + i) ∧ N 1 (s + i) ≤ 122) (hk : k ≤ 8) (hc9 : N q 0 ≤ 9) (hb1 : ∀ n, n < 9 → N (q + 1) n < 4294967296) (hb2 : ∀ i, i < 72 → N (q + 2) i < 4294967296) : q_Con Γ mX1_isTold 2 0 0 [.ref (ad q), .ref (ad 1), .int (nI s), .int (nI k)] (LT ad, N, L, G) (q_is (some (.int (nI ((!newC N q s k).toNat)))) (LT ad, N, L, G)) := by
  refine q_con (by decide) rfl rfl (Nat.le_of_ble_eq_true rfl) ?_
  refine q_iconst 1 rfl 0 k_i0 dX1_isTold_0 ?_
  refine q_istore 3 rfl (by decide) dX1_isTold_1 ?_
  exact q_loc (tld_lp (N := N) hG hq rfl hs hwd hk hc9 hb1 hb2 0 (by omega) rfl) (q_sub1 rfl (q_sub1 rfl (q_sub1 rfl (q_sub1 rfl (q_sub1 rfl q_sub0)))))
theorem addn_lp {Z : q_Zt} {q s k mc mz : Nat} (hG : GF ad G) (hq : isN q) (hs : s + k ≤ 160) (hwd : ∀ i, i < k → 97 ≤ N 1 (s + i) ∧ N 1 (s + i) ≤ 122) (hk : k ≤ 8) (hc9 : N q 0 < 9) (hx : q_R Γ mX1_addName (q_room 1 mc mz) Z 0 0 73 [(0, .ref (ad q)), (3, .int (nI k)), (4, .int (nI (lst (ltr N s) (k)))), (5, .int (nI (vws (ltr N s) (k))))] [] (LT ad, (wr2 N (q + 2) (N q 0 * 8) s (k)), L, G)) : ∀ i, i ≤ k →  ∀ H : Nat → Nat → Nat, H = wr2 N (q + 2) (N q 0 * 8) s i → ∀ a : Nat, a = lst (ltr N s) i → ∀ b : Nat, b = vws (ltr N s) i → q_R Γ mX1_addName (q_room 1 mc mz) Z 0 0 9 [(0, .ref (ad q)), (1, .ref (ad 1)), (2, .int (nI s)), (3, .int (nI k)), (4, .int (nI a)), (5, .int (nI b)), (6, .int (nI i))] [] (LT ad, H, L, G) := by
  refine dn_loop (k) ?_ ?_
  · intro H h_H a h_a b h_b
    refine q_iload 11 rfl rfl dX1_addName_9 ?_
    refine q_iload_n 12 rfl rfl dX1_addName_11 ?_
    refine q_icmp_ge 15 rfl 73 (by decide) (by omega) (by omega) dX1_addName_12 (fun h12 => ?_) (fun h12 => ?_)
    · subst h_H
      subst h_a
      subst h_b
      exact q_loc hx (q_sub1 rfl (q_sub1 rfl (q_sub1 rfl (q_sub1 rfl q_sub0))))
    · exfalso; omega
  · intro i h_i ih H h_H a h_a b h_b
    have hw := hwd i h_i
    have d1 : q = 3 ∨ q = 18 := hq
    have e1 : H 1 = N 1 := by rw [h_H]; exact wr2_ne (by omega)
    have e0 : H q = N q := by rw [h_H]; exact wr2_ne (by omega)
    have vw : (if 97 ≤ N 1 (s + i) then vwl (N 1 (s + i) - 97) else 0) = vwl (ltr N s i) := if_pos hw.1
    have vl : vwl (ltr N s i) ≤ 1 := by unfold vwl; split <;> omega
    refine q_iload 11 rfl rfl dX1_addName_9 ?_
    refine q_iload_n 12 rfl rfl dX1_addName_11 ?_
    refine q_icmp_ge 15 rfl 73 (by decide) (by omega) (by omega) dX1_addName_12 (fun h12 => ?_) (fun h12 => ?_)
    · exfalso; omega
    · refine q_aload_n 16 rfl rfl dX1_addName_15 ?_
      refine q_iload_n 17 rfl rfl dX1_addName_16 ?_
      refine q_iload 19 rfl rfl dX1_addName_17 ?_
      refine q_iadd 20 rfl dX1_addName_19 ?_
      refine q_bald 21 rfl 1 t_1 (by omega) (by decide) dX1_addName_20 ?_
      rw [e1]
      refine q_bipush 23 rfl 97 k_b97 dX1_addName_21 ?_
      refine q_isub 24 rfl (by omega) dX1_addName_23 ?_
      refine q_istore 26 rfl (by decide) dX1_addName_24 ?_
      refine q_aload_n 27 rfl rfl dX1_addName_26 ?_
      refine q_getR 30 rfl fX1_15 rfl q (tN hq) (gN_2 hq hG) dX1_addName_27 ?_
      refine q_aload_n 31 rfl rfl dX1_addName_30 ?_
      refine q_getI 34 rfl fX1_27 rfl q (tN hq) dX1_addName_31 ?_
      rw [e0]
      refine q_bipush 36 rfl 8 k_b8 dX1_addName_34 ?_
      refine q_imul 37 rfl dX1_addName_36 ?_
      refine q_iload 39 rfl rfl dX1_addName_37 ?_
      refine q_iadd 40 rfl dX1_addName_39 ?_
      refine q_iload 42 rfl rfl dX1_addName_40 ?_
      refine q_iast 43 rfl (q + 2) (tN2 hq) (by omega) (by decide) dX1_addName_42 ?_
      refine q_iload 45 rfl rfl dX1_addName_43 ?_
      refine q_iconst 46 rfl 1 k_i1 dX1_addName_45 ?_
      refine q_iload 48 rfl rfl dX1_addName_46 ?_
      refine q_ishl 49 rfl (by omega) dX1_addName_48 ?_
      refine q_ior 50 rfl dX1_addName_49 ?_
      refine q_istore 52 rfl (by decide) dX1_addName_50 ?_
      refine q_aload_n 53 rfl rfl dX1_addName_52 ?_
      refine q_iload_n 54 rfl rfl dX1_addName_53 ?_
      refine q_iload 56 rfl rfl dX1_addName_54 ?_
      refine q_iadd 57 rfl dX1_addName_56 ?_
      refine q_bald 58 rfl 1 t_1 (by omega) (by decide) dX1_addName_57 ?_
      rw [q_s_ne (by omega), e1]
      refine q_cS1 61 rfl lX1_34 (k_isVowel (by omega)) rfl rfl rfl dX1_addName_58 ?_
      rw [vw]
      refine q_if_eq 64 rfl 67 (by decide) (by omega) dX1_addName_61 (fun h61 => ?_) (fun h61 => ?_)
      · refine q_iinc1 70 rfl 1 k_i1 rfl (by decide) dX1_addName_67 ?_
        refine q_goto 9 (by decide) dX1_addName_70 ?_
        refine q_loc (ih _ ?_ _ ?_ _ ?_) (q_sub1 rfl (q_sub1 rfl (q_sub1 rfl (q_sub1 rfl (q_sub1 rfl (q_sub1 rfl (q_sub1 rfl q_sub0)))))))
        · rw [h_H]; exact wr2_s
        · rw [h_a, lst, Nat.one_mul]
        · rw [h_b, vws]; omega
      · refine q_iinc1 67 rfl 1 k_i1 rfl (by decide) dX1_addName_64 ?_
        refine q_iinc1 70 rfl 1 k_i1 rfl (by decide) dX1_addName_67 ?_
        refine q_goto 9 (by decide) dX1_addName_70 ?_
        refine q_loc (ih _ ?_ _ ?_ _ ?_) (q_sub1 rfl (q_sub1 rfl (q_sub1 rfl (q_sub1 rfl (q_sub1 rfl (q_sub1 rfl (q_sub1 rfl q_sub0)))))))
        · rw [h_H]; exact wr2_s
        · rw [h_a, lst, Nat.one_mul]
        · rw [h_b, vws]; omega
theorem k_addName {q s k : Nat} (hG : GF ad G) (hq : isN q) (hs : s + k ≤ 160) (hwd : ∀ i, i < k → 97 ≤ N 1 (s + i) ∧ N 1 (s + i) ≤ 122) (hk : k ≤ 8) (hc9 : N q 0 < 9) : q_Con Γ mX1_addName 1 0 0 [.ref (ad q), .ref (ad 1), .int (nI s), .int (nI k)] (LT ad, N, L, G) (q_is none (LT ad, adC N q s k, L, G)) := by
  have e0 : wr2 N (q + 2) (N q 0 * 8) s k q = N q := wr2_ne (by omega)
  refine q_con (by decide) rfl rfl (Nat.le_of_ble_eq_true rfl) ?_
  refine q_iconst 1 rfl 0 k_i0 dX1_addName_0 ?_
  refine q_istore 3 rfl (by decide) dX1_addName_1 ?_
  refine q_iconst 4 rfl 0 k_i0 dX1_addName_3 ?_
  refine q_istore 6 rfl (by decide) dX1_addName_4 ?_
  refine q_iconst 7 rfl 0 k_i0 dX1_addName_6 ?_
  refine q_istore 9 rfl (by decide) dX1_addName_7 ?_
  refine q_loc (addn_lp (N := N) hG hq hs hwd hk hc9 ?_ 0 (by omega) _ wr2_0.symm _ rfl _ rfl) (q_sub1 rfl (q_sub1 rfl (q_sub1 rfl (q_sub1 rfl (q_sub1 rfl (q_sub1 rfl (q_sub1 rfl q_sub0)))))))
  refine q_aload_n 74 rfl rfl dX1_addName_73 ?_
  refine q_getR 77 rfl fX1_9 rfl q (tN hq) (gN_1 hq hG) dX1_addName_74 ?_
  refine q_aload_n 78 rfl rfl dX1_addName_77 ?_
  refine q_getI 81 rfl fX1_27 rfl q (tN hq) dX1_addName_78 ?_
  rw [e0]
  refine q_iload_n 82 rfl rfl dX1_addName_81 ?_
  refine q_iast 83 rfl (q + 1) (tN1 hq) (by omega) (by decide) dX1_addName_82 ?_
  refine q_aload_n 84 rfl rfl dX1_addName_83 ?_
  refine q_getR 87 rfl fX1_18 rfl q (tN hq) (gN_3 hq hG) dX1_addName_84 ?_
  refine q_aload_n 88 rfl rfl dX1_addName_87 ?_
  refine q_getI 91 rfl fX1_27 rfl q (tN hq) dX1_addName_88 ?_
  rw [q_s_ne (by omega), e0]
  refine q_iload 93 rfl rfl dX1_addName_91 ?_
  refine q_iast 94 rfl (q + 3) (tN3 hq) (by omega) (by decide) dX1_addName_93 ?_
  refine q_aload_n 95 rfl rfl dX1_addName_94 ?_
  refine q_getR 98 rfl fX1_21 rfl q (tN hq) (gN_4 hq hG) dX1_addName_95 ?_
  refine q_aload_n 99 rfl rfl dX1_addName_98 ?_
  refine q_getI 102 rfl fX1_27 rfl q (tN hq) dX1_addName_99 ?_
  rw [q_s_ne (by omega), q_s_ne (by omega), e0]
  refine q_iload 104 rfl rfl dX1_addName_102 ?_
  refine q_iast 105 rfl (q + 4) (tN4 hq) (by omega) (by decide) dX1_addName_104 ?_
  refine q_aload_n 106 rfl rfl dX1_addName_105 ?_
  refine q_dup 107 rfl rfl dX1_addName_106 ?_
  refine q_getI 110 rfl fX1_27 rfl q (tN hq) dX1_addName_107 ?_
  rw [q_s_ne (by omega), q_s_ne (by omega), q_s_ne (by omega), e0]
  refine q_iconst 111 rfl 1 k_i1 dX1_addName_110 ?_
  refine q_iadd 112 rfl dX1_addName_111 ?_
  refine q_putI 115 rfl pX1_27 (fun q => by cases q) rfl q (tN hq) dX1_addName_112 ?_
  refine q_vret rfl dX1_addName_115 ?_
  exact ⟨rfl, rfl⟩
theorem wrd_lp {rm : Room} {Z : q_Zt} {q s k mc mz : Nat} (hG : GF ad G) (hq : isN q) (hs : s + k ≤ 160) (hwd : ∀ i, i < k → 97 ≤ N 1 (s + i) ∧ N 1 (s + i) ≤ 122) (hk : k ≤ 8) (hx : q_R Γ mX1_writeDown rm Z 0 0 31 [(0, .ref (ad q)), (3, .int (nI k))] [] (LT ad, (wr2 N (q + 5) 0 s (k)), L, G)) : ∀ i, i ≤ k →  ∀ H : Nat → Nat → Nat, H = wr2 N (q + 5) 0 s i → q_R Γ mX1_writeDown rm Z 0 0 3 [(0, .ref (ad q)), (1, .ref (ad 1)), (2, .int (nI s)), (3, .int (nI k)), (4, .int (nI i))] [] (LT ad, H, L, G) := by
  refine dn_loop (k) ?_ ?_
  · intro H h_H
    refine q_iload 5 rfl rfl dX1_writeDown_3 ?_
    refine q_iload_n 6 rfl rfl dX1_writeDown_5 ?_
    refine q_icmp_ge 9 rfl 31 (by decide) (by omega) (by omega) dX1_writeDown_6 (fun h6 => ?_) (fun h6 => ?_)
    · subst h_H
      exact q_loc hx (q_sub1 rfl (q_sub1 rfl q_sub0))
    · exfalso; omega
  · intro i h_i ih H h_H
    have hw := hwd i h_i
    have d1 : q = 3 ∨ q = 18 := hq
    have e1 : H 1 = N 1 := by rw [h_H]; exact wr2_ne (by omega)
    refine q_iload 5 rfl rfl dX1_writeDown_3 ?_
    refine q_iload_n 6 rfl rfl dX1_writeDown_5 ?_
    refine q_icmp_ge 9 rfl 31 (by decide) (by omega) (by omega) dX1_writeDown_6 (fun h6 => ?_) (fun h6 => ?_)
    · exfalso; omega
    · refine q_aload_n 10 rfl rfl dX1_writeDown_9 ?_
      refine q_getR 13 rfl fX1_24 rfl q (tN hq) (gN_6 hq hG) dX1_writeDown_10 ?_
      refine q_iload 15 rfl rfl dX1_writeDown_13 ?_
      refine q_aload_n 16 rfl rfl dX1_writeDown_15 ?_
      refine q_iload_n 17 rfl rfl dX1_writeDown_16 ?_
      refine q_iload 19 rfl rfl dX1_writeDown_17 ?_
      refine q_iadd 20 rfl dX1_writeDown_19 ?_
      refine q_bald 21 rfl 1 t_1 (by omega) (by decide) dX1_writeDown_20 ?_
      rw [e1]
      refine q_bipush 23 rfl 97 k_b97 dX1_writeDown_21 ?_
      refine q_isub 24 rfl (by omega) dX1_writeDown_23 ?_
      refine q_iast 25 rfl (q + 5) (tN5 hq) (by omega) (by decide) dX1_writeDown_24 ?_
      refine q_iinc1 28 rfl 1 k_i1 rfl (by decide) dX1_writeDown_25 ?_
      refine q_goto 3 (by decide) dX1_writeDown_28 ?_
      refine q_loc (ih _ ?_) (q_sub1 rfl (q_sub1 rfl (q_sub1 rfl (q_sub1 rfl (q_sub1 rfl q_sub0)))))
      · rw [h_H]; have := wr2_s (N := N) (r := q + 5) (a := 0) (s := s) (i := i); rw [Nat.zero_add] at this; exact this
theorem k_writeDown {q s k : Nat} (hG : GF ad G) (hq : isN q) (hs : s + k ≤ 160) (hwd : ∀ i, i < k → 97 ≤ N 1 (s + i) ∧ N 1 (s + i) ≤ 122) (hk : k ≤ 8) : q_Con Γ mX1_writeDown 0 0 0 [.ref (ad q), .ref (ad 1), .int (nI s), .int (nI k)] (LT ad, N, L, G) (q_is none (LT ad, wdC N q s k, L, G)) := by
  refine q_con (by decide) rfl rfl (Nat.le_of_ble_eq_true rfl) ?_
  refine q_iconst 1 rfl 0 k_i0 dX1_writeDown_0 ?_
  refine q_istore 3 rfl (by decide) dX1_writeDown_1 ?_
  refine q_loc (wrd_lp (N := N) (mc := 0) (mz := 0) hG hq hs hwd hk ?_ 0 (by omega) _ wr2_0.symm) (q_sub1 rfl (q_sub1 rfl (q_sub1 rfl (q_sub1 rfl (q_sub1 rfl q_sub0)))))
  refine q_aload_n 32 rfl rfl dX1_writeDown_31 ?_
  refine q_iload_n 33 rfl rfl dX1_writeDown_32 ?_
  refine q_putI 36 rfl pX1_31 (fun q => by cases q) rfl q (tN hq) dX1_writeDown_33 ?_
  refine q_vret rfl dX1_writeDown_36 ?_
  exact ⟨rfl, rfl⟩
end
