/-- the greatest of f's values below k (0 if there is none) -/
def mxf (f : Nat → Nat) : Nat → Nat
  | 0 => 0
  | k + 1 => if f k > mxf f k then f k else mxf f k
/-- a part of s by a row of guesses r, by the digits (of three) of a; what is left of a -/
def gpt (Rl : Nat → Nat → Bool) (c : Nat) (r : Nat → Nat) (s a : Nat) : Nat → Nat × Nat
  | 0 => (s, a)
  | k + 1 => (prt Rl c (gpt Rl c r s a k).1 (r k) ((gpt Rl c r s a k).2 % 3), (gpt Rl c r s a k).2 / 3)
def gvl (Rl : Nat → Nat → Bool) (c : Nat) (r : Nat → Nat) (s n a : Nat) : Nat := if (gpt Rl c r s a n).2 > 0 then 0 else pc (gpt Rl c r s a n).1 26
def grt (Rl : Nat → Nat → Bool) (c : Nat) (r : Nat → Nat) (s n : Nat) : Nat := mxf (gvl Rl c r s n) 27
theorem gpt_lt {Rl : Nat → Nat → Bool} {c : Nat} {r : Nat → Nat} {s a : Nat} (hs : s < 2 ^ c) (k : Nat) : (gpt Rl c r s a k).1 < 2 ^ c := by
  cases k with
  | zero => exact hs
  | succ k => exact prt_lt
theorem gpt_le {Rl : Nat → Nat → Bool} {c : Nat} {r : Nat → Nat} {s a : Nat} (k : Nat) : (gpt Rl c r s a k).2 ≤ a := by
  induction k with
  | zero => exact Nat.le_refl _
  | succ k ih => exact Nat.le_trans (Nat.div_le_self _ _) ih
theorem gvl_le {Rl : Nat → Nat → Bool} {c : Nat} {r : Nat → Nat} {s n a : Nat} : gvl Rl c r s n a ≤ 26 := by
  simp only [gvl]; split
  · omega
  · exact pc_le _ _
theorem mxf_le {f : Nat → Nat} {b : Nat} (h : ∀ i, f i ≤ b) (k : Nat) : mxf f k ≤ b := by
  induction k with
  | zero => exact Nat.zero_le _
  | succ k ih => simp only [mxf]; split
                 · exact h k
                 · exact ih
theorem grt_le {Rl : Nat → Nat → Bool} {c : Nat} {r : Nat → Nat} {s n : Nat} : grt Rl c r s n ≤ 26 := mxf_le (fun _ => gvl_le) _
theorem gpt_congr {Rl : Nat → Nat → Bool} {c : Nat} {r q : Nat → Nat} {s a : Nat} (k : Nat) (h : ∀ i, i < k → r i = q i) : gpt Rl c r s a k = gpt Rl c q s a k := by
  induction k with
  | zero => rfl
  | succ k ih => simp only [gpt]; rw [ih (fun i hi => h i (by omega)), h k (by omega)]
theorem grt_congr {Rl : Nat → Nat → Bool} {c : Nat} {r q : Nat → Nat} {s n : Nat} (h : ∀ i, i < n → r i = q i) : grt Rl c r s n = grt Rl c q s n := by
  have : gvl Rl c r s n = gvl Rl c q s n := by funext a; simp only [gvl]; rw [gpt_congr n h]
  rw [grt, grt, this]
/-- the k-th guess of the way w (n guesses, c names) -/
def dig (c n w k : Nat) : Nat := w / c ^ (n - 1 - k) % c
def gw (Rl : Nat → Nat → Bool) (c s n w : Nat) : Nat := grt Rl c (dig c n w) s n
/-- row(): n guesses, what is asked Y -/
def rwv (Rl : Nat → Nat → Bool) (c n Y s : Nat) : Nat := if (1 ≤ n ∧ n ≤ 3) ∧ (Y = 0 ∨ (10 ≤ Y ∧ Y ≤ 9 + n)) then (if s = 0 then 4294967294 else if Y = 0 then (amin (gw Rl c s n) 1000 (c ^ n)).1 else dig c n (amin (gw Rl c s n) 1000 (c ^ n)).2 (Y - 10)) else 4294967295
section
variable {Γ : q_G} {ad : Nat → Nat} {N : Nat → Nat → Nat} {L : Nat → Nat → Int} {G : Nat → Nat → Option Nat}
theorem greatest_in {Z : q_Zt} {a b mc mz : Nat} {c s n : Nat} {Rl : Nat → Nat → Bool} (hG : GF ad G) (hc : N 77 2 = c) (hc9 : c ≤ 9) (hnx : ∀ g, g < c → N 87 g = mk (fun m => decide (g ≠ m) && Rl g m) c) (hs : s < 2 ^ c) (hn : n ≤ 3) (hr : ∀ k, k < n → N 90 k < c) (ha : a < 27) (hx : q_R Γ mX7_greatest (q_room 1 mc mz) Z 0 0 59 [(0, .ref (ad 77)), (1, .int (nI s)), (2, .int (nI n)), (3, .int (nI b)), (4, .int (nI a)), (5, .int (nI ((gpt Rl c (N 90) s a (n)).2))), (6, .int (nI ((gpt Rl c (N 90) s a (n)).1)))] [] (LT ad, N, L, G)) : ∀ i, i ≤ n →  ∀ l : Nat, l = (gpt Rl c (N 90) s a i).2 → ∀ p : Nat, p = (gpt Rl c (N 90) s a i).1 → q_R Γ mX7_greatest (q_room 1 mc mz) Z 0 0 22 [(0, .ref (ad 77)), (1, .int (nI s)), (2, .int (nI n)), (3, .int (nI b)), (4, .int (nI a)), (5, .int (nI l)), (6, .int (nI p)), (7, .int (nI i))] [] (LT ad, N, L, G) := by
  refine dn_loop (n) ?_ ?_
  · intro l h_l p h_p
    refine q_iload 24 rfl rfl dX7_greatest_22 ?_
    refine q_iload_n 25 rfl rfl dX7_greatest_24 ?_
    refine q_icmp_ge 28 rfl 59 (by decide) (by omega) (by omega) dX7_greatest_25 (fun h25 => ?_) (fun h25 => ?_)
    · subst h_l
      subst h_p
      exact q_loc hx (q_sub1 rfl (q_sub1 rfl (q_sub1 rfl (q_sub1 rfl (q_sub1 rfl (q_sub1 rfl (q_sub1 rfl q_sub0)))))))
    · exfalso; omega
  · intro i h_i ih l h_l p h_p
    have q1 := hr i h_i
    have q2 := gpt_le (Rl := Rl) (c := c) (r := N 90) (s := s) (a := a) i
    have q3 := gpt_lt (Rl := Rl) (c := c) (r := N 90) (s := s) (a := a) hs i
    have q4 := ansW_s (f := N 87) (Rl := Rl) (g := N 90 i) (a := (gpt Rl c (N 90) s a i).2 % 3) q3 (by omega) (hnx _ q1) (by omega)
    refine q_iload 24 rfl rfl dX7_greatest_22 ?_
    refine q_iload_n 25 rfl rfl dX7_greatest_24 ?_
    refine q_icmp_ge 28 rfl 59 (by decide) (by omega) (by omega) dX7_greatest_25 (fun h25 => ?_) (fun h25 => ?_)
    · exfalso; omega
    · refine q_aload_n 29 rfl rfl dX7_greatest_28 ?_
      refine q_iload 31 rfl rfl dX7_greatest_29 ?_
      refine q_aload_n 32 rfl rfl dX7_greatest_31 ?_
      refine q_getR 35 rfl fX7_47 rfl 77 t_77 (g_77_23 hG) dX7_greatest_32 ?_
      refine q_iload 37 rfl rfl dX7_greatest_35 ?_
      refine q_iald 38 rfl 90 t_90 (by omega) (by decide) dX7_greatest_37 ?_
      refine q_iload 40 rfl rfl dX7_greatest_38 ?_
      refine q_iconst 41 rfl 3 k_i3 dX7_greatest_40 ?_
      refine q_irem 42 rfl (by omega) (by omega) (by omega) dX7_greatest_41 ?_
      refine q_cV3 45 rfl lX7_212 (k_answering hG (by omega) (by omega)) rfl 77 t_77 rfl rfl rfl dX7_greatest_42 ?_
      refine q_istore 47 rfl (by decide) dX7_greatest_45 ?_
      refine q_iload 49 rfl rfl dX7_greatest_47 ?_
      refine q_iconst 50 rfl 3 k_i3 dX7_greatest_49 ?_
      refine q_idiv 51 rfl (by omega) (by omega) (by omega) dX7_greatest_50 ?_
      refine q_istore 53 rfl (by decide) dX7_greatest_51 ?_
      refine q_iinc1 56 rfl 1 k_i1 rfl (by decide) dX7_greatest_53 ?_
      refine q_goto 22 (by decide) dX7_greatest_56 ?_
      refine q_loc (ih _ ?_ _ ?_) (q_sub1 rfl (q_sub1 rfl (q_sub1 rfl (q_sub1 rfl (q_sub1 rfl (q_sub1 rfl (q_sub1 rfl (q_sub1 rfl q_sub0))))))))
      · rw [h_l]; rfl
      · rw [h_l, h_p, q4]; rfl
theorem greatest_lp {Z : q_Zt} {mc mz : Nat} {c s n : Nat} {Rl : Nat → Nat → Bool} (hG : GF ad G) (hc : N 77 2 = c) (hc9 : c ≤ 9) (hnx : ∀ g, g < c → N 87 g = mk (fun m => decide (g ≠ m) && Rl g m) c) (hs : s < 2 ^ c) (hn : n ≤ 3) (hr : ∀ k, k < n → N 90 k < c) (hx : q_R Γ mX7_greatest (q_room 1 mc mz) Z 0 0 94 [(3, .int (nI (mxf (gvl Rl c (N 90) s n) (27))))] [] (LT ad, N, L, G)) : ∀ i, i ≤ 27 →  ∀ b : Nat, b = mxf (gvl Rl c (N 90) s n) i → q_R Γ mX7_greatest (q_room 1 mc mz) Z 0 0 5 [(0, .ref (ad 77)), (1, .int (nI s)), (2, .int (nI n)), (3, .int (nI b)), (4, .int (nI i))] [] (LT ad, N, L, G) := by
  refine dn_loop (27) ?_ ?_
  · intro b h_b
    refine q_iload 7 rfl rfl dX7_greatest_5 ?_
    refine q_bipush 9 rfl 27 k_b27 dX7_greatest_7 ?_
    refine q_icmp_ge 12 rfl 94 (by decide) (by omega) (by omega) dX7_greatest_9 (fun h9 => ?_) (fun h9 => ?_)
    · rw [h_b]
      exact q_loc hx (q_sub1 rfl q_sub0)
    · exfalso; omega
  · intro i h_i ih b h_b
    have p9 := p2_9 hc9
    have q2 := gpt_le (Rl := Rl) (c := c) (r := N 90) (s := s) (a := i) n
    have q3 := gpt_lt (Rl := Rl) (c := c) (r := N 90) (s := s) (a := i) hs n
    have q5 := pc_le (gpt Rl c (N 90) s i n).1 26
    have q6 := mxf_le (f := gvl Rl c (N 90) s n) (fun _ => gvl_le) i
    have q7 : (gpt Rl c (N 90) s i n).2 > 0 → gvl Rl c (N 90) s n i = 0 := fun q => if_pos q
    have q8 : ¬ (gpt Rl c (N 90) s i n).2 > 0 → gvl Rl c (N 90) s n i = pc (gpt Rl c (N 90) s i n).1 26 := fun q => if_neg q
    refine q_iload 7 rfl rfl dX7_greatest_5 ?_
    refine q_bipush 9 rfl 27 k_b27 dX7_greatest_7 ?_
    refine q_icmp_ge 12 rfl 94 (by decide) (by omega) (by omega) dX7_greatest_9 (fun h9 => ?_) (fun h9 => ?_)
    · exfalso; omega
    · refine q_iload 14 rfl rfl dX7_greatest_12 ?_
      refine q_istore 16 rfl (by decide) dX7_greatest_14 ?_
      refine q_iload_n 17 rfl rfl dX7_greatest_16 ?_
      refine q_istore 19 rfl (by decide) dX7_greatest_17 ?_
      refine q_iconst 20 rfl 0 k_i0 dX7_greatest_19 ?_
      refine q_istore 22 rfl (by decide) dX7_greatest_20 ?_
      refine q_loc (greatest_in (N := N) (Rl := Rl) (a := i) hG hc hc9 hnx hs hn hr h_i ?_ 0 (by omega) _ rfl _ rfl) (q_sub1 rfl (q_sub1 rfl (q_sub1 rfl (q_sub1 rfl (q_sub1 rfl (q_sub1 rfl (q_sub1 rfl (q_sub1 rfl q_sub0))))))))
      refine q_iload 61 rfl rfl dX7_greatest_59 ?_
      refine q_ifN_le 64 rfl 68 (by decide) (by omega) dX7_greatest_61 (fun h61 => ?_) (fun h61 => ?_)
      · have q9 := q8 (by omega)
        refine q_iload 70 rfl rfl dX7_greatest_68 ?_
        refine q_cS1 73 rfl lX7_191 (k_bitsOf (by omega)) rfl rfl rfl dX7_greatest_70 ?_
        refine q_istore 75 rfl (by decide) dX7_greatest_73 ?_
        refine q_iload 77 rfl rfl dX7_greatest_75 ?_
        refine q_iload_n 78 rfl rfl dX7_greatest_77 ?_
        refine q_icmp_le 81 rfl 86 (by decide) (by omega) (by omega) dX7_greatest_78 (fun h78 => ?_) (fun h78 => ?_)
        · refine q_iload_n 87 rfl rfl dX7_greatest_86 ?_
          refine q_istore_n 88 rfl (by decide) dX7_greatest_87 ?_
          refine q_iinc1 91 rfl 1 k_i1 rfl (by decide) dX7_greatest_88 ?_
          refine q_goto 5 (by decide) dX7_greatest_91 ?_
          refine q_loc (ih _ ?_) (q_sub1 rfl (q_sub1 rfl (q_sub1 rfl (q_sub1 rfl (q_sub1 rfl q_sub0)))))
          · simp only [mxf]
            first
              | (rw [if_pos (by omega)]; omega)
              | (rw [if_neg (by omega)]; omega)
        · refine q_iload 83 rfl rfl dX7_greatest_81 ?_
          refine q_goto 87 (by decide) dX7_greatest_83 ?_
          refine q_istore_n 88 rfl (by decide) dX7_greatest_87 ?_
          refine q_iinc1 91 rfl 1 k_i1 rfl (by decide) dX7_greatest_88 ?_
          refine q_goto 5 (by decide) dX7_greatest_91 ?_
          refine q_loc (ih _ ?_) (q_sub1 rfl (q_sub1 rfl (q_sub1 rfl (q_sub1 rfl (q_sub1 rfl q_sub0)))))
          · simp only [mxf]
            first
              | (rw [if_pos (by omega)]; omega)
              | (rw [if_neg (by omega)]; omega)
      · have q9 := q7 (by omega)
        refine q_iconst 65 rfl 0 k_i0 dX7_greatest_64 ?_
        refine q_goto 73 (by decide) dX7_greatest_65 ?_
        refine q_istore 75 rfl (by decide) dX7_greatest_73 ?_
        refine q_iload 77 rfl rfl dX7_greatest_75 ?_
        refine q_iload_n 78 rfl rfl dX7_greatest_77 ?_
        refine q_icmp_le 81 rfl 86 (by decide) (by omega) (by omega) dX7_greatest_78 (fun h78 => ?_) (fun h78 => ?_)
        · refine q_iload_n 87 rfl rfl dX7_greatest_86 ?_
          refine q_istore_n 88 rfl (by decide) dX7_greatest_87 ?_
          refine q_iinc1 91 rfl 1 k_i1 rfl (by decide) dX7_greatest_88 ?_
          refine q_goto 5 (by decide) dX7_greatest_91 ?_
          refine q_loc (ih _ ?_) (q_sub1 rfl (q_sub1 rfl (q_sub1 rfl (q_sub1 rfl (q_sub1 rfl q_sub0)))))
          · simp only [mxf]
            first
              | (rw [if_pos (by omega)]; omega)
              | (rw [if_neg (by omega)]; omega)
        · refine q_iload 83 rfl rfl dX7_greatest_81 ?_
          refine q_goto 87 (by decide) dX7_greatest_83 ?_
          refine q_istore_n 88 rfl (by decide) dX7_greatest_87 ?_
          refine q_iinc1 91 rfl 1 k_i1 rfl (by decide) dX7_greatest_88 ?_
          refine q_goto 5 (by decide) dX7_greatest_91 ?_
          refine q_loc (ih _ ?_) (q_sub1 rfl (q_sub1 rfl (q_sub1 rfl (q_sub1 rfl (q_sub1 rfl q_sub0)))))
          · simp only [mxf]
            first
              | (rw [if_pos (by omega)]; omega)
              | (rw [if_neg (by omega)]; omega)
theorem k_greatest {c s n : Nat} {Rl : Nat → Nat → Bool} (hG : GF ad G) (hc : N 77 2 = c) (hc9 : c ≤ 9) (hnx : ∀ g, g < c → N 87 g = mk (fun m => decide (g ≠ m) && Rl g m) c) (hs : s < 2 ^ c) (hn : n ≤ 3) (hr : ∀ k, k < n → N 90 k < c) : q_Con Γ mX7_greatest 1 0 0 [.ref (ad 77), .int (nI s), .int (nI n)] (LT ad, N, L, G) (q_is (some (.int (nI (grt Rl c (N 90) s n)))) (LT ad, N, L, G)) := by
  refine q_con (by decide) rfl rfl (Nat.le_of_ble_eq_true rfl) ?_
  refine q_iconst 1 rfl 0 k_i0 dX7_greatest_0 ?_
  refine q_istore_n 2 rfl (by decide) dX7_greatest_1 ?_
  refine q_iconst 3 rfl 0 k_i0 dX7_greatest_2 ?_
  refine q_istore 5 rfl (by decide) dX7_greatest_3 ?_
  refine q_loc (greatest_lp (N := N) (Rl := Rl) hG hc hc9 hnx hs hn hr ?_ 0 (by omega) _ rfl) (q_sub1 rfl (q_sub1 rfl (q_sub1 rfl (q_sub1 rfl (q_sub1 rfl q_sub0)))))
  refine q_iload_n 95 rfl rfl dX7_greatest_94 ?_
  refine q_iret rfl dX7_greatest_95 ?_
  exact ⟨rfl, rfl⟩
theorem nI_dec (j : Nat) : nI (j + 1 + 4294967295) = nI j := by rw [← z_mod]; rw [show (j + 1 + 4294967295) % 4294967296 = j % 4294967296 by omega, z_mod]
theorem dig_div {w c n j : Nat} (hj : j < n) : w / c ^ (n - (j + 1)) / c = w / c ^ (n - j) := by
  have e : c ^ (n - j) = c ^ (n - (j + 1)) * c := by rw [← Nat.pow_succ]; congr 1; omega
  rw [Nat.div_div_eq_div_mul, e]
def DP (K H : Nat → Nat → Nat) (c n w j : Nat) : Prop := (∀ x, x ≠ 90 → H x = K x) ∧ ∀ k, j ≤ k → k < n → H 90 k = dig c n w k
theorem DP.step {K H : Nat → Nat → Nat} {c n w j : Nat} (h : DP K H c n w (j + 1)) (hj : j < n) : DP K (q_s H 90 j (w / c ^ (n - (j + 1)) % c)) c n w j := by
  refine ⟨fun x hx => (q_s_ne hx).trans (h.1 x hx), fun k h1 h2 => ?_⟩
  by_cases e : k = j
  · subst e; rw [q_s_at, dig, show n - 1 - k = n - (k + 1) by omega]
  · rw [q_s_off e]; exact h.2 k (by omega) h2
def RI (N H : Nat → Nat → Nat) (Rl : Nat → Nat → Bool) (c s n i : Nat) : Prop := (∀ x, x ≠ 90 → x ≠ 91 → H x = N x) ∧ (i ≠ 0 → ∀ k, k < n → H 91 k = dig c n (amin (gw Rl c s n) 1000 i).2 k)
theorem c_pos {s c : Nat} (h : s ≠ 0) (hs : s < 2 ^ c) : 1 ≤ c := by
  rcases Nat.eq_zero_or_pos c with e | e
  · rw [e] at hs; exact absurd (Nat.lt_one_iff.mp hs) h
  · exact e
theorem gw_le {Rl : Nat → Nat → Bool} {c s n w : Nat} : gw Rl c s n w ≤ 26 := grt_le
theorem row_dig {a w ways : Nat} {rm : Room} {Z : q_Zt} {c s n Y : Nat} {Rl : Nat → Nat → Bool} (hG : GF ad G) (hc : N 77 2 = c) (hc9 : c ≤ 9) (hc1 : 1 ≤ c) (hnx : ∀ g, g < c → N 87 g = mk (fun m => decide (g ≠ m) && Rl g m) c) (hs : s < 2 ^ c) (hn : n ≤ 3) (hn1 : 1 ≤ n) (hw : w < 1000) (hx : ∀ H, DP N H c n w 0 → q_R Γ mX7_row rm Z 0 0 131 [(0, .ref (ad 77)), (1, .int (nI n)), (2, .int (nI Y)), (3, .int (nI s)), (4, .int (nI ways)), (5, .int (nI a)), (6, .int (nI w))] [] (LT ad, H, L, G)) : ∀ j, j ≤ n → ∀ H, DP N H c n w j → ∀ l, l = w / c ^ (n - j) → q_R Γ mX7_row rm Z 0 0 97 [(0, .ref (ad 77)), (1, .int (nI n)), (2, .int (nI Y)), (3, .int (nI s)), (4, .int (nI ways)), (5, .int (nI a)), (6, .int (nI w)), (7, .int (nI l)), (8, .int (nI (j + 4294967295)))] [] (LT ad, H, L, G) := by
  intro j
  induction j with
  | zero =>
    intro _ H hH l hl
    refine q_iload 99 rfl rfl dX7_row_97 ?_
    refine q_ifS_lt 102 rfl 131 (by decide) dX7_row_99 (fun h99 => ?_) (fun h99 => ?_)
    · exact q_loc (hx H hH) (q_sub1 rfl (q_sub1 rfl (q_sub1 rfl (q_sub1 rfl (q_sub1 rfl (q_sub1 rfl (q_sub1 rfl q_sub0)))))))
    · exact absurd (by decide) h99
  | succ j ih =>
    intro hj H hH l hl
    have hl2 : l ≤ w := by rw [hl]; exact Nat.div_le_self _ _
    have e77 : H 77 2 = c := by rw [hH.1 77 (by decide)]; exact hc
    rw [nI_dec]
    refine q_iload 99 rfl rfl dX7_row_97 ?_
    refine q_ifN_lt 102 rfl 131 (by decide) (by omega) dX7_row_99 (fun h99 => ?_) (fun h99 => ?_)
    · exfalso; omega
    · refine q_aload_n 103 rfl rfl dX7_row_102 ?_
      refine q_getR 106 rfl fX7_47 rfl 77 t_77 (g_77_23 hG) dX7_row_103 ?_
      refine q_iload 108 rfl rfl dX7_row_106 ?_
      refine q_iload 110 rfl rfl dX7_row_108 ?_
      refine q_aload_n 111 rfl rfl dX7_row_110 ?_
      refine q_getI 114 rfl fX7_155 rfl 77 t_77 dX7_row_111 ?_
      refine q_irem 115 rfl (by omega) (by omega) (by omega) dX7_row_114 ?_
      refine q_iast 116 rfl 90 t_90 (by omega) (by decide) dX7_row_115 ?_
      refine q_iload 118 rfl rfl dX7_row_116 ?_
      refine q_aload_n 119 rfl rfl dX7_row_118 ?_
      refine q_getI 122 rfl fX7_155 rfl 77 t_77 dX7_row_119 ?_
      rw [show q_s H 90 j (l % H 77 2) 77 2 = c from e77]
      refine q_idiv 123 rfl (by omega) (by omega) (by omega) dX7_row_122 ?_
      refine q_istore 125 rfl (by decide) dX7_row_123 ?_
      refine q_iinc 128 rfl (j + 4294967295) rfl (by rw [k_im1, nI_add]) (by decide) dX7_row_125 ?_
      refine q_goto 97 (by decide) dX7_row_128 ?_
      refine q_loc (ih (by omega) _ ?_ _ ?_) (q_sub1 rfl (q_sub1 rfl (q_sub1 rfl (q_sub1 rfl (q_sub1 rfl (q_sub1 rfl (q_sub1 rfl (q_sub1 rfl (q_sub1 rfl q_sub0)))))))))
      · have := hH.step (by omega)
        rw [e77, hl]; exact this
      · rw [hl]; exact dig_div (show j < n by omega)
theorem row_cp {rm : Room} {Z : q_Zt} {n Y s ways a w : Nat} {H : Nat → Nat → Nat} (hG : GF ad G) (hn : n ≤ 3) (hx : q_R Γ mX7_row rm Z 0 0 179 [(0, .ref (ad 77)), (1, .int (nI n)), (2, .int (nI Y)), (3, .int (nI s)), (4, .int (nI ways)), (5, .int (nI a)), (6, .int (nI w))] [] (LT ad, (q_r H 91 (fun j => if j < (n) then H 90 j else H 91 j)), L, G)) : ∀ i, i ≤ n →  ∀ K : Nat → Nat → Nat, K = q_r H 91 (fun j => if j < i then H 90 j else H 91 j) → q_R Γ mX7_row rm Z 0 0 153 [(0, .ref (ad 77)), (1, .int (nI n)), (2, .int (nI Y)), (3, .int (nI s)), (4, .int (nI ways)), (5, .int (nI a)), (6, .int (nI w)), (9, .int (nI i))] [] (LT ad, K, L, G) := by
  refine dn_loop (n) ?_ ?_
  · intro K h_K
    refine q_iload 155 rfl rfl dX7_row_153 ?_
    refine q_iload_n 156 rfl rfl dX7_row_155 ?_
    refine q_icmp_ge 159 rfl 179 (by decide) (by omega) (by omega) dX7_row_156 (fun h156 => ?_) (fun h156 => ?_)
    · subst h_K
      exact q_loc hx (q_sub1 rfl (q_sub1 rfl (q_sub1 rfl (q_sub1 rfl (q_sub1 rfl (q_sub1 rfl (q_sub1 rfl q_sub0)))))))
    · exfalso; omega
  · intro i h_i ih K h_K
    have e90 : K 90 = H 90 := by rw [h_K]; rfl
    refine q_iload 155 rfl rfl dX7_row_153 ?_
    refine q_iload_n 156 rfl rfl dX7_row_155 ?_
    refine q_icmp_ge 159 rfl 179 (by decide) (by omega) (by omega) dX7_row_156 (fun h156 => ?_) (fun h156 => ?_)
    · exfalso; omega
    · refine q_aload_n 160 rfl rfl dX7_row_159 ?_
      refine q_getR 163 rfl fX7_50 rfl 77 t_77 (g_77_24 hG) dX7_row_160 ?_
      refine q_iload 165 rfl rfl dX7_row_163 ?_
      refine q_aload_n 166 rfl rfl dX7_row_165 ?_
      refine q_getR 169 rfl fX7_47 rfl 77 t_77 (g_77_23 hG) dX7_row_166 ?_
      refine q_iload 171 rfl rfl dX7_row_169 ?_
      refine q_iald 172 rfl 90 t_90 (by omega) (by decide) dX7_row_171 ?_
      refine q_iast 173 rfl 91 t_91 (by omega) (by decide) dX7_row_172 ?_
      refine q_iinc1 176 rfl 1 k_i1 rfl (by decide) dX7_row_173 ?_
      refine q_goto 153 (by decide) dX7_row_176 ?_
      refine q_loc (ih _ ?_) (q_sub1 rfl (q_sub1 rfl (q_sub1 rfl (q_sub1 rfl (q_sub1 rfl (q_sub1 rfl (q_sub1 rfl (q_sub1 rfl q_sub0))))))))
      · rw [e90, h_K]
        exact fil_s H 91 (H 90) i
theorem row_ways {rm : Room} {Z : q_Zt} {c n Y s : Nat} (hG : GF ad G) (hc : N 77 2 = c) (hn : n ≤ 3) (hx : q_R Γ mX7_row rm Z 0 0 78 [(0, .ref (ad 77)), (1, .int (nI n)), (2, .int (nI Y)), (3, .int (nI s)), (4, .int (nI (c ^ (n)))), (5, .int (nI 1000))] [] (LT ad, N, L, G)) : ∀ i, i ≤ n →  ∀ p : Nat, p = c ^ i → q_R Γ mX7_row rm Z 0 0 57 [(0, .ref (ad 77)), (1, .int (nI n)), (2, .int (nI Y)), (3, .int (nI s)), (4, .int (nI p)), (5, .int (nI 1000)), (6, .int (nI i))] [] (LT ad, N, L, G) := by
  refine dn_loop (n) ?_ ?_
  · intro p h_p
    refine q_iload 59 rfl rfl dX7_row_57 ?_
    refine q_iload_n 60 rfl rfl dX7_row_59 ?_
    refine q_icmp_ge 63 rfl 78 (by decide) (by omega) (by omega) dX7_row_60 (fun h60 => ?_) (fun h60 => ?_)
    · subst h_p
      exact q_loc hx (q_sub1 rfl (q_sub1 rfl (q_sub1 rfl (q_sub1 rfl (q_sub1 rfl (q_sub1 rfl q_sub0))))))
    · exfalso; omega
  · intro i h_i ih p h_p
    refine q_iload 59 rfl rfl dX7_row_57 ?_
    refine q_iload_n 60 rfl rfl dX7_row_59 ?_
    refine q_icmp_ge 63 rfl 78 (by decide) (by omega) (by omega) dX7_row_60 (fun h60 => ?_) (fun h60 => ?_)
    · exfalso; omega
    · refine q_iload 65 rfl rfl dX7_row_63 ?_
      refine q_aload_n 66 rfl rfl dX7_row_65 ?_
      refine q_getI 69 rfl fX7_155 rfl 77 t_77 dX7_row_66 ?_
      refine q_imul 70 rfl dX7_row_69 ?_
      refine q_istore 72 rfl (by decide) dX7_row_70 ?_
      refine q_iinc1 75 rfl 1 k_i1 rfl (by decide) dX7_row_72 ?_
      refine q_goto 57 (by decide) dX7_row_75 ?_
      refine q_loc (ih _ ?_) (q_sub1 rfl (q_sub1 rfl (q_sub1 rfl (q_sub1 rfl (q_sub1 rfl (q_sub1 rfl (q_sub1 rfl q_sub0)))))))
      · rw [h_p, hc]; rfl
theorem row_lp {Z : q_Zt} {mc mz : Nat} {c s n Y : Nat} {Rl : Nat → Nat → Bool} (hG : GF ad G) (hc : N 77 2 = c) (hc9 : c ≤ 9) (hc1 : 1 ≤ c) (hnx : ∀ g, g < c → N 87 g = mk (fun m => decide (g ≠ m) && Rl g m) c) (hs : s < 2 ^ c) (hn : n ≤ 3) (hn1 : 1 ≤ n) (hw : c ^ n ≤ 729) (hx : ∀ H : Nat → Nat → Nat, RI N H Rl c s n (c ^ n) → q_R Γ mX7_row (q_room 6 mc mz) Z 0 0 185 [(0, .ref (ad 77)), (2, .int (nI Y)), (5, .int (nI ((amin (gw Rl c s n) 1000 (c ^ n)).1)))] [] (LT ad, H, L, G)) : ∀ i, i ≤ c ^ n →  ∀ a : Nat, a = (amin (gw Rl c s n) 1000 i).1 → ∀ H : Nat → Nat → Nat, RI N H Rl c s n i → q_R Γ mX7_row (q_room 6 mc mz) Z 0 0 81 [(0, .ref (ad 77)), (1, .int (nI n)), (2, .int (nI Y)), (3, .int (nI s)), (4, .int (nI (c ^ n))), (5, .int (nI a)), (6, .int (nI i))] [] (LT ad, H, L, G) := by
  refine dn_loop (c ^ n) ?_ ?_
  · intro a h_a H h_H
    refine q_iload 83 rfl rfl dX7_row_81 ?_
    refine q_iload 85 rfl rfl dX7_row_83 ?_
    refine q_icmp_ge 88 rfl 185 (by decide) (by omega) (by omega) dX7_row_85 (fun h85 => ?_) (fun h85 => ?_)
    · subst h_a
      exact q_loc (hx _ h_H) (q_sub1 rfl (q_sub1 rfl (q_sub1 rfl q_sub0)))
    · exfalso; omega
  · intro i h_i ih a h_a H h_H
    have q1 := amin_le (gw Rl c s n) 1000 i
    have q2 := gw_le (Rl := Rl) (c := c) (s := s) (n := n) (w := i)
    refine q_iload 83 rfl rfl dX7_row_81 ?_
    refine q_iload 85 rfl rfl dX7_row_83 ?_
    refine q_icmp_ge 88 rfl 185 (by decide) (by omega) (by omega) dX7_row_85 (fun h85 => ?_) (fun h85 => ?_)
    · exfalso; omega
    · refine q_iload 90 rfl rfl dX7_row_88 ?_
      refine q_istore 92 rfl (by decide) dX7_row_90 ?_
      refine q_iload_n 93 rfl rfl dX7_row_92 ?_
      refine q_iconst 94 rfl 1 k_i1 dX7_row_93 ?_
      refine q_isub 95 rfl (by omega) dX7_row_94 ?_
      refine q_istore 97 rfl (by decide) dX7_row_95 ?_
      refine q_loc (row_dig (N := H) (Rl := Rl) (w := i) (a := a) (ways := c ^ n) (Y := Y) (c := c) (n := n) (s := s) hG (by rw [h_H.1 77 (by decide) (by decide)]; exact hc) hc9 hc1 (by rw [h_H.1 87 (by decide) (by decide)]; exact hnx) hs hn hn1 (by omega) ?_ n (by omega) H ⟨fun _ _ => rfl, fun k h1 h2 => by omega⟩ i (by rw [Nat.sub_self]; simp)) ?_
      rotate_left
      · refine q_sub1 rfl (q_sub1 rfl (q_sub1 rfl (q_sub1 rfl (q_sub1 rfl (q_sub1 rfl (q_sub1 rfl (q_sub1 rfl (q_sub1 ?_ q_sub0))))))))
        rw [show nI (n + 4294967295) = nI (n - 1) by rw [show n + 4294967295 = (n - 1) + 1 + 4294967295 by omega, nI_dec]]
        rfl
      intro K hK
      refine q_aload_n 132 rfl rfl dX7_row_131 ?_
      refine q_iload_n 133 rfl rfl dX7_row_132 ?_
      refine q_iload_n 134 rfl rfl dX7_row_133 ?_
      refine q_cV2 137 rfl lX7_255 (k_greatest (N := K) (Rl := Rl) hG (by rw [hK.1 77 (by decide), h_H.1 77 (by decide) (by decide)]; exact hc) hc9 (by rw [hK.1 87 (by decide), h_H.1 87 (by decide) (by decide)]; exact hnx) hs hn (fun k hk => by rw [hK.2 k (by omega) hk]; exact Nat.mod_lt _ (by omega))) rfl 77 t_77 rfl rfl rfl dX7_row_134 ?_
      rw [show grt Rl c (K 90) s n = gw Rl c s n i from grt_congr (fun k hk => hK.2 k (by omega) hk)]
      refine q_istore 139 rfl (by decide) dX7_row_137 ?_
      refine q_iload 141 rfl rfl dX7_row_139 ?_
      refine q_iload 143 rfl rfl dX7_row_141 ?_
      refine q_icmp_ge 146 rfl 179 (by decide) (by omega) (by omega) dX7_row_143 (fun h143 => ?_) (fun h143 => ?_)
      · refine q_iinc1 182 rfl 1 k_i1 rfl (by decide) dX7_row_179 ?_
        refine q_goto 81 (by decide) dX7_row_182 ?_
        refine q_loc (ih _ ?_ _ ?_) (q_sub1 rfl (q_sub1 rfl (q_sub1 rfl (q_sub1 rfl (q_sub1 rfl (q_sub1 rfl (q_sub1 rfl q_sub0)))))))
        · simp only [amin]
          first
            | (rw [if_pos (by omega)]; done)
            | (rw [if_neg (by omega)]; exact h_a)
        · have q3 : amin (gw Rl c s n) 1000 (i + 1) = if gw Rl c s n i < (amin (gw Rl c s n) 1000 i).1 then (gw Rl c s n i, i) else amin (gw Rl c s n) 1000 i := rfl
          first
            | (have q4 : gw Rl c s n i < (amin (gw Rl c s n) 1000 i).1 := by omega
               refine ⟨fun x h1 h2 => ?_, fun _ k hk => ?_⟩
               · rw [q_r_ne h2, hK.1 x h1]; exact h_H.1 x h1 h2
               · rw [q_r_at, if_pos hk, q3, if_pos q4]; exact hK.2 k (by omega) hk)
            | (have q4 : ¬ gw Rl c s n i < (amin (gw Rl c s n) 1000 i).1 := by omega
               refine ⟨fun x h1 h2 => by rw [hK.1 x h1]; exact h_H.1 x h1 h2, fun _ k hk => ?_⟩
               rw [q3, if_neg q4, hK.1 91 (by decide)]
               refine h_H.2 ?_ k hk
               intro e0; subst e0
               exact q4 (by show gw Rl c s n 0 < 1000; omega))
      · refine q_iload 148 rfl rfl dX7_row_146 ?_
        refine q_istore 150 rfl (by decide) dX7_row_148 ?_
        refine q_iconst 151 rfl 0 k_i0 dX7_row_150 ?_
        refine q_istore 153 rfl (by decide) dX7_row_151 ?_
        refine q_loc (row_cp (H := K) hG hn ?_ 0 (by omega) _ ?_) (q_sub1 rfl (q_sub1 rfl (q_sub1 rfl (q_sub1 rfl (q_sub1 rfl (q_sub1 rfl (q_sub1 rfl (q_sub1 rfl q_sub0))))))))
        rotate_left
        · funext x y; simp only [q_r]; by_cases hx1 : x = 91 <;> simp [hx1]
        refine q_iinc1 182 rfl 1 k_i1 rfl (by decide) dX7_row_179 ?_
        refine q_goto 81 (by decide) dX7_row_182 ?_
        refine q_loc (ih _ ?_ _ ?_) (q_sub1 rfl (q_sub1 rfl (q_sub1 rfl (q_sub1 rfl (q_sub1 rfl (q_sub1 rfl (q_sub1 rfl q_sub0)))))))
        · simp only [amin]
          first
            | (rw [if_pos (by omega)]; done)
            | (rw [if_neg (by omega)]; exact h_a)
        · have q3 : amin (gw Rl c s n) 1000 (i + 1) = if gw Rl c s n i < (amin (gw Rl c s n) 1000 i).1 then (gw Rl c s n i, i) else amin (gw Rl c s n) 1000 i := rfl
          first
            | (have q4 : gw Rl c s n i < (amin (gw Rl c s n) 1000 i).1 := by omega
               refine ⟨fun x h1 h2 => ?_, fun _ k hk => ?_⟩
               · rw [q_r_ne h2, hK.1 x h1]; exact h_H.1 x h1 h2
               · rw [q_r_at, if_pos hk, q3, if_pos q4]; exact hK.2 k (by omega) hk)
            | (have q4 : ¬ gw Rl c s n i < (amin (gw Rl c s n) 1000 i).1 := by omega
               refine ⟨fun x h1 h2 => by rw [hK.1 x h1]; exact h_H.1 x h1 h2, fun _ k hk => ?_⟩
               rw [q3, if_neg q4, hK.1 91 (by decide)]
               refine h_H.2 ?_ k hk
               intro e0; subst e0
               exact q4 (by show gw Rl c s n 0 < 1000; omega))
theorem k_row7 {X Y : Nat} {c : Nat} (hG : GF ad G) (hM : MS N c) (hX : X < 4294967296) (hY : Y < 4294967296) : q_Con Γ mX7_row 6 0 0 [.ref (ad 77), .int (nI X), .int (nI Y)] (LT ad, N, L, G) (q_sc ad N G (.int (nI (rwv (R7 N) c X Y (can7 N c (R7 N) (N 78 40)))))) := by
  obtain ⟨hc, hc9, hb, hl, hs, hk, hms, hpr, hg9, hh, hgn, hga, hod, ho1⟩ := id hM
  have hcl : can7 N c (R7 N) (N 78 40) < 512 := can_lt hc9
  have hcc : can7 N c (R7 N) (N 78 40) < 2 ^ c := mk_lt _ c
  generalize hsd : can7 N c (R7 N) (N 78 40) = s at *
  have hc1 : s ≠ 0 → 1 ≤ c := fun q => c_pos q hcc
  have hpw : X ≤ 3 → c ^ X ≤ 729 := fun q => Nat.le_trans (Nat.pow_le_pow_left hc9 X) (Nat.pow_le_pow_right (n := 9) (i := X) (j := 3) (by omega) q)
  have hp1 : 1 ≤ c → 1 ≤ c ^ X := fun q => Nat.pow_pos q
  refine q_con (by decide) rfl rfl (Nat.le_of_ble_eq_true rfl) ?_
  refine q_iload_n 1 rfl rfl dX7_row_0 ?_
  refine q_i2l 2 rfl dX7_row_1 ?_
  refine q_lconst 3 rfl 1 lN1 dX7_row_2 ?_
  refine q_ldc2 6 rfl (3) klX7_135 rfl dX7_row_3 ?_
  refine q_cS3 9 rfl lX7_68 (k_in hX (by omega) (by omega) rfl (by omega) (by omega)) rfl rfl rfl dX7_row_6 ?_
  refine q_if_eqD 12 rfl 32 (by decide) dX7_row_9 (fun h9 => ?_) (fun h9 => ?_)
  · refine q_iconst 33 rfl 4294967295 k_im1 dX7_row_32 ?_
    refine q_iret rfl dX7_row_33 ?_
    first
      | (refine ⟨?_, _, _, rfl, Sc.rf⟩; rw [rwv, if_neg (by omega)]; done)
      | (refine ⟨?_, _, _, rfl, Sc.now⟩; rw [rwv, if_pos (by omega), if_pos (by assumption)]; done)
      | (refine ⟨?_, _, _, rfl, fun a h1 h2 h3 h4 => (h_H.1 a h3 h4).trans (now7_ne h1)⟩; rw [rwv, if_pos (by omega), if_neg (by assumption), if_pos (by assumption)]; done)
      | (refine ⟨?_, _, _, rfl, fun a h1 h2 h3 h4 => (h_H.1 a h3 h4).trans (now7_ne h1)⟩; rw [rwv, if_pos (by omega), if_neg (by assumption), if_neg (by assumption), e91 _ (by omega)])
  · refine q_iload_n 13 rfl rfl dX7_row_12 ?_
    refine q_if_eq 16 rfl 34 (by decide) (by omega) dX7_row_13 (fun h13 => ?_) (fun h13 => ?_)
    · refine q_aload_n 35 rfl rfl dX7_row_34 ?_
      refine q_cV0 38 rfl lX7_221 (by have := k_canNow (Γ := Γ) (L := L) hG hM; rw [hsd] at this; exact this) rfl 77 t_77 rfl rfl rfl dX7_row_35 ?_
      refine q_istore_n 39 rfl (by decide) dX7_row_38 ?_
      refine q_iload_n 40 rfl rfl dX7_row_39 ?_
      refine q_if_ne 43 rfl 46 (by decide) (by omega) dX7_row_40 (fun h40 => ?_) (fun h40 => ?_)
      · refine q_iconst 47 rfl 1 k_i1 dX7_row_46 ?_
        refine q_istore 49 rfl (by decide) dX7_row_47 ?_
        refine q_sipush 52 rfl 1000 k_s1000 dX7_row_49 ?_
        refine q_istore 54 rfl (by decide) dX7_row_52 ?_
        refine q_iconst 55 rfl 0 k_i0 dX7_row_54 ?_
        refine q_istore 57 rfl (by decide) dX7_row_55 ?_
        refine q_loc (row_ways (N := now7 N c) hG hc (by omega) ?_ 0 (by omega) _ rfl) (q_sub1 rfl (q_sub1 rfl (q_sub1 rfl (q_sub1 rfl (q_sub1 rfl (q_sub1 rfl (q_sub1 rfl q_sub0)))))))
        refine q_iconst 79 rfl 0 k_i0 dX7_row_78 ?_
        refine q_istore 81 rfl (by decide) dX7_row_79 ?_
        have hcp := hc1 (by assumption)
        have hpw2 := hpw (by omega)
        refine q_loc (row_lp (N := now7 N c) (Rl := R7 N) hG hc hc9 hcp (fun g hg => now7_87 hg) hcc (by omega) (by omega) hpw2 ?_ 0 (by omega) _ rfl _ ⟨fun _ _ _ => rfl, fun q => absurd rfl q⟩) (q_sub1 rfl (q_sub1 rfl (q_sub1 rfl (q_sub1 rfl (q_sub1 rfl (q_sub1 rfl (q_sub1 rfl q_sub0)))))))
        intro H h_H
        have e91 := h_H.2 (by have := hp1 hcp; omega)
        refine q_iload_n 186 rfl rfl dX7_row_185 ?_
        refine q_if_ne 189 rfl 194 (by decide) (by omega) dX7_row_186 (fun h186 => ?_) (fun h186 => ?_)
        · refine q_aload_n 195 rfl rfl dX7_row_194 ?_
          refine q_getR 198 rfl fX7_50 rfl 77 t_77 (g_77_24 hG) dX7_row_195 ?_
          refine q_iload_n 199 rfl rfl dX7_row_198 ?_
          refine q_bipush 201 rfl 10 k_b10 dX7_row_199 ?_
          refine q_isub 202 rfl (by omega) dX7_row_201 ?_
          refine q_iald 203 rfl 91 t_91 (by omega) (by decide) dX7_row_202 ?_
          refine q_iret rfl dX7_row_203 ?_
          first
            | (refine ⟨?_, _, _, rfl, Sc.rf⟩; rw [rwv, if_neg (by omega)]; done)
            | (refine ⟨?_, _, _, rfl, Sc.now⟩; rw [rwv, if_pos (by omega), if_pos (by assumption)]; done)
            | (refine ⟨?_, _, _, rfl, fun a h1 h2 h3 h4 => (h_H.1 a h3 h4).trans (now7_ne h1)⟩; rw [rwv, if_pos (by omega), if_neg (by assumption), if_pos (by assumption)]; done)
            | (refine ⟨?_, _, _, rfl, fun a h1 h2 h3 h4 => (h_H.1 a h3 h4).trans (now7_ne h1)⟩; rw [rwv, if_pos (by omega), if_neg (by assumption), if_neg (by assumption), e91 _ (by omega)])
        · refine q_iload 191 rfl rfl dX7_row_189 ?_
          refine q_goto 203 (by decide) dX7_row_191 ?_
          refine q_iret rfl dX7_row_203 ?_
          first
            | (refine ⟨?_, _, _, rfl, Sc.rf⟩; rw [rwv, if_neg (by omega)]; done)
            | (refine ⟨?_, _, _, rfl, Sc.now⟩; rw [rwv, if_pos (by omega), if_pos (by assumption)]; done)
            | (refine ⟨?_, _, _, rfl, fun a h1 h2 h3 h4 => (h_H.1 a h3 h4).trans (now7_ne h1)⟩; rw [rwv, if_pos (by omega), if_neg (by assumption), if_pos (by assumption)]; done)
            | (refine ⟨?_, _, _, rfl, fun a h1 h2 h3 h4 => (h_H.1 a h3 h4).trans (now7_ne h1)⟩; rw [rwv, if_pos (by omega), if_neg (by assumption), if_neg (by assumption), e91 _ (by omega)])
      · refine q_bipush 45 rfl 4294967294 k_bm2 dX7_row_43 ?_
        refine q_iret rfl dX7_row_45 ?_
        first
          | (refine ⟨?_, _, _, rfl, Sc.rf⟩; rw [rwv, if_neg (by omega)]; done)
          | (refine ⟨?_, _, _, rfl, Sc.now⟩; rw [rwv, if_pos (by omega), if_pos (by assumption)]; done)
          | (refine ⟨?_, _, _, rfl, fun a h1 h2 h3 h4 => (h_H.1 a h3 h4).trans (now7_ne h1)⟩; rw [rwv, if_pos (by omega), if_neg (by assumption), if_pos (by assumption)]; done)
          | (refine ⟨?_, _, _, rfl, fun a h1 h2 h3 h4 => (h_H.1 a h3 h4).trans (now7_ne h1)⟩; rw [rwv, if_pos (by omega), if_neg (by assumption), if_neg (by assumption), e91 _ (by omega)])
    · refine q_iload_n 17 rfl rfl dX7_row_16 ?_
      refine q_i2l 18 rfl dX7_row_17 ?_
      refine q_ldc2 21 rfl (10) klX7_163 rfl dX7_row_18 ?_
      refine q_bipush 23 rfl 9 k_b9 dX7_row_21 ?_
      refine q_iload_n 24 rfl rfl dX7_row_23 ?_
      refine q_iadd 25 rfl dX7_row_24 ?_
      refine q_i2l 26 rfl dX7_row_25 ?_
      refine q_cS3 29 rfl lX7_68 (k_in hY (by omega) (by omega) (z_s_lo (a := 9 + X) (by omega)) (by omega) (by omega)) rfl rfl rfl dX7_row_26 ?_
      refine q_if_neD 32 rfl 34 (by decide) dX7_row_29 (fun h29 => ?_) (fun h29 => ?_)
      · refine q_aload_n 35 rfl rfl dX7_row_34 ?_
        refine q_cV0 38 rfl lX7_221 (by have := k_canNow (Γ := Γ) (L := L) hG hM; rw [hsd] at this; exact this) rfl 77 t_77 rfl rfl rfl dX7_row_35 ?_
        refine q_istore_n 39 rfl (by decide) dX7_row_38 ?_
        refine q_iload_n 40 rfl rfl dX7_row_39 ?_
        refine q_if_ne 43 rfl 46 (by decide) (by omega) dX7_row_40 (fun h40 => ?_) (fun h40 => ?_)
        · refine q_iconst 47 rfl 1 k_i1 dX7_row_46 ?_
          refine q_istore 49 rfl (by decide) dX7_row_47 ?_
          refine q_sipush 52 rfl 1000 k_s1000 dX7_row_49 ?_
          refine q_istore 54 rfl (by decide) dX7_row_52 ?_
          refine q_iconst 55 rfl 0 k_i0 dX7_row_54 ?_
          refine q_istore 57 rfl (by decide) dX7_row_55 ?_
          refine q_loc (row_ways (N := now7 N c) hG hc (by omega) ?_ 0 (by omega) _ rfl) (q_sub1 rfl (q_sub1 rfl (q_sub1 rfl (q_sub1 rfl (q_sub1 rfl (q_sub1 rfl (q_sub1 rfl q_sub0)))))))
          refine q_iconst 79 rfl 0 k_i0 dX7_row_78 ?_
          refine q_istore 81 rfl (by decide) dX7_row_79 ?_
          have hcp := hc1 (by assumption)
          have hpw2 := hpw (by omega)
          refine q_loc (row_lp (N := now7 N c) (Rl := R7 N) hG hc hc9 hcp (fun g hg => now7_87 hg) hcc (by omega) (by omega) hpw2 ?_ 0 (by omega) _ rfl _ ⟨fun _ _ _ => rfl, fun q => absurd rfl q⟩) (q_sub1 rfl (q_sub1 rfl (q_sub1 rfl (q_sub1 rfl (q_sub1 rfl (q_sub1 rfl (q_sub1 rfl q_sub0)))))))
          intro H h_H
          have e91 := h_H.2 (by have := hp1 hcp; omega)
          refine q_iload_n 186 rfl rfl dX7_row_185 ?_
          refine q_if_ne 189 rfl 194 (by decide) (by omega) dX7_row_186 (fun h186 => ?_) (fun h186 => ?_)
          · refine q_aload_n 195 rfl rfl dX7_row_194 ?_
            refine q_getR 198 rfl fX7_50 rfl 77 t_77 (g_77_24 hG) dX7_row_195 ?_
            refine q_iload_n 199 rfl rfl dX7_row_198 ?_
            refine q_bipush 201 rfl 10 k_b10 dX7_row_199 ?_
            refine q_isub 202 rfl (by omega) dX7_row_201 ?_
            refine q_iald 203 rfl 91 t_91 (by omega) (by decide) dX7_row_202 ?_
            refine q_iret rfl dX7_row_203 ?_
            first
              | (refine ⟨?_, _, _, rfl, Sc.rf⟩; rw [rwv, if_neg (by omega)]; done)
              | (refine ⟨?_, _, _, rfl, Sc.now⟩; rw [rwv, if_pos (by omega), if_pos (by assumption)]; done)
              | (refine ⟨?_, _, _, rfl, fun a h1 h2 h3 h4 => (h_H.1 a h3 h4).trans (now7_ne h1)⟩; rw [rwv, if_pos (by omega), if_neg (by assumption), if_pos (by assumption)]; done)
              | (refine ⟨?_, _, _, rfl, fun a h1 h2 h3 h4 => (h_H.1 a h3 h4).trans (now7_ne h1)⟩; rw [rwv, if_pos (by omega), if_neg (by assumption), if_neg (by assumption), e91 _ (by omega)])
          · refine q_iload 191 rfl rfl dX7_row_189 ?_
            refine q_goto 203 (by decide) dX7_row_191 ?_
            refine q_iret rfl dX7_row_203 ?_
            first
              | (refine ⟨?_, _, _, rfl, Sc.rf⟩; rw [rwv, if_neg (by omega)]; done)
              | (refine ⟨?_, _, _, rfl, Sc.now⟩; rw [rwv, if_pos (by omega), if_pos (by assumption)]; done)
              | (refine ⟨?_, _, _, rfl, fun a h1 h2 h3 h4 => (h_H.1 a h3 h4).trans (now7_ne h1)⟩; rw [rwv, if_pos (by omega), if_neg (by assumption), if_pos (by assumption)]; done)
              | (refine ⟨?_, _, _, rfl, fun a h1 h2 h3 h4 => (h_H.1 a h3 h4).trans (now7_ne h1)⟩; rw [rwv, if_pos (by omega), if_neg (by assumption), if_neg (by assumption), e91 _ (by omega)])
        · refine q_bipush 45 rfl 4294967294 k_bm2 dX7_row_43 ?_
          refine q_iret rfl dX7_row_45 ?_
          first
            | (refine ⟨?_, _, _, rfl, Sc.rf⟩; rw [rwv, if_neg (by omega)]; done)
            | (refine ⟨?_, _, _, rfl, Sc.now⟩; rw [rwv, if_pos (by omega), if_pos (by assumption)]; done)
            | (refine ⟨?_, _, _, rfl, fun a h1 h2 h3 h4 => (h_H.1 a h3 h4).trans (now7_ne h1)⟩; rw [rwv, if_pos (by omega), if_neg (by assumption), if_pos (by assumption)]; done)
            | (refine ⟨?_, _, _, rfl, fun a h1 h2 h3 h4 => (h_H.1 a h3 h4).trans (now7_ne h1)⟩; rw [rwv, if_pos (by omega), if_neg (by assumption), if_neg (by assumption), e91 _ (by omega)])
      · refine q_iconst 33 rfl 4294967295 k_im1 dX7_row_32 ?_
        refine q_iret rfl dX7_row_33 ?_
        first
          | (refine ⟨?_, _, _, rfl, Sc.rf⟩; rw [rwv, if_neg (by omega)]; done)
          | (refine ⟨?_, _, _, rfl, Sc.now⟩; rw [rwv, if_pos (by omega), if_pos (by assumption)]; done)
          | (refine ⟨?_, _, _, rfl, fun a h1 h2 h3 h4 => (h_H.1 a h3 h4).trans (now7_ne h1)⟩; rw [rwv, if_pos (by omega), if_neg (by assumption), if_pos (by assumption)]; done)
          | (refine ⟨?_, _, _, rfl, fun a h1 h2 h3 h4 => (h_H.1 a h3 h4).trans (now7_ne h1)⟩; rw [rwv, if_pos (by omega), if_neg (by assumption), if_neg (by assumption), e91 _ (by omega)])
end
