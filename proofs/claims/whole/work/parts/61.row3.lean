/-- rows that go upwards; a shorter one is told as three -/
def al (c n x y z : Nat) : Prop := x < c ∧ x ≤ y ∧ y < c ∧ (n ≤ 1 → y = x) ∧ y ≤ z ∧ z < c ∧ (n ≤ 2 → z = y)
/-- find() has come to p -/
def RW (N H : Nat → Nat → Nat) (Rl : Nat → Nat → Bool) (c s n p : Nat) : Prop := (∀ a, a ≠ 45 → a ≠ 46 → a ≠ 47 → H a = N a) ∧ H 45 2 ≤ 10 ∧ (∀ x y z, al c n x y z → 81 * x + 9 * y + z < p → H 45 2 ≤ G3 Rl c s x y z) ∧ (H 45 2 < 10 → al c n (H 46 0) (H 46 1) (H 46 2) ∧ G3 Rl c s (H 46 0) (H 46 1) (H 46 2) = H 45 2 ∧ ∀ x y z, al c n x y z → 81 * x + 9 * y + z < 81 * H 46 0 + 9 * H 46 1 + H 46 2 → H 45 2 < G3 Rl c s x y z)
theorem RW_skip {N H : Nat → Nat → Nat} {Rl : Nat → Nat → Bool} {c s n p q : Nat} (h : RW N H Rl c s n p) (hn : ∀ x y z, al c n x y z → p ≤ 81 * x + 9 * y + z → ¬ 81 * x + 9 * y + z < q) : RW N H Rl c s n q := by
  obtain ⟨h1, h2, h3, h4⟩ := h
  refine ⟨h1, h2, fun x y z ha hw => ?_, h4⟩
  rcases Nat.lt_or_ge (81 * x + 9 * y + z) p with q1 | q1
  · exact h3 x y z ha q1
  · exact absurd hw (hn x y z ha q1)
theorem RW_step {N H : Nat → Nat → Nat} {Rl : Nat → Nat → Bool} {c s n a b d : Nat} (hc : c ≤ 9) (h : RW N H Rl c s n (81 * a + 9 * b + d)) (hal : al c n a b d) : RW N (wgh H Rl c s a b d) Rl c s n (81 * a + 9 * b + (d + 1)) := by
  obtain ⟨h1, h2, h3, h4⟩ := h
  have uniq : ∀ x y z, al c n x y z → 81 * x + 9 * y + z < 81 * a + 9 * b + (d + 1) → (81 * x + 9 * y + z < 81 * a + 9 * b + d) ∨ (x = a ∧ y = b ∧ z = d) := by
    intro x y z h5 h6
    unfold al at h5 hal
    omega
  by_cases hg : G3 Rl c s a b d < H 45 2
  · have e : wgh H Rl c s a b d = q_s (q_s (q_s (q_s (fil H 47 (cw (trv Rl a b d) s c) 27) 45 2 (G3 Rl c s a b d)) 46 0 a) 46 1 b) 46 2 d := by rw [wgh, if_pos hg]
    have e45 : wgh H Rl c s a b d 45 2 = G3 Rl c s a b d := by rw [e, q_s_ne (by omega), q_s_ne (by omega), q_s_ne (by omega), q_s_at]
    have e0 : wgh H Rl c s a b d 46 0 = a := by rw [e, q_s_off (by omega), q_s_off (by omega), q_s_at]
    have e1 : wgh H Rl c s a b d 46 1 = b := by rw [e, q_s_off (by omega), q_s_at]
    have e2 : wgh H Rl c s a b d 46 2 = d := by rw [e, q_s_at]
    unfold RW
    rw [e45, e0, e1, e2]
    refine ⟨fun x q1 q2 q3 => ?_, by omega, fun x y z ha hw => ?_, fun _ => ⟨hal, rfl, fun x y z ha hw => ?_⟩⟩
    · rw [e, q_s_ne q2, q_s_ne q2, q_s_ne q2, q_s_ne q1, fil_ne q3]; exact h1 x q1 q2 q3
    · rcases uniq x y z ha hw with q | ⟨q1, q2, q3⟩
      · have := h3 x y z ha q; omega
      · rw [q1, q2, q3]; exact Nat.le_refl _
    · have := h3 x y z ha hw; omega
  · have e : wgh H Rl c s a b d = fil H 47 (cw (trv Rl a b d) s c) 27 := by rw [wgh, if_neg hg]
    have e45 : wgh H Rl c s a b d 45 = H 45 := by rw [e, fil_ne (by omega)]
    have e46 : wgh H Rl c s a b d 46 = H 46 := by rw [e, fil_ne (by omega)]
    unfold RW
    rw [e45, e46]
    refine ⟨fun x q1 q2 q3 => ?_, h2, fun x y z ha hw => ?_, h4⟩
    · rw [e, fil_ne q3]; exact h1 x q1 q2 q3
    · rcases uniq x y z ha hw with q | ⟨q1, q2, q3⟩
      · exact h3 x y z ha q
      · rw [q1, q2, q3]; omega
section
variable {Γ : q_G} {ad : Nat → Nat} {N : Nat → Nat → Nat} {L : Nat → Nat → Int} {G : Nat → Nat → Option Nat}
theorem find_c {Z : q_Zt} {a b lb lc mc mz : Nat} {c s n : Nat} {Rl : Nat → Nat → Bool} (hG : GF ad G) (hc9 : c ≤ 9) (hs : s < 2 ^ c) (hr : ∀ g, g < c → N 36 g = mk (Rl g) c) (hn : n ≤ 3) (hlc : lc < c) (hal : ∀ i, b ≤ i → i ≤ lc → al c n a b i) (hx : ∀ H : Nat → Nat → Nat, RW N H Rl c s n (81 * a + 9 * b + (lc + 1)) → q_R Γ mX3_find (q_room 3 mc mz) Z 0 0 88 [(0, .ref (ad 45)), (1, .ref (ad 36)), (2, .int (nI c)), (3, .int (nI s)), (4, .int (nI n)), (5, .int (nI a)), (6, .int (nI lb)), (7, .int (nI b))] [] (LT ad, H, L, G)) : ∀ i, i ≤ lc + 1 → b ≤ i →  ∀ H : Nat → Nat → Nat, RW N H Rl c s n (81 * a + 9 * b + i) → q_R Γ mX3_find (q_room 3 mc mz) Z 0 0 62 [(0, .ref (ad 45)), (1, .ref (ad 36)), (2, .int (nI c)), (3, .int (nI s)), (4, .int (nI n)), (5, .int (nI a)), (6, .int (nI lb)), (7, .int (nI b)), (8, .int (nI lc)), (9, .int (nI i))] [] (LT ad, H, L, G) := by
  refine dn_loop (lc + 1) ?_ ?_
  · intro h_ex H h_H
    refine q_iload 64 rfl rfl dX3_find_62 ?_
    refine q_iload 66 rfl rfl dX3_find_64 ?_
    refine q_icmp_gt 69 rfl 88 (by decide) (by omega) (by omega) dX3_find_66 (fun h66 => ?_) (fun h66 => ?_)
    · exact q_loc (hx _ h_H) (q_sub1 rfl (q_sub1 rfl (q_sub1 rfl (q_sub1 rfl (q_sub1 rfl (q_sub1 rfl (q_sub1 rfl (q_sub1 rfl q_sub0))))))))
    · exfalso; omega
  · intro i h_i ih h_ex H h_H
    have h_al := hal i h_ex (by omega)
    have h_a2 := h_al
    unfold al at h_a2
    refine q_iload 64 rfl rfl dX3_find_62 ?_
    refine q_iload 66 rfl rfl dX3_find_64 ?_
    refine q_icmp_gt 69 rfl 88 (by decide) (by omega) (by omega) dX3_find_66 (fun h66 => ?_) (fun h66 => ?_)
    · exfalso; omega
    · refine q_aload_n 70 rfl rfl dX3_find_69 ?_
      refine q_aload_n 71 rfl rfl dX3_find_70 ?_
      refine q_iload_n 72 rfl rfl dX3_find_71 ?_
      refine q_iload_n 73 rfl rfl dX3_find_72 ?_
      refine q_iload 75 rfl rfl dX3_find_73 ?_
      refine q_iload 77 rfl rfl dX3_find_75 ?_
      refine q_iload 79 rfl rfl dX3_find_77 ?_
      refine q_cV6v 82 rfl lX3_22 (k_weigh3 (N := H) (Rl := Rl) hG hc9 hs (fun g hg => by rw [h_H.1 36 (by omega) (by omega) (by omega)]; exact hr g hg) (by omega) (by omega) (by omega) h_H.2.1) rfl 45 t_45 rfl rfl rfl dX3_find_79 ?_
      refine q_iinc1 85 rfl 1 k_i1 rfl (by decide) dX3_find_82 ?_
      refine q_goto 62 (by decide) dX3_find_85 ?_
      refine q_loc (ih (by omega) _ ?_) (q_sub1 rfl (q_sub1 rfl (q_sub1 rfl (q_sub1 rfl (q_sub1 rfl (q_sub1 rfl (q_sub1 rfl (q_sub1 rfl (q_sub1 rfl (q_sub1 rfl q_sub0))))))))))
      · exact RW_step hc9 h_H h_al
theorem find_b {Z : q_Zt} {a lb mc mz : Nat} {c s n : Nat} {Rl : Nat → Nat → Bool} (hG : GF ad G) (hc9 : c ≤ 9) (hs : s < 2 ^ c) (hr : ∀ g, g < c → N 36 g = mk (Rl g) c) (hn : n ≤ 3) (ha : a ≤ lb) (hlb : lb < c) (hl1 : n ≤ 1 → lb = a) (hx : ∀ H : Nat → Nat → Nat, RW N H Rl c s n (81 * a + 9 * (lb + 1) + (lb + 1)) → q_R Γ mX3_find (q_room 3 mc mz) Z 0 0 94 [(0, .ref (ad 45)), (1, .ref (ad 36)), (2, .int (nI c)), (3, .int (nI s)), (4, .int (nI n)), (5, .int (nI a))] [] (LT ad, H, L, G)) : ∀ i, i ≤ lb + 1 → a ≤ i →  ∀ H : Nat → Nat → Nat, RW N H Rl c s n (81 * a + 9 * i + i) → q_R Γ mX3_find (q_room 3 mc mz) Z 0 0 35 [(0, .ref (ad 45)), (1, .ref (ad 36)), (2, .int (nI c)), (3, .int (nI s)), (4, .int (nI n)), (5, .int (nI a)), (6, .int (nI lb)), (7, .int (nI i))] [] (LT ad, H, L, G) := by
  refine dn_loop (lb + 1) ?_ ?_
  · intro h_ex H h_H
    refine q_iload 37 rfl rfl dX3_find_35 ?_
    refine q_iload 39 rfl rfl dX3_find_37 ?_
    refine q_icmp_gt 42 rfl 94 (by decide) (by omega) (by omega) dX3_find_39 (fun h39 => ?_) (fun h39 => ?_)
    · exact q_loc (hx _ h_H) (q_sub1 rfl (q_sub1 rfl (q_sub1 rfl (q_sub1 rfl (q_sub1 rfl (q_sub1 rfl q_sub0))))))
    · exfalso; omega
  · intro i h_i ih h_ex H h_H
    refine q_iload 37 rfl rfl dX3_find_35 ?_
    refine q_iload 39 rfl rfl dX3_find_37 ?_
    refine q_icmp_gt 42 rfl 94 (by decide) (by omega) (by omega) dX3_find_39 (fun h39 => ?_) (fun h39 => ?_)
    · exfalso; omega
    · refine q_iload 44 rfl rfl dX3_find_42 ?_
      refine q_iconst 45 rfl 2 k_i2 dX3_find_44 ?_
      refine q_icmp_le 48 rfl 54 (by decide) (by omega) (by omega) dX3_find_45 (fun h45 => ?_) (fun h45 => ?_)
      · refine q_iload 56 rfl rfl dX3_find_54 ?_
        refine q_istore 58 rfl (by decide) dX3_find_56 ?_
        refine q_iload 60 rfl rfl dX3_find_58 ?_
        refine q_istore 62 rfl (by decide) dX3_find_60 ?_
        first
          | (refine q_loc (find_c (N := N) (Rl := Rl) (lc := c - 1) hG hc9 hs hr hn (by omega) (by intro j q1 q2; unfold al; omega) ?_ i (by omega) (by omega) _ h_H) (q_sub1 rfl (q_sub1 rfl (q_sub1 rfl (q_sub1 rfl (q_sub1 rfl (q_sub1 rfl (q_sub1 rfl (q_sub1 rfl (q_sub1 rfl (q_sub1 rfl q_sub0)))))))))))
          | (refine q_loc (find_c (N := N) (Rl := Rl) (lc := i) hG hc9 hs hr hn (by omega) (by intro j q1 q2; unfold al; omega) ?_ i (by omega) (by omega) _ h_H) (q_sub1 rfl (q_sub1 rfl (q_sub1 rfl (q_sub1 rfl (q_sub1 rfl (q_sub1 rfl (q_sub1 rfl (q_sub1 rfl (q_sub1 rfl (q_sub1 rfl q_sub0)))))))))))
        intro H2 h_H2
        refine q_iinc1 91 rfl 1 k_i1 rfl (by decide) dX3_find_88 ?_
        refine q_goto 35 (by decide) dX3_find_91 ?_
        refine q_loc (ih (by omega) _ ?_) (q_sub1 rfl (q_sub1 rfl (q_sub1 rfl (q_sub1 rfl (q_sub1 rfl (q_sub1 rfl (q_sub1 rfl (q_sub1 rfl q_sub0))))))))
        refine RW_skip h_H2 (fun x y z q1 q2 q3 => ?_)
        unfold al at q1
        rcases Nat.lt_trichotomy x a with q4 | q4 | q4
        · omega
        · subst q4; omega
        · omega
      · refine q_iload_n 49 rfl rfl dX3_find_48 ?_
        refine q_iconst 50 rfl 1 k_i1 dX3_find_49 ?_
        refine q_isub 51 rfl (by omega) dX3_find_50 ?_
        refine q_goto 56 (by decide) dX3_find_51 ?_
        refine q_istore 58 rfl (by decide) dX3_find_56 ?_
        refine q_iload 60 rfl rfl dX3_find_58 ?_
        refine q_istore 62 rfl (by decide) dX3_find_60 ?_
        first
          | (refine q_loc (find_c (N := N) (Rl := Rl) (lc := c - 1) hG hc9 hs hr hn (by omega) (by intro j q1 q2; unfold al; omega) ?_ i (by omega) (by omega) _ h_H) (q_sub1 rfl (q_sub1 rfl (q_sub1 rfl (q_sub1 rfl (q_sub1 rfl (q_sub1 rfl (q_sub1 rfl (q_sub1 rfl (q_sub1 rfl (q_sub1 rfl q_sub0)))))))))))
          | (refine q_loc (find_c (N := N) (Rl := Rl) (lc := i) hG hc9 hs hr hn (by omega) (by intro j q1 q2; unfold al; omega) ?_ i (by omega) (by omega) _ h_H) (q_sub1 rfl (q_sub1 rfl (q_sub1 rfl (q_sub1 rfl (q_sub1 rfl (q_sub1 rfl (q_sub1 rfl (q_sub1 rfl (q_sub1 rfl (q_sub1 rfl q_sub0)))))))))))
        intro H2 h_H2
        refine q_iinc1 91 rfl 1 k_i1 rfl (by decide) dX3_find_88 ?_
        refine q_goto 35 (by decide) dX3_find_91 ?_
        refine q_loc (ih (by omega) _ ?_) (q_sub1 rfl (q_sub1 rfl (q_sub1 rfl (q_sub1 rfl (q_sub1 rfl (q_sub1 rfl (q_sub1 rfl (q_sub1 rfl q_sub0))))))))
        refine RW_skip h_H2 (fun x y z q1 q2 q3 => ?_)
        unfold al at q1
        rcases Nat.lt_trichotomy x a with q4 | q4 | q4
        · omega
        · subst q4; omega
        · omega
theorem find_a {Z : q_Zt} {mc mz : Nat} {c s n : Nat} {Rl : Nat → Nat → Bool} (hG : GF ad G) (hc9 : c ≤ 9) (hs : s < 2 ^ c) (hr : ∀ g, g < c → N 36 g = mk (Rl g) c) (hn : n ≤ 3) (hx : ∀ H : Nat → Nat → Nat, RW N H Rl c s n (91 * (c)) → q_R Γ mX3_find (q_room 3 mc mz) Z 0 0 100 [] [] (LT ad, H, L, G)) : ∀ i, i ≤ c →  ∀ H : Nat → Nat → Nat, RW N H Rl c s n (91 * i) → q_R Γ mX3_find (q_room 3 mc mz) Z 0 0 9 [(0, .ref (ad 45)), (1, .ref (ad 36)), (2, .int (nI c)), (3, .int (nI s)), (4, .int (nI n)), (5, .int (nI i))] [] (LT ad, H, L, G) := by
  refine dn_loop (c) ?_ ?_
  · intro H h_H
    refine q_iload 11 rfl rfl dX3_find_9 ?_
    refine q_iload_n 12 rfl rfl dX3_find_11 ?_
    refine q_icmp_ge 15 rfl 100 (by decide) (by omega) (by omega) dX3_find_12 (fun h12 => ?_) (fun h12 => ?_)
    · exact q_loc (hx _ h_H) q_sub0
    · exfalso; omega
  · intro i h_i ih H h_H
    refine q_iload 11 rfl rfl dX3_find_9 ?_
    refine q_iload_n 12 rfl rfl dX3_find_11 ?_
    refine q_icmp_ge 15 rfl 100 (by decide) (by omega) (by omega) dX3_find_12 (fun h12 => ?_) (fun h12 => ?_)
    · exfalso; omega
    · refine q_iload 17 rfl rfl dX3_find_15 ?_
      refine q_iconst 18 rfl 1 k_i1 dX3_find_17 ?_
      refine q_icmp_le 21 rfl 27 (by decide) (by omega) (by omega) dX3_find_18 (fun h18 => ?_) (fun h18 => ?_)
      · refine q_iload 29 rfl rfl dX3_find_27 ?_
        refine q_istore 31 rfl (by decide) dX3_find_29 ?_
        refine q_iload 33 rfl rfl dX3_find_31 ?_
        refine q_istore 35 rfl (by decide) dX3_find_33 ?_
        have h_H3 : RW N H Rl c s n (81 * i + 9 * i + i) := by rw [show 81 * i + 9 * i + i = 91 * i by omega]; exact h_H
        first
          | (refine q_loc (find_b (N := N) (Rl := Rl) (lb := c - 1) hG hc9 hs hr hn (by omega) (by omega) (by omega) ?_ i (by omega) (by omega) _ h_H3) (q_sub1 rfl (q_sub1 rfl (q_sub1 rfl (q_sub1 rfl (q_sub1 rfl (q_sub1 rfl (q_sub1 rfl (q_sub1 rfl q_sub0)))))))))
          | (refine q_loc (find_b (N := N) (Rl := Rl) (lb := i) hG hc9 hs hr hn (by omega) (by omega) (by omega) ?_ i (by omega) (by omega) _ h_H3) (q_sub1 rfl (q_sub1 rfl (q_sub1 rfl (q_sub1 rfl (q_sub1 rfl (q_sub1 rfl (q_sub1 rfl (q_sub1 rfl q_sub0)))))))))
        intro H2 h_H2
        refine q_iinc1 97 rfl 1 k_i1 rfl (by decide) dX3_find_94 ?_
        refine q_goto 9 (by decide) dX3_find_97 ?_
        refine q_loc (ih _ ?_) (q_sub1 rfl (q_sub1 rfl (q_sub1 rfl (q_sub1 rfl (q_sub1 rfl (q_sub1 rfl q_sub0))))))
        refine RW_skip h_H2 (fun x y z q1 q2 q3 => ?_)
        unfold al at q1
        rcases Nat.lt_trichotomy x i with q4 | q4 | q4
        · omega
        · subst q4; omega
        · omega
      · refine q_iload_n 22 rfl rfl dX3_find_21 ?_
        refine q_iconst 23 rfl 1 k_i1 dX3_find_22 ?_
        refine q_isub 24 rfl (by omega) dX3_find_23 ?_
        refine q_goto 29 (by decide) dX3_find_24 ?_
        refine q_istore 31 rfl (by decide) dX3_find_29 ?_
        refine q_iload 33 rfl rfl dX3_find_31 ?_
        refine q_istore 35 rfl (by decide) dX3_find_33 ?_
        have h_H3 : RW N H Rl c s n (81 * i + 9 * i + i) := by rw [show 81 * i + 9 * i + i = 91 * i by omega]; exact h_H
        first
          | (refine q_loc (find_b (N := N) (Rl := Rl) (lb := c - 1) hG hc9 hs hr hn (by omega) (by omega) (by omega) ?_ i (by omega) (by omega) _ h_H3) (q_sub1 rfl (q_sub1 rfl (q_sub1 rfl (q_sub1 rfl (q_sub1 rfl (q_sub1 rfl (q_sub1 rfl (q_sub1 rfl q_sub0)))))))))
          | (refine q_loc (find_b (N := N) (Rl := Rl) (lb := i) hG hc9 hs hr hn (by omega) (by omega) (by omega) ?_ i (by omega) (by omega) _ h_H3) (q_sub1 rfl (q_sub1 rfl (q_sub1 rfl (q_sub1 rfl (q_sub1 rfl (q_sub1 rfl (q_sub1 rfl (q_sub1 rfl q_sub0)))))))))
        intro H2 h_H2
        refine q_iinc1 97 rfl 1 k_i1 rfl (by decide) dX3_find_94 ?_
        refine q_goto 9 (by decide) dX3_find_97 ?_
        refine q_loc (ih _ ?_) (q_sub1 rfl (q_sub1 rfl (q_sub1 rfl (q_sub1 rfl (q_sub1 rfl (q_sub1 rfl q_sub0))))))
        refine RW_skip h_H2 (fun x y z q1 q2 q3 => ?_)
        unfold al at q1
        rcases Nat.lt_trichotomy x i with q4 | q4 | q4
        · omega
        · subst q4; omega
        · omega
theorem k_find {c s n : Nat} {Rl : Nat → Nat → Bool} (hG : GF ad G) (hc9 : c ≤ 9) (hs : s < 2 ^ c) (hr : ∀ g, g < c → N 36 g = mk (Rl g) c) (hn : n ≤ 3) : q_Con Γ mX3_find 3 0 0 [.ref (ad 45), .ref (ad 36), .int (nI c), .int (nI s), .int (nI n)] (LT ad, N, L, G) (fun v h => v = none ∧ ∃ H, h = (LT ad, H, L, G) ∧ RW N H Rl c s n (91 * c)) := by
  have R0 : RW N (q_s N 45 2 10) Rl c s n (91 * 0) := ⟨fun a q1 _ _ => q_s_ne q1, by rw [q_s_at]; omega, fun x y z _ q => absurd q (by omega), fun q => absurd q (by rw [q_s_at]; omega)⟩
  refine q_con (by decide) rfl rfl (Nat.le_of_ble_eq_true rfl) ?_
  refine q_aload_n 1 rfl rfl dX3_find_0 ?_
  refine q_bipush 3 rfl 10 k_b10 dX3_find_1 ?_
  refine q_putI 6 rfl pX3_18 (fun q => by cases q) rfl 45 t_45 dX3_find_3 ?_
  refine q_iconst 7 rfl 0 k_i0 dX3_find_6 ?_
  refine q_istore 9 rfl (by decide) dX3_find_7 ?_
  refine q_loc (find_a (N := N) (Rl := Rl) hG hc9 hs hr hn ?_ 0 (by omega) _ R0) (q_sub1 rfl (q_sub1 rfl (q_sub1 rfl (q_sub1 rfl (q_sub1 rfl (q_sub1 rfl q_sub0))))))
  intro H h_H
  refine q_vret rfl dX3_find_100 ?_
  exact ⟨rfl, _, rfl, h_H⟩
end
