theorem Sc.tr {N M K : Nat → Nat → Nat} (h1 : Sc N M) (h2 : Sc M K) : Sc N K := fun a b1 b2 b3 b4 => (h2 a b1 b2 b3 b4).trans (h1 a b1 b2 b3 b4)
def lwv (f : Nat → Nat) (c law : Nat) : Nat := if law % 10 ≤ 8 then lw7 f c law else 1000
theorem lw7_le {f : Nat → Nat} {c law : Nat} (hc : c ≤ 9) : lw7 f c law ≤ 9 := fw_le hc (by have := Nat.two_pow_pos c; omega)
theorem lwv_le {f : Nat → Nat} {c law : Nat} (hc : c ≤ 9) : lwv f c law ≤ 1000 := by
  have := lw7_le (f := f) (law := law) hc
  simp only [lwv]; split <;> omega
def bst (f : Nat → Nat) (c Y : Nat) : Nat := if Y ≤ 1 then (if c = 0 then 4294967294 else if Y = 0 then (amin (lwv f c) 1000 50).2 else (amin (lwv f c) 1000 50).1) else 4294967295
def cnt (p : Nat → Bool) : Nat → Nat
  | 0 => 0
  | k + 1 => cnt p k + (p k).toNat
def lws (f : Nat → Nat) (c Y : Nat) : Nat := if 1 ≤ Y ∧ Y ≤ 9 then (if c = 0 then 4294967294 else cnt (fun law => decide (law % 10 ≤ 8 ∧ lw7 f c law ≤ Y)) 50) else 4294967295
theorem cnt_le (p : Nat → Bool) (k : Nat) : cnt p k ≤ k := by
  induction k with
  | zero => exact Nat.le_refl _
  | succ k ih => simp only [cnt]; cases p k <;> simp <;> omega
section
variable {Γ : q_G} {ad : Nat → Nat} {N : Nat → Nat → Nat} {L : Nat → Nat → Int} {G : Nat → Nat → Option Nat}
theorem best7_lp {Z : q_Zt} {c Y mc mz : Nat} (hG : GF ad G) (hc : N 77 2 = c) (hc9 : c ≤ 9) (hb : ∀ i, i < 81 → N 79 i < 26) (hl : ∀ n, n < 9 → N 79 (9 * n) ≤ 8) (hx : ∀ H : Nat → Nat → Nat, Sc N H → q_R Γ mX7_best (q_room 5 mc mz) Z 0 0 94 [(1, .int (nI Y)), (2, .int (nI ((amin (lwv (N 79) c) 1000 (50)).1))), (3, .int (nI ((amin (lwv (N 79) c) 1000 (50)).2)))] [] (LT ad, H, L, G)) : ∀ i, i ≤ 50 →  ∀ a : Nat, a = (amin (lwv (N 79) c) 1000 i).1 → ∀ b : Nat, b = (amin (lwv (N 79) c) 1000 i).2 → ∀ H : Nat → Nat → Nat, Sc N H → q_R Γ mX7_best (q_room 5 mc mz) Z 0 0 31 [(0, .ref (ad 77)), (1, .int (nI Y)), (2, .int (nI a)), (3, .int (nI b)), (4, .int (nI i))] [] (LT ad, H, L, G) := by
  refine dn_loop (50) ?_ ?_
  · intro a h_a b h_b H h_H
    refine q_iload 33 rfl rfl dX7_best_31 ?_
    refine q_bipush 35 rfl 50 k_b50 dX7_best_33 ?_
    refine q_icmp_ge 38 rfl 94 (by decide) (by omega) (by omega) dX7_best_35 (fun h35 => ?_) (fun h35 => ?_)
    · rw [h_a]
      rw [h_b]
      exact q_loc (hx _ h_H) (q_sub1 rfl (q_sub1 rfl (q_sub1 rfl q_sub0)))
    · exfalso; omega
  · intro i h_i ih a h_a b h_b H h_H
    have w1 := lwv_le (f := N 79) (law := i) hc9
    have w3 := lw7_le (f := N 79) (law := i) hc9
    have w2 := amin_le (lwv (N 79) c) 1000 i
    have w4 : i % 10 ≤ 8 → lwv (N 79) c i = lw7 (N 79) c i := fun q => if_pos q
    have w5 : ¬ i % 10 ≤ 8 → lwv (N 79) c i = 1000 := fun q => if_neg q
    refine q_iload 33 rfl rfl dX7_best_31 ?_
    refine q_bipush 35 rfl 50 k_b50 dX7_best_33 ?_
    refine q_icmp_ge 38 rfl 94 (by decide) (by omega) (by omega) dX7_best_35 (fun h35 => ?_) (fun h35 => ?_)
    · exfalso; omega
    · refine q_iload 40 rfl rfl dX7_best_38 ?_
      refine q_bipush 42 rfl 10 k_b10 dX7_best_40 ?_
      refine q_irem 43 rfl (by omega) (by omega) (by omega) dX7_best_42 ?_
      refine q_bipush 45 rfl 8 k_b8 dX7_best_43 ?_
      refine q_icmp_gt 48 rfl 57 (by decide) (by omega) (by omega) dX7_best_45 (fun h45 => ?_) (fun h45 => ?_)
      · have w6 := w5 (by omega)
        refine q_sipush 60 rfl 1000 k_s1000 dX7_best_57 ?_
        refine q_istore 62 rfl (by decide) dX7_best_60 ?_
        refine q_iload 64 rfl rfl dX7_best_62 ?_
        refine q_iload_n 65 rfl rfl dX7_best_64 ?_
        refine q_icmp_ge 68 rfl 73 (by decide) (by omega) (by omega) dX7_best_65 (fun h65 => ?_) (fun h65 => ?_)
        · first
          | (exfalso; omega)
          | (refine q_iload_n 74 rfl rfl dX7_best_73 ?_
             refine q_istore_n 75 rfl (by decide) dX7_best_74 ?_
             refine q_iload 77 rfl rfl dX7_best_75 ?_
             refine q_iload_n 78 rfl rfl dX7_best_77 ?_
             refine q_icmp_ge 81 rfl 86 (by decide) (by omega) (by omega) dX7_best_78 (fun h78 => ?_) (fun h78 => ?_)
             · first
               | (exfalso; omega)
               | (refine q_iload_n 87 rfl rfl dX7_best_86 ?_
                  refine q_istore_n 88 rfl (by decide) dX7_best_87 ?_
                  refine q_iinc1 91 rfl 1 k_i1 rfl (by decide) dX7_best_88 ?_
                  refine q_goto 31 (by decide) dX7_best_91 ?_
                  refine q_loc (ih _ ?_ _ ?_ _ ?_) (q_sub1 rfl (q_sub1 rfl (q_sub1 rfl (q_sub1 rfl (q_sub1 rfl q_sub0)))))
                  · simp only [amin]
                    first
                      | (rw [if_pos (by omega)]; omega)
                      | (rw [if_neg (by omega)]; exact h_a)
                  · simp only [amin]
                    first
                      | (rw [if_pos (by omega)]; done)
                      | (rw [if_neg (by omega)]; exact h_b)
                  · first
                      | exact h_H2
                      | exact h_H)
             · first
               | (exfalso; omega)
               | (refine q_iload 83 rfl rfl dX7_best_81 ?_
                  refine q_goto 87 (by decide) dX7_best_83 ?_
                  refine q_istore_n 88 rfl (by decide) dX7_best_87 ?_
                  refine q_iinc1 91 rfl 1 k_i1 rfl (by decide) dX7_best_88 ?_
                  refine q_goto 31 (by decide) dX7_best_91 ?_
                  refine q_loc (ih _ ?_ _ ?_ _ ?_) (q_sub1 rfl (q_sub1 rfl (q_sub1 rfl (q_sub1 rfl (q_sub1 rfl q_sub0)))))
                  · simp only [amin]
                    first
                      | (rw [if_pos (by omega)]; omega)
                      | (rw [if_neg (by omega)]; exact h_a)
                  · simp only [amin]
                    first
                      | (rw [if_pos (by omega)]; done)
                      | (rw [if_neg (by omega)]; exact h_b)
                  · first
                      | exact h_H2
                      | exact h_H))
        · first
          | (exfalso; omega)
          | (refine q_iload 70 rfl rfl dX7_best_68 ?_
             refine q_goto 74 (by decide) dX7_best_70 ?_
             refine q_istore_n 75 rfl (by decide) dX7_best_74 ?_
             refine q_iload 77 rfl rfl dX7_best_75 ?_
             refine q_iload_n 78 rfl rfl dX7_best_77 ?_
             refine q_icmp_ge 81 rfl 86 (by decide) (by omega) (by omega) dX7_best_78 (fun h78 => ?_) (fun h78 => ?_)
             · first
               | (exfalso; omega)
               | (refine q_iload_n 87 rfl rfl dX7_best_86 ?_
                  refine q_istore_n 88 rfl (by decide) dX7_best_87 ?_
                  refine q_iinc1 91 rfl 1 k_i1 rfl (by decide) dX7_best_88 ?_
                  refine q_goto 31 (by decide) dX7_best_91 ?_
                  refine q_loc (ih _ ?_ _ ?_ _ ?_) (q_sub1 rfl (q_sub1 rfl (q_sub1 rfl (q_sub1 rfl (q_sub1 rfl q_sub0)))))
                  · simp only [amin]
                    first
                      | (rw [if_pos (by omega)]; omega)
                      | (rw [if_neg (by omega)]; exact h_a)
                  · simp only [amin]
                    first
                      | (rw [if_pos (by omega)]; done)
                      | (rw [if_neg (by omega)]; exact h_b)
                  · first
                      | exact h_H2
                      | exact h_H)
             · first
               | (exfalso; omega)
               | (refine q_iload 83 rfl rfl dX7_best_81 ?_
                  refine q_goto 87 (by decide) dX7_best_83 ?_
                  refine q_istore_n 88 rfl (by decide) dX7_best_87 ?_
                  refine q_iinc1 91 rfl 1 k_i1 rfl (by decide) dX7_best_88 ?_
                  refine q_goto 31 (by decide) dX7_best_91 ?_
                  refine q_loc (ih _ ?_ _ ?_ _ ?_) (q_sub1 rfl (q_sub1 rfl (q_sub1 rfl (q_sub1 rfl (q_sub1 rfl q_sub0)))))
                  · simp only [amin]
                    first
                      | (rw [if_pos (by omega)]; omega)
                      | (rw [if_neg (by omega)]; exact h_a)
                  · simp only [amin]
                    first
                      | (rw [if_pos (by omega)]; done)
                      | (rw [if_neg (by omega)]; exact h_b)
                  · first
                      | exact h_H2
                      | exact h_H))
      · have w6 := w4 (by omega)
        refine q_aload_n 49 rfl rfl dX7_best_48 ?_
        refine q_iload 51 rfl rfl dX7_best_49 ?_
        refine q_cV1q 54 rfl lX7_252 (k_surelyBy (N := H) (law := i) hG (by rw [h_H 77 (by decide) (by decide) (by decide) (by decide)]; exact hc) hc9 (by rw [h_H 79 (by decide) (by decide) (by decide) (by decide)]; exact hb) (by rw [h_H 79 (by decide) (by decide) (by decide) (by decide)]; exact hl) h_i (by omega)) rfl 77 t_77 rfl rfl rfl dX7_best_51 ?_
        rw [h_H 79 (by decide) (by decide) (by decide) (by decide)]
        intro v h2 hq2
        obtain ⟨rfl, H2, rfl, h_H2⟩ := hq2
        have h_H2 := h_H.tr h_H2
        refine q_goto 60 (by decide) dX7_best_54 ?_
        refine q_istore 62 rfl (by decide) dX7_best_60 ?_
        refine q_iload 64 rfl rfl dX7_best_62 ?_
        refine q_iload_n 65 rfl rfl dX7_best_64 ?_
        refine q_icmp_ge 68 rfl 73 (by decide) (by omega) (by omega) dX7_best_65 (fun h65 => ?_) (fun h65 => ?_)
        · first
          | (exfalso; omega)
          | (refine q_iload_n 74 rfl rfl dX7_best_73 ?_
             refine q_istore_n 75 rfl (by decide) dX7_best_74 ?_
             refine q_iload 77 rfl rfl dX7_best_75 ?_
             refine q_iload_n 78 rfl rfl dX7_best_77 ?_
             refine q_icmp_ge 81 rfl 86 (by decide) (by omega) (by omega) dX7_best_78 (fun h78 => ?_) (fun h78 => ?_)
             · first
               | (exfalso; omega)
               | (refine q_iload_n 87 rfl rfl dX7_best_86 ?_
                  refine q_istore_n 88 rfl (by decide) dX7_best_87 ?_
                  refine q_iinc1 91 rfl 1 k_i1 rfl (by decide) dX7_best_88 ?_
                  refine q_goto 31 (by decide) dX7_best_91 ?_
                  refine q_loc (ih _ ?_ _ ?_ _ ?_) (q_sub1 rfl (q_sub1 rfl (q_sub1 rfl (q_sub1 rfl (q_sub1 rfl q_sub0)))))
                  · simp only [amin]
                    first
                      | (rw [if_pos (by omega)]; omega)
                      | (rw [if_neg (by omega)]; exact h_a)
                  · simp only [amin]
                    first
                      | (rw [if_pos (by omega)]; done)
                      | (rw [if_neg (by omega)]; exact h_b)
                  · first
                      | exact h_H2
                      | exact h_H)
             · first
               | (exfalso; omega)
               | (refine q_iload 83 rfl rfl dX7_best_81 ?_
                  refine q_goto 87 (by decide) dX7_best_83 ?_
                  refine q_istore_n 88 rfl (by decide) dX7_best_87 ?_
                  refine q_iinc1 91 rfl 1 k_i1 rfl (by decide) dX7_best_88 ?_
                  refine q_goto 31 (by decide) dX7_best_91 ?_
                  refine q_loc (ih _ ?_ _ ?_ _ ?_) (q_sub1 rfl (q_sub1 rfl (q_sub1 rfl (q_sub1 rfl (q_sub1 rfl q_sub0)))))
                  · simp only [amin]
                    first
                      | (rw [if_pos (by omega)]; omega)
                      | (rw [if_neg (by omega)]; exact h_a)
                  · simp only [amin]
                    first
                      | (rw [if_pos (by omega)]; done)
                      | (rw [if_neg (by omega)]; exact h_b)
                  · first
                      | exact h_H2
                      | exact h_H))
        · first
          | (exfalso; omega)
          | (refine q_iload 70 rfl rfl dX7_best_68 ?_
             refine q_goto 74 (by decide) dX7_best_70 ?_
             refine q_istore_n 75 rfl (by decide) dX7_best_74 ?_
             refine q_iload 77 rfl rfl dX7_best_75 ?_
             refine q_iload_n 78 rfl rfl dX7_best_77 ?_
             refine q_icmp_ge 81 rfl 86 (by decide) (by omega) (by omega) dX7_best_78 (fun h78 => ?_) (fun h78 => ?_)
             · first
               | (exfalso; omega)
               | (refine q_iload_n 87 rfl rfl dX7_best_86 ?_
                  refine q_istore_n 88 rfl (by decide) dX7_best_87 ?_
                  refine q_iinc1 91 rfl 1 k_i1 rfl (by decide) dX7_best_88 ?_
                  refine q_goto 31 (by decide) dX7_best_91 ?_
                  refine q_loc (ih _ ?_ _ ?_ _ ?_) (q_sub1 rfl (q_sub1 rfl (q_sub1 rfl (q_sub1 rfl (q_sub1 rfl q_sub0)))))
                  · simp only [amin]
                    first
                      | (rw [if_pos (by omega)]; omega)
                      | (rw [if_neg (by omega)]; exact h_a)
                  · simp only [amin]
                    first
                      | (rw [if_pos (by omega)]; done)
                      | (rw [if_neg (by omega)]; exact h_b)
                  · first
                      | exact h_H2
                      | exact h_H)
             · first
               | (exfalso; omega)
               | (refine q_iload 83 rfl rfl dX7_best_81 ?_
                  refine q_goto 87 (by decide) dX7_best_83 ?_
                  refine q_istore_n 88 rfl (by decide) dX7_best_87 ?_
                  refine q_iinc1 91 rfl 1 k_i1 rfl (by decide) dX7_best_88 ?_
                  refine q_goto 31 (by decide) dX7_best_91 ?_
                  refine q_loc (ih _ ?_ _ ?_ _ ?_) (q_sub1 rfl (q_sub1 rfl (q_sub1 rfl (q_sub1 rfl (q_sub1 rfl q_sub0)))))
                  · simp only [amin]
                    first
                      | (rw [if_pos (by omega)]; omega)
                      | (rw [if_neg (by omega)]; exact h_a)
                  · simp only [amin]
                    first
                      | (rw [if_pos (by omega)]; done)
                      | (rw [if_neg (by omega)]; exact h_b)
                  · first
                      | exact h_H2
                      | exact h_H))
theorem k_best7 {Y : Nat} {c : Nat} (hG : GF ad G) (hM : MS N c) (hY : Y < 4294967296) : q_Con Γ mX7_best 5 0 0 [.ref (ad 77), .int (nI Y)] (LT ad, N, L, G) (q_sc ad N G (.int (nI (bst (N 79) c Y)))) := by
  obtain ⟨hc, hc9, hb, hl, hs, hk, hms, hpr, hg9, hh, hgn, hga, hod, ho1⟩ := id hM
  refine q_con (by decide) rfl rfl (Nat.le_of_ble_eq_true rfl) ?_
  refine q_iload_n 1 rfl rfl dX7_best_0 ?_
  refine q_i2l 2 rfl dX7_best_1 ?_
  refine q_lconst 3 rfl 0 lN0 dX7_best_2 ?_
  refine q_lconst 4 rfl 1 lN1 dX7_best_3 ?_
  refine q_cS3 7 rfl lX7_68 (k_in hY (by omega) (by omega) rfl (by omega) (by omega)) rfl rfl rfl dX7_best_4 ?_
  refine q_if_neD 10 rfl 12 (by decide) dX7_best_7 (fun h7 => ?_) (fun h7 => ?_)
  · refine q_aload_n 13 rfl rfl dX7_best_12 ?_
    refine q_getI 16 rfl fX7_155 rfl 77 t_77 dX7_best_13 ?_
    refine q_if_ne 19 rfl 22 (by decide) (by omega) dX7_best_16 (fun h16 => ?_) (fun h16 => ?_)
    · refine q_sipush 25 rfl 1000 k_s1000 dX7_best_22 ?_
      refine q_istore_n 26 rfl (by decide) dX7_best_25 ?_
      refine q_iconst 27 rfl 0 k_i0 dX7_best_26 ?_
      refine q_istore_n 28 rfl (by decide) dX7_best_27 ?_
      refine q_iconst 29 rfl 0 k_i0 dX7_best_28 ?_
      refine q_istore 31 rfl (by decide) dX7_best_29 ?_
      refine q_loc (best7_lp (N := N) hG hc hc9 hb hl ?_ 0 (by omega) _ rfl _ rfl _ Sc.rf) (q_sub1 rfl (q_sub1 rfl (q_sub1 rfl (q_sub1 rfl (q_sub1 rfl q_sub0)))))
      intro H h_H
      refine q_iload_n 95 rfl rfl dX7_best_94 ?_
      refine q_if_ne 98 rfl 102 (by decide) (by omega) dX7_best_95 (fun h95 => ?_) (fun h95 => ?_)
      · refine q_iload_n 103 rfl rfl dX7_best_102 ?_
        refine q_iret rfl dX7_best_103 ?_
        first
          | (refine ⟨?_, _, _, rfl, Sc.rf⟩; rw [bst, if_neg (by omega)]; done)
          | (refine ⟨?_, _, _, rfl, Sc.rf⟩; rw [bst, if_pos (by omega), if_pos (by omega)]; done)
          | (refine ⟨?_, _, _, rfl, h_H⟩; rw [bst, if_pos (by omega), if_neg (by omega), if_pos (by assumption)]; done)
          | (refine ⟨?_, _, _, rfl, h_H⟩; rw [bst, if_pos (by omega), if_neg (by omega), if_neg (by assumption)])
      · refine q_iload_n 99 rfl rfl dX7_best_98 ?_
        refine q_goto 103 (by decide) dX7_best_99 ?_
        refine q_iret rfl dX7_best_103 ?_
        first
          | (refine ⟨?_, _, _, rfl, Sc.rf⟩; rw [bst, if_neg (by omega)]; done)
          | (refine ⟨?_, _, _, rfl, Sc.rf⟩; rw [bst, if_pos (by omega), if_pos (by omega)]; done)
          | (refine ⟨?_, _, _, rfl, h_H⟩; rw [bst, if_pos (by omega), if_neg (by omega), if_pos (by assumption)]; done)
          | (refine ⟨?_, _, _, rfl, h_H⟩; rw [bst, if_pos (by omega), if_neg (by omega), if_neg (by assumption)])
    · refine q_bipush 21 rfl 4294967294 k_bm2 dX7_best_19 ?_
      refine q_iret rfl dX7_best_21 ?_
      first
        | (refine ⟨?_, _, _, rfl, Sc.rf⟩; rw [bst, if_neg (by omega)]; done)
        | (refine ⟨?_, _, _, rfl, Sc.rf⟩; rw [bst, if_pos (by omega), if_pos (by omega)]; done)
        | (refine ⟨?_, _, _, rfl, h_H⟩; rw [bst, if_pos (by omega), if_neg (by omega), if_pos (by assumption)]; done)
        | (refine ⟨?_, _, _, rfl, h_H⟩; rw [bst, if_pos (by omega), if_neg (by omega), if_neg (by assumption)])
  · refine q_iconst 11 rfl 4294967295 k_im1 dX7_best_10 ?_
    refine q_iret rfl dX7_best_11 ?_
    first
      | (refine ⟨?_, _, _, rfl, Sc.rf⟩; rw [bst, if_neg (by omega)]; done)
      | (refine ⟨?_, _, _, rfl, Sc.rf⟩; rw [bst, if_pos (by omega), if_pos (by omega)]; done)
      | (refine ⟨?_, _, _, rfl, h_H⟩; rw [bst, if_pos (by omega), if_neg (by omega), if_pos (by assumption)]; done)
      | (refine ⟨?_, _, _, rfl, h_H⟩; rw [bst, if_pos (by omega), if_neg (by omega), if_neg (by assumption)])
theorem laws7_lp {Z : q_Zt} {c Y mc mz : Nat} (hG : GF ad G) (hc : N 77 2 = c) (hc9 : c ≤ 9) (hb : ∀ i, i < 81 → N 79 i < 26) (hl : ∀ n, n < 9 → N 79 (9 * n) ≤ 8) (hY : Y ≤ 9) (hx : ∀ H : Nat → Nat → Nat, Sc N H → q_R Γ mX7_laws (q_room 5 mc mz) Z 0 0 66 [(2, .int (nI (cnt (fun law => decide (law % 10 ≤ 8 ∧ lw7 (N 79) c law ≤ Y)) (50))))] [] (LT ad, H, L, G)) : ∀ i, i ≤ 50 →  ∀ a : Nat, a = cnt (fun law => decide (law % 10 ≤ 8 ∧ lw7 (N 79) c law ≤ Y)) i → ∀ H : Nat → Nat → Nat, Sc N H → q_R Γ mX7_laws (q_room 5 mc mz) Z 0 0 28 [(0, .ref (ad 77)), (1, .int (nI Y)), (2, .int (nI a)), (3, .int (nI i))] [] (LT ad, H, L, G) := by
  refine dn_loop (50) ?_ ?_
  · intro a h_a H h_H
    refine q_iload_n 29 rfl rfl dX7_laws_28 ?_
    refine q_bipush 31 rfl 50 k_b50 dX7_laws_29 ?_
    refine q_icmp_ge 34 rfl 66 (by decide) (by omega) (by omega) dX7_laws_31 (fun h31 => ?_) (fun h31 => ?_)
    · rw [h_a]
      exact q_loc (hx _ h_H) (q_sub1 rfl q_sub0)
    · exfalso; omega
  · intro i h_i ih a h_a H h_H
    have w3 := lw7_le (f := N 79) (law := i) hc9
    refine q_iload_n 29 rfl rfl dX7_laws_28 ?_
    refine q_bipush 31 rfl 50 k_b50 dX7_laws_29 ?_
    refine q_icmp_ge 34 rfl 66 (by decide) (by omega) (by omega) dX7_laws_31 (fun h31 => ?_) (fun h31 => ?_)
    · exfalso; omega
    · refine q_iload_n 35 rfl rfl dX7_laws_34 ?_
      refine q_iload_n 36 rfl rfl dX7_laws_35 ?_
      refine q_bipush 38 rfl 10 k_b10 dX7_laws_36 ?_
      refine q_irem 39 rfl (by omega) (by omega) (by omega) dX7_laws_38 ?_
      refine q_bipush 41 rfl 8 k_b8 dX7_laws_39 ?_
      refine q_icmp_gt 44 rfl 57 (by decide) (by omega) (by omega) dX7_laws_41 (fun h41 => ?_) (fun h41 => ?_)
      · refine q_iconst 58 rfl 0 k_i0 dX7_laws_57 ?_
        refine q_iadd 59 rfl dX7_laws_58 ?_
        refine q_istore_n 60 rfl (by decide) dX7_laws_59 ?_
        refine q_iinc1 63 rfl 1 k_i1 rfl (by decide) dX7_laws_60 ?_
        refine q_goto 28 (by decide) dX7_laws_63 ?_
        refine q_loc (ih _ ?_ _ ?_) (q_sub1 rfl (q_sub1 rfl (q_sub1 rfl (q_sub1 rfl q_sub0))))
        · rw [h_a, cnt]
          first
            | (rw [decide_eq_true (by omega)]; rfl)
            | (rw [decide_eq_false (by omega)]; rfl)
        · first
            | exact h_H2
            | exact h_H
      · refine q_aload_n 45 rfl rfl dX7_laws_44 ?_
        refine q_iload_n 46 rfl rfl dX7_laws_45 ?_
        refine q_cV1q 49 rfl lX7_252 (k_surelyBy (N := H) (law := i) hG (by rw [h_H 77 (by decide) (by decide) (by decide) (by decide)]; exact hc) hc9 (by rw [h_H 79 (by decide) (by decide) (by decide) (by decide)]; exact hb) (by rw [h_H 79 (by decide) (by decide) (by decide) (by decide)]; exact hl) h_i (by omega)) rfl 77 t_77 rfl rfl rfl dX7_laws_46 ?_
        rw [h_H 79 (by decide) (by decide) (by decide) (by decide)]
        intro v h2 hq2
        obtain ⟨rfl, H2, rfl, h_H2⟩ := hq2
        have h_H2 := h_H.tr h_H2
        refine q_iload_n 50 rfl rfl dX7_laws_49 ?_
        refine q_icmp_gt 53 rfl 57 (by decide) (by omega) (by omega) dX7_laws_50 (fun h50 => ?_) (fun h50 => ?_)
        · refine q_iconst 58 rfl 0 k_i0 dX7_laws_57 ?_
          refine q_iadd 59 rfl dX7_laws_58 ?_
          refine q_istore_n 60 rfl (by decide) dX7_laws_59 ?_
          refine q_iinc1 63 rfl 1 k_i1 rfl (by decide) dX7_laws_60 ?_
          refine q_goto 28 (by decide) dX7_laws_63 ?_
          refine q_loc (ih _ ?_ _ ?_) (q_sub1 rfl (q_sub1 rfl (q_sub1 rfl (q_sub1 rfl q_sub0))))
          · rw [h_a, cnt]
            first
              | (rw [decide_eq_true (by omega)]; rfl)
              | (rw [decide_eq_false (by omega)]; rfl)
          · first
              | exact h_H2
              | exact h_H
        · refine q_iconst 54 rfl 1 k_i1 dX7_laws_53 ?_
          refine q_goto 58 (by decide) dX7_laws_54 ?_
          refine q_iadd 59 rfl dX7_laws_58 ?_
          refine q_istore_n 60 rfl (by decide) dX7_laws_59 ?_
          refine q_iinc1 63 rfl 1 k_i1 rfl (by decide) dX7_laws_60 ?_
          refine q_goto 28 (by decide) dX7_laws_63 ?_
          refine q_loc (ih _ ?_ _ ?_) (q_sub1 rfl (q_sub1 rfl (q_sub1 rfl (q_sub1 rfl q_sub0))))
          · rw [h_a, cnt]
            first
              | (rw [decide_eq_true (by omega)]; rfl)
              | (rw [decide_eq_false (by omega)]; rfl)
          · first
              | exact h_H2
              | exact h_H
theorem k_laws7 {Y : Nat} {c : Nat} (hG : GF ad G) (hM : MS N c) (hY : Y < 4294967296) : q_Con Γ mX7_laws 5 0 0 [.ref (ad 77), .int (nI Y)] (LT ad, N, L, G) (q_sc ad N G (.int (nI (lws (N 79) c Y)))) := by
  obtain ⟨hc, hc9, hb, hl, hs, hk, hms, hpr, hg9, hh, hgn, hga, hod, ho1⟩ := id hM
  refine q_con (by decide) rfl rfl (Nat.le_of_ble_eq_true rfl) ?_
  refine q_iload_n 1 rfl rfl dX7_laws_0 ?_
  refine q_i2l 2 rfl dX7_laws_1 ?_
  refine q_lconst 3 rfl 1 lN1 dX7_laws_2 ?_
  refine q_ldc2 6 rfl (9) klX7_165 rfl dX7_laws_3 ?_
  refine q_cS3 9 rfl lX7_68 (k_in hY (by omega) (by omega) rfl (by omega) (by omega)) rfl rfl rfl dX7_laws_6 ?_
  refine q_if_neD 12 rfl 14 (by decide) dX7_laws_9 (fun h9 => ?_) (fun h9 => ?_)
  · refine q_aload_n 15 rfl rfl dX7_laws_14 ?_
    refine q_getI 18 rfl fX7_155 rfl 77 t_77 dX7_laws_15 ?_
    refine q_if_ne 21 rfl 24 (by decide) (by omega) dX7_laws_18 (fun h18 => ?_) (fun h18 => ?_)
    · refine q_iconst 25 rfl 0 k_i0 dX7_laws_24 ?_
      refine q_istore_n 26 rfl (by decide) dX7_laws_25 ?_
      refine q_iconst 27 rfl 0 k_i0 dX7_laws_26 ?_
      refine q_istore_n 28 rfl (by decide) dX7_laws_27 ?_
      refine q_loc (laws7_lp (N := N) hG hc hc9 hb hl (by omega) ?_ 0 (by omega) _ rfl _ Sc.rf) (q_sub1 rfl (q_sub1 rfl (q_sub1 rfl (q_sub1 rfl q_sub0))))
      intro H h_H
      refine q_iload_n 67 rfl rfl dX7_laws_66 ?_
      refine q_iret rfl dX7_laws_67 ?_
      first
        | (refine ⟨?_, _, _, rfl, Sc.rf⟩; rw [lws, if_neg (by omega)]; done)
        | (refine ⟨?_, _, _, rfl, Sc.rf⟩; rw [lws, if_pos (by omega), if_pos (by omega)]; done)
        | (refine ⟨?_, _, _, rfl, h_H⟩; rw [lws, if_pos (by omega), if_neg (by omega)])
    · refine q_bipush 23 rfl 4294967294 k_bm2 dX7_laws_21 ?_
      refine q_iret rfl dX7_laws_23 ?_
      first
        | (refine ⟨?_, _, _, rfl, Sc.rf⟩; rw [lws, if_neg (by omega)]; done)
        | (refine ⟨?_, _, _, rfl, Sc.rf⟩; rw [lws, if_pos (by omega), if_pos (by omega)]; done)
        | (refine ⟨?_, _, _, rfl, h_H⟩; rw [lws, if_pos (by omega), if_neg (by omega)])
  · refine q_iconst 13 rfl 4294967295 k_im1 dX7_laws_12 ?_
    refine q_iret rfl dX7_laws_13 ?_
    first
      | (refine ⟨?_, _, _, rfl, Sc.rf⟩; rw [lws, if_neg (by omega)]; done)
      | (refine ⟨?_, _, _, rfl, Sc.rf⟩; rw [lws, if_pos (by omega), if_pos (by omega)]; done)
      | (refine ⟨?_, _, _, rfl, h_H⟩; rw [lws, if_pos (by omega), if_neg (by omega)])
end
