/-! loops: from the end down -/
theorem dn_loop {P : Nat → Prop} (b : Nat) (hx : P b) (hs : ∀ i, i < b → P (i + 1) → P i) : ∀ i, i ≤ b → P i := by
  have h : ∀ k i, i + k = b → P i := by
    intro k
    induction k with
    | zero => intro i hi; have : i = b := by omega
              subst this; exact hx
    | succ k ih => intro i hi; exact hs i (by omega) (ih (i + 1) (by omega))
  exact fun i hi => h (b - i) i (by omega)
abbrev RG (z : Int) : Prop := -4611686018427387904 ≤ z ∧ z < 4611686018427387904
section
variable {Γ : q_G} {ad : Nat → Nat} {N : Nat → Nat → Nat} {L : Nat → Nat → Int} {G : Nat → Nat → Option Nat}
theorem k_in {h : q_H} {v lo hi : Int} (h1 : RG v) (h2 : RG lo) (h3 : RG hi) : q_Con Γ mX7_in 0 0 0 [.long (lZ v), .long (lZ lo), .long (lZ hi)] h (q_is (some (.int (nI (decide (lo ≤ v ∧ v ≤ hi)).toNat))) h) := by
  refine q_con (by decide) rfl rfl (Nat.le_of_ble_eq_true rfl) ?_
  refine q_lload_n 1 rfl rfl dX7_in_0 ?_
  refine q_lload_n 2 rfl rfl dX7_in_1 ?_
  refine q_lcmp_lt 6 3 rfl rfl 17 (by decide) (by assumption) (by assumption) dX7_in_2 dX7_in_3 (fun h2 => ?_) (fun h2 => ?_)
  · refine q_iconst 18 rfl 0 k_i0 dX7_in_17 ?_
    refine q_zret rfl (by first | exact q_n0 | exact q_n1 | exact q_nb _) dX7_in_18 ?_
    rename_i
    first
    | (rw [decide_eq_true (by omega)]; exact ⟨rfl, rfl⟩)
    | (rw [decide_eq_false (by omega)]; exact ⟨rfl, rfl⟩)
  · refine q_lload_n 7 rfl rfl dX7_in_6 ?_
    refine q_lload 9 rfl rfl dX7_in_7 ?_
    refine q_lcmp_gt 13 10 rfl rfl 17 (by decide) (by assumption) (by assumption) dX7_in_9 dX7_in_10 (fun h9 => ?_) (fun h9 => ?_)
    · refine q_iconst 18 rfl 0 k_i0 dX7_in_17 ?_
      refine q_zret rfl (by first | exact q_n0 | exact q_n1 | exact q_nb _) dX7_in_18 ?_
      rename_i
      first
      | (rw [decide_eq_true (by omega)]; exact ⟨rfl, rfl⟩)
      | (rw [decide_eq_false (by omega)]; exact ⟨rfl, rfl⟩)
    · refine q_iconst 14 rfl 1 k_i1 dX7_in_13 ?_
      refine q_goto 18 (by decide) dX7_in_14 ?_
      refine q_zret rfl (by first | exact q_n0 | exact q_n1 | exact q_nb _) dX7_in_18 ?_
      rename_i
      first
      | (rw [decide_eq_true (by omega)]; exact ⟨rfl, rfl⟩)
      | (rw [decide_eq_false (by omega)]; exact ⟨rfl, rfl⟩)
def unl (f : Nat → Nat) (n m : Nat) : Nat → Nat
  | 0 => 0
  | k + 1 => unl f n m k + if f (9 * n + (k + 1)) = f (9 * m + (k + 1)) then 0 else 1
theorem unlike_lp {rm : Room} {Z : q_Zt} {n m p : Nat} (hG : GF ad G) (hn : n < 9) (hm : m < 9) (hp : p ≤ 8) (hs : ∀ i, N 79 i < 4294967296)
    (hx : q_R Γ mX7_unlike rm Z 0 0 55 [(4, .int (nI (unl (N 79) n m p)))] [] (LT ad, N, L, G)) : ∀ i, i ≤ p + 1 → 1 ≤ i → ∀ s, s = unl (N 79) n m (i - 1) → q_R Γ mX7_unlike rm Z 0 0 6 [(0, .ref (ad 77)), (1, .int (nI n)), (2, .int (nI m)), (3, .int (nI p)), (4, .int (nI s)), (5, .int (nI i))] [] (LT ad, N, L, G) := by
  refine dn_loop (p + 1) ?_ ?_
  · intro _ s hs
    refine q_iload 8 rfl rfl dX7_unlike_6 ?_
    refine q_iload_n 9 rfl rfl dX7_unlike_8 ?_
    refine q_icmp_gt 12 rfl 55 (by decide) (by omega) (by omega) dX7_unlike_9 (fun h9 => ?_) (fun h9 => ?_)
    · subst hs
      exact q_loc hx (q_sub1 rfl q_sub0)
    · exfalso; omega
  · intro i hi ih h1 s hs
    refine q_iload 8 rfl rfl dX7_unlike_6 ?_
    refine q_iload_n 9 rfl rfl dX7_unlike_8 ?_
    refine q_icmp_gt 12 rfl 55 (by decide) (by omega) (by omega) dX7_unlike_9 (fun h9 => ?_) (fun h9 => ?_)
    · exfalso; omega
    · refine q_iload 14 rfl rfl dX7_unlike_12 ?_
      refine q_aload_n 15 rfl rfl dX7_unlike_14 ?_
      refine q_getR 18 rfl fX7_13 rfl 77 t_77 (g_77_1 hG) dX7_unlike_15 ?_
      refine q_bipush 20 rfl 9 k_b9 dX7_unlike_18 ?_
      refine q_iload_n 21 rfl rfl dX7_unlike_20 ?_
      refine q_imul 22 rfl dX7_unlike_21 ?_
      refine q_iload 24 rfl rfl dX7_unlike_22 ?_
      refine q_iadd 25 rfl dX7_unlike_24 ?_
      refine q_iald 26 rfl 79 t_79 (by omega) (by decide) dX7_unlike_25 ?_
      refine q_aload_n 27 rfl rfl dX7_unlike_26 ?_
      refine q_getR 30 rfl fX7_13 rfl 77 t_77 (g_77_1 hG) dX7_unlike_27 ?_
      refine q_bipush 32 rfl 9 k_b9 dX7_unlike_30 ?_
      refine q_iload_n 33 rfl rfl dX7_unlike_32 ?_
      refine q_imul 34 rfl dX7_unlike_33 ?_
      refine q_iload 36 rfl rfl dX7_unlike_34 ?_
      refine q_iadd 37 rfl dX7_unlike_36 ?_
      refine q_iald 38 rfl 79 t_79 (by omega) (by decide) dX7_unlike_37 ?_
      refine q_icmp_ne 41 rfl 45 (by decide) (by exact hs _) (by exact hs _) dX7_unlike_38 (fun h38 => ?_) (fun h38 => ?_)
      · refine q_iconst 46 rfl 1 k_i1 dX7_unlike_45 ?_
        refine q_iadd 47 rfl dX7_unlike_46 ?_
        refine q_istore 49 rfl (by decide) dX7_unlike_47 ?_
        refine q_iinc1 52 rfl 1 k_i1 rfl (by decide) dX7_unlike_49 ?_
        refine q_goto 6 (by decide) dX7_unlike_52 ?_
        refine q_loc (ih (by omega) _ ?_) (q_sub1 rfl (q_sub1 rfl (q_sub1 rfl (q_sub1 rfl (q_sub1 rfl (q_sub1 rfl q_sub0))))))
        obtain ⟨j, rfl⟩ : ∃ j, i = j + 1 := ⟨i - 1, by omega⟩
        simp_all [unl]
      · refine q_iconst 42 rfl 0 k_i0 dX7_unlike_41 ?_
        refine q_goto 46 (by decide) dX7_unlike_42 ?_
        refine q_iadd 47 rfl dX7_unlike_46 ?_
        refine q_istore 49 rfl (by decide) dX7_unlike_47 ?_
        refine q_iinc1 52 rfl 1 k_i1 rfl (by decide) dX7_unlike_49 ?_
        refine q_goto 6 (by decide) dX7_unlike_52 ?_
        refine q_loc (ih (by omega) _ ?_) (q_sub1 rfl (q_sub1 rfl (q_sub1 rfl (q_sub1 rfl (q_sub1 rfl (q_sub1 rfl q_sub0))))))
        obtain ⟨j, rfl⟩ : ∃ j, i = j + 1 := ⟨i - 1, by omega⟩
        simp_all [unl]
theorem k_unlike {n m p : Nat} (hG : GF ad G) (hn : n < 9) (hm : m < 9) (hp : p ≤ 8) (hs : ∀ i, N 79 i < 4294967296) : q_Con Γ mX7_unlike 0 0 0 [.ref (ad 77), .int (nI n), .int (nI m), .int (nI p)] (LT ad, N, L, G) (q_is (some (.int (nI (unl (N 79) n m p)))) (LT ad, N, L, G)) := by
  refine q_con (by decide) rfl rfl (Nat.le_of_ble_eq_true rfl) ?_
  refine q_iconst 1 rfl 0 k_i0 dX7_unlike_0 ?_
  refine q_istore 3 rfl (by decide) dX7_unlike_1 ?_
  refine q_iconst 4 rfl 1 k_i1 dX7_unlike_3 ?_
  refine q_istore 6 rfl (by decide) dX7_unlike_4 ?_
  refine q_loc (unlike_lp hG hn hm hp hs ?_ 1 (by omega) (by omega) _ rfl) (q_sub1 rfl (q_sub1 rfl (q_sub1 rfl (q_sub1 rfl (q_sub1 rfl (q_sub1 rfl q_sub0))))))
  refine q_iload 57 rfl rfl dX7_unlike_55 ?_
  refine q_iret rfl dX7_unlike_57 ?_
  exact ⟨rfl, rfl⟩
end
