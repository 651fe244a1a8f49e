def sheet7 (N : Nat → Nat → Nat) (X Y Z : Nat) : Nat × (Nat → Nat → Nat) := if (X ≤ 3 ∧ Y ≤ 2) ∧ (Z ≤ 40 ∨ 2147483648 ≤ Z) then (if 2147483648 ≤ Z then (4294967282, N) else (1, q_r (q_s (q_s N 93 X Y) 94 X Z) 95 (fun j => if 40 * X ≤ j ∧ j < 40 * X + 40 then 0 else N 95 j))) else (4294967295, N)
def layv (lane z : Nat) : Nat := if lane = 0 then sx8 z else if lane = 1 then sx16 z else z
def put7 (N : Nat → Nat → Nat) (X Y Z : Nat) : Nat × (Nat → Nat → Nat) := if X ≤ 3 then (if N 93 X = 4294967292 then (4294967285, N) else if Y < N 94 X then (1, q_s N 95 (40 * X + Y) (layv (N 93 X) Z)) else (4294967284, N)) else (4294967295, N)
def cou7 (N : Nat → Nat → Nat) (c X cn : Nat) : Nat := match X with
  | 0 => N 78 40
  | 1 => N 78 59
  | 2 => (if N 92 0 = 0 then 0 else 1) + (if N 92 1 = 0 then 0 else 1)
  | 3 => N 77 10
  | 4 => if N 93 0 = 4294967292 then 4294967292 else N 94 0
  | 5 => ods (N 78) (2 ^ c - 1) c
  | 6 => pc cn 26
  | _ => 4294967295
section
variable {Γ : q_G} {ad : Nat → Nat} {N : Nat → Nat → Nat} {L : Nat → Nat → Int} {G : Nat → Nat → Option Nat}
theorem k_mix7 {X Y : Nat} (hG : GF ad G) (hpr : N 78 21 ≤ 5) (hX : X < 4294967296) (hY : Y < 4294967296) : q_Con Γ mX7_mix 2 0 0 [.ref (ad 77), .int (nI X), .int (nI Y)] (LT ad, N, L, G) (q_is (some (.int (nI (mix7 N X Y).1))) (LT ad, (mix7 N X Y).2, L, G)) := by
  have e1 : N 78 21 ≠ 5 → q_s N 78 (11 + 2 * N 78 21) X 78 21 = N 78 21 := fun q => q_s_off (by omega)
  have e2 : N 78 21 ≠ 5 → q_s (q_s N 78 (11 + 2 * N 78 21) X) 78 (11 + 2 * N 78 21 + 1) Y 78 21 = N 78 21 := fun q => by rw [q_s_off (by omega)]; exact e1 q
  refine q_con (by decide) rfl rfl (Nat.le_of_ble_eq_true rfl) ?_
  refine q_iload_n 1 rfl rfl dX7_mix_0 ?_
  refine q_cS1 4 rfl lX7_175 (k_isLetter7 hX) rfl rfl rfl dX7_mix_1 ?_
  refine q_if_eqD 7 rfl 19 (by decide) dX7_mix_4 (fun h4 => ?_) (fun h4 => ?_)
  · refine q_iconst 20 rfl 4294967295 k_im1 dX7_mix_19 ?_
    refine q_iret rfl dX7_mix_20 ?_
    first
      | (rw [mix7, if_neg (by omega)]; exact ⟨rfl, rfl⟩)
      | (rw [mix7, if_pos (by omega), if_pos (by omega)]; exact ⟨rfl, rfl⟩)
      | (rw [mix7, if_pos (by omega), if_neg (by omega)]; exact ⟨rfl, rfl⟩)
  · refine q_iload_n 8 rfl rfl dX7_mix_7 ?_
    refine q_cS1 11 rfl lX7_175 (k_isLetter7 hY) rfl rfl rfl dX7_mix_8 ?_
    refine q_if_eqD 14 rfl 19 (by decide) dX7_mix_11 (fun h11 => ?_) (fun h11 => ?_)
    · refine q_iconst 20 rfl 4294967295 k_im1 dX7_mix_19 ?_
      refine q_iret rfl dX7_mix_20 ?_
      first
        | (rw [mix7, if_neg (by omega)]; exact ⟨rfl, rfl⟩)
        | (rw [mix7, if_pos (by omega), if_pos (by omega)]; exact ⟨rfl, rfl⟩)
        | (rw [mix7, if_pos (by omega), if_neg (by omega)]; exact ⟨rfl, rfl⟩)
    · refine q_iload_n 15 rfl rfl dX7_mix_14 ?_
      refine q_iload_n 16 rfl rfl dX7_mix_15 ?_
      refine q_icmp_ne 19 rfl 21 (by decide) (by omega) (by omega) dX7_mix_16 (fun h16 => ?_) (fun h16 => ?_)
      · refine q_aload_n 22 rfl rfl dX7_mix_21 ?_
        refine q_getR 25 rfl fX7_7 rfl 77 t_77 (g_77_0 hG) dX7_mix_22 ?_
        refine q_bipush 27 rfl 21 k_b21 dX7_mix_25 ?_
        refine q_iald 28 rfl 78 t_78 (by omega) (by decide) dX7_mix_27 ?_
        refine q_iconst 29 rfl 5 k_i5 dX7_mix_28 ?_
        refine q_icmp_ne 32 rfl 35 (by decide) (by omega) (by omega) dX7_mix_29 (fun h29 => ?_) (fun h29 => ?_)
        · refine q_aload_n 36 rfl rfl dX7_mix_35 ?_
          refine q_getR 39 rfl fX7_7 rfl 77 t_77 (g_77_0 hG) dX7_mix_36 ?_
          refine q_bipush 41 rfl 11 k_b11 dX7_mix_39 ?_
          refine q_iconst 42 rfl 2 k_i2 dX7_mix_41 ?_
          refine q_aload_n 43 rfl rfl dX7_mix_42 ?_
          refine q_getR 46 rfl fX7_7 rfl 77 t_77 (g_77_0 hG) dX7_mix_43 ?_
          refine q_bipush 48 rfl 21 k_b21 dX7_mix_46 ?_
          refine q_iald 49 rfl 78 t_78 (by omega) (by decide) dX7_mix_48 ?_
          refine q_imul 50 rfl dX7_mix_49 ?_
          refine q_iadd 51 rfl dX7_mix_50 ?_
          refine q_iload_n 52 rfl rfl dX7_mix_51 ?_
          refine q_iast 53 rfl 78 t_78 (by omega) (by decide) dX7_mix_52 ?_
          refine q_aload_n 54 rfl rfl dX7_mix_53 ?_
          refine q_getR 57 rfl fX7_7 rfl 77 t_77 (g_77_0 hG) dX7_mix_54 ?_
          refine q_bipush 59 rfl 11 k_b11 dX7_mix_57 ?_
          refine q_iconst 60 rfl 2 k_i2 dX7_mix_59 ?_
          refine q_aload_n 61 rfl rfl dX7_mix_60 ?_
          refine q_getR 64 rfl fX7_7 rfl 77 t_77 (g_77_0 hG) dX7_mix_61 ?_
          refine q_bipush 66 rfl 21 k_b21 dX7_mix_64 ?_
          refine q_iald 67 rfl 78 t_78 (by omega) (by decide) dX7_mix_66 ?_
          rw [e1 (by omega)]
          refine q_imul 68 rfl dX7_mix_67 ?_
          refine q_iadd 69 rfl dX7_mix_68 ?_
          refine q_iconst 70 rfl 1 k_i1 dX7_mix_69 ?_
          refine q_iadd 71 rfl dX7_mix_70 ?_
          refine q_iload_n 72 rfl rfl dX7_mix_71 ?_
          refine q_iast 73 rfl 78 t_78 (by omega) (by decide) dX7_mix_72 ?_
          refine q_aload_n 74 rfl rfl dX7_mix_73 ?_
          refine q_getR 77 rfl fX7_7 rfl 77 t_77 (g_77_0 hG) dX7_mix_74 ?_
          refine q_bipush 79 rfl 21 k_b21 dX7_mix_77 ?_
          refine q_dup2 80 rfl rfl rfl dX7_mix_79 ?_
          refine q_iald 81 rfl 78 t_78 (by omega) (by decide) dX7_mix_80 ?_
          rw [e2 (by omega)]
          refine q_iconst 82 rfl 1 k_i1 dX7_mix_81 ?_
          refine q_iadd 83 rfl dX7_mix_82 ?_
          refine q_iast 84 rfl 78 t_78 (by omega) (by decide) dX7_mix_83 ?_
          refine q_aload_n 85 rfl rfl dX7_mix_84 ?_
          refine q_getR 88 rfl fX7_7 rfl 77 t_77 (g_77_0 hG) dX7_mix_85 ?_
          refine q_bipush 90 rfl 21 k_b21 dX7_mix_88 ?_
          refine q_iald 91 rfl 78 t_78 (by omega) (by decide) dX7_mix_90 ?_
          rw [q_s_at]
          refine q_iret rfl dX7_mix_91 ?_
          first
            | (rw [mix7, if_neg (by omega)]; exact ⟨rfl, rfl⟩)
            | (rw [mix7, if_pos (by omega), if_pos (by omega)]; exact ⟨rfl, rfl⟩)
            | (rw [mix7, if_pos (by omega), if_neg (by omega)]; exact ⟨rfl, rfl⟩)
        · refine q_bipush 34 rfl 4294967293 k_bm3 dX7_mix_32 ?_
          refine q_iret rfl dX7_mix_34 ?_
          first
            | (rw [mix7, if_neg (by omega)]; exact ⟨rfl, rfl⟩)
            | (rw [mix7, if_pos (by omega), if_pos (by omega)]; exact ⟨rfl, rfl⟩)
            | (rw [mix7, if_pos (by omega), if_neg (by omega)]; exact ⟨rfl, rfl⟩)
      · refine q_iconst 20 rfl 4294967295 k_im1 dX7_mix_19 ?_
        refine q_iret rfl dX7_mix_20 ?_
        first
          | (rw [mix7, if_neg (by omega)]; exact ⟨rfl, rfl⟩)
          | (rw [mix7, if_pos (by omega), if_pos (by omega)]; exact ⟨rfl, rfl⟩)
          | (rw [mix7, if_pos (by omega), if_neg (by omega)]; exact ⟨rfl, rfl⟩)
theorem k_part7 {X : Nat} (hG : GF ad G) (hr : N 78 21 < 26) (hX : X < 4294967296) : q_Con Γ mX7_part 1 0 0 [.ref (ad 77), .int (nI X)] (LT ad, N, L, G) (q_is (some (.int (nI (part7 N 21 X).1))) (LT ad, (part7 N 21 X).2, L, G)) := by
  by_cases hq : X ≤ N 78 21
  · refine q_con (by decide) rfl rfl (Nat.le_of_ble_eq_true rfl) ?_
    refine q_aload_n 1 rfl rfl dX7_part_0 ?_
    refine q_iload_n 2 rfl rfl dX7_part_1 ?_
    refine q_i2l 3 rfl dX7_part_2 ?_
    refine q_lconst 4 rfl 0 lN0 dX7_part_3 ?_
    refine q_aload_n 5 rfl rfl dX7_part_4 ?_
    refine q_getR 8 rfl fX7_7 rfl 77 t_77 (g_77_0 hG) dX7_part_5 ?_
    refine q_bipush 10 rfl 21 k_b21 dX7_part_8 ?_
    refine q_iald 11 rfl 78 t_78 (by omega) (by decide) dX7_part_10 ?_
    refine q_i2l 12 rfl dX7_part_11 ?_
    refine q_cS3 15 rfl lX7_68 (k_in hX (by omega) (by omega) (z_s_lo (a := N 78 21) (by omega)) (by omega) (by omega)) rfl rfl rfl dX7_part_12 ?_
    rw [decide_eq_true (by omega)]
    refine q_bipush 17 rfl 21 k_b21 dX7_part_15 ?_
    refine q_iload_n 18 rfl rfl dX7_part_17 ?_
    refine q_cV3 21 rfl lX7_167 (k_sets1 hG (by omega)) rfl 77 t_77 rfl rfl rfl dX7_part_18 ?_
    refine q_iret rfl dX7_part_21 ?_
    first
      | (rw [part7, if_pos (by omega)]; exact ⟨rfl, rfl⟩)
  · refine q_con (by decide) rfl rfl (Nat.le_of_ble_eq_true rfl) ?_
    refine q_aload_n 1 rfl rfl dX7_part_0 ?_
    refine q_iload_n 2 rfl rfl dX7_part_1 ?_
    refine q_i2l 3 rfl dX7_part_2 ?_
    refine q_lconst 4 rfl 0 lN0 dX7_part_3 ?_
    refine q_aload_n 5 rfl rfl dX7_part_4 ?_
    refine q_getR 8 rfl fX7_7 rfl 77 t_77 (g_77_0 hG) dX7_part_5 ?_
    refine q_bipush 10 rfl 21 k_b21 dX7_part_8 ?_
    refine q_iald 11 rfl 78 t_78 (by omega) (by decide) dX7_part_10 ?_
    refine q_i2l 12 rfl dX7_part_11 ?_
    refine q_cS3 15 rfl lX7_68 (k_in hX (by omega) (by omega) (z_s_lo (a := N 78 21) (by omega)) (by omega) (by omega)) rfl rfl rfl dX7_part_12 ?_
    rw [decide_eq_false (by omega)]
    refine q_bipush 17 rfl 21 k_b21 dX7_part_15 ?_
    refine q_iload_n 18 rfl rfl dX7_part_17 ?_
    refine q_cV3 21 rfl lX7_167 (k_sets0 hG) rfl 77 t_77 rfl rfl rfl dX7_part_18 ?_
    refine q_iret rfl dX7_part_21 ?_
    first
      | (rw [part7, if_neg (by omega)]; exact ⟨rfl, rfl⟩)
theorem k_undo7 {X : Nat} (hG : GF ad G) (hr : N 78 40 < 26) (hX : X < 4294967296) : q_Con Γ mX7_undo 1 0 0 [.ref (ad 77), .int (nI X)] (LT ad, N, L, G) (q_is (some (.int (nI (part7 N 40 X).1))) (LT ad, (part7 N 40 X).2, L, G)) := by
  by_cases hq : X ≤ N 78 40
  · refine q_con (by decide) rfl rfl (Nat.le_of_ble_eq_true rfl) ?_
    refine q_aload_n 1 rfl rfl dX7_undo_0 ?_
    refine q_iload_n 2 rfl rfl dX7_undo_1 ?_
    refine q_i2l 3 rfl dX7_undo_2 ?_
    refine q_lconst 4 rfl 0 lN0 dX7_undo_3 ?_
    refine q_aload_n 5 rfl rfl dX7_undo_4 ?_
    refine q_getR 8 rfl fX7_7 rfl 77 t_77 (g_77_0 hG) dX7_undo_5 ?_
    refine q_bipush 10 rfl 40 k_b40 dX7_undo_8 ?_
    refine q_iald 11 rfl 78 t_78 (by omega) (by decide) dX7_undo_10 ?_
    refine q_i2l 12 rfl dX7_undo_11 ?_
    refine q_cS3 15 rfl lX7_68 (k_in hX (by omega) (by omega) (z_s_lo (a := N 78 40) (by omega)) (by omega) (by omega)) rfl rfl rfl dX7_undo_12 ?_
    rw [decide_eq_true (by omega)]
    refine q_bipush 17 rfl 40 k_b40 dX7_undo_15 ?_
    refine q_iload_n 18 rfl rfl dX7_undo_17 ?_
    refine q_cV3 21 rfl lX7_167 (k_sets1 hG (by omega)) rfl 77 t_77 rfl rfl rfl dX7_undo_18 ?_
    refine q_iret rfl dX7_undo_21 ?_
    first
      | (rw [part7, if_pos (by omega)]; exact ⟨rfl, rfl⟩)
  · refine q_con (by decide) rfl rfl (Nat.le_of_ble_eq_true rfl) ?_
    refine q_aload_n 1 rfl rfl dX7_undo_0 ?_
    refine q_iload_n 2 rfl rfl dX7_undo_1 ?_
    refine q_i2l 3 rfl dX7_undo_2 ?_
    refine q_lconst 4 rfl 0 lN0 dX7_undo_3 ?_
    refine q_aload_n 5 rfl rfl dX7_undo_4 ?_
    refine q_getR 8 rfl fX7_7 rfl 77 t_77 (g_77_0 hG) dX7_undo_5 ?_
    refine q_bipush 10 rfl 40 k_b40 dX7_undo_8 ?_
    refine q_iald 11 rfl 78 t_78 (by omega) (by decide) dX7_undo_10 ?_
    refine q_i2l 12 rfl dX7_undo_11 ?_
    refine q_cS3 15 rfl lX7_68 (k_in hX (by omega) (by omega) (z_s_lo (a := N 78 40) (by omega)) (by omega) (by omega)) rfl rfl rfl dX7_undo_12 ?_
    rw [decide_eq_false (by omega)]
    refine q_bipush 17 rfl 40 k_b40 dX7_undo_15 ?_
    refine q_iload_n 18 rfl rfl dX7_undo_17 ?_
    refine q_cV3 21 rfl lX7_167 (k_sets0 hG) rfl 77 t_77 rfl rfl rfl dX7_undo_18 ?_
    refine q_iret rfl dX7_undo_21 ?_
    first
      | (rw [part7, if_neg (by omega)]; exact ⟨rfl, rfl⟩)
theorem k_forget7 {X : Nat} (hG : GF ad G) (hr : N 78 59 < 26) (hX : X < 4294967296) : q_Con Γ mX7_forget 1 0 0 [.ref (ad 77), .int (nI X)] (LT ad, N, L, G) (q_is (some (.int (nI (part7 N 59 X).1))) (LT ad, (part7 N 59 X).2, L, G)) := by
  by_cases hq : X ≤ N 78 59
  · refine q_con (by decide) rfl rfl (Nat.le_of_ble_eq_true rfl) ?_
    refine q_aload_n 1 rfl rfl dX7_forget_0 ?_
    refine q_iload_n 2 rfl rfl dX7_forget_1 ?_
    refine q_i2l 3 rfl dX7_forget_2 ?_
    refine q_lconst 4 rfl 0 lN0 dX7_forget_3 ?_
    refine q_aload_n 5 rfl rfl dX7_forget_4 ?_
    refine q_getR 8 rfl fX7_7 rfl 77 t_77 (g_77_0 hG) dX7_forget_5 ?_
    refine q_bipush 10 rfl 59 k_b59 dX7_forget_8 ?_
    refine q_iald 11 rfl 78 t_78 (by omega) (by decide) dX7_forget_10 ?_
    refine q_i2l 12 rfl dX7_forget_11 ?_
    refine q_cS3 15 rfl lX7_68 (k_in hX (by omega) (by omega) (z_s_lo (a := N 78 59) (by omega)) (by omega) (by omega)) rfl rfl rfl dX7_forget_12 ?_
    rw [decide_eq_true (by omega)]
    refine q_bipush 17 rfl 59 k_b59 dX7_forget_15 ?_
    refine q_iload_n 18 rfl rfl dX7_forget_17 ?_
    refine q_cV3 21 rfl lX7_167 (k_sets1 hG (by omega)) rfl 77 t_77 rfl rfl rfl dX7_forget_18 ?_
    refine q_iret rfl dX7_forget_21 ?_
    first
      | (rw [part7, if_pos (by omega)]; exact ⟨rfl, rfl⟩)
  · refine q_con (by decide) rfl rfl (Nat.le_of_ble_eq_true rfl) ?_
    refine q_aload_n 1 rfl rfl dX7_forget_0 ?_
    refine q_iload_n 2 rfl rfl dX7_forget_1 ?_
    refine q_i2l 3 rfl dX7_forget_2 ?_
    refine q_lconst 4 rfl 0 lN0 dX7_forget_3 ?_
    refine q_aload_n 5 rfl rfl dX7_forget_4 ?_
    refine q_getR 8 rfl fX7_7 rfl 77 t_77 (g_77_0 hG) dX7_forget_5 ?_
    refine q_bipush 10 rfl 59 k_b59 dX7_forget_8 ?_
    refine q_iald 11 rfl 78 t_78 (by omega) (by decide) dX7_forget_10 ?_
    refine q_i2l 12 rfl dX7_forget_11 ?_
    refine q_cS3 15 rfl lX7_68 (k_in hX (by omega) (by omega) (z_s_lo (a := N 78 59) (by omega)) (by omega) (by omega)) rfl rfl rfl dX7_forget_12 ?_
    rw [decide_eq_false (by omega)]
    refine q_bipush 17 rfl 59 k_b59 dX7_forget_15 ?_
    refine q_iload_n 18 rfl rfl dX7_forget_17 ?_
    refine q_cV3 21 rfl lX7_167 (k_sets0 hG) rfl 77 t_77 rfl rfl rfl dX7_forget_18 ?_
    refine q_iret rfl dX7_forget_21 ?_
    first
      | (rw [part7, if_neg (by omega)]; exact ⟨rfl, rfl⟩)
theorem k_guesses {X Y c : Nat} (hG : GF ad G) (hc : N 77 2 = c) (hc9 : c ≤ 9) (hg9 : N 78 40 ≤ 9) (hX : X < 4294967296) (hY : Y < 4294967296) : q_Con Γ mX7_guesses 2 0 0 [.ref (ad 77), .int (nI X), .int (nI Y)] (LT ad, N, L, G) (q_is (some (.int (nI (gue7 N c X Y).1))) (LT ad, (gue7 N c X Y).2, L, G)) := by
  have e1 : N 78 40 ≠ 9 → q_s N 78 (22 + 2 * N 78 40) X 78 40 = N 78 40 := fun q => q_s_off (by omega)
  have e2 : N 78 40 ≠ 9 → q_s (q_s N 78 (22 + 2 * N 78 40) X) 78 (22 + 2 * N 78 40 + 1) Y 78 40 = N 78 40 := fun q => by rw [q_s_off (by omega)]; exact e1 q
  refine q_con (by decide) rfl rfl (Nat.le_of_ble_eq_true rfl) ?_
  refine q_aload_n 1 rfl rfl dX7_guesses_0 ?_
  refine q_iload_n 2 rfl rfl dX7_guesses_1 ?_
  refine q_cV1 5 rfl lX7_160 (k_isName7 hG hc hc9 hX) rfl 77 t_77 rfl rfl rfl dX7_guesses_2 ?_
  refine q_if_eqD 8 rfl 20 (by decide) dX7_guesses_5 (fun h5 => ?_) (fun h5 => ?_)
  · refine q_iconst 21 rfl 4294967295 k_im1 dX7_guesses_20 ?_
    refine q_iret rfl dX7_guesses_21 ?_
    first
      | (rw [gue7, if_neg (by omega)]; exact ⟨rfl, rfl⟩)
      | (rw [gue7, if_pos (by omega), if_pos (by omega)]; exact ⟨rfl, rfl⟩)
      | (rw [gue7, if_pos (by omega), if_neg (by omega)]; exact ⟨rfl, rfl⟩)
  · refine q_iload_n 9 rfl rfl dX7_guesses_8 ?_
    refine q_i2l 10 rfl dX7_guesses_9 ?_
    refine q_lconst 11 rfl 0 lN0 dX7_guesses_10 ?_
    refine q_ldc2 14 rfl (2) klX7_205 rfl dX7_guesses_11 ?_
    refine q_cS3 17 rfl lX7_68 (k_in hY (by omega) (by omega) rfl (by omega) (by omega)) rfl rfl rfl dX7_guesses_14 ?_
    refine q_if_neD 20 rfl 22 (by decide) dX7_guesses_17 (fun h17 => ?_) (fun h17 => ?_)
    · refine q_aload_n 23 rfl rfl dX7_guesses_22 ?_
      refine q_getR 26 rfl fX7_7 rfl 77 t_77 (g_77_0 hG) dX7_guesses_23 ?_
      refine q_bipush 28 rfl 40 k_b40 dX7_guesses_26 ?_
      refine q_iald 29 rfl 78 t_78 (by omega) (by decide) dX7_guesses_28 ?_
      refine q_bipush 31 rfl 9 k_b9 dX7_guesses_29 ?_
      refine q_icmp_ne 34 rfl 37 (by decide) (by omega) (by omega) dX7_guesses_31 (fun h31 => ?_) (fun h31 => ?_)
      · refine q_aload_n 38 rfl rfl dX7_guesses_37 ?_
        refine q_getR 41 rfl fX7_7 rfl 77 t_77 (g_77_0 hG) dX7_guesses_38 ?_
        refine q_bipush 43 rfl 22 k_b22 dX7_guesses_41 ?_
        refine q_iconst 44 rfl 2 k_i2 dX7_guesses_43 ?_
        refine q_aload_n 45 rfl rfl dX7_guesses_44 ?_
        refine q_getR 48 rfl fX7_7 rfl 77 t_77 (g_77_0 hG) dX7_guesses_45 ?_
        refine q_bipush 50 rfl 40 k_b40 dX7_guesses_48 ?_
        refine q_iald 51 rfl 78 t_78 (by omega) (by decide) dX7_guesses_50 ?_
        refine q_imul 52 rfl dX7_guesses_51 ?_
        refine q_iadd 53 rfl dX7_guesses_52 ?_
        refine q_iload_n 54 rfl rfl dX7_guesses_53 ?_
        refine q_iast 55 rfl 78 t_78 (by omega) (by decide) dX7_guesses_54 ?_
        refine q_aload_n 56 rfl rfl dX7_guesses_55 ?_
        refine q_getR 59 rfl fX7_7 rfl 77 t_77 (g_77_0 hG) dX7_guesses_56 ?_
        refine q_bipush 61 rfl 22 k_b22 dX7_guesses_59 ?_
        refine q_iconst 62 rfl 2 k_i2 dX7_guesses_61 ?_
        refine q_aload_n 63 rfl rfl dX7_guesses_62 ?_
        refine q_getR 66 rfl fX7_7 rfl 77 t_77 (g_77_0 hG) dX7_guesses_63 ?_
        refine q_bipush 68 rfl 40 k_b40 dX7_guesses_66 ?_
        refine q_iald 69 rfl 78 t_78 (by omega) (by decide) dX7_guesses_68 ?_
        rw [e1 (by omega)]
        refine q_imul 70 rfl dX7_guesses_69 ?_
        refine q_iadd 71 rfl dX7_guesses_70 ?_
        refine q_iconst 72 rfl 1 k_i1 dX7_guesses_71 ?_
        refine q_iadd 73 rfl dX7_guesses_72 ?_
        refine q_iload_n 74 rfl rfl dX7_guesses_73 ?_
        refine q_iast 75 rfl 78 t_78 (by omega) (by decide) dX7_guesses_74 ?_
        refine q_aload_n 76 rfl rfl dX7_guesses_75 ?_
        refine q_getR 79 rfl fX7_7 rfl 77 t_77 (g_77_0 hG) dX7_guesses_76 ?_
        refine q_bipush 81 rfl 40 k_b40 dX7_guesses_79 ?_
        refine q_dup2 82 rfl rfl rfl dX7_guesses_81 ?_
        refine q_iald 83 rfl 78 t_78 (by omega) (by decide) dX7_guesses_82 ?_
        rw [e2 (by omega)]
        refine q_iconst 84 rfl 1 k_i1 dX7_guesses_83 ?_
        refine q_iadd 85 rfl dX7_guesses_84 ?_
        refine q_iast 86 rfl 78 t_78 (by omega) (by decide) dX7_guesses_85 ?_
        refine q_aload_n 87 rfl rfl dX7_guesses_86 ?_
        refine q_getR 90 rfl fX7_7 rfl 77 t_77 (g_77_0 hG) dX7_guesses_87 ?_
        refine q_bipush 92 rfl 40 k_b40 dX7_guesses_90 ?_
        refine q_iald 93 rfl 78 t_78 (by omega) (by decide) dX7_guesses_92 ?_
        rw [q_s_at]
        refine q_iret rfl dX7_guesses_93 ?_
        first
          | (rw [gue7, if_neg (by omega)]; exact ⟨rfl, rfl⟩)
          | (rw [gue7, if_pos (by omega), if_pos (by omega)]; exact ⟨rfl, rfl⟩)
          | (rw [gue7, if_pos (by omega), if_neg (by omega)]; exact ⟨rfl, rfl⟩)
      · refine q_bipush 36 rfl 4294967293 k_bm3 dX7_guesses_34 ?_
        refine q_iret rfl dX7_guesses_36 ?_
        first
          | (rw [gue7, if_neg (by omega)]; exact ⟨rfl, rfl⟩)
          | (rw [gue7, if_pos (by omega), if_pos (by omega)]; exact ⟨rfl, rfl⟩)
          | (rw [gue7, if_pos (by omega), if_neg (by omega)]; exact ⟨rfl, rfl⟩)
    · refine q_iconst 21 rfl 4294967295 k_im1 dX7_guesses_20 ?_
      refine q_iret rfl dX7_guesses_21 ?_
      first
        | (rw [gue7, if_neg (by omega)]; exact ⟨rfl, rfl⟩)
        | (rw [gue7, if_pos (by omega), if_pos (by omega)]; exact ⟨rfl, rfl⟩)
        | (rw [gue7, if_pos (by omega), if_neg (by omega)]; exact ⟨rfl, rfl⟩)
theorem k_guess7 {X Y c : Nat} (hG : GF ad G) (hc : N 77 2 = c) (hc9 : c ≤ 9) (hg9 : N 78 40 ≤ 9) (hX : X < 4294967296) (hY : Y < 4294967296) : q_Con Γ mX7_guess 3 0 0 [.ref (ad 77), .int (nI X), .int (nI Y)] (LT ad, N, L, G) (q_is (some (.int (nI (gue7 N c X Y).1))) (LT ad, (gue7 N c X Y).2, L, G)) := by
  refine q_con (by decide) rfl rfl (Nat.le_of_ble_eq_true rfl) ?_
  refine q_aload_n 1 rfl rfl dX7_guess_0 ?_
  refine q_iload_n 2 rfl rfl dX7_guess_1 ?_
  refine q_iload_n 3 rfl rfl dX7_guess_2 ?_
  refine q_cV2 6 rfl lX7_207 (k_guesses hG hc hc9 hg9 hX hY) rfl 77 t_77 rfl rfl rfl dX7_guess_3 ?_
  refine q_iret rfl dX7_guess_6 ?_
  exact ⟨rfl, rfl⟩
theorem k_hear7 {X Y b : Nat} (hG : GF ad G) (hh : N 78 59 ≤ 6) (hX : X < 4294967296) (hY : Y < 4294967296) (hb : b < 4294967296) : q_Con Γ mX7_hear 2 0 0 [.ref (ad 77), .int (nI X), .int (nI Y), .int (nI b)] (LT ad, N, L, G) (q_is (some (.int (nI (hear7 N X Y b).1))) (LT ad, (hear7 N X Y b).2, L, G)) := by
  have e1 : N 78 59 ≠ 6 → ∀ v, q_s (q_s (q_s N 78 (41 + 3 * N 78 59) X) 78 (41 + 3 * N 78 59 + 1) Y) 78 (41 + 3 * N 78 59 + 2) v 78 59 = N 78 59 := fun q v => by rw [q_s_off (by omega), q_s_off (by omega), q_s_off (by omega)]
  refine q_con (by decide) rfl rfl (Nat.le_of_ble_eq_true rfl) ?_
  refine q_iload_n 1 rfl rfl dX7_hear_0 ?_
  refine q_i2l 2 rfl dX7_hear_1 ?_
  refine q_lconst 3 rfl 0 lN0 dX7_hear_2 ?_
  refine q_ldc2 6 rfl (7) klX7_210 rfl dX7_hear_3 ?_
  refine q_cS3 9 rfl lX7_68 (k_in hX (by omega) (by omega) rfl (by omega) (by omega)) rfl rfl rfl dX7_hear_6 ?_
  refine q_if_eqD 12 rfl 19 (by decide) dX7_hear_9 (fun h9 => ?_) (fun h9 => ?_)
  · refine q_iconst 20 rfl 4294967295 k_im1 dX7_hear_19 ?_
    refine q_iret rfl dX7_hear_20 ?_
    first
      | (rw [hear7, if_neg (by omega)]; exact ⟨rfl, rfl⟩)
      | (rw [hear7, if_pos (by omega), if_pos (by omega)]; exact ⟨rfl, rfl⟩)
      | (rw [hear7, if_pos (show X ≤ 7 ∧ Y < 26 by omega), if_neg (show ¬ N 78 59 = 6 by omega), if_pos (show b = 0 by omega)]; exact ⟨rfl, rfl⟩)
      | (rw [hear7, if_pos (show X ≤ 7 ∧ Y < 26 by omega), if_neg (show ¬ N 78 59 = 6 by omega), if_neg (show ¬ b = 0 by omega)]; exact ⟨rfl, rfl⟩)
  · refine q_iload_n 13 rfl rfl dX7_hear_12 ?_
    refine q_cS1 16 rfl lX7_175 (k_isLetter7 hY) rfl rfl rfl dX7_hear_13 ?_
    refine q_if_neD 19 rfl 21 (by decide) dX7_hear_16 (fun h16 => ?_) (fun h16 => ?_)
    · refine q_aload_n 22 rfl rfl dX7_hear_21 ?_
      refine q_getR 25 rfl fX7_7 rfl 77 t_77 (g_77_0 hG) dX7_hear_22 ?_
      refine q_bipush 27 rfl 59 k_b59 dX7_hear_25 ?_
      refine q_iald 28 rfl 78 t_78 (by omega) (by decide) dX7_hear_27 ?_
      refine q_bipush 30 rfl 6 k_b6 dX7_hear_28 ?_
      refine q_icmp_ne 33 rfl 36 (by decide) (by omega) (by omega) dX7_hear_30 (fun h30 => ?_) (fun h30 => ?_)
      · refine q_bipush 38 rfl 41 k_b41 dX7_hear_36 ?_
        refine q_iconst 39 rfl 3 k_i3 dX7_hear_38 ?_
        refine q_aload_n 40 rfl rfl dX7_hear_39 ?_
        refine q_getR 43 rfl fX7_7 rfl 77 t_77 (g_77_0 hG) dX7_hear_40 ?_
        refine q_bipush 45 rfl 59 k_b59 dX7_hear_43 ?_
        refine q_iald 46 rfl 78 t_78 (by omega) (by decide) dX7_hear_45 ?_
        refine q_imul 47 rfl dX7_hear_46 ?_
        refine q_iadd 48 rfl dX7_hear_47 ?_
        refine q_istore 50 rfl (by decide) dX7_hear_48 ?_
        refine q_aload_n 51 rfl rfl dX7_hear_50 ?_
        refine q_getR 54 rfl fX7_7 rfl 77 t_77 (g_77_0 hG) dX7_hear_51 ?_
        refine q_iload 56 rfl rfl dX7_hear_54 ?_
        refine q_iload_n 57 rfl rfl dX7_hear_56 ?_
        refine q_iast 58 rfl 78 t_78 (by omega) (by decide) dX7_hear_57 ?_
        refine q_aload_n 59 rfl rfl dX7_hear_58 ?_
        refine q_getR 62 rfl fX7_7 rfl 77 t_77 (g_77_0 hG) dX7_hear_59 ?_
        refine q_iload 64 rfl rfl dX7_hear_62 ?_
        refine q_iconst 65 rfl 1 k_i1 dX7_hear_64 ?_
        refine q_iadd 66 rfl dX7_hear_65 ?_
        refine q_iload_n 67 rfl rfl dX7_hear_66 ?_
        refine q_iast 68 rfl 78 t_78 (by omega) (by decide) dX7_hear_67 ?_
        refine q_aload_n 69 rfl rfl dX7_hear_68 ?_
        refine q_getR 72 rfl fX7_7 rfl 77 t_77 (g_77_0 hG) dX7_hear_69 ?_
        refine q_iload 74 rfl rfl dX7_hear_72 ?_
        refine q_iconst 75 rfl 2 k_i2 dX7_hear_74 ?_
        refine q_iadd 76 rfl dX7_hear_75 ?_
        refine q_iload_n 77 rfl rfl dX7_hear_76 ?_
        refine q_if_eq 80 rfl 84 (by decide) (by omega) dX7_hear_77 (fun h77 => ?_) (fun h77 => ?_)
        · refine q_iconst 85 rfl 0 k_i0 dX7_hear_84 ?_
          refine q_iast 86 rfl 78 t_78 (by omega) (by decide) dX7_hear_85 ?_
          refine q_aload_n 87 rfl rfl dX7_hear_86 ?_
          refine q_getR 90 rfl fX7_7 rfl 77 t_77 (g_77_0 hG) dX7_hear_87 ?_
          refine q_bipush 92 rfl 59 k_b59 dX7_hear_90 ?_
          refine q_dup2 93 rfl rfl rfl dX7_hear_92 ?_
          refine q_iald 94 rfl 78 t_78 (by omega) (by decide) dX7_hear_93 ?_
          rw [e1 (by omega)]
          refine q_iconst 95 rfl 1 k_i1 dX7_hear_94 ?_
          refine q_iadd 96 rfl dX7_hear_95 ?_
          refine q_iast 97 rfl 78 t_78 (by omega) (by decide) dX7_hear_96 ?_
          refine q_aload_n 98 rfl rfl dX7_hear_97 ?_
          refine q_getR 101 rfl fX7_7 rfl 77 t_77 (g_77_0 hG) dX7_hear_98 ?_
          refine q_bipush 103 rfl 59 k_b59 dX7_hear_101 ?_
          refine q_iald 104 rfl 78 t_78 (by omega) (by decide) dX7_hear_103 ?_
          rw [q_s_at]
          refine q_iret rfl dX7_hear_104 ?_
          first
            | (rw [hear7, if_neg (by omega)]; exact ⟨rfl, rfl⟩)
            | (rw [hear7, if_pos (by omega), if_pos (by omega)]; exact ⟨rfl, rfl⟩)
            | (rw [hear7, if_pos (show X ≤ 7 ∧ Y < 26 by omega), if_neg (show ¬ N 78 59 = 6 by omega), if_pos (show b = 0 by omega)]; exact ⟨rfl, rfl⟩)
            | (rw [hear7, if_pos (show X ≤ 7 ∧ Y < 26 by omega), if_neg (show ¬ N 78 59 = 6 by omega), if_neg (show ¬ b = 0 by omega)]; exact ⟨rfl, rfl⟩)
        · refine q_iconst 81 rfl 1 k_i1 dX7_hear_80 ?_
          refine q_goto 85 (by decide) dX7_hear_81 ?_
          refine q_iast 86 rfl 78 t_78 (by omega) (by decide) dX7_hear_85 ?_
          refine q_aload_n 87 rfl rfl dX7_hear_86 ?_
          refine q_getR 90 rfl fX7_7 rfl 77 t_77 (g_77_0 hG) dX7_hear_87 ?_
          refine q_bipush 92 rfl 59 k_b59 dX7_hear_90 ?_
          refine q_dup2 93 rfl rfl rfl dX7_hear_92 ?_
          refine q_iald 94 rfl 78 t_78 (by omega) (by decide) dX7_hear_93 ?_
          rw [e1 (by omega)]
          refine q_iconst 95 rfl 1 k_i1 dX7_hear_94 ?_
          refine q_iadd 96 rfl dX7_hear_95 ?_
          refine q_iast 97 rfl 78 t_78 (by omega) (by decide) dX7_hear_96 ?_
          refine q_aload_n 98 rfl rfl dX7_hear_97 ?_
          refine q_getR 101 rfl fX7_7 rfl 77 t_77 (g_77_0 hG) dX7_hear_98 ?_
          refine q_bipush 103 rfl 59 k_b59 dX7_hear_101 ?_
          refine q_iald 104 rfl 78 t_78 (by omega) (by decide) dX7_hear_103 ?_
          rw [q_s_at]
          refine q_iret rfl dX7_hear_104 ?_
          first
            | (rw [hear7, if_neg (by omega)]; exact ⟨rfl, rfl⟩)
            | (rw [hear7, if_pos (by omega), if_pos (by omega)]; exact ⟨rfl, rfl⟩)
            | (rw [hear7, if_pos (show X ≤ 7 ∧ Y < 26 by omega), if_neg (show ¬ N 78 59 = 6 by omega), if_pos (show b = 0 by omega)]; exact ⟨rfl, rfl⟩)
            | (rw [hear7, if_pos (show X ≤ 7 ∧ Y < 26 by omega), if_neg (show ¬ N 78 59 = 6 by omega), if_neg (show ¬ b = 0 by omega)]; exact ⟨rfl, rfl⟩)
      · refine q_bipush 35 rfl 4294967293 k_bm3 dX7_hear_33 ?_
        refine q_iret rfl dX7_hear_35 ?_
        first
          | (rw [hear7, if_neg (by omega)]; exact ⟨rfl, rfl⟩)
          | (rw [hear7, if_pos (by omega), if_pos (by omega)]; exact ⟨rfl, rfl⟩)
          | (rw [hear7, if_pos (show X ≤ 7 ∧ Y < 26 by omega), if_neg (show ¬ N 78 59 = 6 by omega), if_pos (show b = 0 by omega)]; exact ⟨rfl, rfl⟩)
          | (rw [hear7, if_pos (show X ≤ 7 ∧ Y < 26 by omega), if_neg (show ¬ N 78 59 = 6 by omega), if_neg (show ¬ b = 0 by omega)]; exact ⟨rfl, rfl⟩)
    · refine q_iconst 20 rfl 4294967295 k_im1 dX7_hear_19 ?_
      refine q_iret rfl dX7_hear_20 ?_
      first
        | (rw [hear7, if_neg (by omega)]; exact ⟨rfl, rfl⟩)
        | (rw [hear7, if_pos (by omega), if_pos (by omega)]; exact ⟨rfl, rfl⟩)
        | (rw [hear7, if_pos (show X ≤ 7 ∧ Y < 26 by omega), if_neg (show ¬ N 78 59 = 6 by omega), if_pos (show b = 0 by omega)]; exact ⟨rfl, rfl⟩)
        | (rw [hear7, if_pos (show X ≤ 7 ∧ Y < 26 by omega), if_neg (show ¬ N 78 59 = 6 by omega), if_neg (show ¬ b = 0 by omega)]; exact ⟨rfl, rfl⟩)
theorem copies_lp {rm : Room} {Z : q_Zt} {f t : Nat} (hG : GF ad G) (hf : f ≤ 180) (ht : t ≤ 180) (hd : f + 60 ≤ t ∨ t + 60 ≤ f) (hx : q_R Γ mX7_copies rm Z 0 0 30 [] [] (LT ad, (q_r N 78 (va_cpy (N 78) (N 78) f t (60))), L, G)) : ∀ i, i ≤ 60 →  ∀ H : Nat → Nat → Nat, H = q_r N 78 (va_cpy (N 78) (N 78) f t i) → q_R Γ mX7_copies rm Z 0 0 2 [(0, .ref (ad 77)), (1, .int (nI f)), (2, .int (nI t)), (3, .int (nI i))] [] (LT ad, H, L, G) := by
  refine dn_loop (60) ?_ ?_
  · intro H h_H
    refine q_iload_n 3 rfl rfl dX7_copies_2 ?_
    refine q_bipush 5 rfl 60 k_b60 dX7_copies_3 ?_
    refine q_icmp_ge 8 rfl 30 (by decide) (by omega) (by omega) dX7_copies_5 (fun h5 => ?_) (fun h5 => ?_)
    · rw [h_H]
      exact q_loc hx q_sub0
    · exfalso; omega
  · intro i h_i ih H h_H
    have e78 : H 78 (f + i) = N 78 (f + i) := by rw [h_H, q_r_at, va_cpy, if_neg (by omega)]
    refine q_iload_n 3 rfl rfl dX7_copies_2 ?_
    refine q_bipush 5 rfl 60 k_b60 dX7_copies_3 ?_
    refine q_icmp_ge 8 rfl 30 (by decide) (by omega) (by omega) dX7_copies_5 (fun h5 => ?_) (fun h5 => ?_)
    · exfalso; omega
    · refine q_aload_n 9 rfl rfl dX7_copies_8 ?_
      refine q_getR 12 rfl fX7_7 rfl 77 t_77 (g_77_0 hG) dX7_copies_9 ?_
      refine q_iload_n 13 rfl rfl dX7_copies_12 ?_
      refine q_iload_n 14 rfl rfl dX7_copies_13 ?_
      refine q_iadd 15 rfl dX7_copies_14 ?_
      refine q_aload_n 16 rfl rfl dX7_copies_15 ?_
      refine q_getR 19 rfl fX7_7 rfl 77 t_77 (g_77_0 hG) dX7_copies_16 ?_
      refine q_iload_n 20 rfl rfl dX7_copies_19 ?_
      refine q_iload_n 21 rfl rfl dX7_copies_20 ?_
      refine q_iadd 22 rfl dX7_copies_21 ?_
      refine q_iald 23 rfl 78 t_78 (by omega) (by decide) dX7_copies_22 ?_
      refine q_iast 24 rfl 78 t_78 (by omega) (by decide) dX7_copies_23 ?_
      refine q_iinc1 27 rfl 1 k_i1 rfl (by decide) dX7_copies_24 ?_
      refine q_goto 2 (by decide) dX7_copies_27 ?_
      refine q_loc (ih _ ?_) (q_sub1 rfl (q_sub1 rfl (q_sub1 rfl (q_sub1 rfl q_sub0))))
      · rw [e78, h_H]
        funext x y
        simp only [q_s, q_r]
        by_cases hx1 : x = 78
        · subst hx1
          simp only [if_true, va_cpy]
          by_cases hy : y = t + i
          · rw [if_pos hy, if_pos (by omega)]; exact congrArg _ (by omega)
          · rw [if_neg hy]
            by_cases hy2 : t ≤ y ∧ y < t + i
            · rw [if_pos hy2, if_pos (by omega)]
            · rw [if_neg hy2, if_neg (by omega)]
        · simp only [hx1, if_false]
theorem k_copies {f t : Nat} (hG : GF ad G) (hf : f ≤ 180) (ht : t ≤ 180) (hd : f + 60 ≤ t ∨ t + 60 ≤ f) : q_Con Γ mX7_copies 0 0 0 [.ref (ad 77), .int (nI f), .int (nI t)] (LT ad, N, L, G) (q_is none (LT ad, q_r N 78 (va_cpy (N 78) (N 78) f t 60), L, G)) := by
  refine q_con (by decide) rfl rfl (Nat.le_of_ble_eq_true rfl) ?_
  refine q_iconst 1 rfl 0 k_i0 dX7_copies_0 ?_
  refine q_istore_n 2 rfl (by decide) dX7_copies_1 ?_
  refine q_loc (copies_lp (N := N) hG hf ht hd ?_ 0 (by omega) _ ?_) (q_sub1 rfl (q_sub1 rfl (q_sub1 rfl (q_sub1 rfl q_sub0))))
  rotate_left
  · funext x y
    simp only [q_r]
    by_cases hx1 : x = 78
    · subst hx1; rw [if_pos rfl, va_cpy, if_neg (by omega)]
    · rw [if_neg hx1]
  refine q_vret rfl dX7_copies_30 ?_
  exact ⟨rfl, rfl⟩
theorem k_keep7 {X : Nat} (hG : GF ad G) (hk2 : ∀ i, i < 2 → N 92 i < 2) (hX : X < 4294967296) : q_Con Γ mX7_keep 1 0 0 [.ref (ad 77), .int (nI X)] (LT ad, N, L, G) (q_is (some (.int (nI (keep7 N X).1))) (LT ad, (keep7 N X).2, L, G)) := by
  have q1 := hk2 X
  refine q_con (by decide) rfl rfl (Nat.le_of_ble_eq_true rfl) ?_
  refine q_iload_n 1 rfl rfl dX7_keep_0 ?_
  refine q_i2l 2 rfl dX7_keep_1 ?_
  refine q_lconst 3 rfl 0 lN0 dX7_keep_2 ?_
  refine q_lconst 4 rfl 1 lN1 dX7_keep_3 ?_
  refine q_cS3 7 rfl lX7_68 (k_in hX (by omega) (by omega) rfl (by omega) (by omega)) rfl rfl rfl dX7_keep_4 ?_
  refine q_if_neD 10 rfl 12 (by decide) dX7_keep_7 (fun h7 => ?_) (fun h7 => ?_)
  · refine q_aload_n 13 rfl rfl dX7_keep_12 ?_
    refine q_iconst 14 rfl 0 k_i0 dX7_keep_13 ?_
    refine q_bipush 16 rfl 60 k_b60 dX7_keep_14 ?_
    refine q_iload_n 17 rfl rfl dX7_keep_16 ?_
    refine q_iconst 18 rfl 1 k_i1 dX7_keep_17 ?_
    refine q_iadd 19 rfl dX7_keep_18 ?_
    refine q_imul 20 rfl dX7_keep_19 ?_
    refine q_cV2v 23 rfl lX7_274 (k_copies hG (by omega) (by omega) (by omega)) rfl 77 t_77 rfl rfl rfl dX7_keep_20 ?_
    refine q_aload_n 24 rfl rfl dX7_keep_23 ?_
    refine q_getR 27 rfl fX7_53 rfl 77 t_77 (g_77_25 hG) dX7_keep_24 ?_
    refine q_iload_n 28 rfl rfl dX7_keep_27 ?_
    refine q_zald 29 rfl 92 t_92 (by omega) (by decide) dX7_keep_28 ?_
    rw [show q_r N 78 (va_cpy (N 78) (N 78) 0 (60 * (X + 1)) 60) 92 X = N 92 X from rfl]
    refine q_if_eq 32 rfl 36 (by decide) (by omega) dX7_keep_29 (fun h29 => ?_) (fun h29 => ?_)
    · refine q_iconst 37 rfl 0 k_i0 dX7_keep_36 ?_
      refine q_istore_n 38 rfl (by decide) dX7_keep_37 ?_
      refine q_aload_n 39 rfl rfl dX7_keep_38 ?_
      refine q_getR 42 rfl fX7_53 rfl 77 t_77 (g_77_25 hG) dX7_keep_39 ?_
      refine q_iload_n 43 rfl rfl dX7_keep_42 ?_
      refine q_iconst 44 rfl 1 k_i1 dX7_keep_43 ?_
      refine q_zast 45 rfl 92 t_92 (by omega) (by decide) (1) (vp_z (by omega)) dX7_keep_44 ?_
      refine q_iload_n 46 rfl rfl dX7_keep_45 ?_
      refine q_iret rfl dX7_keep_46 ?_
      first
        | (rw [keep7, if_neg (by omega)]; exact ⟨rfl, rfl⟩)
        | (rw [keep7, if_pos (show X ≤ 1 by omega), if_pos (show N 92 X = 0 by omega)]; exact ⟨rfl, rfl⟩)
        | (rw [keep7, if_pos (show X ≤ 1 by omega), if_neg (show ¬ N 92 X = 0 by omega)]; exact ⟨rfl, rfl⟩)
    · refine q_iconst 33 rfl 1 k_i1 dX7_keep_32 ?_
      refine q_goto 37 (by decide) dX7_keep_33 ?_
      refine q_istore_n 38 rfl (by decide) dX7_keep_37 ?_
      refine q_aload_n 39 rfl rfl dX7_keep_38 ?_
      refine q_getR 42 rfl fX7_53 rfl 77 t_77 (g_77_25 hG) dX7_keep_39 ?_
      refine q_iload_n 43 rfl rfl dX7_keep_42 ?_
      refine q_iconst 44 rfl 1 k_i1 dX7_keep_43 ?_
      refine q_zast 45 rfl 92 t_92 (by omega) (by decide) (1) (vp_z (by omega)) dX7_keep_44 ?_
      refine q_iload_n 46 rfl rfl dX7_keep_45 ?_
      refine q_iret rfl dX7_keep_46 ?_
      first
        | (rw [keep7, if_neg (by omega)]; exact ⟨rfl, rfl⟩)
        | (rw [keep7, if_pos (show X ≤ 1 by omega), if_pos (show N 92 X = 0 by omega)]; exact ⟨rfl, rfl⟩)
        | (rw [keep7, if_pos (show X ≤ 1 by omega), if_neg (show ¬ N 92 X = 0 by omega)]; exact ⟨rfl, rfl⟩)
  · refine q_iconst 11 rfl 4294967295 k_im1 dX7_keep_10 ?_
    refine q_iret rfl dX7_keep_11 ?_
    first
      | (rw [keep7, if_neg (by omega)]; exact ⟨rfl, rfl⟩)
      | (rw [keep7, if_pos (show X ≤ 1 by omega), if_pos (show N 92 X = 0 by omega)]; exact ⟨rfl, rfl⟩)
      | (rw [keep7, if_pos (show X ≤ 1 by omega), if_neg (show ¬ N 92 X = 0 by omega)]; exact ⟨rfl, rfl⟩)
theorem k_back7 {X : Nat} (hG : GF ad G) (hk2 : ∀ i, i < 2 → N 92 i < 2) (hX : X < 4294967296) : q_Con Γ mX7_back 1 0 0 [.ref (ad 77), .int (nI X)] (LT ad, N, L, G) (q_is (some (.int (nI (back7 N X).1))) (LT ad, (back7 N X).2, L, G)) := by
  have q1 := hk2 X
  refine q_con (by decide) rfl rfl (Nat.le_of_ble_eq_true rfl) ?_
  refine q_iload_n 1 rfl rfl dX7_back_0 ?_
  refine q_i2l 2 rfl dX7_back_1 ?_
  refine q_lconst 3 rfl 0 lN0 dX7_back_2 ?_
  refine q_lconst 4 rfl 1 lN1 dX7_back_3 ?_
  refine q_cS3 7 rfl lX7_68 (k_in hX (by omega) (by omega) rfl (by omega) (by omega)) rfl rfl rfl dX7_back_4 ?_
  refine q_if_neD 10 rfl 12 (by decide) dX7_back_7 (fun h7 => ?_) (fun h7 => ?_)
  · refine q_aload_n 13 rfl rfl dX7_back_12 ?_
    refine q_getR 16 rfl fX7_53 rfl 77 t_77 (g_77_25 hG) dX7_back_13 ?_
    refine q_iload_n 17 rfl rfl dX7_back_16 ?_
    refine q_zald 18 rfl 92 t_92 (by omega) (by decide) dX7_back_17 ?_
    refine q_if_ne 21 rfl 24 (by decide) (by omega) dX7_back_18 (fun h18 => ?_) (fun h18 => ?_)
    · refine q_aload_n 25 rfl rfl dX7_back_24 ?_
      refine q_bipush 27 rfl 60 k_b60 dX7_back_25 ?_
      refine q_iload_n 28 rfl rfl dX7_back_27 ?_
      refine q_iconst 29 rfl 1 k_i1 dX7_back_28 ?_
      refine q_iadd 30 rfl dX7_back_29 ?_
      refine q_imul 31 rfl dX7_back_30 ?_
      refine q_iconst 32 rfl 0 k_i0 dX7_back_31 ?_
      refine q_cV2v 35 rfl lX7_274 (k_copies hG (by omega) (by omega) (by omega)) rfl 77 t_77 rfl rfl rfl dX7_back_32 ?_
      refine q_aload_n 36 rfl rfl dX7_back_35 ?_
      refine q_getR 39 rfl fX7_7 rfl 77 t_77 (g_77_0 hG) dX7_back_36 ?_
      refine q_bipush 41 rfl 40 k_b40 dX7_back_39 ?_
      refine q_iald 42 rfl 78 t_78 (by omega) (by decide) dX7_back_41 ?_
      rw [show q_r N 78 (va_cpy (N 78) (N 78) (60 * (X + 1)) 0 60) 78 40 = N 78 (60 * (X + 1) + 40) by rw [q_r_at, va_cpy, if_pos (by omega)]]
      refine q_iret rfl dX7_back_42 ?_
      first
        | (rw [back7, if_neg (by omega)]; exact ⟨rfl, rfl⟩)
        | (rw [back7, if_pos (by omega), if_pos (by omega)]; exact ⟨rfl, rfl⟩)
        | (rw [back7, if_pos (by omega), if_neg (by omega)]; exact ⟨rfl, rfl⟩)
    · refine q_bipush 23 rfl 4294967294 k_bm2 dX7_back_21 ?_
      refine q_iret rfl dX7_back_23 ?_
      first
        | (rw [back7, if_neg (by omega)]; exact ⟨rfl, rfl⟩)
        | (rw [back7, if_pos (by omega), if_pos (by omega)]; exact ⟨rfl, rfl⟩)
        | (rw [back7, if_pos (by omega), if_neg (by omega)]; exact ⟨rfl, rfl⟩)
  · refine q_iconst 11 rfl 4294967295 k_im1 dX7_back_10 ?_
    refine q_iret rfl dX7_back_11 ?_
    first
      | (rw [back7, if_neg (by omega)]; exact ⟨rfl, rfl⟩)
      | (rw [back7, if_pos (by omega), if_pos (by omega)]; exact ⟨rfl, rfl⟩)
      | (rw [back7, if_pos (by omega), if_neg (by omega)]; exact ⟨rfl, rfl⟩)
theorem sheet7_lp {rm : Room} {Z : q_Zt} {X : Nat} {K : Nat → Nat → Nat} (hG : GF ad G) (hX : X ≤ 3) (hx : q_R Γ mX7_sheet rm Z 0 0 82 [] [] (LT ad, (q_r K 95 (fun j => if 40 * X ≤ j ∧ j < 40 * X + (40) then 0 else K 95 j)), L, G)) : ∀ i, i ≤ 40 →  ∀ H : Nat → Nat → Nat, H = q_r K 95 (fun j => if 40 * X ≤ j ∧ j < 40 * X + i then 0 else K 95 j) → q_R Γ mX7_sheet rm Z 0 0 56 [(0, .ref (ad 77)), (1, .int (nI X)), (4, .int (nI i))] [] (LT ad, H, L, G) := by
  refine dn_loop (40) ?_ ?_
  · intro H h_H
    refine q_iload 58 rfl rfl dX7_sheet_56 ?_
    refine q_bipush 60 rfl 40 k_b40 dX7_sheet_58 ?_
    refine q_icmp_ge 63 rfl 82 (by decide) (by omega) (by omega) dX7_sheet_60 (fun h60 => ?_) (fun h60 => ?_)
    · rw [h_H]
      exact q_loc hx q_sub0
    · exfalso; omega
  · intro i h_i ih H h_H
    refine q_iload 58 rfl rfl dX7_sheet_56 ?_
    refine q_bipush 60 rfl 40 k_b40 dX7_sheet_58 ?_
    refine q_icmp_ge 63 rfl 82 (by decide) (by omega) (by omega) dX7_sheet_60 (fun h60 => ?_) (fun h60 => ?_)
    · exfalso; omega
    · refine q_aload_n 64 rfl rfl dX7_sheet_63 ?_
      refine q_getR 67 rfl fX7_63 rfl 77 t_77 (g_77_28 hG) dX7_sheet_64 ?_
      refine q_bipush 69 rfl 40 k_b40 dX7_sheet_67 ?_
      refine q_iload_n 70 rfl rfl dX7_sheet_69 ?_
      refine q_imul 71 rfl dX7_sheet_70 ?_
      refine q_iload 73 rfl rfl dX7_sheet_71 ?_
      refine q_iadd 74 rfl dX7_sheet_73 ?_
      refine q_iconst 75 rfl 0 k_i0 dX7_sheet_74 ?_
      refine q_iast 76 rfl 95 t_95 (by omega) (by decide) dX7_sheet_75 ?_
      refine q_iinc1 79 rfl 1 k_i1 rfl (by decide) dX7_sheet_76 ?_
      refine q_goto 56 (by decide) dX7_sheet_79 ?_
      refine q_loc (ih _ ?_) (q_sub1 rfl (q_sub1 rfl (q_sub1 rfl q_sub0)))
      · rw [h_H]
        funext x y
        simp only [q_s, q_r]
        by_cases hx1 : x = 95
        · subst hx1
          simp only [if_true]
          by_cases hy : y = 40 * X + i
          · rw [if_pos hy, if_pos (by omega)]
          · rw [if_neg hy]
            by_cases hy2 : 40 * X ≤ y ∧ y < 40 * X + i
            · rw [if_pos hy2, if_pos (by omega)]
            · rw [if_neg hy2, if_neg (by omega)]
        · simp only [hx1, if_false]
theorem k_sheet7 {X Y Z : Nat} (hG : GF ad G) (hX : X < 4294967296) (hY : Y < 4294967296) (hZ : Z < 4294967296) : q_Con Γ mX7_sheet 1 0 0 [.ref (ad 77), .int (nI X), .int (nI Y), .int (nI Z)] (LT ad, N, L, G) (q_is (some (.int (nI (sheet7 N X Y Z).1))) (LT ad, (sheet7 N X Y Z).2, L, G)) := by
  have z2 := z_two Z hZ
  have z40 : z_s 40 = 40 := rfl
  have z00 : z_s 0 = 0 := rfl
  refine q_con (by decide) rfl rfl (Nat.le_of_ble_eq_true rfl) ?_
  refine q_iload_n 1 rfl rfl dX7_sheet_0 ?_
  refine q_i2l 2 rfl dX7_sheet_1 ?_
  refine q_lconst 3 rfl 0 lN0 dX7_sheet_2 ?_
  refine q_ldc2 6 rfl (3) klX7_135 rfl dX7_sheet_3 ?_
  refine q_cS3 9 rfl lX7_68 (k_in hX (by omega) (by omega) rfl (by omega) (by omega)) rfl rfl rfl dX7_sheet_6 ?_
  refine q_if_eqD 12 rfl 30 (by decide) dX7_sheet_9 (fun h9 => ?_) (fun h9 => ?_)
  · refine q_iconst 31 rfl 4294967295 k_im1 dX7_sheet_30 ?_
    refine q_iret rfl dX7_sheet_31 ?_
    first
      | (rw [sheet7, if_neg (by omega)]; exact ⟨rfl, rfl⟩)
      | (rw [sheet7, if_pos (by omega), if_pos (by omega)]; exact ⟨rfl, rfl⟩)
      | (rw [sheet7, if_pos (by omega), if_neg (by omega)]; exact ⟨rfl, rfl⟩)
  · refine q_iload_n 13 rfl rfl dX7_sheet_12 ?_
    refine q_i2l 14 rfl dX7_sheet_13 ?_
    refine q_lconst 15 rfl 0 lN0 dX7_sheet_14 ?_
    refine q_ldc2 18 rfl (2) klX7_205 rfl dX7_sheet_15 ?_
    refine q_cS3 21 rfl lX7_68 (k_in hY (by omega) (by omega) rfl (by omega) (by omega)) rfl rfl rfl dX7_sheet_18 ?_
    refine q_if_eqD 24 rfl 30 (by decide) dX7_sheet_21 (fun h21 => ?_) (fun h21 => ?_)
    · refine q_iconst 31 rfl 4294967295 k_im1 dX7_sheet_30 ?_
      refine q_iret rfl dX7_sheet_31 ?_
      first
        | (rw [sheet7, if_neg (by omega)]; exact ⟨rfl, rfl⟩)
        | (rw [sheet7, if_pos (by omega), if_pos (by omega)]; exact ⟨rfl, rfl⟩)
        | (rw [sheet7, if_pos (by omega), if_neg (by omega)]; exact ⟨rfl, rfl⟩)
    · refine q_iload_n 25 rfl rfl dX7_sheet_24 ?_
      refine q_bipush 27 rfl 40 k_b40 dX7_sheet_25 ?_
      refine q_icmpS_le 30 rfl 32 (by decide) dX7_sheet_27 (fun h27 => ?_) (fun h27 => ?_)
      · refine q_iload_n 33 rfl rfl dX7_sheet_32 ?_
        refine q_ifS_ge 36 rfl 39 (by decide) dX7_sheet_33 (fun h33 => ?_) (fun h33 => ?_)
        · refine q_aload_n 40 rfl rfl dX7_sheet_39 ?_
          refine q_getR 43 rfl fX7_57 rfl 77 t_77 (g_77_26 hG) dX7_sheet_40 ?_
          refine q_iload_n 44 rfl rfl dX7_sheet_43 ?_
          refine q_iload_n 45 rfl rfl dX7_sheet_44 ?_
          refine q_iast 46 rfl 93 t_93 (by omega) (by decide) dX7_sheet_45 ?_
          refine q_aload_n 47 rfl rfl dX7_sheet_46 ?_
          refine q_getR 50 rfl fX7_60 rfl 77 t_77 (g_77_27 hG) dX7_sheet_47 ?_
          refine q_iload_n 51 rfl rfl dX7_sheet_50 ?_
          refine q_iload_n 52 rfl rfl dX7_sheet_51 ?_
          refine q_iast 53 rfl 94 t_94 (by omega) (by decide) dX7_sheet_52 ?_
          refine q_iconst 54 rfl 0 k_i0 dX7_sheet_53 ?_
          refine q_istore 56 rfl (by decide) dX7_sheet_54 ?_
          refine q_loc (sheet7_lp (K := q_s (q_s N 93 X Y) 94 X Z) hG (by omega) ?_ 0 (by omega) _ ?_) (q_sub1 rfl (q_sub1 rfl (q_sub1 rfl q_sub0)))
          rotate_left
          · funext x y
            simp only [q_r]
            by_cases hx1 : x = 95
            · subst hx1; rw [if_pos rfl, if_neg (by omega)]
            · rw [if_neg hx1]
          refine q_iconst 83 rfl 1 k_i1 dX7_sheet_82 ?_
          refine q_iret rfl dX7_sheet_83 ?_
          first
            | (rw [sheet7, if_neg (by omega)]; exact ⟨rfl, rfl⟩)
            | (rw [sheet7, if_pos (by omega), if_pos (by omega)]; exact ⟨rfl, rfl⟩)
            | (rw [sheet7, if_pos (by omega), if_neg (by omega)]; exact ⟨rfl, rfl⟩)
        · refine q_bipush 38 rfl 4294967282 k_bm14 dX7_sheet_36 ?_
          refine q_iret rfl dX7_sheet_38 ?_
          first
            | (rw [sheet7, if_neg (by omega)]; exact ⟨rfl, rfl⟩)
            | (rw [sheet7, if_pos (by omega), if_pos (by omega)]; exact ⟨rfl, rfl⟩)
            | (rw [sheet7, if_pos (by omega), if_neg (by omega)]; exact ⟨rfl, rfl⟩)
      · refine q_iconst 31 rfl 4294967295 k_im1 dX7_sheet_30 ?_
        refine q_iret rfl dX7_sheet_31 ?_
        first
          | (rw [sheet7, if_neg (by omega)]; exact ⟨rfl, rfl⟩)
          | (rw [sheet7, if_pos (by omega), if_pos (by omega)]; exact ⟨rfl, rfl⟩)
          | (rw [sheet7, if_pos (by omega), if_neg (by omega)]; exact ⟨rfl, rfl⟩)
theorem k_lay7 {X Y Z : Nat} (hG : GF ad G) (hla : ∀ i, i < 4 → N 93 i < 4294967296) (hle : ∀ i, i < 4 → N 94 i ≤ 40) (hX : X < 4294967296) (hY : Y < 4294967296) : q_Con Γ mX7_lay 1 0 0 [.ref (ad 77), .int (nI X), .int (nI Y), .int (nI Z)] (LT ad, N, L, G) (q_is (some (.int (nI (put7 N X Y Z).1))) (LT ad, (put7 N X Y Z).2, L, G)) := by
  have q1 := hla X
  have q2 := hle X
  refine q_con (by decide) rfl rfl (Nat.le_of_ble_eq_true rfl) ?_
  refine q_iload_n 1 rfl rfl dX7_lay_0 ?_
  refine q_i2l 2 rfl dX7_lay_1 ?_
  refine q_lconst 3 rfl 0 lN0 dX7_lay_2 ?_
  refine q_ldc2 6 rfl (3) klX7_135 rfl dX7_lay_3 ?_
  refine q_cS3 9 rfl lX7_68 (k_in hX (by omega) (by omega) rfl (by omega) (by omega)) rfl rfl rfl dX7_lay_6 ?_
  refine q_if_neD 12 rfl 14 (by decide) dX7_lay_9 (fun h9 => ?_) (fun h9 => ?_)
  · refine q_aload_n 15 rfl rfl dX7_lay_14 ?_
    refine q_getR 18 rfl fX7_57 rfl 77 t_77 (g_77_26 hG) dX7_lay_15 ?_
    refine q_iload_n 19 rfl rfl dX7_lay_18 ?_
    refine q_iald 20 rfl 93 t_93 (by omega) (by decide) dX7_lay_19 ?_
    refine q_bipush 22 rfl 4294967292 k_bm4 dX7_lay_20 ?_
    refine q_icmp_ne 25 rfl 28 (by decide) (by omega) (by omega) dX7_lay_22 (fun h22 => ?_) (fun h22 => ?_)
    · refine q_iload_n 29 rfl rfl dX7_lay_28 ?_
      refine q_i2l 30 rfl dX7_lay_29 ?_
      refine q_lconst 31 rfl 0 lN0 dX7_lay_30 ?_
      refine q_aload_n 32 rfl rfl dX7_lay_31 ?_
      refine q_getR 35 rfl fX7_60 rfl 77 t_77 (g_77_27 hG) dX7_lay_32 ?_
      refine q_iload_n 36 rfl rfl dX7_lay_35 ?_
      refine q_iald 37 rfl 94 t_94 (by omega) (by decide) dX7_lay_36 ?_
      refine q_iconst 38 rfl 1 k_i1 dX7_lay_37 ?_
      refine q_isubG 39 rfl (by omega) dX7_lay_38 ?_
      refine q_i2l 40 rfl dX7_lay_39 ?_
      refine q_cS3 43 rfl lX7_68 (k_in hY (by omega) (by omega) (z_s_pred (c := N 94 X) (by omega)) (by omega) (by omega)) rfl rfl rfl dX7_lay_40 ?_
      refine q_if_neD 46 rfl 49 (by decide) dX7_lay_43 (fun h43 => ?_) (fun h43 => ?_)
      · refine q_aload_n 50 rfl rfl dX7_lay_49 ?_
        refine q_getR 53 rfl fX7_63 rfl 77 t_77 (g_77_28 hG) dX7_lay_50 ?_
        refine q_bipush 55 rfl 40 k_b40 dX7_lay_53 ?_
        refine q_iload_n 56 rfl rfl dX7_lay_55 ?_
        refine q_imul 57 rfl dX7_lay_56 ?_
        refine q_iload_n 58 rfl rfl dX7_lay_57 ?_
        refine q_iadd 59 rfl dX7_lay_58 ?_
        refine q_aload_n 60 rfl rfl dX7_lay_59 ?_
        refine q_getR 63 rfl fX7_57 rfl 77 t_77 (g_77_26 hG) dX7_lay_60 ?_
        refine q_iload_n 64 rfl rfl dX7_lay_63 ?_
        refine q_iald 65 rfl 93 t_93 (by omega) (by decide) dX7_lay_64 ?_
        refine q_if_ne 68 rfl 78 (by decide) (by omega) dX7_lay_65 (fun h65 => ?_) (fun h65 => ?_)
        · refine q_aload_n 79 rfl rfl dX7_lay_78 ?_
          refine q_getR 82 rfl fX7_57 rfl 77 t_77 (g_77_26 hG) dX7_lay_79 ?_
          refine q_iload_n 83 rfl rfl dX7_lay_82 ?_
          refine q_iald 84 rfl 93 t_93 (by omega) (by decide) dX7_lay_83 ?_
          refine q_iconst 85 rfl 1 k_i1 dX7_lay_84 ?_
          refine q_icmp_ne 88 rfl 98 (by decide) (by omega) (by omega) dX7_lay_85 (fun h85 => ?_) (fun h85 => ?_)
          · refine q_iload_n 99 rfl rfl dX7_lay_98 ?_
            refine q_iast 100 rfl 95 t_95 (by omega) (by decide) dX7_lay_99 ?_
            refine q_iconst 101 rfl 1 k_i1 dX7_lay_100 ?_
            refine q_iret rfl dX7_lay_101 ?_
            first
              | (rw [put7, if_neg (by omega)]; exact ⟨rfl, rfl⟩)
              | (rw [put7, if_pos (by omega), if_pos (by omega)]; exact ⟨rfl, rfl⟩)
              | (rw [put7, if_pos (by omega), if_neg (by omega), if_neg (by omega)]; exact ⟨rfl, rfl⟩)
              | (rw [put7, if_pos (by omega), if_neg (by omega), if_pos (by omega), layv, if_pos (by omega)]; exact ⟨rfl, rfl⟩)
              | (rw [put7, if_pos (by omega), if_neg (by omega), if_pos (by omega), layv, if_neg (by omega), if_pos (by omega)]; exact ⟨rfl, rfl⟩)
              | (rw [put7, if_pos (by omega), if_neg (by omega), if_pos (by omega), layv, if_neg (by omega), if_neg (by omega)]; exact ⟨rfl, rfl⟩)
          · refine q_iload_n 89 rfl rfl dX7_lay_88 ?_
            refine q_bipush 91 rfl 16 k_b16 dX7_lay_89 ?_
            refine q_ishl 92 rfl (by omega) dX7_lay_91 ?_
            refine q_bipush 94 rfl 16 k_b16 dX7_lay_92 ?_
            refine q_ishrG 95 rfl (sx16 Z) (sh16 Z) dX7_lay_94 ?_
            refine q_goto 99 (by decide) dX7_lay_95 ?_
            refine q_iast 100 rfl 95 t_95 (by omega) (by decide) dX7_lay_99 ?_
            refine q_iconst 101 rfl 1 k_i1 dX7_lay_100 ?_
            refine q_iret rfl dX7_lay_101 ?_
            first
              | (rw [put7, if_neg (by omega)]; exact ⟨rfl, rfl⟩)
              | (rw [put7, if_pos (by omega), if_pos (by omega)]; exact ⟨rfl, rfl⟩)
              | (rw [put7, if_pos (by omega), if_neg (by omega), if_neg (by omega)]; exact ⟨rfl, rfl⟩)
              | (rw [put7, if_pos (by omega), if_neg (by omega), if_pos (by omega), layv, if_pos (by omega)]; exact ⟨rfl, rfl⟩)
              | (rw [put7, if_pos (by omega), if_neg (by omega), if_pos (by omega), layv, if_neg (by omega), if_pos (by omega)]; exact ⟨rfl, rfl⟩)
              | (rw [put7, if_pos (by omega), if_neg (by omega), if_pos (by omega), layv, if_neg (by omega), if_neg (by omega)]; exact ⟨rfl, rfl⟩)
        · refine q_iload_n 69 rfl rfl dX7_lay_68 ?_
          refine q_bipush 71 rfl 24 k_b24 dX7_lay_69 ?_
          refine q_ishl 72 rfl (by omega) dX7_lay_71 ?_
          refine q_bipush 74 rfl 24 k_b24 dX7_lay_72 ?_
          refine q_ishrG 75 rfl (sx8 Z) (sh24 Z) dX7_lay_74 ?_
          refine q_goto 99 (by decide) dX7_lay_75 ?_
          refine q_iast 100 rfl 95 t_95 (by omega) (by decide) dX7_lay_99 ?_
          refine q_iconst 101 rfl 1 k_i1 dX7_lay_100 ?_
          refine q_iret rfl dX7_lay_101 ?_
          first
            | (rw [put7, if_neg (by omega)]; exact ⟨rfl, rfl⟩)
            | (rw [put7, if_pos (by omega), if_pos (by omega)]; exact ⟨rfl, rfl⟩)
            | (rw [put7, if_pos (by omega), if_neg (by omega), if_neg (by omega)]; exact ⟨rfl, rfl⟩)
            | (rw [put7, if_pos (by omega), if_neg (by omega), if_pos (by omega), layv, if_pos (by omega)]; exact ⟨rfl, rfl⟩)
            | (rw [put7, if_pos (by omega), if_neg (by omega), if_pos (by omega), layv, if_neg (by omega), if_pos (by omega)]; exact ⟨rfl, rfl⟩)
            | (rw [put7, if_pos (by omega), if_neg (by omega), if_pos (by omega), layv, if_neg (by omega), if_neg (by omega)]; exact ⟨rfl, rfl⟩)
      · refine q_bipush 48 rfl 4294967284 k_bm12 dX7_lay_46 ?_
        refine q_iret rfl dX7_lay_48 ?_
        first
          | (rw [put7, if_neg (by omega)]; exact ⟨rfl, rfl⟩)
          | (rw [put7, if_pos (by omega), if_pos (by omega)]; exact ⟨rfl, rfl⟩)
          | (rw [put7, if_pos (by omega), if_neg (by omega), if_neg (by omega)]; exact ⟨rfl, rfl⟩)
          | (rw [put7, if_pos (by omega), if_neg (by omega), if_pos (by omega), layv, if_pos (by omega)]; exact ⟨rfl, rfl⟩)
          | (rw [put7, if_pos (by omega), if_neg (by omega), if_pos (by omega), layv, if_neg (by omega), if_pos (by omega)]; exact ⟨rfl, rfl⟩)
          | (rw [put7, if_pos (by omega), if_neg (by omega), if_pos (by omega), layv, if_neg (by omega), if_neg (by omega)]; exact ⟨rfl, rfl⟩)
    · refine q_bipush 27 rfl 4294967285 k_bm11 dX7_lay_25 ?_
      refine q_iret rfl dX7_lay_27 ?_
      first
        | (rw [put7, if_neg (by omega)]; exact ⟨rfl, rfl⟩)
        | (rw [put7, if_pos (by omega), if_pos (by omega)]; exact ⟨rfl, rfl⟩)
        | (rw [put7, if_pos (by omega), if_neg (by omega), if_neg (by omega)]; exact ⟨rfl, rfl⟩)
        | (rw [put7, if_pos (by omega), if_neg (by omega), if_pos (by omega), layv, if_pos (by omega)]; exact ⟨rfl, rfl⟩)
        | (rw [put7, if_pos (by omega), if_neg (by omega), if_pos (by omega), layv, if_neg (by omega), if_pos (by omega)]; exact ⟨rfl, rfl⟩)
        | (rw [put7, if_pos (by omega), if_neg (by omega), if_pos (by omega), layv, if_neg (by omega), if_neg (by omega)]; exact ⟨rfl, rfl⟩)
  · refine q_iconst 13 rfl 4294967295 k_im1 dX7_lay_12 ?_
    refine q_iret rfl dX7_lay_13 ?_
    first
      | (rw [put7, if_neg (by omega)]; exact ⟨rfl, rfl⟩)
      | (rw [put7, if_pos (by omega), if_pos (by omega)]; exact ⟨rfl, rfl⟩)
      | (rw [put7, if_pos (by omega), if_neg (by omega), if_neg (by omega)]; exact ⟨rfl, rfl⟩)
      | (rw [put7, if_pos (by omega), if_neg (by omega), if_pos (by omega), layv, if_pos (by omega)]; exact ⟨rfl, rfl⟩)
      | (rw [put7, if_pos (by omega), if_neg (by omega), if_pos (by omega), layv, if_neg (by omega), if_pos (by omega)]; exact ⟨rfl, rfl⟩)
      | (rw [put7, if_pos (by omega), if_neg (by omega), if_pos (by omega), layv, if_neg (by omega), if_neg (by omega)]; exact ⟨rfl, rfl⟩)
theorem k_count7 {X : Nat} {c : Nat} (hG : GF ad G) (hM : MS N c) (hk2 : ∀ i, i < 2 → N 92 i < 2) (hla : ∀ i, i < 4 → N 93 i < 4294967296) (hX : X < 4294967296) : q_Con Γ mX7_count 6 0 0 [.ref (ad 77), .int (nI X)] (LT ad, N, L, G) (q_sc ad N G (.int (nI (cou7 N c X (can7 N c (R7 N) (N 78 40)))))) := by
  obtain ⟨hc, hc9, hb, hl, hs, hk, hms, hpr, hg9, hh, hgn, hga, hod, ho1⟩ := id hM
  have z2 := z_two X hX
  have p9 := p2_9 hc9
  have p1 := Nat.two_pow_pos c
  have q0 := hk2 0 (by omega)
  have q1 := hk2 1 (by omega)
  have q3 := hla 0 (by omega)
  have hcl : can7 N c (R7 N) (N 78 40) < 512 := can_lt hc9
  have ec : 1 * 2 ^ (N 77 2) = 2 ^ c := by rw [hc, Nat.one_mul]
  rcases (show X = 0 ∨ X = 1 ∨ X = 2 ∨ X = 3 ∨ X = 4 ∨ X = 5 ∨ X = 6 ∨ 7 ≤ X by omega) with rfl | rfl | rfl | rfl | rfl | rfl | rfl | h5
  · refine q_con (by decide) rfl rfl (Nat.le_of_ble_eq_true rfl) ?_
    refine q_iload_n 1 rfl rfl dX7_count_0 ?_
    refine q_tab 44 (by decide) (by decide) (by decide) rfl (by decide) dX7_count_1 ?_
    refine q_aload_n 45 rfl rfl dX7_count_44 ?_
    refine q_getR 48 rfl fX7_7 rfl 77 t_77 (g_77_0 hG) dX7_count_45 ?_
    refine q_bipush 50 rfl 40 k_b40 dX7_count_48 ?_
    refine q_iald 51 rfl 78 t_78 (by omega) (by decide) dX7_count_50 ?_
    refine q_iret rfl dX7_count_51 ?_
    first
      | exact ⟨rfl, _, _, rfl, Sc.rf⟩
      | exact ⟨rfl, _, _, rfl, Sc.now⟩
      | (refine ⟨?_, _, _, rfl, Sc.rf⟩; simp only [cou7]; first | (rw [if_pos (by assumption), if_pos (by assumption)]; done) | (rw [if_pos (by assumption), if_neg (by assumption)]; done) | (rw [if_neg (by assumption), if_pos (by assumption)]; done) | (rw [if_neg (by assumption), if_neg (by assumption)]; done) | (rw [if_pos (by assumption)]; done) | (rw [if_neg (by assumption)]; done))
  · refine q_con (by decide) rfl rfl (Nat.le_of_ble_eq_true rfl) ?_
    refine q_iload_n 1 rfl rfl dX7_count_0 ?_
    refine q_tab 52 (by decide) (by decide) (by decide) rfl (by decide) dX7_count_1 ?_
    refine q_aload_n 53 rfl rfl dX7_count_52 ?_
    refine q_getR 56 rfl fX7_7 rfl 77 t_77 (g_77_0 hG) dX7_count_53 ?_
    refine q_bipush 58 rfl 59 k_b59 dX7_count_56 ?_
    refine q_iald 59 rfl 78 t_78 (by omega) (by decide) dX7_count_58 ?_
    refine q_iret rfl dX7_count_59 ?_
    first
      | exact ⟨rfl, _, _, rfl, Sc.rf⟩
      | exact ⟨rfl, _, _, rfl, Sc.now⟩
      | (refine ⟨?_, _, _, rfl, Sc.rf⟩; simp only [cou7]; first | (rw [if_pos (by assumption), if_pos (by assumption)]; done) | (rw [if_pos (by assumption), if_neg (by assumption)]; done) | (rw [if_neg (by assumption), if_pos (by assumption)]; done) | (rw [if_neg (by assumption), if_neg (by assumption)]; done) | (rw [if_pos (by assumption)]; done) | (rw [if_neg (by assumption)]; done))
  · refine q_con (by decide) rfl rfl (Nat.le_of_ble_eq_true rfl) ?_
    refine q_iload_n 1 rfl rfl dX7_count_0 ?_
    refine q_tab 60 (by decide) (by decide) (by decide) rfl (by decide) dX7_count_1 ?_
    refine q_aload_n 61 rfl rfl dX7_count_60 ?_
    refine q_getR 64 rfl fX7_53 rfl 77 t_77 (g_77_25 hG) dX7_count_61 ?_
    refine q_iconst 65 rfl 0 k_i0 dX7_count_64 ?_
    refine q_zald 66 rfl 92 t_92 (by omega) (by decide) dX7_count_65 ?_
    refine q_if_eq 69 rfl 73 (by decide) (by omega) dX7_count_66 (fun h66 => ?_) (fun h66 => ?_)
    · refine q_iconst 74 rfl 0 k_i0 dX7_count_73 ?_
      refine q_aload_n 75 rfl rfl dX7_count_74 ?_
      refine q_getR 78 rfl fX7_53 rfl 77 t_77 (g_77_25 hG) dX7_count_75 ?_
      refine q_iconst 79 rfl 1 k_i1 dX7_count_78 ?_
      refine q_zald 80 rfl 92 t_92 (by omega) (by decide) dX7_count_79 ?_
      refine q_if_eq 83 rfl 87 (by decide) (by omega) dX7_count_80 (fun h80 => ?_) (fun h80 => ?_)
      · refine q_iconst 88 rfl 0 k_i0 dX7_count_87 ?_
        refine q_iadd 89 rfl dX7_count_88 ?_
        refine q_iret rfl dX7_count_89 ?_
        first
          | exact ⟨rfl, _, _, rfl, Sc.rf⟩
          | exact ⟨rfl, _, _, rfl, Sc.now⟩
          | (refine ⟨?_, _, _, rfl, Sc.rf⟩; simp only [cou7]; first | (rw [if_pos (by assumption), if_pos (by assumption)]; done) | (rw [if_pos (by assumption), if_neg (by assumption)]; done) | (rw [if_neg (by assumption), if_pos (by assumption)]; done) | (rw [if_neg (by assumption), if_neg (by assumption)]; done) | (rw [if_pos (by assumption)]; done) | (rw [if_neg (by assumption)]; done))
      · refine q_iconst 84 rfl 1 k_i1 dX7_count_83 ?_
        refine q_goto 88 (by decide) dX7_count_84 ?_
        refine q_iadd 89 rfl dX7_count_88 ?_
        refine q_iret rfl dX7_count_89 ?_
        first
          | exact ⟨rfl, _, _, rfl, Sc.rf⟩
          | exact ⟨rfl, _, _, rfl, Sc.now⟩
          | (refine ⟨?_, _, _, rfl, Sc.rf⟩; simp only [cou7]; first | (rw [if_pos (by assumption), if_pos (by assumption)]; done) | (rw [if_pos (by assumption), if_neg (by assumption)]; done) | (rw [if_neg (by assumption), if_pos (by assumption)]; done) | (rw [if_neg (by assumption), if_neg (by assumption)]; done) | (rw [if_pos (by assumption)]; done) | (rw [if_neg (by assumption)]; done))
    · refine q_iconst 70 rfl 1 k_i1 dX7_count_69 ?_
      refine q_goto 74 (by decide) dX7_count_70 ?_
      refine q_aload_n 75 rfl rfl dX7_count_74 ?_
      refine q_getR 78 rfl fX7_53 rfl 77 t_77 (g_77_25 hG) dX7_count_75 ?_
      refine q_iconst 79 rfl 1 k_i1 dX7_count_78 ?_
      refine q_zald 80 rfl 92 t_92 (by omega) (by decide) dX7_count_79 ?_
      refine q_if_eq 83 rfl 87 (by decide) (by omega) dX7_count_80 (fun h80 => ?_) (fun h80 => ?_)
      · refine q_iconst 88 rfl 0 k_i0 dX7_count_87 ?_
        refine q_iadd 89 rfl dX7_count_88 ?_
        refine q_iret rfl dX7_count_89 ?_
        first
          | exact ⟨rfl, _, _, rfl, Sc.rf⟩
          | exact ⟨rfl, _, _, rfl, Sc.now⟩
          | (refine ⟨?_, _, _, rfl, Sc.rf⟩; simp only [cou7]; first | (rw [if_pos (by assumption), if_pos (by assumption)]; done) | (rw [if_pos (by assumption), if_neg (by assumption)]; done) | (rw [if_neg (by assumption), if_pos (by assumption)]; done) | (rw [if_neg (by assumption), if_neg (by assumption)]; done) | (rw [if_pos (by assumption)]; done) | (rw [if_neg (by assumption)]; done))
      · refine q_iconst 84 rfl 1 k_i1 dX7_count_83 ?_
        refine q_goto 88 (by decide) dX7_count_84 ?_
        refine q_iadd 89 rfl dX7_count_88 ?_
        refine q_iret rfl dX7_count_89 ?_
        first
          | exact ⟨rfl, _, _, rfl, Sc.rf⟩
          | exact ⟨rfl, _, _, rfl, Sc.now⟩
          | (refine ⟨?_, _, _, rfl, Sc.rf⟩; simp only [cou7]; first | (rw [if_pos (by assumption), if_pos (by assumption)]; done) | (rw [if_pos (by assumption), if_neg (by assumption)]; done) | (rw [if_neg (by assumption), if_pos (by assumption)]; done) | (rw [if_neg (by assumption), if_neg (by assumption)]; done) | (rw [if_pos (by assumption)]; done) | (rw [if_neg (by assumption)]; done))
  · refine q_con (by decide) rfl rfl (Nat.le_of_ble_eq_true rfl) ?_
    refine q_iload_n 1 rfl rfl dX7_count_0 ?_
    refine q_tab 90 (by decide) (by decide) (by decide) rfl (by decide) dX7_count_1 ?_
    refine q_aload_n 91 rfl rfl dX7_count_90 ?_
    refine q_getI 94 rfl fX7_72 rfl 77 t_77 dX7_count_91 ?_
    refine q_iret rfl dX7_count_94 ?_
    first
      | exact ⟨rfl, _, _, rfl, Sc.rf⟩
      | exact ⟨rfl, _, _, rfl, Sc.now⟩
      | (refine ⟨?_, _, _, rfl, Sc.rf⟩; simp only [cou7]; first | (rw [if_pos (by assumption), if_pos (by assumption)]; done) | (rw [if_pos (by assumption), if_neg (by assumption)]; done) | (rw [if_neg (by assumption), if_pos (by assumption)]; done) | (rw [if_neg (by assumption), if_neg (by assumption)]; done) | (rw [if_pos (by assumption)]; done) | (rw [if_neg (by assumption)]; done))
  · refine q_con (by decide) rfl rfl (Nat.le_of_ble_eq_true rfl) ?_
    refine q_iload_n 1 rfl rfl dX7_count_0 ?_
    refine q_tab 95 (by decide) (by decide) (by decide) rfl (by decide) dX7_count_1 ?_
    refine q_aload_n 96 rfl rfl dX7_count_95 ?_
    refine q_getR 99 rfl fX7_57 rfl 77 t_77 (g_77_26 hG) dX7_count_96 ?_
    refine q_iconst 100 rfl 0 k_i0 dX7_count_99 ?_
    refine q_iald 101 rfl 93 t_93 (by omega) (by decide) dX7_count_100 ?_
    refine q_bipush 103 rfl 4294967292 k_bm4 dX7_count_101 ?_
    refine q_icmp_ne 106 rfl 111 (by decide) (by omega) (by omega) dX7_count_103 (fun h103 => ?_) (fun h103 => ?_)
    · refine q_aload_n 112 rfl rfl dX7_count_111 ?_
      refine q_getR 115 rfl fX7_60 rfl 77 t_77 (g_77_27 hG) dX7_count_112 ?_
      refine q_iconst 116 rfl 0 k_i0 dX7_count_115 ?_
      refine q_iald 117 rfl 94 t_94 (by omega) (by decide) dX7_count_116 ?_
      refine q_iret rfl dX7_count_117 ?_
      first
        | exact ⟨rfl, _, _, rfl, Sc.rf⟩
        | exact ⟨rfl, _, _, rfl, Sc.now⟩
        | (refine ⟨?_, _, _, rfl, Sc.rf⟩; simp only [cou7]; first | (rw [if_pos (by assumption), if_pos (by assumption)]; done) | (rw [if_pos (by assumption), if_neg (by assumption)]; done) | (rw [if_neg (by assumption), if_pos (by assumption)]; done) | (rw [if_neg (by assumption), if_neg (by assumption)]; done) | (rw [if_pos (by assumption)]; done) | (rw [if_neg (by assumption)]; done))
    · refine q_bipush 108 rfl 4294967292 k_bm4 dX7_count_106 ?_
      refine q_goto 117 (by decide) dX7_count_108 ?_
      refine q_iret rfl dX7_count_117 ?_
      first
        | exact ⟨rfl, _, _, rfl, Sc.rf⟩
        | exact ⟨rfl, _, _, rfl, Sc.now⟩
        | (refine ⟨?_, _, _, rfl, Sc.rf⟩; simp only [cou7]; first | (rw [if_pos (by assumption), if_pos (by assumption)]; done) | (rw [if_pos (by assumption), if_neg (by assumption)]; done) | (rw [if_neg (by assumption), if_pos (by assumption)]; done) | (rw [if_neg (by assumption), if_neg (by assumption)]; done) | (rw [if_pos (by assumption)]; done) | (rw [if_neg (by assumption)]; done))
  · refine q_con (by decide) rfl rfl (Nat.le_of_ble_eq_true rfl) ?_
    refine q_iload_n 1 rfl rfl dX7_count_0 ?_
    refine q_tab 118 (by decide) (by decide) (by decide) rfl (by decide) dX7_count_1 ?_
    refine q_aload_n 119 rfl rfl dX7_count_118 ?_
    refine q_iconst 120 rfl 1 k_i1 dX7_count_119 ?_
    refine q_aload_n 121 rfl rfl dX7_count_120 ?_
    refine q_getI 124 rfl fX7_155 rfl 77 t_77 dX7_count_121 ?_
    refine q_ishl 125 rfl (by omega) dX7_count_124 ?_
    rw [ec]
    refine q_iconst 126 rfl 1 k_i1 dX7_count_125 ?_
    refine q_isub 127 rfl (by omega) dX7_count_126 ?_
    refine q_cV1 130 rfl lX7_228 (k_oddsOf7 hG hc hc9 hs (by omega)) rfl 77 t_77 rfl rfl rfl dX7_count_127 ?_
    refine q_l2i 131 rfl (ods (N 78) (2 ^ c - 1) c) (lZ_i) dX7_count_130 ?_
    refine q_iret rfl dX7_count_131 ?_
    first
      | exact ⟨rfl, _, _, rfl, Sc.rf⟩
      | exact ⟨rfl, _, _, rfl, Sc.now⟩
      | (refine ⟨?_, _, _, rfl, Sc.rf⟩; simp only [cou7]; first | (rw [if_pos (by assumption), if_pos (by assumption)]; done) | (rw [if_pos (by assumption), if_neg (by assumption)]; done) | (rw [if_neg (by assumption), if_pos (by assumption)]; done) | (rw [if_neg (by assumption), if_neg (by assumption)]; done) | (rw [if_pos (by assumption)]; done) | (rw [if_neg (by assumption)]; done))
  · refine q_con (by decide) rfl rfl (Nat.le_of_ble_eq_true rfl) ?_
    refine q_iload_n 1 rfl rfl dX7_count_0 ?_
    refine q_tab 132 (by decide) (by decide) (by decide) rfl (by decide) dX7_count_1 ?_
    refine q_aload_n 133 rfl rfl dX7_count_132 ?_
    refine q_cV0 136 rfl lX7_221 (k_canNow hG hM) rfl 77 t_77 rfl rfl rfl dX7_count_133 ?_
    refine q_cS1 139 rfl lX7_191 (k_bitsOf (by omega)) rfl rfl rfl dX7_count_136 ?_
    refine q_iret rfl dX7_count_139 ?_
    first
      | exact ⟨rfl, _, _, rfl, Sc.rf⟩
      | exact ⟨rfl, _, _, rfl, Sc.now⟩
      | (refine ⟨?_, _, _, rfl, Sc.rf⟩; simp only [cou7]; first | (rw [if_pos (by assumption), if_pos (by assumption)]; done) | (rw [if_pos (by assumption), if_neg (by assumption)]; done) | (rw [if_neg (by assumption), if_pos (by assumption)]; done) | (rw [if_neg (by assumption), if_neg (by assumption)]; done) | (rw [if_pos (by assumption)]; done) | (rw [if_neg (by assumption)]; done))
  · refine q_con (by decide) rfl rfl (Nat.le_of_ble_eq_true rfl) ?_
    refine q_iload_n 1 rfl rfl dX7_count_0 ?_
    refine q_tabO 140 (by omega) (by decide) dX7_count_1 ?_
    refine q_iconst 141 rfl 4294967295 k_im1 dX7_count_140 ?_
    refine q_iret rfl dX7_count_141 ?_
    obtain ⟨j, rfl⟩ : ∃ j, X = j + 7 := ⟨X - 7, by omega⟩
    exact ⟨rfl, _, _, rfl, Sc.rf⟩
end
