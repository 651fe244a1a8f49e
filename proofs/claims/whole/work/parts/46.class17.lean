abbrev rnw (N : Nat → Nat → Nat) (q l n : Nat) : Nat → Nat → Nat := q_r (q_s (q_s N q 0 l) q 1 n) (q + 1) (fun j => if j < 40 then 0 else q_s (q_s N q 0 l) q 1 n (q + 1) j)
def sheet6 (N : Nat → Nat → Nat) (X Y Z : Nat) : Nat × (Nat → Nat → Nat) := if (X ≤ 3 ∧ Y ≤ 2) ∧ (Z ≤ 40 ∨ 2147483648 ≤ Z) then (if 2147483648 ≤ Z then (4294967282, N) else (1, rnw N (69 + 2 * X) Y Z)) else (4294967295, N)
def put6 (N : Nat → Nat → Nat) (X Y Z : Nat) : Nat × (Nat → Nat → Nat) := if X ≤ 3 then (if fta N (69 + 2 * X) Y = 0 then (1, q_s N (69 + 2 * X + 1) Y (layv (N (69 + 2 * X) 0) Z)) else (4294967286 - fta N (69 + 2 * X) Y, N)) else (4294967295, N)
theorem fta_in {N : Nat → Nat → Nat} {q i : Nat} (hS : SH N q) (h : fta N q i = 0) : i < 40 := by
  have := hS.2
  unfold fta at h; split at h
  · cases h
  · split at h
    · omega
    · cases h
section
variable {Γ : q_G} {ad : Nat → Nat} {N : Nat → Nat → Nat} {L : Nat → Nat → Int} {G : Nat → Nat → Option Nat}
theorem k_sheet6 {X Y Z : Nat} (hG : GF ad G) (hXX : X < 4294967296) (hYY : Y < 4294967296) (hZZ : Z < 4294967296) : q_Con Γ mX6_sheet 2 0 0 [.ref (ad 0), .int (nI X), .int (nI Y), .int (nI Z)] (LT ad, N, L, G) (q_is (some (.int (nI (sheet6 N X Y Z).1))) (LT ad, (sheet6 N X Y Z).2, L, G)) := by
  have z2 := z_two Z hZZ
  have z40 : z_s 40 = 40 := rfl
  have z0 : z_s 0 = 0 := rfl
  rcases (show X = 0 ∨ X = 1 ∨ X = 2 ∨ X = 3 ∨ 4 ≤ X by omega) with rfl | rfl | rfl | rfl | hX4
  · refine q_con (by decide) rfl rfl (Nat.le_of_ble_eq_true rfl) ?_
    refine q_iload_n 1 rfl rfl dX6_sheet_0 ?_
    refine q_iconst 2 rfl 0 k_i0 dX6_sheet_1 ?_
    refine q_iconst 3 rfl 3 k_i3 dX6_sheet_2 ?_
    refine q_cS3 6 rfl lX6_87 (k_within (X := 0) (by omega) (by omega) (by omega)) rfl rfl rfl dX6_sheet_3 ?_
    refine q_if_eqD 9 rfl 24 (by decide) dX6_sheet_6 (fun h6 => ?_) (fun h6 => ?_)
    · exfalso; omega
    · refine q_iload_n 10 rfl rfl dX6_sheet_9 ?_
      refine q_iconst 11 rfl 0 k_i0 dX6_sheet_10 ?_
      refine q_iconst 12 rfl 2 k_i2 dX6_sheet_11 ?_
      refine q_cS3 15 rfl lX6_87 (k_within hYY (by omega) (by omega)) rfl rfl rfl dX6_sheet_12 ?_
      refine q_if_eqD 18 rfl 24 (by decide) dX6_sheet_15 (fun h15 => ?_) (fun h15 => ?_)
      · refine q_iconst 25 rfl 4294967295 k_im1 dX6_sheet_24 ?_
        refine q_iret rfl dX6_sheet_25 ?_
        first
          | (rw [sheet6, if_neg (by omega)]; exact ⟨rfl, rfl⟩)
          | (rw [sheet6, if_pos (by omega), if_pos (by omega)]; exact ⟨rfl, rfl⟩)
          | (rw [sheet6, if_pos (by omega), if_neg (by omega)]; exact ⟨rfl, rfl⟩)
      · refine q_iload_n 19 rfl rfl dX6_sheet_18 ?_
        refine q_bipush 21 rfl 40 k_b40 dX6_sheet_19 ?_
        refine q_icmpS_le 24 rfl 26 (by decide) dX6_sheet_21 (fun h21 => ?_) (fun h21 => ?_)
        · refine q_iload_n 27 rfl rfl dX6_sheet_26 ?_
          refine q_ifS_ge 30 rfl 33 (by decide) dX6_sheet_27 (fun h27 => ?_) (fun h27 => ?_)
          · refine q_aload_n 34 rfl rfl dX6_sheet_33 ?_
            refine q_getR 37 rfl fX6_50 rfl 0 t_0 (g_0_11 hG) dX6_sheet_34 ?_
            refine q_iload_n 38 rfl rfl dX6_sheet_37 ?_
            refine q_aald5 39 rfl 35 t_35 (by decide) (by decide) (g_35_0 hG) dX6_sheet_38 ?_
            refine q_iload_n 40 rfl rfl dX6_sheet_39 ?_
            refine q_iload_n 41 rfl rfl dX6_sheet_40 ?_
            refine q_cV2v 44 rfl lX6_262 (k_renew (q := 69) hG (.inl rfl)) rfl 69 t_69 rfl rfl rfl dX6_sheet_41 ?_
            refine q_iconst 45 rfl 1 k_i1 dX6_sheet_44 ?_
            refine q_iret rfl dX6_sheet_45 ?_
            first
              | (rw [sheet6, if_neg (by omega)]; exact ⟨rfl, rfl⟩)
              | (rw [sheet6, if_pos (by omega), if_pos (by omega)]; exact ⟨rfl, rfl⟩)
              | (rw [sheet6, if_pos (by omega), if_neg (by omega)]; exact ⟨rfl, rfl⟩)
          · refine q_bipush 32 rfl 4294967282 k_bm14 dX6_sheet_30 ?_
            refine q_iret rfl dX6_sheet_32 ?_
            first
              | (rw [sheet6, if_neg (by omega)]; exact ⟨rfl, rfl⟩)
              | (rw [sheet6, if_pos (by omega), if_pos (by omega)]; exact ⟨rfl, rfl⟩)
              | (rw [sheet6, if_pos (by omega), if_neg (by omega)]; exact ⟨rfl, rfl⟩)
        · refine q_iconst 25 rfl 4294967295 k_im1 dX6_sheet_24 ?_
          refine q_iret rfl dX6_sheet_25 ?_
          first
            | (rw [sheet6, if_neg (by omega)]; exact ⟨rfl, rfl⟩)
            | (rw [sheet6, if_pos (by omega), if_pos (by omega)]; exact ⟨rfl, rfl⟩)
            | (rw [sheet6, if_pos (by omega), if_neg (by omega)]; exact ⟨rfl, rfl⟩)
  · refine q_con (by decide) rfl rfl (Nat.le_of_ble_eq_true rfl) ?_
    refine q_iload_n 1 rfl rfl dX6_sheet_0 ?_
    refine q_iconst 2 rfl 0 k_i0 dX6_sheet_1 ?_
    refine q_iconst 3 rfl 3 k_i3 dX6_sheet_2 ?_
    refine q_cS3 6 rfl lX6_87 (k_within (X := 1) (by omega) (by omega) (by omega)) rfl rfl rfl dX6_sheet_3 ?_
    refine q_if_eqD 9 rfl 24 (by decide) dX6_sheet_6 (fun h6 => ?_) (fun h6 => ?_)
    · exfalso; omega
    · refine q_iload_n 10 rfl rfl dX6_sheet_9 ?_
      refine q_iconst 11 rfl 0 k_i0 dX6_sheet_10 ?_
      refine q_iconst 12 rfl 2 k_i2 dX6_sheet_11 ?_
      refine q_cS3 15 rfl lX6_87 (k_within hYY (by omega) (by omega)) rfl rfl rfl dX6_sheet_12 ?_
      refine q_if_eqD 18 rfl 24 (by decide) dX6_sheet_15 (fun h15 => ?_) (fun h15 => ?_)
      · refine q_iconst 25 rfl 4294967295 k_im1 dX6_sheet_24 ?_
        refine q_iret rfl dX6_sheet_25 ?_
        first
          | (rw [sheet6, if_neg (by omega)]; exact ⟨rfl, rfl⟩)
          | (rw [sheet6, if_pos (by omega), if_pos (by omega)]; exact ⟨rfl, rfl⟩)
          | (rw [sheet6, if_pos (by omega), if_neg (by omega)]; exact ⟨rfl, rfl⟩)
      · refine q_iload_n 19 rfl rfl dX6_sheet_18 ?_
        refine q_bipush 21 rfl 40 k_b40 dX6_sheet_19 ?_
        refine q_icmpS_le 24 rfl 26 (by decide) dX6_sheet_21 (fun h21 => ?_) (fun h21 => ?_)
        · refine q_iload_n 27 rfl rfl dX6_sheet_26 ?_
          refine q_ifS_ge 30 rfl 33 (by decide) dX6_sheet_27 (fun h27 => ?_) (fun h27 => ?_)
          · refine q_aload_n 34 rfl rfl dX6_sheet_33 ?_
            refine q_getR 37 rfl fX6_50 rfl 0 t_0 (g_0_11 hG) dX6_sheet_34 ?_
            refine q_iload_n 38 rfl rfl dX6_sheet_37 ?_
            refine q_aald5 39 rfl 35 t_35 (by decide) (by decide) (g_35_1 hG) dX6_sheet_38 ?_
            refine q_iload_n 40 rfl rfl dX6_sheet_39 ?_
            refine q_iload_n 41 rfl rfl dX6_sheet_40 ?_
            refine q_cV2v 44 rfl lX6_262 (k_renew (q := 71) hG (.inr (.inl rfl))) rfl 71 t_71 rfl rfl rfl dX6_sheet_41 ?_
            refine q_iconst 45 rfl 1 k_i1 dX6_sheet_44 ?_
            refine q_iret rfl dX6_sheet_45 ?_
            first
              | (rw [sheet6, if_neg (by omega)]; exact ⟨rfl, rfl⟩)
              | (rw [sheet6, if_pos (by omega), if_pos (by omega)]; exact ⟨rfl, rfl⟩)
              | (rw [sheet6, if_pos (by omega), if_neg (by omega)]; exact ⟨rfl, rfl⟩)
          · refine q_bipush 32 rfl 4294967282 k_bm14 dX6_sheet_30 ?_
            refine q_iret rfl dX6_sheet_32 ?_
            first
              | (rw [sheet6, if_neg (by omega)]; exact ⟨rfl, rfl⟩)
              | (rw [sheet6, if_pos (by omega), if_pos (by omega)]; exact ⟨rfl, rfl⟩)
              | (rw [sheet6, if_pos (by omega), if_neg (by omega)]; exact ⟨rfl, rfl⟩)
        · refine q_iconst 25 rfl 4294967295 k_im1 dX6_sheet_24 ?_
          refine q_iret rfl dX6_sheet_25 ?_
          first
            | (rw [sheet6, if_neg (by omega)]; exact ⟨rfl, rfl⟩)
            | (rw [sheet6, if_pos (by omega), if_pos (by omega)]; exact ⟨rfl, rfl⟩)
            | (rw [sheet6, if_pos (by omega), if_neg (by omega)]; exact ⟨rfl, rfl⟩)
  · refine q_con (by decide) rfl rfl (Nat.le_of_ble_eq_true rfl) ?_
    refine q_iload_n 1 rfl rfl dX6_sheet_0 ?_
    refine q_iconst 2 rfl 0 k_i0 dX6_sheet_1 ?_
    refine q_iconst 3 rfl 3 k_i3 dX6_sheet_2 ?_
    refine q_cS3 6 rfl lX6_87 (k_within (X := 2) (by omega) (by omega) (by omega)) rfl rfl rfl dX6_sheet_3 ?_
    refine q_if_eqD 9 rfl 24 (by decide) dX6_sheet_6 (fun h6 => ?_) (fun h6 => ?_)
    · exfalso; omega
    · refine q_iload_n 10 rfl rfl dX6_sheet_9 ?_
      refine q_iconst 11 rfl 0 k_i0 dX6_sheet_10 ?_
      refine q_iconst 12 rfl 2 k_i2 dX6_sheet_11 ?_
      refine q_cS3 15 rfl lX6_87 (k_within hYY (by omega) (by omega)) rfl rfl rfl dX6_sheet_12 ?_
      refine q_if_eqD 18 rfl 24 (by decide) dX6_sheet_15 (fun h15 => ?_) (fun h15 => ?_)
      · refine q_iconst 25 rfl 4294967295 k_im1 dX6_sheet_24 ?_
        refine q_iret rfl dX6_sheet_25 ?_
        first
          | (rw [sheet6, if_neg (by omega)]; exact ⟨rfl, rfl⟩)
          | (rw [sheet6, if_pos (by omega), if_pos (by omega)]; exact ⟨rfl, rfl⟩)
          | (rw [sheet6, if_pos (by omega), if_neg (by omega)]; exact ⟨rfl, rfl⟩)
      · refine q_iload_n 19 rfl rfl dX6_sheet_18 ?_
        refine q_bipush 21 rfl 40 k_b40 dX6_sheet_19 ?_
        refine q_icmpS_le 24 rfl 26 (by decide) dX6_sheet_21 (fun h21 => ?_) (fun h21 => ?_)
        · refine q_iload_n 27 rfl rfl dX6_sheet_26 ?_
          refine q_ifS_ge 30 rfl 33 (by decide) dX6_sheet_27 (fun h27 => ?_) (fun h27 => ?_)
          · refine q_aload_n 34 rfl rfl dX6_sheet_33 ?_
            refine q_getR 37 rfl fX6_50 rfl 0 t_0 (g_0_11 hG) dX6_sheet_34 ?_
            refine q_iload_n 38 rfl rfl dX6_sheet_37 ?_
            refine q_aald5 39 rfl 35 t_35 (by decide) (by decide) (g_35_2 hG) dX6_sheet_38 ?_
            refine q_iload_n 40 rfl rfl dX6_sheet_39 ?_
            refine q_iload_n 41 rfl rfl dX6_sheet_40 ?_
            refine q_cV2v 44 rfl lX6_262 (k_renew (q := 73) hG (.inr (.inr (.inl rfl)))) rfl 73 t_73 rfl rfl rfl dX6_sheet_41 ?_
            refine q_iconst 45 rfl 1 k_i1 dX6_sheet_44 ?_
            refine q_iret rfl dX6_sheet_45 ?_
            first
              | (rw [sheet6, if_neg (by omega)]; exact ⟨rfl, rfl⟩)
              | (rw [sheet6, if_pos (by omega), if_pos (by omega)]; exact ⟨rfl, rfl⟩)
              | (rw [sheet6, if_pos (by omega), if_neg (by omega)]; exact ⟨rfl, rfl⟩)
          · refine q_bipush 32 rfl 4294967282 k_bm14 dX6_sheet_30 ?_
            refine q_iret rfl dX6_sheet_32 ?_
            first
              | (rw [sheet6, if_neg (by omega)]; exact ⟨rfl, rfl⟩)
              | (rw [sheet6, if_pos (by omega), if_pos (by omega)]; exact ⟨rfl, rfl⟩)
              | (rw [sheet6, if_pos (by omega), if_neg (by omega)]; exact ⟨rfl, rfl⟩)
        · refine q_iconst 25 rfl 4294967295 k_im1 dX6_sheet_24 ?_
          refine q_iret rfl dX6_sheet_25 ?_
          first
            | (rw [sheet6, if_neg (by omega)]; exact ⟨rfl, rfl⟩)
            | (rw [sheet6, if_pos (by omega), if_pos (by omega)]; exact ⟨rfl, rfl⟩)
            | (rw [sheet6, if_pos (by omega), if_neg (by omega)]; exact ⟨rfl, rfl⟩)
  · refine q_con (by decide) rfl rfl (Nat.le_of_ble_eq_true rfl) ?_
    refine q_iload_n 1 rfl rfl dX6_sheet_0 ?_
    refine q_iconst 2 rfl 0 k_i0 dX6_sheet_1 ?_
    refine q_iconst 3 rfl 3 k_i3 dX6_sheet_2 ?_
    refine q_cS3 6 rfl lX6_87 (k_within (X := 3) (by omega) (by omega) (by omega)) rfl rfl rfl dX6_sheet_3 ?_
    refine q_if_eqD 9 rfl 24 (by decide) dX6_sheet_6 (fun h6 => ?_) (fun h6 => ?_)
    · exfalso; omega
    · refine q_iload_n 10 rfl rfl dX6_sheet_9 ?_
      refine q_iconst 11 rfl 0 k_i0 dX6_sheet_10 ?_
      refine q_iconst 12 rfl 2 k_i2 dX6_sheet_11 ?_
      refine q_cS3 15 rfl lX6_87 (k_within hYY (by omega) (by omega)) rfl rfl rfl dX6_sheet_12 ?_
      refine q_if_eqD 18 rfl 24 (by decide) dX6_sheet_15 (fun h15 => ?_) (fun h15 => ?_)
      · refine q_iconst 25 rfl 4294967295 k_im1 dX6_sheet_24 ?_
        refine q_iret rfl dX6_sheet_25 ?_
        first
          | (rw [sheet6, if_neg (by omega)]; exact ⟨rfl, rfl⟩)
          | (rw [sheet6, if_pos (by omega), if_pos (by omega)]; exact ⟨rfl, rfl⟩)
          | (rw [sheet6, if_pos (by omega), if_neg (by omega)]; exact ⟨rfl, rfl⟩)
      · refine q_iload_n 19 rfl rfl dX6_sheet_18 ?_
        refine q_bipush 21 rfl 40 k_b40 dX6_sheet_19 ?_
        refine q_icmpS_le 24 rfl 26 (by decide) dX6_sheet_21 (fun h21 => ?_) (fun h21 => ?_)
        · refine q_iload_n 27 rfl rfl dX6_sheet_26 ?_
          refine q_ifS_ge 30 rfl 33 (by decide) dX6_sheet_27 (fun h27 => ?_) (fun h27 => ?_)
          · refine q_aload_n 34 rfl rfl dX6_sheet_33 ?_
            refine q_getR 37 rfl fX6_50 rfl 0 t_0 (g_0_11 hG) dX6_sheet_34 ?_
            refine q_iload_n 38 rfl rfl dX6_sheet_37 ?_
            refine q_aald5 39 rfl 35 t_35 (by decide) (by decide) (g_35_3 hG) dX6_sheet_38 ?_
            refine q_iload_n 40 rfl rfl dX6_sheet_39 ?_
            refine q_iload_n 41 rfl rfl dX6_sheet_40 ?_
            refine q_cV2v 44 rfl lX6_262 (k_renew (q := 75) hG (.inr (.inr (.inr rfl)))) rfl 75 t_75 rfl rfl rfl dX6_sheet_41 ?_
            refine q_iconst 45 rfl 1 k_i1 dX6_sheet_44 ?_
            refine q_iret rfl dX6_sheet_45 ?_
            first
              | (rw [sheet6, if_neg (by omega)]; exact ⟨rfl, rfl⟩)
              | (rw [sheet6, if_pos (by omega), if_pos (by omega)]; exact ⟨rfl, rfl⟩)
              | (rw [sheet6, if_pos (by omega), if_neg (by omega)]; exact ⟨rfl, rfl⟩)
          · refine q_bipush 32 rfl 4294967282 k_bm14 dX6_sheet_30 ?_
            refine q_iret rfl dX6_sheet_32 ?_
            first
              | (rw [sheet6, if_neg (by omega)]; exact ⟨rfl, rfl⟩)
              | (rw [sheet6, if_pos (by omega), if_pos (by omega)]; exact ⟨rfl, rfl⟩)
              | (rw [sheet6, if_pos (by omega), if_neg (by omega)]; exact ⟨rfl, rfl⟩)
        · refine q_iconst 25 rfl 4294967295 k_im1 dX6_sheet_24 ?_
          refine q_iret rfl dX6_sheet_25 ?_
          first
            | (rw [sheet6, if_neg (by omega)]; exact ⟨rfl, rfl⟩)
            | (rw [sheet6, if_pos (by omega), if_pos (by omega)]; exact ⟨rfl, rfl⟩)
            | (rw [sheet6, if_pos (by omega), if_neg (by omega)]; exact ⟨rfl, rfl⟩)
  · refine q_con (by decide) rfl rfl (Nat.le_of_ble_eq_true rfl) ?_
    refine q_iload_n 1 rfl rfl dX6_sheet_0 ?_
    refine q_iconst 2 rfl 0 k_i0 dX6_sheet_1 ?_
    refine q_iconst 3 rfl 3 k_i3 dX6_sheet_2 ?_
    refine q_cS3 6 rfl lX6_87 (k_within hXX (by omega) (by omega)) rfl rfl rfl dX6_sheet_3 ?_
    refine q_if_eqD 9 rfl 24 (by decide) dX6_sheet_6 (fun h6 => ?_) (fun h6 => ?_)
    · refine q_iconst 25 rfl 4294967295 k_im1 dX6_sheet_24 ?_
      refine q_iret rfl dX6_sheet_25 ?_
      first
        | (rw [sheet6, if_neg (by omega)]; exact ⟨rfl, rfl⟩)
    · exfalso; omega
theorem k_lay6 {X Y Z : Nat} (hG : GF ad G) (s0 : SH N 69) (s1 : SH N 71) (s2 : SH N 73) (s3 : SH N 75) (hXX : X < 4294967296) (hYY : Y < 4294967296) (hZZ : Z < 4294967296) : q_Con Γ mX6_lay 2 0 0 [.ref (ad 0), .int (nI X), .int (nI Y), .int (nI Z)] (LT ad, N, L, G) (q_is (some (.int (nI (put6 N X Y Z).1))) (LT ad, (put6 N X Y Z).2, L, G)) := by
  rcases (show X = 0 ∨ X = 1 ∨ X = 2 ∨ X = 3 ∨ 4 ≤ X by omega) with rfl | rfl | rfl | rfl | hX4
  · refine q_con (by decide) rfl rfl (Nat.le_of_ble_eq_true rfl) ?_
    refine q_iload_n 1 rfl rfl dX6_lay_0 ?_
    refine q_iconst 2 rfl 0 k_i0 dX6_lay_1 ?_
    refine q_iconst 3 rfl 3 k_i3 dX6_lay_2 ?_
    refine q_cS3 6 rfl lX6_87 (k_within (X := 0) (by omega) (by omega) (by omega)) rfl rfl rfl dX6_lay_3 ?_
    refine q_if_neD 9 rfl 11 (by decide) dX6_lay_6 (fun h6 => ?_) (fun h6 => ?_)
    · refine q_aload_n 12 rfl rfl dX6_lay_11 ?_
      refine q_getR 15 rfl fX6_50 rfl 0 t_0 (g_0_11 hG) dX6_lay_12 ?_
      refine q_iload_n 16 rfl rfl dX6_lay_15 ?_
      refine q_aald5 17 rfl 35 t_35 (by decide) (by decide) (g_35_0 hG) dX6_lay_16 ?_
      refine q_iload_n 18 rfl rfl dX6_lay_17 ?_
      refine q_cV1 21 rfl lX6_265 (k_faultAt (q := 69) hG (.inl rfl) s0 hYY) rfl 69 t_69 rfl rfl rfl dX6_lay_18 ?_
      refine q_istore 23 rfl (by decide) dX6_lay_21 ?_
      refine q_iload 25 rfl rfl dX6_lay_23 ?_
      have f1 := fta_le N 69 Y
      refine q_if_eq 28 rfl 34 (by decide) (by omega) dX6_lay_25 (fun h25 => ?_) (fun h25 => ?_)
      · refine q_aload_n 35 rfl rfl dX6_lay_34 ?_
        refine q_getR 38 rfl fX6_50 rfl 0 t_0 (g_0_11 hG) dX6_lay_35 ?_
        refine q_iload_n 39 rfl rfl dX6_lay_38 ?_
        refine q_aald5 40 rfl 35 t_35 (by decide) (by decide) (g_35_0 hG) dX6_lay_39 ?_
        refine q_iload_n 41 rfl rfl dX6_lay_40 ?_
        refine q_iload_n 42 rfl rfl dX6_lay_41 ?_
        refine q_cV2v 45 rfl lX6_268 (k_put (q := 69) hG (.inl rfl) s0 (fta_in s0 (by assumption)) hZZ) rfl 69 t_69 rfl rfl rfl dX6_lay_42 ?_
        refine q_iconst 46 rfl 1 k_i1 dX6_lay_45 ?_
        refine q_iret rfl dX6_lay_46 ?_
        rw [put6, if_pos (by omega)]
        first
          | (rw [if_pos (by assumption)]; exact ⟨rfl, rfl⟩)
          | (rw [if_neg (by assumption)]; exact ⟨rfl, rfl⟩)
      · refine q_bipush 30 rfl 4294967286 k_bm10 dX6_lay_28 ?_
        refine q_iload 32 rfl rfl dX6_lay_30 ?_
        refine q_isub 33 rfl (by omega) dX6_lay_32 ?_
        refine q_iret rfl dX6_lay_33 ?_
        rw [put6, if_pos (by omega)]
        first
          | (rw [if_pos (by assumption)]; exact ⟨rfl, rfl⟩)
          | (rw [if_neg (by assumption)]; exact ⟨rfl, rfl⟩)
    · exfalso; omega
  · refine q_con (by decide) rfl rfl (Nat.le_of_ble_eq_true rfl) ?_
    refine q_iload_n 1 rfl rfl dX6_lay_0 ?_
    refine q_iconst 2 rfl 0 k_i0 dX6_lay_1 ?_
    refine q_iconst 3 rfl 3 k_i3 dX6_lay_2 ?_
    refine q_cS3 6 rfl lX6_87 (k_within (X := 1) (by omega) (by omega) (by omega)) rfl rfl rfl dX6_lay_3 ?_
    refine q_if_neD 9 rfl 11 (by decide) dX6_lay_6 (fun h6 => ?_) (fun h6 => ?_)
    · refine q_aload_n 12 rfl rfl dX6_lay_11 ?_
      refine q_getR 15 rfl fX6_50 rfl 0 t_0 (g_0_11 hG) dX6_lay_12 ?_
      refine q_iload_n 16 rfl rfl dX6_lay_15 ?_
      refine q_aald5 17 rfl 35 t_35 (by decide) (by decide) (g_35_1 hG) dX6_lay_16 ?_
      refine q_iload_n 18 rfl rfl dX6_lay_17 ?_
      refine q_cV1 21 rfl lX6_265 (k_faultAt (q := 71) hG (.inr (.inl rfl)) s1 hYY) rfl 71 t_71 rfl rfl rfl dX6_lay_18 ?_
      refine q_istore 23 rfl (by decide) dX6_lay_21 ?_
      refine q_iload 25 rfl rfl dX6_lay_23 ?_
      have f1 := fta_le N 71 Y
      refine q_if_eq 28 rfl 34 (by decide) (by omega) dX6_lay_25 (fun h25 => ?_) (fun h25 => ?_)
      · refine q_aload_n 35 rfl rfl dX6_lay_34 ?_
        refine q_getR 38 rfl fX6_50 rfl 0 t_0 (g_0_11 hG) dX6_lay_35 ?_
        refine q_iload_n 39 rfl rfl dX6_lay_38 ?_
        refine q_aald5 40 rfl 35 t_35 (by decide) (by decide) (g_35_1 hG) dX6_lay_39 ?_
        refine q_iload_n 41 rfl rfl dX6_lay_40 ?_
        refine q_iload_n 42 rfl rfl dX6_lay_41 ?_
        refine q_cV2v 45 rfl lX6_268 (k_put (q := 71) hG (.inr (.inl rfl)) s1 (fta_in s1 (by assumption)) hZZ) rfl 71 t_71 rfl rfl rfl dX6_lay_42 ?_
        refine q_iconst 46 rfl 1 k_i1 dX6_lay_45 ?_
        refine q_iret rfl dX6_lay_46 ?_
        rw [put6, if_pos (by omega)]
        first
          | (rw [if_pos (by assumption)]; exact ⟨rfl, rfl⟩)
          | (rw [if_neg (by assumption)]; exact ⟨rfl, rfl⟩)
      · refine q_bipush 30 rfl 4294967286 k_bm10 dX6_lay_28 ?_
        refine q_iload 32 rfl rfl dX6_lay_30 ?_
        refine q_isub 33 rfl (by omega) dX6_lay_32 ?_
        refine q_iret rfl dX6_lay_33 ?_
        rw [put6, if_pos (by omega)]
        first
          | (rw [if_pos (by assumption)]; exact ⟨rfl, rfl⟩)
          | (rw [if_neg (by assumption)]; exact ⟨rfl, rfl⟩)
    · exfalso; omega
  · refine q_con (by decide) rfl rfl (Nat.le_of_ble_eq_true rfl) ?_
    refine q_iload_n 1 rfl rfl dX6_lay_0 ?_
    refine q_iconst 2 rfl 0 k_i0 dX6_lay_1 ?_
    refine q_iconst 3 rfl 3 k_i3 dX6_lay_2 ?_
    refine q_cS3 6 rfl lX6_87 (k_within (X := 2) (by omega) (by omega) (by omega)) rfl rfl rfl dX6_lay_3 ?_
    refine q_if_neD 9 rfl 11 (by decide) dX6_lay_6 (fun h6 => ?_) (fun h6 => ?_)
    · refine q_aload_n 12 rfl rfl dX6_lay_11 ?_
      refine q_getR 15 rfl fX6_50 rfl 0 t_0 (g_0_11 hG) dX6_lay_12 ?_
      refine q_iload_n 16 rfl rfl dX6_lay_15 ?_
      refine q_aald5 17 rfl 35 t_35 (by decide) (by decide) (g_35_2 hG) dX6_lay_16 ?_
      refine q_iload_n 18 rfl rfl dX6_lay_17 ?_
      refine q_cV1 21 rfl lX6_265 (k_faultAt (q := 73) hG (.inr (.inr (.inl rfl))) s2 hYY) rfl 73 t_73 rfl rfl rfl dX6_lay_18 ?_
      refine q_istore 23 rfl (by decide) dX6_lay_21 ?_
      refine q_iload 25 rfl rfl dX6_lay_23 ?_
      have f1 := fta_le N 73 Y
      refine q_if_eq 28 rfl 34 (by decide) (by omega) dX6_lay_25 (fun h25 => ?_) (fun h25 => ?_)
      · refine q_aload_n 35 rfl rfl dX6_lay_34 ?_
        refine q_getR 38 rfl fX6_50 rfl 0 t_0 (g_0_11 hG) dX6_lay_35 ?_
        refine q_iload_n 39 rfl rfl dX6_lay_38 ?_
        refine q_aald5 40 rfl 35 t_35 (by decide) (by decide) (g_35_2 hG) dX6_lay_39 ?_
        refine q_iload_n 41 rfl rfl dX6_lay_40 ?_
        refine q_iload_n 42 rfl rfl dX6_lay_41 ?_
        refine q_cV2v 45 rfl lX6_268 (k_put (q := 73) hG (.inr (.inr (.inl rfl))) s2 (fta_in s2 (by assumption)) hZZ) rfl 73 t_73 rfl rfl rfl dX6_lay_42 ?_
        refine q_iconst 46 rfl 1 k_i1 dX6_lay_45 ?_
        refine q_iret rfl dX6_lay_46 ?_
        rw [put6, if_pos (by omega)]
        first
          | (rw [if_pos (by assumption)]; exact ⟨rfl, rfl⟩)
          | (rw [if_neg (by assumption)]; exact ⟨rfl, rfl⟩)
      · refine q_bipush 30 rfl 4294967286 k_bm10 dX6_lay_28 ?_
        refine q_iload 32 rfl rfl dX6_lay_30 ?_
        refine q_isub 33 rfl (by omega) dX6_lay_32 ?_
        refine q_iret rfl dX6_lay_33 ?_
        rw [put6, if_pos (by omega)]
        first
          | (rw [if_pos (by assumption)]; exact ⟨rfl, rfl⟩)
          | (rw [if_neg (by assumption)]; exact ⟨rfl, rfl⟩)
    · exfalso; omega
  · refine q_con (by decide) rfl rfl (Nat.le_of_ble_eq_true rfl) ?_
    refine q_iload_n 1 rfl rfl dX6_lay_0 ?_
    refine q_iconst 2 rfl 0 k_i0 dX6_lay_1 ?_
    refine q_iconst 3 rfl 3 k_i3 dX6_lay_2 ?_
    refine q_cS3 6 rfl lX6_87 (k_within (X := 3) (by omega) (by omega) (by omega)) rfl rfl rfl dX6_lay_3 ?_
    refine q_if_neD 9 rfl 11 (by decide) dX6_lay_6 (fun h6 => ?_) (fun h6 => ?_)
    · refine q_aload_n 12 rfl rfl dX6_lay_11 ?_
      refine q_getR 15 rfl fX6_50 rfl 0 t_0 (g_0_11 hG) dX6_lay_12 ?_
      refine q_iload_n 16 rfl rfl dX6_lay_15 ?_
      refine q_aald5 17 rfl 35 t_35 (by decide) (by decide) (g_35_3 hG) dX6_lay_16 ?_
      refine q_iload_n 18 rfl rfl dX6_lay_17 ?_
      refine q_cV1 21 rfl lX6_265 (k_faultAt (q := 75) hG (.inr (.inr (.inr rfl))) s3 hYY) rfl 75 t_75 rfl rfl rfl dX6_lay_18 ?_
      refine q_istore 23 rfl (by decide) dX6_lay_21 ?_
      refine q_iload 25 rfl rfl dX6_lay_23 ?_
      have f1 := fta_le N 75 Y
      refine q_if_eq 28 rfl 34 (by decide) (by omega) dX6_lay_25 (fun h25 => ?_) (fun h25 => ?_)
      · refine q_aload_n 35 rfl rfl dX6_lay_34 ?_
        refine q_getR 38 rfl fX6_50 rfl 0 t_0 (g_0_11 hG) dX6_lay_35 ?_
        refine q_iload_n 39 rfl rfl dX6_lay_38 ?_
        refine q_aald5 40 rfl 35 t_35 (by decide) (by decide) (g_35_3 hG) dX6_lay_39 ?_
        refine q_iload_n 41 rfl rfl dX6_lay_40 ?_
        refine q_iload_n 42 rfl rfl dX6_lay_41 ?_
        refine q_cV2v 45 rfl lX6_268 (k_put (q := 75) hG (.inr (.inr (.inr rfl))) s3 (fta_in s3 (by assumption)) hZZ) rfl 75 t_75 rfl rfl rfl dX6_lay_42 ?_
        refine q_iconst 46 rfl 1 k_i1 dX6_lay_45 ?_
        refine q_iret rfl dX6_lay_46 ?_
        rw [put6, if_pos (by omega)]
        first
          | (rw [if_pos (by assumption)]; exact ⟨rfl, rfl⟩)
          | (rw [if_neg (by assumption)]; exact ⟨rfl, rfl⟩)
      · refine q_bipush 30 rfl 4294967286 k_bm10 dX6_lay_28 ?_
        refine q_iload 32 rfl rfl dX6_lay_30 ?_
        refine q_isub 33 rfl (by omega) dX6_lay_32 ?_
        refine q_iret rfl dX6_lay_33 ?_
        rw [put6, if_pos (by omega)]
        first
          | (rw [if_pos (by assumption)]; exact ⟨rfl, rfl⟩)
          | (rw [if_neg (by assumption)]; exact ⟨rfl, rfl⟩)
    · exfalso; omega
  · refine q_con (by decide) rfl rfl (Nat.le_of_ble_eq_true rfl) ?_
    refine q_iload_n 1 rfl rfl dX6_lay_0 ?_
    refine q_iconst 2 rfl 0 k_i0 dX6_lay_1 ?_
    refine q_iconst 3 rfl 3 k_i3 dX6_lay_2 ?_
    refine q_cS3 6 rfl lX6_87 (k_within hXX (by omega) (by omega)) rfl rfl rfl dX6_lay_3 ?_
    refine q_if_neD 9 rfl 11 (by decide) dX6_lay_6 (fun h6 => ?_) (fun h6 => ?_)
    · exfalso; omega
    · refine q_iconst 10 rfl 4294967295 k_im1 dX6_lay_9 ?_
      refine q_iret rfl dX6_lay_10 ?_
      rw [put6, if_neg (by omega)]; exact ⟨rfl, rfl⟩
end
