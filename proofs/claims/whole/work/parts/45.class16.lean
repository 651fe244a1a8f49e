theorem i2b_sx (a : Nat) (ha : a < 4294967296) : (nI a).toInt8.toInt32 = nI (sx8 a) := by
  apply Int32.toInt_inj.mp
  rw [Int8.toInt_toInt32, Int32.toInt_toInt8]
  have z1 := z_two a ha
  have z2 := z_two (sx8 a) (sx8_lt a)
  show (z_s a).bmod (2 ^ 8) = z_s (sx8 a)
  generalize z_s (sx8 a) = u at *
  generalize z_s a = v at *
  simp only [sx8, Int.bmod] at *
  split at z2 <;> split <;> omega
theorem i2s_sx (a : Nat) (ha : a < 4294967296) : (nI a).toInt16.toInt32 = nI (sx16 a) := by
  apply Int32.toInt_inj.mp
  rw [Int16.toInt_toInt32, Int32.toInt_toInt16]
  have z1 := z_two a ha
  have z2 := z_two (sx16 a) (sx16_lt a)
  show (z_s a).bmod (2 ^ 16) = z_s (sx16 a)
  generalize z_s (sx16 a) = u at *
  generalize z_s a = v at *
  simp only [sx16, Int.bmod] at *
  split at z2 <;> split <;> omega
section
variable {Γ : q_G} {ad : Nat → Nat} {N : Nat → Nat → Nat} {L : Nat → Nat → Int} {G : Nat → Nat → Option Nat}
theorem k_ftg {q i l : Nat} (hG : GF ad G) (hq : isH q) (hS : SH N q) (hi : i < 2147483648) (hl : l < 4294967296) : q_Con Γ mX5_faultOfGuessAt 2 0 0 [.ref (ad q), .int (nI i), .int (nI l)] (LT ad, N, L, G) (q_is (some (.int (nI (ftg N q i l)))) (LT ad, N, L, G)) := by
  obtain ⟨h0, h1⟩ := id hS
  have f1 := fta_le N q i
  have f2 := fta_le N q (i + 1)
  refine q_con (by decide) rfl rfl (Nat.le_of_ble_eq_true rfl) ?_
  refine q_aload_n 1 rfl rfl dX5_faultOfGuessAt_0 ?_
  refine q_getI 4 rfl fX5_11 rfl q (tH hq) dX5_faultOfGuessAt_1 ?_
  refine q_iconst 5 rfl 4294967295 k_im1 dX5_faultOfGuessAt_4 ?_
  refine q_icmp_eq 8 rfl 18 (by decide) (by omega) (by omega) dX5_faultOfGuessAt_5 (fun h5 => ?_) (fun h5 => ?_)
  · refine q_aload_n 19 rfl rfl dX5_faultOfGuessAt_18 ?_
    refine q_iload_n 20 rfl rfl dX5_faultOfGuessAt_19 ?_
    refine q_cV1 23 rfl lX5_32 (k_faultAt hG hq hS (by omega)) rfl q (tH hq) rfl rfl rfl dX5_faultOfGuessAt_20 ?_
    refine q_istore_n 24 rfl (by decide) dX5_faultOfGuessAt_23 ?_
    refine q_iload_n 25 rfl rfl dX5_faultOfGuessAt_24 ?_
    refine q_if_eq 28 rfl 32 (by decide) (by omega) dX5_faultOfGuessAt_25 (fun h25 => ?_) (fun h25 => ?_)
    · refine q_aload_n 33 rfl rfl dX5_faultOfGuessAt_32 ?_
      refine q_iload_n 34 rfl rfl dX5_faultOfGuessAt_33 ?_
      refine q_iconst 35 rfl 1 k_i1 dX5_faultOfGuessAt_34 ?_
      refine q_iadd 36 rfl dX5_faultOfGuessAt_35 ?_
      refine q_cV1 39 rfl lX5_32 (k_faultAt hG hq hS (by omega)) rfl q (tH hq) rfl rfl rfl dX5_faultOfGuessAt_36 ?_
      refine q_iret rfl dX5_faultOfGuessAt_39 ?_
      first
        | (rw [ftg, if_pos (by omega)]; exact ⟨rfl, rfl⟩)
        | (rw [ftg, if_neg (by omega), if_pos (by assumption)]; exact ⟨rfl, rfl⟩)
        | (rw [ftg, if_neg (by omega), if_neg (by omega)]; exact ⟨rfl, rfl⟩)
    · refine q_iload_n 29 rfl rfl dX5_faultOfGuessAt_28 ?_
      refine q_goto 39 (by decide) dX5_faultOfGuessAt_29 ?_
      refine q_iret rfl dX5_faultOfGuessAt_39 ?_
      first
        | (rw [ftg, if_pos (by omega)]; exact ⟨rfl, rfl⟩)
        | (rw [ftg, if_neg (by omega), if_pos (by assumption)]; exact ⟨rfl, rfl⟩)
        | (rw [ftg, if_neg (by omega), if_neg (by omega)]; exact ⟨rfl, rfl⟩)
  · refine q_aload_n 9 rfl rfl dX5_faultOfGuessAt_8 ?_
    refine q_getI 12 rfl fX5_11 rfl q (tH hq) dX5_faultOfGuessAt_9 ?_
    refine q_iload_n 13 rfl rfl dX5_faultOfGuessAt_12 ?_
    refine q_icmp_eq 16 rfl 18 (by decide) (by omega) (by omega) dX5_faultOfGuessAt_13 (fun h13 => ?_) (fun h13 => ?_)
    · refine q_aload_n 19 rfl rfl dX5_faultOfGuessAt_18 ?_
      refine q_iload_n 20 rfl rfl dX5_faultOfGuessAt_19 ?_
      refine q_cV1 23 rfl lX5_32 (k_faultAt hG hq hS (by omega)) rfl q (tH hq) rfl rfl rfl dX5_faultOfGuessAt_20 ?_
      refine q_istore_n 24 rfl (by decide) dX5_faultOfGuessAt_23 ?_
      refine q_iload_n 25 rfl rfl dX5_faultOfGuessAt_24 ?_
      refine q_if_eq 28 rfl 32 (by decide) (by omega) dX5_faultOfGuessAt_25 (fun h25 => ?_) (fun h25 => ?_)
      · refine q_aload_n 33 rfl rfl dX5_faultOfGuessAt_32 ?_
        refine q_iload_n 34 rfl rfl dX5_faultOfGuessAt_33 ?_
        refine q_iconst 35 rfl 1 k_i1 dX5_faultOfGuessAt_34 ?_
        refine q_iadd 36 rfl dX5_faultOfGuessAt_35 ?_
        refine q_cV1 39 rfl lX5_32 (k_faultAt hG hq hS (by omega)) rfl q (tH hq) rfl rfl rfl dX5_faultOfGuessAt_36 ?_
        refine q_iret rfl dX5_faultOfGuessAt_39 ?_
        first
          | (rw [ftg, if_pos (by omega)]; exact ⟨rfl, rfl⟩)
          | (rw [ftg, if_neg (by omega), if_pos (by assumption)]; exact ⟨rfl, rfl⟩)
          | (rw [ftg, if_neg (by omega), if_neg (by omega)]; exact ⟨rfl, rfl⟩)
      · refine q_iload_n 29 rfl rfl dX5_faultOfGuessAt_28 ?_
        refine q_goto 39 (by decide) dX5_faultOfGuessAt_29 ?_
        refine q_iret rfl dX5_faultOfGuessAt_39 ?_
        first
          | (rw [ftg, if_pos (by omega)]; exact ⟨rfl, rfl⟩)
          | (rw [ftg, if_neg (by omega), if_pos (by assumption)]; exact ⟨rfl, rfl⟩)
          | (rw [ftg, if_neg (by omega), if_neg (by omega)]; exact ⟨rfl, rfl⟩)
    · refine q_iconst 17 rfl 3 k_i3 dX5_faultOfGuessAt_16 ?_
      refine q_iret rfl dX5_faultOfGuessAt_17 ?_
      first
        | (rw [ftg, if_pos (by omega)]; exact ⟨rfl, rfl⟩)
        | (rw [ftg, if_neg (by omega), if_pos (by assumption)]; exact ⟨rfl, rfl⟩)
        | (rw [ftg, if_neg (by omega), if_neg (by omega)]; exact ⟨rfl, rfl⟩)
theorem k_put {q i v : Nat} (hG : GF ad G) (hq : isH q) (hS : SH N q) (hi : i < 40) (hv : v < 4294967296) : q_Con Γ mX5_put 0 0 0 [.ref (ad q), .int (nI i), .int (nI v)] (LT ad, N, L, G) (q_is none (LT ad, q_s N (q + 1) i (layv (N q 0) v), L, G)) := by
  obtain ⟨h0, h1⟩ := id hS
  refine q_con (by decide) rfl rfl (Nat.le_of_ble_eq_true rfl) ?_
  refine q_aload_n 1 rfl rfl dX5_put_0 ?_
  refine q_getR 4 rfl fX5_15 rfl q (tH hq) (gH_2 hq hG) dX5_put_1 ?_
  refine q_iload_n 5 rfl rfl dX5_put_4 ?_
  refine q_aload_n 6 rfl rfl dX5_put_5 ?_
  refine q_getI 9 rfl fX5_11 rfl q (tH hq) dX5_put_6 ?_
  refine q_if_ne 12 rfl 17 (by decide) (by omega) dX5_put_9 (fun h9 => ?_) (fun h9 => ?_)
  · refine q_aload_n 18 rfl rfl dX5_put_17 ?_
    refine q_getI 21 rfl fX5_11 rfl q (tH hq) dX5_put_18 ?_
    refine q_iconst 22 rfl 1 k_i1 dX5_put_21 ?_
    refine q_icmp_ne 25 rfl 30 (by decide) (by omega) (by omega) dX5_put_22 (fun h22 => ?_) (fun h22 => ?_)
    · refine q_iload_n 31 rfl rfl dX5_put_30 ?_
      refine q_iast 32 rfl (q + 1) (tH1 hq) (by omega) (by decide) dX5_put_31 ?_
      refine q_vret rfl dX5_put_32 ?_
      first
        | (rw [layv, if_pos (by assumption)]; exact ⟨rfl, rfl⟩)
        | (rw [layv, if_neg (by assumption), if_pos (by assumption)]; exact ⟨rfl, rfl⟩)
        | (rw [layv, if_neg (by assumption), if_neg (by assumption)]; exact ⟨rfl, rfl⟩)
    · refine q_iload_n 26 rfl rfl dX5_put_25 ?_
      refine q_i2s 27 rfl (sx16 v) (i2s_sx v hv) dX5_put_26 ?_
      refine q_goto 31 (by decide) dX5_put_27 ?_
      refine q_iast 32 rfl (q + 1) (tH1 hq) (by omega) (by decide) dX5_put_31 ?_
      refine q_vret rfl dX5_put_32 ?_
      first
        | (rw [layv, if_pos (by assumption)]; exact ⟨rfl, rfl⟩)
        | (rw [layv, if_neg (by assumption), if_pos (by assumption)]; exact ⟨rfl, rfl⟩)
        | (rw [layv, if_neg (by assumption), if_neg (by assumption)]; exact ⟨rfl, rfl⟩)
  · refine q_iload_n 13 rfl rfl dX5_put_12 ?_
    refine q_i2b 14 rfl (sx8 v) (i2b_sx v hv) dX5_put_13 ?_
    refine q_goto 31 (by decide) dX5_put_14 ?_
    refine q_iast 32 rfl (q + 1) (tH1 hq) (by omega) (by decide) dX5_put_31 ?_
    refine q_vret rfl dX5_put_32 ?_
    first
      | (rw [layv, if_pos (by assumption)]; exact ⟨rfl, rfl⟩)
      | (rw [layv, if_neg (by assumption), if_pos (by assumption)]; exact ⟨rfl, rfl⟩)
      | (rw [layv, if_neg (by assumption), if_neg (by assumption)]; exact ⟨rfl, rfl⟩)
theorem k_renew {q l n : Nat} (hG : GF ad G) (hq : isH q) : q_Con Γ mX5_renew 1 0 0 [.ref (ad q), .int (nI l), .int (nI n)] (LT ad, N, L, G) (q_is none (LT ad, q_r (q_s (q_s N q 0 l) q 1 n) (q + 1) (fun j => if j < 40 then 0 else q_s (q_s N q 0 l) q 1 n (q + 1) j), L, G)) := by
  refine q_con (by decide) rfl rfl (Nat.le_of_ble_eq_true rfl) ?_
  refine q_aload_n 1 rfl rfl dX5_renew_0 ?_
  refine q_iload_n 2 rfl rfl dX5_renew_1 ?_
  refine q_putI 5 rfl pX5_11 (fun q => by cases q) rfl q (tH hq) dX5_renew_2 ?_
  refine q_aload_n 6 rfl rfl dX5_renew_5 ?_
  refine q_iload_n 7 rfl rfl dX5_renew_6 ?_
  refine q_putI 10 rfl pX5_19 (fun q => by cases q) rfl q (tH hq) dX5_renew_7 ?_
  refine q_aload_n 11 rfl rfl dX5_renew_10 ?_
  refine q_getR 14 rfl fX5_15 rfl q (tH hq) (gH_2 hq hG) dX5_renew_11 ?_
  refine q_iconst 15 rfl 0 k_i0 dX5_renew_14 ?_
  refine q_cS2v 18 rfl lX5_22 (k_fill (tH1 hq) (by decide)) rfl rfl rfl dX5_renew_15 ?_
  refine q_vret rfl dX5_renew_18 ?_
  exact ⟨rfl, rfl⟩
end
