def keep6 (N : Nat → Nat → Nat) (nw X : Nat) : Nat × (Nat → Nat → Nat) := if X ≤ 1 then (if N 34 X = 0 then 0 else 1, q_s (cpm N (51 + 9 * X) nw) 34 X 1) else (4294967295, N)
section
variable {Γ : q_G} {ad : Nat → Nat} {N : Nat → Nat → Nat} {L : Nat → Nat → Int} {G : Nat → Nat → Option Nat}
theorem k_keep6 {X : Nat} {nm nw c : Nat} {Rl : Nat → Nat → Bool} (hG : GF ad G) (hX : CX ad G N nm nw c Rl) (hb : ∀ i, i < 2 → N 34 i < 4294967296) (hXX : X < 4294967296) : q_Con Γ mX6_keep 2 0 0 [.ref (ad 0), .int (nI X)] (LT ad, N, L, G) (q_is (some (.int (nI (keep6 N nw X).1))) (LT ad, (keep6 N nw X).2, L, G)) := by
  obtain ⟨hnm, hnw, hv5, hv6, hN, hM, hnr⟩ := id hX
  have hc : N nm 0 = c := hN.1
  have hc9 : c ≤ 9 := hN.2.1
  have b0 := hb 0 (by omega)
  have b1 := hb 1 (by omega)
  rcases (show X = 0 ∨ X = 1 ∨ 2 ≤ X by omega) with rfl | rfl | hX2
  · refine q_con (by decide) rfl rfl (Nat.le_of_ble_eq_true rfl) ?_
    refine q_iload_n 1 rfl rfl dX6_keep_0 ?_
    refine q_iconst 2 rfl 0 k_i0 dX6_keep_1 ?_
    refine q_iconst 3 rfl 1 k_i1 dX6_keep_2 ?_
    refine q_cS3 6 rfl lX6_87 (k_within (X := 0) (by omega) (by omega) (by omega)) rfl rfl rfl dX6_keep_3 ?_
    refine q_if_neD 9 rfl 11 (by decide) dX6_keep_6 (fun h6 => ?_) (fun h6 => ?_)
    · refine q_aload_n 12 rfl rfl dX6_keep_11 ?_
      refine q_getR 15 rfl fX6_44 rfl 0 t_0 (g_0_10 hG) dX6_keep_12 ?_
      refine q_iload_n 16 rfl rfl dX6_keep_15 ?_
      refine q_zald 17 rfl 34 t_34 (by decide) (by decide) dX6_keep_16 ?_
      refine q_istore_n 18 rfl (by decide) dX6_keep_17 ?_
      refine q_aload_n 19 rfl rfl dX6_keep_18 ?_
      refine q_getR 22 rfl fX6_40 rfl 0 t_0 (g_0_9 hG) dX6_keep_19 ?_
      refine q_iload_n 23 rfl rfl dX6_keep_22 ?_
      refine q_aald4 24 rfl 33 t_33 (by decide) (by decide) (g_33_0 hG) dX6_keep_23 ?_
      refine q_aload_n 25 rfl rfl dX6_keep_24 ?_
      refine q_getR 28 rfl fX6_30 rfl 0 t_0 hv6 dX6_keep_25 ?_
      refine q_cV1v 31 rfl lX6_258 (k_copy6 hG (.inr (.inr (.inl rfl))) hnw) rfl 51 t_51 rfl rfl rfl dX6_keep_28 ?_
      refine q_aload_n 32 rfl rfl dX6_keep_31 ?_
      refine q_getR 35 rfl fX6_44 rfl 0 t_0 (g_0_10 hG) dX6_keep_32 ?_
      refine q_iload_n 36 rfl rfl dX6_keep_35 ?_
      refine q_iconst 37 rfl 1 k_i1 dX6_keep_36 ?_
      refine q_zast 38 rfl 34 t_34 (by decide) (by decide) (1) (by decide) dX6_keep_37 ?_
      refine q_iload_n 39 rfl rfl dX6_keep_38 ?_
      refine q_if_eq 42 rfl 46 (by decide) (by omega) dX6_keep_39 (fun h39 => ?_) (fun h39 => ?_)
      · refine q_iconst 47 rfl 0 k_i0 dX6_keep_46 ?_
        refine q_iret rfl dX6_keep_47 ?_
        rw [keep6, if_pos (by omega)]
        first
          | (rw [if_pos (by assumption)]; exact ⟨rfl, rfl⟩)
          | (rw [if_neg (by assumption)]; exact ⟨rfl, rfl⟩)
      · refine q_iconst 43 rfl 1 k_i1 dX6_keep_42 ?_
        refine q_goto 47 (by decide) dX6_keep_43 ?_
        refine q_iret rfl dX6_keep_47 ?_
        rw [keep6, if_pos (by omega)]
        first
          | (rw [if_pos (by assumption)]; exact ⟨rfl, rfl⟩)
          | (rw [if_neg (by assumption)]; exact ⟨rfl, rfl⟩)
    · exfalso; omega
  · refine q_con (by decide) rfl rfl (Nat.le_of_ble_eq_true rfl) ?_
    refine q_iload_n 1 rfl rfl dX6_keep_0 ?_
    refine q_iconst 2 rfl 0 k_i0 dX6_keep_1 ?_
    refine q_iconst 3 rfl 1 k_i1 dX6_keep_2 ?_
    refine q_cS3 6 rfl lX6_87 (k_within (X := 1) (by omega) (by omega) (by omega)) rfl rfl rfl dX6_keep_3 ?_
    refine q_if_neD 9 rfl 11 (by decide) dX6_keep_6 (fun h6 => ?_) (fun h6 => ?_)
    · refine q_aload_n 12 rfl rfl dX6_keep_11 ?_
      refine q_getR 15 rfl fX6_44 rfl 0 t_0 (g_0_10 hG) dX6_keep_12 ?_
      refine q_iload_n 16 rfl rfl dX6_keep_15 ?_
      refine q_zald 17 rfl 34 t_34 (by decide) (by decide) dX6_keep_16 ?_
      refine q_istore_n 18 rfl (by decide) dX6_keep_17 ?_
      refine q_aload_n 19 rfl rfl dX6_keep_18 ?_
      refine q_getR 22 rfl fX6_40 rfl 0 t_0 (g_0_9 hG) dX6_keep_19 ?_
      refine q_iload_n 23 rfl rfl dX6_keep_22 ?_
      refine q_aald4 24 rfl 33 t_33 (by decide) (by decide) (g_33_1 hG) dX6_keep_23 ?_
      refine q_aload_n 25 rfl rfl dX6_keep_24 ?_
      refine q_getR 28 rfl fX6_30 rfl 0 t_0 hv6 dX6_keep_25 ?_
      refine q_cV1v 31 rfl lX6_258 (k_copy6 hG (.inr (.inr (.inr rfl))) hnw) rfl 60 t_60 rfl rfl rfl dX6_keep_28 ?_
      refine q_aload_n 32 rfl rfl dX6_keep_31 ?_
      refine q_getR 35 rfl fX6_44 rfl 0 t_0 (g_0_10 hG) dX6_keep_32 ?_
      refine q_iload_n 36 rfl rfl dX6_keep_35 ?_
      refine q_iconst 37 rfl 1 k_i1 dX6_keep_36 ?_
      refine q_zast 38 rfl 34 t_34 (by decide) (by decide) (1) (by decide) dX6_keep_37 ?_
      refine q_iload_n 39 rfl rfl dX6_keep_38 ?_
      refine q_if_eq 42 rfl 46 (by decide) (by omega) dX6_keep_39 (fun h39 => ?_) (fun h39 => ?_)
      · refine q_iconst 47 rfl 0 k_i0 dX6_keep_46 ?_
        refine q_iret rfl dX6_keep_47 ?_
        rw [keep6, if_pos (by omega)]
        first
          | (rw [if_pos (by assumption)]; exact ⟨rfl, rfl⟩)
          | (rw [if_neg (by assumption)]; exact ⟨rfl, rfl⟩)
      · refine q_iconst 43 rfl 1 k_i1 dX6_keep_42 ?_
        refine q_goto 47 (by decide) dX6_keep_43 ?_
        refine q_iret rfl dX6_keep_47 ?_
        rw [keep6, if_pos (by omega)]
        first
          | (rw [if_pos (by assumption)]; exact ⟨rfl, rfl⟩)
          | (rw [if_neg (by assumption)]; exact ⟨rfl, rfl⟩)
    · exfalso; omega
  · refine q_con (by decide) rfl rfl (Nat.le_of_ble_eq_true rfl) ?_
    refine q_iload_n 1 rfl rfl dX6_keep_0 ?_
    refine q_iconst 2 rfl 0 k_i0 dX6_keep_1 ?_
    refine q_iconst 3 rfl 1 k_i1 dX6_keep_2 ?_
    refine q_cS3 6 rfl lX6_87 (k_within hXX (by omega) (by omega)) rfl rfl rfl dX6_keep_3 ?_
    refine q_if_neD 9 rfl 11 (by decide) dX6_keep_6 (fun h6 => ?_) (fun h6 => ?_)
    · exfalso; omega
    · refine q_iconst 10 rfl 4294967295 k_im1 dX6_keep_9 ?_
      refine q_iret rfl dX6_keep_10 ?_
      rw [keep6, if_neg (by omega)]; exact ⟨rfl, rfl⟩
end
