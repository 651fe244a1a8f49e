def back6 (N : Nat → Nat → Nat) (nm nw c X : Nat) : Nat × (Nat → Nat → Nat) := if X ≤ 1 then (if N 34 X = 0 then (4294967294, N) else (N (51 + 9 * X) 6, fil (cpm N nw (51 + 9 * X)) 36 (fun n => mk (nr6 N nm (N (51 + 9 * X) 1) (N (51 + 9 * X) 2) n) c) c)) else (4294967295, N)
section
variable {Γ : q_G} {ad : Nat → Nat} {N : Nat → Nat → Nat} {L : Nat → Nat → Int} {G : Nat → Nat → Option Nat}
theorem k_back6 {X : Nat} {nm nw c : Nat} {Rl : Nat → Nat → Bool} (hG : GF ad G) (hX : CX ad G N nm nw c Rl) (hw : nw < 33) (hb : ∀ i, i < 2 → N 34 i < 4294967296) (hI : ∀ i, i < 2 → N 34 i ≠ 0 → CM N (51 + 9 * i) c) (hXX : X < 4294967296) : q_Con Γ mX6_back 5 0 0 [.ref (ad 0), .int (nI X)] (LT ad, N, L, G) (q_is (some (.int (nI (back6 N nm nw c X).1))) (LT ad, (back6 N nm nw c X).2, L, G)) := by
  obtain ⟨hnm, hnw, hv5, hv6, hN, hM, hnr⟩ := id hX
  have hc : N nm 0 = c := hN.1
  have hc9 : c ≤ 9 := hN.2.1
  have b0 := hb 0 (by omega)
  have b1 := hb 1 (by omega)
  rcases (show X = 0 ∨ X = 1 ∨ 2 ≤ X by omega) with rfl | rfl | hX2
  · refine q_con (by decide) rfl rfl (Nat.le_of_ble_eq_true rfl) ?_
    refine q_iload_n 1 rfl rfl dX6_back_0 ?_
    refine q_iconst 2 rfl 0 k_i0 dX6_back_1 ?_
    refine q_iconst 3 rfl 1 k_i1 dX6_back_2 ?_
    refine q_cS3 6 rfl lX6_87 (k_within (X := 0) (by omega) (by omega) (by omega)) rfl rfl rfl dX6_back_3 ?_
    refine q_if_neD 9 rfl 11 (by decide) dX6_back_6 (fun h6 => ?_) (fun h6 => ?_)
    · refine q_aload_n 12 rfl rfl dX6_back_11 ?_
      refine q_getR 15 rfl fX6_44 rfl 0 t_0 (g_0_10 hG) dX6_back_12 ?_
      refine q_iload_n 16 rfl rfl dX6_back_15 ?_
      refine q_zald 17 rfl 34 t_34 (by decide) (by decide) dX6_back_16 ?_
      refine q_if_ne 20 rfl 23 (by decide) (by omega) dX6_back_17 (fun h17 => ?_) (fun h17 => ?_)
      · have hI1 := hI 0 (by omega) (by assumption)
        obtain ⟨e1, e2, e3, e6, e9⟩ := cpm_f (N := N) (q := nw) (p := 51) (by omega)
        have f1 : ∀ a, nm ≤ a → a ≤ nm + 5 → cpm N nw 51 a = N a := fun a q1 q2 => cpm_ne (by omega)
        have f4 : nr6 (cpm N nw 51) nm = nr6 N nm := by funext kd ms; exact nr6_eq f1
        have hN2 : CN (cpm N nw 51) nm c := hN.eq f1
        have hk1 : N 51 1 < 5 := hI1.1
        have hk2 : N 51 2 ≤ 8 := hI1.2.1
        refine q_aload_n 24 rfl rfl dX6_back_23 ?_
        refine q_getR 27 rfl fX6_30 rfl 0 t_0 hv6 dX6_back_24 ?_
        refine q_aload_n 28 rfl rfl dX6_back_27 ?_
        refine q_getR 31 rfl fX6_40 rfl 0 t_0 (g_0_9 hG) dX6_back_28 ?_
        refine q_iload_n 32 rfl rfl dX6_back_31 ?_
        refine q_aald4 33 rfl 33 t_33 (by decide) (by decide) (g_33_0 hG) dX6_back_32 ?_
        refine q_cV1v 36 rfl lX6_258 (k_copy6 hG hnw (.inr (.inr (.inl rfl)))) rfl nw (tM hnw) rfl rfl rfl dX6_back_33 ?_
        refine q_aload_n 37 rfl rfl dX6_back_36 ?_
        refine q_cV0v 40 rfl lX6_156 (k_applyLaw (N := cpm N nw 51) hG hnm hnw hv5 hv6 hN2 (by rw [e1]; exact hk1) (by rw [e2]; exact hk2)) rfl 0 t_0 rfl rfl rfl dX6_back_37 ?_
        rw [e1, e2, f4]
        refine q_aload_n 41 rfl rfl dX6_back_40 ?_
        refine q_getR 44 rfl fX6_30 rfl 0 t_0 hv6 dX6_back_41 ?_
        refine q_getI 47 rfl fX6_170 rfl nw (tM hnw) dX6_back_44 ?_
        rw [fil_ne (by omega), e6]
        refine q_iret rfl dX6_back_47 ?_
        rw [back6, if_pos (by omega)]
        first
          | (rw [if_pos (by assumption)]; exact ⟨rfl, rfl⟩)
          | (rw [if_neg (by assumption)]; exact ⟨rfl, rfl⟩)
      · refine q_bipush 22 rfl 4294967294 k_bm2 dX6_back_20 ?_
        refine q_iret rfl dX6_back_22 ?_
        rw [back6, if_pos (by omega)]
        first
          | (rw [if_pos (by assumption)]; exact ⟨rfl, rfl⟩)
          | (rw [if_neg (by assumption)]; exact ⟨rfl, rfl⟩)
    · exfalso; omega
  · refine q_con (by decide) rfl rfl (Nat.le_of_ble_eq_true rfl) ?_
    refine q_iload_n 1 rfl rfl dX6_back_0 ?_
    refine q_iconst 2 rfl 0 k_i0 dX6_back_1 ?_
    refine q_iconst 3 rfl 1 k_i1 dX6_back_2 ?_
    refine q_cS3 6 rfl lX6_87 (k_within (X := 1) (by omega) (by omega) (by omega)) rfl rfl rfl dX6_back_3 ?_
    refine q_if_neD 9 rfl 11 (by decide) dX6_back_6 (fun h6 => ?_) (fun h6 => ?_)
    · refine q_aload_n 12 rfl rfl dX6_back_11 ?_
      refine q_getR 15 rfl fX6_44 rfl 0 t_0 (g_0_10 hG) dX6_back_12 ?_
      refine q_iload_n 16 rfl rfl dX6_back_15 ?_
      refine q_zald 17 rfl 34 t_34 (by decide) (by decide) dX6_back_16 ?_
      refine q_if_ne 20 rfl 23 (by decide) (by omega) dX6_back_17 (fun h17 => ?_) (fun h17 => ?_)
      · have hI1 := hI 1 (by omega) (by assumption)
        obtain ⟨e1, e2, e3, e6, e9⟩ := cpm_f (N := N) (q := nw) (p := 60) (by omega)
        have f1 : ∀ a, nm ≤ a → a ≤ nm + 5 → cpm N nw 60 a = N a := fun a q1 q2 => cpm_ne (by omega)
        have f4 : nr6 (cpm N nw 60) nm = nr6 N nm := by funext kd ms; exact nr6_eq f1
        have hN2 : CN (cpm N nw 60) nm c := hN.eq f1
        have hk1 : N 60 1 < 5 := hI1.1
        have hk2 : N 60 2 ≤ 8 := hI1.2.1
        refine q_aload_n 24 rfl rfl dX6_back_23 ?_
        refine q_getR 27 rfl fX6_30 rfl 0 t_0 hv6 dX6_back_24 ?_
        refine q_aload_n 28 rfl rfl dX6_back_27 ?_
        refine q_getR 31 rfl fX6_40 rfl 0 t_0 (g_0_9 hG) dX6_back_28 ?_
        refine q_iload_n 32 rfl rfl dX6_back_31 ?_
        refine q_aald4 33 rfl 33 t_33 (by decide) (by decide) (g_33_1 hG) dX6_back_32 ?_
        refine q_cV1v 36 rfl lX6_258 (k_copy6 hG hnw (.inr (.inr (.inr rfl)))) rfl nw (tM hnw) rfl rfl rfl dX6_back_33 ?_
        refine q_aload_n 37 rfl rfl dX6_back_36 ?_
        refine q_cV0v 40 rfl lX6_156 (k_applyLaw (N := cpm N nw 60) hG hnm hnw hv5 hv6 hN2 (by rw [e1]; exact hk1) (by rw [e2]; exact hk2)) rfl 0 t_0 rfl rfl rfl dX6_back_37 ?_
        rw [e1, e2, f4]
        refine q_aload_n 41 rfl rfl dX6_back_40 ?_
        refine q_getR 44 rfl fX6_30 rfl 0 t_0 hv6 dX6_back_41 ?_
        refine q_getI 47 rfl fX6_170 rfl nw (tM hnw) dX6_back_44 ?_
        rw [fil_ne (by omega), e6]
        refine q_iret rfl dX6_back_47 ?_
        rw [back6, if_pos (by omega)]
        first
          | (rw [if_pos (by assumption)]; exact ⟨rfl, rfl⟩)
          | (rw [if_neg (by assumption)]; exact ⟨rfl, rfl⟩)
      · refine q_bipush 22 rfl 4294967294 k_bm2 dX6_back_20 ?_
        refine q_iret rfl dX6_back_22 ?_
        rw [back6, if_pos (by omega)]
        first
          | (rw [if_pos (by assumption)]; exact ⟨rfl, rfl⟩)
          | (rw [if_neg (by assumption)]; exact ⟨rfl, rfl⟩)
    · exfalso; omega
  · refine q_con (by decide) rfl rfl (Nat.le_of_ble_eq_true rfl) ?_
    refine q_iload_n 1 rfl rfl dX6_back_0 ?_
    refine q_iconst 2 rfl 0 k_i0 dX6_back_1 ?_
    refine q_iconst 3 rfl 1 k_i1 dX6_back_2 ?_
    refine q_cS3 6 rfl lX6_87 (k_within hXX (by omega) (by omega)) rfl rfl rfl dX6_back_3 ?_
    refine q_if_neD 9 rfl 11 (by decide) dX6_back_6 (fun h6 => ?_) (fun h6 => ?_)
    · exfalso; omega
    · refine q_iconst 10 rfl 4294967295 k_im1 dX6_back_9 ?_
      refine q_iret rfl dX6_back_10 ?_
      rw [back6, if_neg (by omega)]; exact ⟨rfl, rfl⟩
end
