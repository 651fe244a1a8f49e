theorem i2b_lo : ∀ X, X < 128 → (nI X).toInt8.toInt32 = nI X := by decide +kernel
theorem nar_lo : ∀ X, X < 128 → vp_nar .byte (nI X) = nI X := by decide +kernel
def feed6 (N : Nat → Nat → Nat) (X : Nat) : Nat × (Nat → Nat → Nat) := if X ≤ 127 then (if 160 ≤ N 0 1 then (4294967293, N) else (N 0 1 + 1, q_s (q_s N 1 (N 0 1) X) 0 1 (N 0 1 + 1))) else (4294967295, N)
abbrev lwN (N : Nat → Nat → Nat) (nw X Y : Nat) : Nat → Nat → Nat := q_s (q_s N nw 1 X) nw 2 Y
def law6 (N : Nat → Nat → Nat) (nm nw c X Y : Nat) : Nat × (Nat → Nat → Nat) := if X ≤ 4 ∧ Y ≤ 8 then (N nw 1, fil (lwN N nw X Y) 36 (fun n => mk (nr6 N nm X Y n) c) c) else (4294967295, N)
section
variable {Γ : q_G} {ad : Nat → Nat} {N : Nat → Nat → Nat} {L : Nat → Nat → Int} {G : Nat → Nat → Option Nat}
theorem k_feed6 {X : Nat} (hG : GF ad G) (ht : N 0 1 ≤ 160) (hXX : X < 4294967296) : q_Con Γ mX6_feed 1 0 0 [.ref (ad 0), .int (nI X)] (LT ad, N, L, G) (q_is (some (.int (nI (feed6 N X).1))) (LT ad, (feed6 N X).2, L, G)) := by
  refine q_con (by decide) rfl rfl (Nat.le_of_ble_eq_true rfl) ?_
  refine q_iload_n 1 rfl rfl dX6_feed_0 ?_
  refine q_iconst 2 rfl 0 k_i0 dX6_feed_1 ?_
  refine q_bipush 4 rfl 127 k_b127 dX6_feed_2 ?_
  refine q_cS3 7 rfl lX6_87 (k_within hXX (by omega) (by omega)) rfl rfl rfl dX6_feed_4 ?_
  refine q_if_neD 10 rfl 12 (by decide) dX6_feed_7 (fun h7 => ?_) (fun h7 => ?_)
  · refine q_aload_n 13 rfl rfl dX6_feed_12 ?_
    refine q_getI 16 rfl fX6_91 rfl 0 t_0 dX6_feed_13 ?_
    refine q_sipush 19 rfl 160 k_s160 dX6_feed_16 ?_
    refine q_icmp_lt 22 rfl 25 (by decide) (by omega) (by omega) dX6_feed_19 (fun h19 => ?_) (fun h19 => ?_)
    · refine q_aload_n 26 rfl rfl dX6_feed_25 ?_
      refine q_getR 29 rfl fX6_9 rfl 0 t_0 (g_0_0 hG) dX6_feed_26 ?_
      refine q_aload_n 30 rfl rfl dX6_feed_29 ?_
      refine q_getI 33 rfl fX6_91 rfl 0 t_0 dX6_feed_30 ?_
      refine q_iload_n 34 rfl rfl dX6_feed_33 ?_
      refine q_i2b 35 rfl (X) (i2b_lo X (by omega)) dX6_feed_34 ?_
      refine q_bast 36 rfl 1 t_1 (by omega) (by decide) (X) (nar_lo X (by omega)) dX6_feed_35 ?_
      refine q_aload_n 37 rfl rfl dX6_feed_36 ?_
      refine q_dup 38 rfl rfl dX6_feed_37 ?_
      refine q_getI 41 rfl fX6_91 rfl 0 t_0 dX6_feed_38 ?_
      refine q_iconst 42 rfl 1 k_i1 dX6_feed_41 ?_
      refine q_iadd 43 rfl dX6_feed_42 ?_
      refine q_putI 46 rfl pX6_91 (fun q => by cases q) rfl 0 t_0 dX6_feed_43 ?_
      refine q_aload_n 47 rfl rfl dX6_feed_46 ?_
      refine q_getI 50 rfl fX6_91 rfl 0 t_0 dX6_feed_47 ?_
      refine q_iret rfl dX6_feed_50 ?_
      first
        | (rw [feed6, if_neg (by omega)]; exact ⟨rfl, rfl⟩)
        | (rw [feed6, if_pos (by omega), if_pos (by omega)]; exact ⟨rfl, rfl⟩)
        | (rw [feed6, if_pos (by omega), if_neg (by omega)]; exact ⟨rfl, rfl⟩)
    · refine q_bipush 24 rfl 4294967293 k_bm3 dX6_feed_22 ?_
      refine q_iret rfl dX6_feed_24 ?_
      first
        | (rw [feed6, if_neg (by omega)]; exact ⟨rfl, rfl⟩)
        | (rw [feed6, if_pos (by omega), if_pos (by omega)]; exact ⟨rfl, rfl⟩)
        | (rw [feed6, if_pos (by omega), if_neg (by omega)]; exact ⟨rfl, rfl⟩)
  · refine q_iconst 11 rfl 4294967295 k_im1 dX6_feed_10 ?_
    refine q_iret rfl dX6_feed_11 ?_
    first
      | (rw [feed6, if_neg (by omega)]; exact ⟨rfl, rfl⟩)
      | (rw [feed6, if_pos (by omega), if_pos (by omega)]; exact ⟨rfl, rfl⟩)
      | (rw [feed6, if_pos (by omega), if_neg (by omega)]; exact ⟨rfl, rfl⟩)
theorem k_name6 {X Y : Nat} {nm nw c : Nat} {Rl : Nat → Nat → Bool} (hG : GF ad G) (hX : CX ad G N nm nw c Rl) (hXX : X < 4294967296) (hYY : Y < 4294967296) : q_Con Γ mX6_name 2 0 0 [.ref (ad 0), .int (nI X), .int (nI Y)] (LT ad, N, L, G) (q_is (some (.int (nI (name6 N nm nw c X Y)))) (LT ad, N, L, G)) := by
  obtain ⟨hnm, hnw, hv5, hv6, hN, hM, hnr⟩ := id hX
  have hc : N nm 0 = c := hN.1
  have hc9 : c ≤ 9 := hN.2.1
  have hl8 : X < c → N (nm + 1) X ≤ 8 := fun h => hN.2.2.1 X (by omega)
  refine q_con (by decide) rfl rfl (Nat.le_of_ble_eq_true rfl) ?_
  refine q_aload_n 1 rfl rfl dX6_name_0 ?_
  refine q_iload_n 2 rfl rfl dX6_name_1 ?_
  refine q_cV1 5 rfl lX6_130 (k_isName hG hX hXX) rfl 0 t_0 rfl rfl rfl dX6_name_2 ?_
  refine q_if_neD 8 rfl 10 (by decide) dX6_name_5 (fun h5 => ?_) (fun h5 => ?_)
  · refine q_iload_n 11 rfl rfl dX6_name_10 ?_
    refine q_if_ne 14 rfl 24 (by decide) (by omega) dX6_name_11 (fun h11 => ?_) (fun h11 => ?_)
    · refine q_iload_n 25 rfl rfl dX6_name_24 ?_
      refine q_iconst 26 rfl 1 k_i1 dX6_name_25 ?_
      refine q_icmp_ne 29 rfl 39 (by decide) (by omega) (by omega) dX6_name_26 (fun h26 => ?_) (fun h26 => ?_)
      · refine q_iload_n 40 rfl rfl dX6_name_39 ?_
        refine q_bipush 42 rfl 10 k_b10 dX6_name_40 ?_
        refine q_bipush 44 rfl 10 k_b10 dX6_name_42 ?_
        refine q_aload_n 45 rfl rfl dX6_name_44 ?_
        refine q_getR 48 rfl fX6_23 rfl 0 t_0 hv5 dX6_name_45 ?_
        refine q_getR 51 rfl fX6_137 rfl nm (tN hnm) (gN_1 hnm hG) dX6_name_48 ?_
        refine q_iload_n 52 rfl rfl dX6_name_51 ?_
        refine q_iald 53 rfl (nm + 1) (tN1 hnm) (by omega) (by decide) dX6_name_52 ?_
        refine q_iadd 54 rfl dX6_name_53 ?_
        refine q_iconst 55 rfl 1 k_i1 dX6_name_54 ?_
        refine q_isub 56 rfl (by omega) dX6_name_55 ?_
        refine q_cS3 59 rfl lX6_87 (k_within hYY (by omega) (by omega)) rfl rfl rfl dX6_name_56 ?_
        refine q_if_neD 62 rfl 64 (by decide) dX6_name_59 (fun h59 => ?_) (fun h59 => ?_)
        · refine q_aload_n 65 rfl rfl dX6_name_64 ?_
          refine q_getR 68 rfl fX6_23 rfl 0 t_0 hv5 dX6_name_65 ?_
          refine q_iload_n 69 rfl rfl dX6_name_68 ?_
          refine q_iload_n 70 rfl rfl dX6_name_69 ?_
          refine q_bipush 72 rfl 10 k_b10 dX6_name_70 ?_
          refine q_isub 73 rfl (by omega) dX6_name_72 ?_
          refine q_cV2 76 rfl lX6_140 (k_letterAt hG hnm (by omega) (by omega)) rfl nm (tN hnm) rfl rfl rfl dX6_name_73 ?_
          refine q_iret rfl dX6_name_76 ?_
          first
            | (rw [name6, if_neg (by omega)]; exact ⟨rfl, rfl⟩)
            | (rw [name6, if_pos (by omega), if_pos (by omega)]; exact ⟨rfl, rfl⟩)
            | (rw [name6, if_pos (by omega), if_neg (by omega), if_pos (by omega)]; exact ⟨rfl, rfl⟩)
            | (rw [name6, if_pos (by omega), if_neg (by omega), if_neg (by omega), if_pos (by omega)]; exact ⟨rfl, rfl⟩)
            | (rw [name6, if_pos (by omega), if_neg (by omega), if_neg (by omega), if_neg (by omega)]; exact ⟨rfl, rfl⟩)
        · refine q_iconst 63 rfl 4294967295 k_im1 dX6_name_62 ?_
          refine q_iret rfl dX6_name_63 ?_
          first
            | (rw [name6, if_neg (by omega)]; exact ⟨rfl, rfl⟩)
            | (rw [name6, if_pos (by omega), if_pos (by omega)]; exact ⟨rfl, rfl⟩)
            | (rw [name6, if_pos (by omega), if_neg (by omega), if_pos (by omega)]; exact ⟨rfl, rfl⟩)
            | (rw [name6, if_pos (by omega), if_neg (by omega), if_neg (by omega), if_pos (by omega)]; exact ⟨rfl, rfl⟩)
            | (rw [name6, if_pos (by omega), if_neg (by omega), if_neg (by omega), if_neg (by omega)]; exact ⟨rfl, rfl⟩)
      · refine q_aload_n 30 rfl rfl dX6_name_29 ?_
        refine q_getR 33 rfl fX6_23 rfl 0 t_0 hv5 dX6_name_30 ?_
        refine q_getR 36 rfl fX6_137 rfl nm (tN hnm) (gN_1 hnm hG) dX6_name_33 ?_
        refine q_iload_n 37 rfl rfl dX6_name_36 ?_
        refine q_iald 38 rfl (nm + 1) (tN1 hnm) (by omega) (by decide) dX6_name_37 ?_
        refine q_iret rfl dX6_name_38 ?_
        first
          | (rw [name6, if_neg (by omega)]; exact ⟨rfl, rfl⟩)
          | (rw [name6, if_pos (by omega), if_pos (by omega)]; exact ⟨rfl, rfl⟩)
          | (rw [name6, if_pos (by omega), if_neg (by omega), if_pos (by omega)]; exact ⟨rfl, rfl⟩)
          | (rw [name6, if_pos (by omega), if_neg (by omega), if_neg (by omega), if_pos (by omega)]; exact ⟨rfl, rfl⟩)
          | (rw [name6, if_pos (by omega), if_neg (by omega), if_neg (by omega), if_neg (by omega)]; exact ⟨rfl, rfl⟩)
    · refine q_aload_n 15 rfl rfl dX6_name_14 ?_
      refine q_getR 18 rfl fX6_30 rfl 0 t_0 hv6 dX6_name_15 ?_
      refine q_getR 21 rfl fX6_134 rfl nw (tM hnw) (gM_0 hnw hG) dX6_name_18 ?_
      refine q_iload_n 22 rfl rfl dX6_name_21 ?_
      refine q_iald 23 rfl (nw + 1) (tM1 hnw) (by omega) (by decide) dX6_name_22 ?_
      refine q_iret rfl dX6_name_23 ?_
      first
        | (rw [name6, if_neg (by omega)]; exact ⟨rfl, rfl⟩)
        | (rw [name6, if_pos (by omega), if_pos (by omega)]; exact ⟨rfl, rfl⟩)
        | (rw [name6, if_pos (by omega), if_neg (by omega), if_pos (by omega)]; exact ⟨rfl, rfl⟩)
        | (rw [name6, if_pos (by omega), if_neg (by omega), if_neg (by omega), if_pos (by omega)]; exact ⟨rfl, rfl⟩)
        | (rw [name6, if_pos (by omega), if_neg (by omega), if_neg (by omega), if_neg (by omega)]; exact ⟨rfl, rfl⟩)
  · refine q_iconst 9 rfl 4294967295 k_im1 dX6_name_8 ?_
    refine q_iret rfl dX6_name_9 ?_
    first
      | (rw [name6, if_neg (by omega)]; exact ⟨rfl, rfl⟩)
      | (rw [name6, if_pos (by omega), if_pos (by omega)]; exact ⟨rfl, rfl⟩)
      | (rw [name6, if_pos (by omega), if_neg (by omega), if_pos (by omega)]; exact ⟨rfl, rfl⟩)
      | (rw [name6, if_pos (by omega), if_neg (by omega), if_neg (by omega), if_pos (by omega)]; exact ⟨rfl, rfl⟩)
      | (rw [name6, if_pos (by omega), if_neg (by omega), if_neg (by omega), if_neg (by omega)]; exact ⟨rfl, rfl⟩)
theorem k_law6 {X Y : Nat} {nm nw c : Nat} {Rl : Nat → Nat → Bool} (hG : GF ad G) (hX : CX ad G N nm nw c Rl) (hXX : X < 4294967296) (hYY : Y < 4294967296) : q_Con Γ mX6_law 5 0 0 [.ref (ad 0), .int (nI X), .int (nI Y)] (LT ad, N, L, G) (q_is (some (.int (nI (law6 N nm nw c X Y).1))) (LT ad, (law6 N nm nw c X Y).2, L, G)) := by
  obtain ⟨hnm, hnw, hv5, hv6, hN, hM, hnr⟩ := id hX
  have hc : N nm 0 = c := hN.1
  have hc9 : c ≤ 9 := hN.2.1
  have f1 : ∀ a, nm ≤ a → a ≤ nm + 5 → lwN N nw X Y a = N a := fun a h1 h2 => (q_s_ne (by omega)).trans (q_s_ne (by omega))
  have f2 : lwN N nw X Y nw 2 = Y := q_s_at
  have f3 : lwN N nw X Y nw 1 = X := (q_s_off (by omega)).trans q_s_at
  have f4 : nr6 (lwN N nw X Y) nm = nr6 N nm := by funext kd ms; exact nr6_eq f1
  have hN2 : CN (lwN N nw X Y) nm c := hN.eq f1
  refine q_con (by decide) rfl rfl (Nat.le_of_ble_eq_true rfl) ?_
  refine q_iload_n 1 rfl rfl dX6_law_0 ?_
  refine q_iconst 2 rfl 0 k_i0 dX6_law_1 ?_
  refine q_iconst 3 rfl 4 k_i4 dX6_law_2 ?_
  refine q_cS3 6 rfl lX6_87 (k_within hXX (by omega) (by omega)) rfl rfl rfl dX6_law_3 ?_
  refine q_if_eqD 9 rfl 19 (by decide) dX6_law_6 (fun h6 => ?_) (fun h6 => ?_)
  · refine q_iconst 20 rfl 4294967295 k_im1 dX6_law_19 ?_
    refine q_iret rfl dX6_law_20 ?_
    first
      | (rw [law6, if_pos (by omega)]; exact ⟨rfl, rfl⟩)
      | (rw [law6, if_neg (by omega)]; exact ⟨rfl, rfl⟩)
  · refine q_iload_n 10 rfl rfl dX6_law_9 ?_
    refine q_iconst 11 rfl 0 k_i0 dX6_law_10 ?_
    refine q_bipush 13 rfl 8 k_b8 dX6_law_11 ?_
    refine q_cS3 16 rfl lX6_87 (k_within hYY (by omega) (by omega)) rfl rfl rfl dX6_law_13 ?_
    refine q_if_neD 19 rfl 21 (by decide) dX6_law_16 (fun h16 => ?_) (fun h16 => ?_)
    · refine q_aload_n 22 rfl rfl dX6_law_21 ?_
      refine q_getR 25 rfl fX6_30 rfl 0 t_0 hv6 dX6_law_22 ?_
      refine q_getI 28 rfl fX6_118 rfl nw (tM hnw) dX6_law_25 ?_
      refine q_istore_n 29 rfl (by decide) dX6_law_28 ?_
      refine q_aload_n 30 rfl rfl dX6_law_29 ?_
      refine q_getR 33 rfl fX6_30 rfl 0 t_0 hv6 dX6_law_30 ?_
      refine q_iload_n 34 rfl rfl dX6_law_33 ?_
      refine q_putI 37 rfl pX6_118 (fun q => by cases q) rfl nw (tM hnw) dX6_law_34 ?_
      refine q_aload_n 38 rfl rfl dX6_law_37 ?_
      refine q_getR 41 rfl fX6_30 rfl 0 t_0 hv6 dX6_law_38 ?_
      refine q_iload_n 42 rfl rfl dX6_law_41 ?_
      refine q_putI 45 rfl pX6_121 (fun q => by cases q) rfl nw (tM hnw) dX6_law_42 ?_
      refine q_aload_n 46 rfl rfl dX6_law_45 ?_
      refine q_cV0v 49 rfl lX6_156 (k_applyLaw (N := lwN N nw X Y) hG hnm hnw hv5 hv6 hN2 (by rw [f3]; omega) (by rw [f2]; omega)) rfl 0 t_0 rfl rfl rfl dX6_law_46 ?_
      rw [f2, f3, f4]
      refine q_iload_n 50 rfl rfl dX6_law_49 ?_
      refine q_iret rfl dX6_law_50 ?_
      first
        | (rw [law6, if_pos (by omega)]; exact ⟨rfl, rfl⟩)
        | (rw [law6, if_neg (by omega)]; exact ⟨rfl, rfl⟩)
    · refine q_iconst 20 rfl 4294967295 k_im1 dX6_law_19 ?_
      refine q_iret rfl dX6_law_20 ?_
      first
        | (rw [law6, if_pos (by omega)]; exact ⟨rfl, rfl⟩)
        | (rw [law6, if_neg (by omega)]; exact ⟨rfl, rfl⟩)
end
