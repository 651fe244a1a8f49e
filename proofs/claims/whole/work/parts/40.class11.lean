abbrev ad2 (N : Nat → Nat → Nat) (q r a b X Y : Nat) : Nat → Nat → Nat := q_s (q_s (q_s N (q + a) (N q r) X) (q + b) (N q r) Y) q r (N q r + 1)
abbrev ad3 (N : Nat → Nat → Nat) (q r a b d X Y Z : Nat) : Nat → Nat → Nat := q_s (q_s (q_s (q_s N (q + a) (N q r) X) (q + b) (N q r) Y) (q + d) (N q r) Z) q r (N q r + 1)
def end6 (N : Nat → Nat → Nat) (X : Nat) : Nat × (Nat → Nat → Nat) := if X ≤ N 0 1 then (N 0 1, q_s N 0 1 X) else (4294967295, N)
def rule6 (N : Nat → Nat → Nat) (nm nw X : Nat) : Nat := match X with
  | 0 => N nm 0
  | 1 => N nw 1
  | 2 => N nw 2
  | 3 => N nw 3
  | 4 => N nm 5
  | _ => 4294967295
def name6 (N : Nat → Nat → Nat) (nm nw c X Y : Nat) : Nat := if X < c then (if Y = 0 then N (nw + 1) X else if Y = 1 then N (nm + 1) X else if 10 ≤ Y ∧ Y < 10 + N (nm + 1) X then N (nm + 2) (X * 8 + (Y - 10)) else 4294967295) else 4294967295
def wrote6 (N : Nat → Nat → Nat) (nm X : Nat) : Nat := if X < N nm 5 then N (nm + 5) X else 4294967295
def pair6 (N : Nat → Nat → Nat) (nw X : Nat) : Nat := if X < N nw 3 then 26 * N (nw + 2) X + N (nw + 3) X else 4294967295
def odd6 (N : Nat → Nat → Nat) (nw c X Y : Nat) : Nat × (Nat → Nat → Nat) := if X < c ∧ (1 ≤ Y ∧ Y ≤ 9) then (N (nw + 1) X, q_s N (nw + 1) X Y) else (4294967295, N)
def part6 (N : Nat → Nat → Nat) (nw r X : Nat) : Nat × (Nat → Nat → Nat) := if X ≤ N nw r then (N nw r, q_s N nw r X) else (4294967295, N)
def mix6 (N : Nat → Nat → Nat) (nw X Y : Nat) : Nat × (Nat → Nat → Nat) := if (X < 26 ∧ Y < 26) ∧ X ≠ Y then (if 5 ≤ N nw 3 then (4294967293, N) else (N nw 3 + 1, ad2 N nw 3 2 3 X Y)) else (4294967295, N)
def gue6 (N : Nat → Nat → Nat) (nw c X Y : Nat) : Nat × (Nat → Nat → Nat) := if X < c ∧ Y ≤ 2 then (if 9 ≤ N nw 6 then (4294967293, N) else (N nw 6 + 1, ad2 N nw 6 4 5 X Y)) else (4294967295, N)
def hear6 (N : Nat → Nat → Nat) (nw X Y b : Nat) : Nat × (Nat → Nat → Nat) := if X ≤ 7 ∧ Y < 26 then (if 6 ≤ N nw 9 then (4294967293, N) else (N nw 9 + 1, ad3 N nw 9 6 7 8 X Y (if b = 0 then 0 else 1))) else (4294967295, N)
section
variable {Γ : q_G} {ad : Nat → Nat} {N : Nat → Nat → Nat} {L : Nat → Nat → Int} {G : Nat → Nat → Option Nat}
theorem k_end6 {X : Nat} (hG : GF ad G) (ht : N 0 1 ≤ 160) (hXX : X < 4294967296) : q_Con Γ mX6_end 1 0 0 [.ref (ad 0), .int (nI X)] (LT ad, N, L, G) (q_is (some (.int (nI (end6 N X).1))) (LT ad, (end6 N X).2, L, G)) := by
  refine q_con (by decide) rfl rfl (Nat.le_of_ble_eq_true rfl) ?_
  refine q_iload_n 1 rfl rfl dX6_end_0 ?_
  refine q_iconst 2 rfl 0 k_i0 dX6_end_1 ?_
  refine q_aload_n 3 rfl rfl dX6_end_2 ?_
  refine q_getI 6 rfl fX6_91 rfl 0 t_0 dX6_end_3 ?_
  refine q_cS3 9 rfl lX6_87 (k_within hXX (by omega) (by omega)) rfl rfl rfl dX6_end_6 ?_
  refine q_if_neD 12 rfl 14 (by decide) dX6_end_9 (fun h9 => ?_) (fun h9 => ?_)
  · refine q_aload_n 15 rfl rfl dX6_end_14 ?_
    refine q_getI 18 rfl fX6_91 rfl 0 t_0 dX6_end_15 ?_
    refine q_istore_n 19 rfl (by decide) dX6_end_18 ?_
    refine q_aload_n 20 rfl rfl dX6_end_19 ?_
    refine q_iload_n 21 rfl rfl dX6_end_20 ?_
    refine q_putI 24 rfl pX6_91 (fun q => by cases q) rfl 0 t_0 dX6_end_21 ?_
    refine q_iload_n 25 rfl rfl dX6_end_24 ?_
    refine q_iret rfl dX6_end_25 ?_
    first
      | (rw [end6, if_pos (by omega)]; exact ⟨rfl, rfl⟩)
      | (rw [end6, if_neg (by omega)]; exact ⟨rfl, rfl⟩)
  · refine q_iconst 13 rfl 4294967295 k_im1 dX6_end_12 ?_
    refine q_iret rfl dX6_end_13 ?_
    first
      | (rw [end6, if_pos (by omega)]; exact ⟨rfl, rfl⟩)
      | (rw [end6, if_neg (by omega)]; exact ⟨rfl, rfl⟩)
theorem k_fault6 : q_Con Γ mX6_fault 0 0 0 [.ref (ad 0)] (LT ad, N, L, G) (q_is (some (.int (nI (N 0 2)))) (LT ad, N, L, G)) := by
  refine q_con (by decide) rfl rfl (Nat.le_of_ble_eq_true rfl) ?_
  refine q_aload_n 1 rfl rfl dX6_fault_0 ?_
  refine q_getI 4 rfl fX6_106 rfl 0 t_0 dX6_fault_1 ?_
  refine q_iret rfl dX6_fault_4 ?_
  exact ⟨rfl, rfl⟩
theorem k_torn6 : q_Con Γ mX6_torn 0 0 0 [.ref (ad 0)] (LT ad, N, L, G) (q_is (some (.int (nI (N 0 3)))) (LT ad, N, L, G)) := by
  refine q_con (by decide) rfl rfl (Nat.le_of_ble_eq_true rfl) ?_
  refine q_aload_n 1 rfl rfl dX6_torn_0 ?_
  refine q_getI 4 rfl fX6_280 rfl 0 t_0 dX6_torn_1 ?_
  refine q_iret rfl dX6_torn_4 ?_
  exact ⟨rfl, rfl⟩
theorem k_wrote6 {X : Nat} {nm nw c : Nat} {Rl : Nat → Nat → Bool} (hG : GF ad G) (hX : CX ad G N nm nw c Rl) (hXX : X < 4294967296) : q_Con Γ mX6_wrote 1 0 0 [.ref (ad 0), .int (nI X)] (LT ad, N, L, G) (q_is (some (.int (nI (wrote6 N nm X)))) (LT ad, N, L, G)) := by
  obtain ⟨hnm, hnw, hv5, hv6, hN, hM, hnr⟩ := id hX
  have hc : N nm 0 = c := hN.1
  have hc9 : c ≤ 9 := hN.2.1
  have hwr : N nm 5 ≤ 8 := hN.2.2.2.2.2.2.1
  refine q_con (by decide) rfl rfl (Nat.le_of_ble_eq_true rfl) ?_
  refine q_iload_n 1 rfl rfl dX6_wrote_0 ?_
  refine q_iconst 2 rfl 0 k_i0 dX6_wrote_1 ?_
  refine q_aload_n 3 rfl rfl dX6_wrote_2 ?_
  refine q_getR 6 rfl fX6_23 rfl 0 t_0 hv5 dX6_wrote_3 ?_
  refine q_getI 9 rfl fX6_127 rfl nm (tN hnm) dX6_wrote_6 ?_
  refine q_iconst 10 rfl 1 k_i1 dX6_wrote_9 ?_
  refine q_isubG 11 rfl (by omega) dX6_wrote_10 ?_
  refine q_cS3 14 rfl lX6_87 (k_within1 hXX (by omega) (by omega)) rfl rfl rfl dX6_wrote_11 ?_
  refine q_if_eqD 17 rfl 29 (by decide) dX6_wrote_14 (fun h14 => ?_) (fun h14 => ?_)
  · refine q_iconst 30 rfl 4294967295 k_im1 dX6_wrote_29 ?_
    refine q_iret rfl dX6_wrote_30 ?_
    first
      | (rw [wrote6, if_pos (by omega)]; exact ⟨rfl, rfl⟩)
      | (rw [wrote6, if_neg (by omega)]; exact ⟨rfl, rfl⟩)
  · refine q_aload_n 18 rfl rfl dX6_wrote_17 ?_
    refine q_getR 21 rfl fX6_23 rfl 0 t_0 hv5 dX6_wrote_18 ?_
    refine q_getR 24 rfl fX6_144 rfl nm (tN hnm) (gN_6 hnm hG) dX6_wrote_21 ?_
    refine q_iload_n 25 rfl rfl dX6_wrote_24 ?_
    refine q_iald 26 rfl (nm + 5) (tN5 hnm) (by omega) (by decide) dX6_wrote_25 ?_
    refine q_goto 30 (by decide) dX6_wrote_26 ?_
    refine q_iret rfl dX6_wrote_30 ?_
    first
      | (rw [wrote6, if_pos (by omega)]; exact ⟨rfl, rfl⟩)
      | (rw [wrote6, if_neg (by omega)]; exact ⟨rfl, rfl⟩)
theorem k_pair6 {X : Nat} {nm nw c : Nat} {Rl : Nat → Nat → Bool} (hG : GF ad G) (hX : CX ad G N nm nw c Rl) (hXX : X < 4294967296) : q_Con Γ mX6_pair 1 0 0 [.ref (ad 0), .int (nI X)] (LT ad, N, L, G) (q_is (some (.int (nI (pair6 N nw X)))) (LT ad, N, L, G)) := by
  obtain ⟨hnm, hnw, hv5, hv6, hN, hM, hnr⟩ := id hX
  have hc : N nm 0 = c := hN.1
  have hc9 : c ≤ 9 := hN.2.1
  obtain ⟨hkd, hms, hpr, hpf, hps, hg9, hgn, hga, hh6, hhp, hhl, hhi, hod, ho1⟩ := id hM
  refine q_con (by decide) rfl rfl (Nat.le_of_ble_eq_true rfl) ?_
  refine q_iload_n 1 rfl rfl dX6_pair_0 ?_
  refine q_iconst 2 rfl 0 k_i0 dX6_pair_1 ?_
  refine q_aload_n 3 rfl rfl dX6_pair_2 ?_
  refine q_getR 6 rfl fX6_30 rfl 0 t_0 hv6 dX6_pair_3 ?_
  refine q_getI 9 rfl fX6_124 rfl nw (tM hnw) dX6_pair_6 ?_
  refine q_iconst 10 rfl 1 k_i1 dX6_pair_9 ?_
  refine q_isubG 11 rfl (by omega) dX6_pair_10 ?_
  refine q_cS3 14 rfl lX6_87 (k_within1 hXX (by omega) (by omega)) rfl rfl rfl dX6_pair_11 ?_
  refine q_if_eqD 17 rfl 41 (by decide) dX6_pair_14 (fun h14 => ?_) (fun h14 => ?_)
  · refine q_iconst 42 rfl 4294967295 k_im1 dX6_pair_41 ?_
    refine q_iret rfl dX6_pair_42 ?_
    first
      | (rw [pair6, if_pos (by omega)]; exact ⟨rfl, rfl⟩)
      | (rw [pair6, if_neg (by omega)]; exact ⟨rfl, rfl⟩)
  · refine q_aload_n 18 rfl rfl dX6_pair_17 ?_
    refine q_getR 21 rfl fX6_30 rfl 0 t_0 hv6 dX6_pair_18 ?_
    refine q_getR 24 rfl fX6_147 rfl nw (tM hnw) (gM_4 hnw hG) dX6_pair_21 ?_
    refine q_iload_n 25 rfl rfl dX6_pair_24 ?_
    refine q_iald 26 rfl (nw + 2) (tM2 hnw) (by omega) (by decide) dX6_pair_25 ?_
    refine q_aload_n 27 rfl rfl dX6_pair_26 ?_
    refine q_getR 30 rfl fX6_30 rfl 0 t_0 hv6 dX6_pair_27 ?_
    refine q_getR 33 rfl fX6_150 rfl nw (tM hnw) (gM_5 hnw hG) dX6_pair_30 ?_
    refine q_iload_n 34 rfl rfl dX6_pair_33 ?_
    refine q_iald 35 rfl (nw + 3) (tM3 hnw) (by omega) (by decide) dX6_pair_34 ?_
    refine q_cS2 38 rfl lX6_153 (k_pairCode) rfl rfl rfl dX6_pair_35 ?_
    refine q_goto 42 (by decide) dX6_pair_38 ?_
    refine q_iret rfl dX6_pair_42 ?_
    first
      | (rw [pair6, if_pos (by omega)]; exact ⟨rfl, rfl⟩)
      | (rw [pair6, if_neg (by omega)]; exact ⟨rfl, rfl⟩)
theorem k_odd6 {X Y : Nat} {nm nw c : Nat} {Rl : Nat → Nat → Bool} (hG : GF ad G) (hX : CX ad G N nm nw c Rl) (hXX : X < 4294967296) (hYY : Y < 4294967296) : q_Con Γ mX6_odd 2 0 0 [.ref (ad 0), .int (nI X), .int (nI Y)] (LT ad, N, L, G) (q_is (some (.int (nI (odd6 N nw c X Y).1))) (LT ad, (odd6 N nw c X Y).2, L, G)) := by
  obtain ⟨hnm, hnw, hv5, hv6, hN, hM, hnr⟩ := id hX
  have hc : N nm 0 = c := hN.1
  have hc9 : c ≤ 9 := hN.2.1
  refine q_con (by decide) rfl rfl (Nat.le_of_ble_eq_true rfl) ?_
  refine q_aload_n 1 rfl rfl dX6_odd_0 ?_
  refine q_iload_n 2 rfl rfl dX6_odd_1 ?_
  refine q_cV1 5 rfl lX6_130 (k_isName hG hX hXX) rfl 0 t_0 rfl rfl rfl dX6_odd_2 ?_
  refine q_if_eqD 8 rfl 18 (by decide) dX6_odd_5 (fun h5 => ?_) (fun h5 => ?_)
  · refine q_iconst 19 rfl 4294967295 k_im1 dX6_odd_18 ?_
    refine q_iret rfl dX6_odd_19 ?_
    first
      | (rw [odd6, if_pos (by omega)]; exact ⟨rfl, rfl⟩)
      | (rw [odd6, if_neg (by omega)]; exact ⟨rfl, rfl⟩)
  · refine q_iload_n 9 rfl rfl dX6_odd_8 ?_
    refine q_iconst 10 rfl 1 k_i1 dX6_odd_9 ?_
    refine q_bipush 12 rfl 9 k_b9 dX6_odd_10 ?_
    refine q_cS3 15 rfl lX6_87 (k_within hYY (by omega) (by omega)) rfl rfl rfl dX6_odd_12 ?_
    refine q_if_neD 18 rfl 20 (by decide) dX6_odd_15 (fun h15 => ?_) (fun h15 => ?_)
    · refine q_aload_n 21 rfl rfl dX6_odd_20 ?_
      refine q_getR 24 rfl fX6_30 rfl 0 t_0 hv6 dX6_odd_21 ?_
      refine q_getR 27 rfl fX6_134 rfl nw (tM hnw) (gM_0 hnw hG) dX6_odd_24 ?_
      refine q_iload_n 28 rfl rfl dX6_odd_27 ?_
      refine q_iald 29 rfl (nw + 1) (tM1 hnw) (by omega) (by decide) dX6_odd_28 ?_
      refine q_istore_n 30 rfl (by decide) dX6_odd_29 ?_
      refine q_aload_n 31 rfl rfl dX6_odd_30 ?_
      refine q_getR 34 rfl fX6_30 rfl 0 t_0 hv6 dX6_odd_31 ?_
      refine q_getR 37 rfl fX6_134 rfl nw (tM hnw) (gM_0 hnw hG) dX6_odd_34 ?_
      refine q_iload_n 38 rfl rfl dX6_odd_37 ?_
      refine q_iload_n 39 rfl rfl dX6_odd_38 ?_
      refine q_iast 40 rfl (nw + 1) (tM1 hnw) (by omega) (by decide) dX6_odd_39 ?_
      refine q_iload_n 41 rfl rfl dX6_odd_40 ?_
      refine q_iret rfl dX6_odd_41 ?_
      first
        | (rw [odd6, if_pos (by omega)]; exact ⟨rfl, rfl⟩)
        | (rw [odd6, if_neg (by omega)]; exact ⟨rfl, rfl⟩)
    · refine q_iconst 19 rfl 4294967295 k_im1 dX6_odd_18 ?_
      refine q_iret rfl dX6_odd_19 ?_
      first
        | (rw [odd6, if_pos (by omega)]; exact ⟨rfl, rfl⟩)
        | (rw [odd6, if_neg (by omega)]; exact ⟨rfl, rfl⟩)
theorem k_part6 {X : Nat} {nm nw c : Nat} {Rl : Nat → Nat → Bool} (hG : GF ad G) (hX : CX ad G N nm nw c Rl) (hXX : X < 4294967296) : q_Con Γ mX6_part 1 0 0 [.ref (ad 0), .int (nI X)] (LT ad, N, L, G) (q_is (some (.int (nI (part6 N nw 3 X).1))) (LT ad, (part6 N nw 3 X).2, L, G)) := by
  obtain ⟨hnm, hnw, hv5, hv6, hN, hM, hnr⟩ := id hX
  have hc : N nm 0 = c := hN.1
  have hc9 : c ≤ 9 := hN.2.1
  obtain ⟨hkd, hms, hpr, hpf, hps, hg9, hgn, hga, hh6, hhp, hhl, hhi, hod, ho1⟩ := id hM
  refine q_con (by decide) rfl rfl (Nat.le_of_ble_eq_true rfl) ?_
  refine q_iload_n 1 rfl rfl dX6_part_0 ?_
  refine q_iconst 2 rfl 0 k_i0 dX6_part_1 ?_
  refine q_aload_n 3 rfl rfl dX6_part_2 ?_
  refine q_getR 6 rfl fX6_30 rfl 0 t_0 hv6 dX6_part_3 ?_
  refine q_getI 9 rfl fX6_124 rfl nw (tM hnw) dX6_part_6 ?_
  refine q_cS3 12 rfl lX6_87 (k_within hXX (by omega) (by omega)) rfl rfl rfl dX6_part_9 ?_
  refine q_if_neD 15 rfl 17 (by decide) dX6_part_12 (fun h12 => ?_) (fun h12 => ?_)
  · refine q_aload_n 18 rfl rfl dX6_part_17 ?_
    refine q_getR 21 rfl fX6_30 rfl 0 t_0 hv6 dX6_part_18 ?_
    refine q_getI 24 rfl fX6_124 rfl nw (tM hnw) dX6_part_21 ?_
    refine q_istore_n 25 rfl (by decide) dX6_part_24 ?_
    refine q_aload_n 26 rfl rfl dX6_part_25 ?_
    refine q_getR 29 rfl fX6_30 rfl 0 t_0 hv6 dX6_part_26 ?_
    refine q_iload_n 30 rfl rfl dX6_part_29 ?_
    refine q_putI 33 rfl pX6_124 (fun q => by cases q) rfl nw (tM hnw) dX6_part_30 ?_
    refine q_iload_n 34 rfl rfl dX6_part_33 ?_
    refine q_iret rfl dX6_part_34 ?_
    first
      | (rw [part6, if_pos (by omega)]; exact ⟨rfl, rfl⟩)
      | (rw [part6, if_neg (by omega)]; exact ⟨rfl, rfl⟩)
  · refine q_iconst 16 rfl 4294967295 k_im1 dX6_part_15 ?_
    refine q_iret rfl dX6_part_16 ?_
    first
      | (rw [part6, if_pos (by omega)]; exact ⟨rfl, rfl⟩)
      | (rw [part6, if_neg (by omega)]; exact ⟨rfl, rfl⟩)
theorem k_undo6 {X : Nat} {nm nw c : Nat} {Rl : Nat → Nat → Bool} (hG : GF ad G) (hX : CX ad G N nm nw c Rl) (hXX : X < 4294967296) : q_Con Γ mX6_undo 1 0 0 [.ref (ad 0), .int (nI X)] (LT ad, N, L, G) (q_is (some (.int (nI (part6 N nw 6 X).1))) (LT ad, (part6 N nw 6 X).2, L, G)) := by
  obtain ⟨hnm, hnw, hv5, hv6, hN, hM, hnr⟩ := id hX
  have hc : N nm 0 = c := hN.1
  have hc9 : c ≤ 9 := hN.2.1
  obtain ⟨hkd, hms, hpr, hpf, hps, hg9, hgn, hga, hh6, hhp, hhl, hhi, hod, ho1⟩ := id hM
  refine q_con (by decide) rfl rfl (Nat.le_of_ble_eq_true rfl) ?_
  refine q_iload_n 1 rfl rfl dX6_undo_0 ?_
  refine q_iconst 2 rfl 0 k_i0 dX6_undo_1 ?_
  refine q_aload_n 3 rfl rfl dX6_undo_2 ?_
  refine q_getR 6 rfl fX6_30 rfl 0 t_0 hv6 dX6_undo_3 ?_
  refine q_getI 9 rfl fX6_170 rfl nw (tM hnw) dX6_undo_6 ?_
  refine q_cS3 12 rfl lX6_87 (k_within hXX (by omega) (by omega)) rfl rfl rfl dX6_undo_9 ?_
  refine q_if_neD 15 rfl 17 (by decide) dX6_undo_12 (fun h12 => ?_) (fun h12 => ?_)
  · refine q_aload_n 18 rfl rfl dX6_undo_17 ?_
    refine q_getR 21 rfl fX6_30 rfl 0 t_0 hv6 dX6_undo_18 ?_
    refine q_getI 24 rfl fX6_170 rfl nw (tM hnw) dX6_undo_21 ?_
    refine q_istore_n 25 rfl (by decide) dX6_undo_24 ?_
    refine q_aload_n 26 rfl rfl dX6_undo_25 ?_
    refine q_getR 29 rfl fX6_30 rfl 0 t_0 hv6 dX6_undo_26 ?_
    refine q_iload_n 30 rfl rfl dX6_undo_29 ?_
    refine q_putI 33 rfl pX6_170 (fun q => by cases q) rfl nw (tM hnw) dX6_undo_30 ?_
    refine q_iload_n 34 rfl rfl dX6_undo_33 ?_
    refine q_iret rfl dX6_undo_34 ?_
    first
      | (rw [part6, if_pos (by omega)]; exact ⟨rfl, rfl⟩)
      | (rw [part6, if_neg (by omega)]; exact ⟨rfl, rfl⟩)
  · refine q_iconst 16 rfl 4294967295 k_im1 dX6_undo_15 ?_
    refine q_iret rfl dX6_undo_16 ?_
    first
      | (rw [part6, if_pos (by omega)]; exact ⟨rfl, rfl⟩)
      | (rw [part6, if_neg (by omega)]; exact ⟨rfl, rfl⟩)
theorem k_forget6 {X : Nat} {nm nw c : Nat} {Rl : Nat → Nat → Bool} (hG : GF ad G) (hX : CX ad G N nm nw c Rl) (hXX : X < 4294967296) : q_Con Γ mX6_forget 1 0 0 [.ref (ad 0), .int (nI X)] (LT ad, N, L, G) (q_is (some (.int (nI (part6 N nw 9 X).1))) (LT ad, (part6 N nw 9 X).2, L, G)) := by
  obtain ⟨hnm, hnw, hv5, hv6, hN, hM, hnr⟩ := id hX
  have hc : N nm 0 = c := hN.1
  have hc9 : c ≤ 9 := hN.2.1
  obtain ⟨hkd, hms, hpr, hpf, hps, hg9, hgn, hga, hh6, hhp, hhl, hhi, hod, ho1⟩ := id hM
  refine q_con (by decide) rfl rfl (Nat.le_of_ble_eq_true rfl) ?_
  refine q_iload_n 1 rfl rfl dX6_forget_0 ?_
  refine q_iconst 2 rfl 0 k_i0 dX6_forget_1 ?_
  refine q_aload_n 3 rfl rfl dX6_forget_2 ?_
  refine q_getR 6 rfl fX6_30 rfl 0 t_0 hv6 dX6_forget_3 ?_
  refine q_getI 9 rfl fX6_176 rfl nw (tM hnw) dX6_forget_6 ?_
  refine q_cS3 12 rfl lX6_87 (k_within hXX (by omega) (by omega)) rfl rfl rfl dX6_forget_9 ?_
  refine q_if_neD 15 rfl 17 (by decide) dX6_forget_12 (fun h12 => ?_) (fun h12 => ?_)
  · refine q_aload_n 18 rfl rfl dX6_forget_17 ?_
    refine q_getR 21 rfl fX6_30 rfl 0 t_0 hv6 dX6_forget_18 ?_
    refine q_getI 24 rfl fX6_176 rfl nw (tM hnw) dX6_forget_21 ?_
    refine q_istore_n 25 rfl (by decide) dX6_forget_24 ?_
    refine q_aload_n 26 rfl rfl dX6_forget_25 ?_
    refine q_getR 29 rfl fX6_30 rfl 0 t_0 hv6 dX6_forget_26 ?_
    refine q_iload_n 30 rfl rfl dX6_forget_29 ?_
    refine q_putI 33 rfl pX6_176 (fun q => by cases q) rfl nw (tM hnw) dX6_forget_30 ?_
    refine q_iload_n 34 rfl rfl dX6_forget_33 ?_
    refine q_iret rfl dX6_forget_34 ?_
    first
      | (rw [part6, if_pos (by omega)]; exact ⟨rfl, rfl⟩)
      | (rw [part6, if_neg (by omega)]; exact ⟨rfl, rfl⟩)
  · refine q_iconst 16 rfl 4294967295 k_im1 dX6_forget_15 ?_
    refine q_iret rfl dX6_forget_16 ?_
    first
      | (rw [part6, if_pos (by omega)]; exact ⟨rfl, rfl⟩)
      | (rw [part6, if_neg (by omega)]; exact ⟨rfl, rfl⟩)
theorem k_addPair {q X Y : Nat} (hG : GF ad G) (hq : isM q) (hr : N q 3 < 5) : q_Con Γ mX0_addPair 0 0 0 [.ref (ad q), .int (nI X), .int (nI Y)] (LT ad, N, L, G) (q_is none (LT ad, ad2 N q 3 2 3 X Y, L, G)) := by
  have e1 : q_s N (q + 2) (N q 3) X q = N q := q_s_ne (by omega)
  have e2 : q_s (q_s N (q + 2) (N q 3) X) (q + 3) (N q 3) Y q = N q := (q_s_ne (by omega)).trans e1
  refine q_con (by decide) rfl rfl (Nat.le_of_ble_eq_true rfl) ?_
  refine q_aload_n 1 rfl rfl dX0_addPair_0 ?_
  refine q_getR 4 rfl fX0_15 rfl q (tM hq) (gM_4 hq hG) dX0_addPair_1 ?_
  refine q_aload_n 5 rfl rfl dX0_addPair_4 ?_
  refine q_getI 8 rfl fX0_43 rfl q (tM hq) dX0_addPair_5 ?_
  refine q_iload_n 9 rfl rfl dX0_addPair_8 ?_
  refine q_iast 10 rfl (q + 2) (tM2 hq) (by omega) (by decide) dX0_addPair_9 ?_
  refine q_aload_n 11 rfl rfl dX0_addPair_10 ?_
  refine q_getR 14 rfl fX0_18 rfl q (tM hq) (gM_5 hq hG) dX0_addPair_11 ?_
  refine q_aload_n 15 rfl rfl dX0_addPair_14 ?_
  refine q_getI 18 rfl fX0_43 rfl q (tM hq) dX0_addPair_15 ?_
  rw [e1]
  refine q_iload_n 19 rfl rfl dX0_addPair_18 ?_
  refine q_iast 20 rfl (q + 3) (tM3 hq) (by omega) (by decide) dX0_addPair_19 ?_
  refine q_aload_n 21 rfl rfl dX0_addPair_20 ?_
  refine q_dup 22 rfl rfl dX0_addPair_21 ?_
  refine q_getI 25 rfl fX0_43 rfl q (tM hq) dX0_addPair_22 ?_
  rw [e2]
  refine q_iconst 26 rfl 1 k_i1 dX0_addPair_25 ?_
  refine q_iadd 27 rfl dX0_addPair_26 ?_
  refine q_putI 30 rfl pX0_43 (fun q => by cases q) rfl q (tM hq) dX0_addPair_27 ?_
  refine q_vret rfl dX0_addPair_30 ?_
  exact ⟨rfl, rfl⟩
theorem k_addGuess {q X Y : Nat} (hG : GF ad G) (hq : isM q) (hr : N q 6 < 9) : q_Con Γ mX0_addGuess 0 0 0 [.ref (ad q), .int (nI X), .int (nI Y)] (LT ad, N, L, G) (q_is none (LT ad, ad2 N q 6 4 5 X Y, L, G)) := by
  have e1 : q_s N (q + 4) (N q 6) X q = N q := q_s_ne (by omega)
  have e2 : q_s (q_s N (q + 4) (N q 6) X) (q + 5) (N q 6) Y q = N q := (q_s_ne (by omega)).trans e1
  refine q_con (by decide) rfl rfl (Nat.le_of_ble_eq_true rfl) ?_
  refine q_aload_n 1 rfl rfl dX0_addGuess_0 ?_
  refine q_getR 4 rfl fX0_21 rfl q (tM hq) (gM_7 hq hG) dX0_addGuess_1 ?_
  refine q_aload_n 5 rfl rfl dX0_addGuess_4 ?_
  refine q_getI 8 rfl fX0_46 rfl q (tM hq) dX0_addGuess_5 ?_
  refine q_iload_n 9 rfl rfl dX0_addGuess_8 ?_
  refine q_iast 10 rfl (q + 4) (tM4 hq) (by omega) (by decide) dX0_addGuess_9 ?_
  refine q_aload_n 11 rfl rfl dX0_addGuess_10 ?_
  refine q_getR 14 rfl fX0_24 rfl q (tM hq) (gM_8 hq hG) dX0_addGuess_11 ?_
  refine q_aload_n 15 rfl rfl dX0_addGuess_14 ?_
  refine q_getI 18 rfl fX0_46 rfl q (tM hq) dX0_addGuess_15 ?_
  rw [e1]
  refine q_iload_n 19 rfl rfl dX0_addGuess_18 ?_
  refine q_iast 20 rfl (q + 5) (tM5 hq) (by omega) (by decide) dX0_addGuess_19 ?_
  refine q_aload_n 21 rfl rfl dX0_addGuess_20 ?_
  refine q_dup 22 rfl rfl dX0_addGuess_21 ?_
  refine q_getI 25 rfl fX0_46 rfl q (tM hq) dX0_addGuess_22 ?_
  rw [e2]
  refine q_iconst 26 rfl 1 k_i1 dX0_addGuess_25 ?_
  refine q_iadd 27 rfl dX0_addGuess_26 ?_
  refine q_putI 30 rfl pX0_46 (fun q => by cases q) rfl q (tM hq) dX0_addGuess_27 ?_
  refine q_vret rfl dX0_addGuess_30 ?_
  exact ⟨rfl, rfl⟩
theorem k_addHeard {q X Y b : Nat} (hG : GF ad G) (hq : isM q) (hr : N q 9 < 6) (hb : b < 4294967296) : q_Con Γ mX0_addHeard 0 0 0 [.ref (ad q), .int (nI X), .int (nI Y), .int (nI b)] (LT ad, N, L, G) (q_is none (LT ad, ad3 N q 9 6 7 8 X Y (if b = 0 then 0 else 1), L, G)) := by
  have e1 : q_s N (q + 6) (N q 9) X q = N q := q_s_ne (by omega)
  have e2 : q_s (q_s N (q + 6) (N q 9) X) (q + 7) (N q 9) Y q = N q := (q_s_ne (by omega)).trans e1
  have e3 : ∀ z, q_s (q_s (q_s N (q + 6) (N q 9) X) (q + 7) (N q 9) Y) (q + 8) (N q 9) z q = N q := fun z => (q_s_ne (by omega)).trans e2
  refine q_con (by decide) rfl rfl (Nat.le_of_ble_eq_true rfl) ?_
  refine q_aload_n 1 rfl rfl dX0_addHeard_0 ?_
  refine q_getR 4 rfl fX0_27 rfl q (tM hq) (gM_10 hq hG) dX0_addHeard_1 ?_
  refine q_aload_n 5 rfl rfl dX0_addHeard_4 ?_
  refine q_getI 8 rfl fX0_49 rfl q (tM hq) dX0_addHeard_5 ?_
  refine q_iload_n 9 rfl rfl dX0_addHeard_8 ?_
  refine q_iast 10 rfl (q + 6) (tM6 hq) (by omega) (by decide) dX0_addHeard_9 ?_
  refine q_aload_n 11 rfl rfl dX0_addHeard_10 ?_
  refine q_getR 14 rfl fX0_30 rfl q (tM hq) (gM_11 hq hG) dX0_addHeard_11 ?_
  refine q_aload_n 15 rfl rfl dX0_addHeard_14 ?_
  refine q_getI 18 rfl fX0_49 rfl q (tM hq) dX0_addHeard_15 ?_
  rw [e1]
  refine q_iload_n 19 rfl rfl dX0_addHeard_18 ?_
  refine q_iast 20 rfl (q + 7) (tM7 hq) (by omega) (by decide) dX0_addHeard_19 ?_
  refine q_aload_n 21 rfl rfl dX0_addHeard_20 ?_
  refine q_getR 24 rfl fX0_33 rfl q (tM hq) (gM_12 hq hG) dX0_addHeard_21 ?_
  refine q_aload_n 25 rfl rfl dX0_addHeard_24 ?_
  refine q_getI 28 rfl fX0_49 rfl q (tM hq) dX0_addHeard_25 ?_
  rw [e2]
  refine q_iload_n 29 rfl rfl dX0_addHeard_28 ?_
  refine q_if_eq 32 rfl 36 (by decide) (by omega) dX0_addHeard_29 (fun h29 => ?_) (fun h29 => ?_)
  · refine q_iconst 37 rfl 0 k_i0 dX0_addHeard_36 ?_
    refine q_iast 38 rfl (q + 8) (tM8 hq) (by omega) (by decide) dX0_addHeard_37 ?_
    refine q_aload_n 39 rfl rfl dX0_addHeard_38 ?_
    refine q_dup 40 rfl rfl dX0_addHeard_39 ?_
    refine q_getI 43 rfl fX0_49 rfl q (tM hq) dX0_addHeard_40 ?_
    rw [e3]
    refine q_iconst 44 rfl 1 k_i1 dX0_addHeard_43 ?_
    refine q_iadd 45 rfl dX0_addHeard_44 ?_
    refine q_putI 48 rfl pX0_49 (fun q => by cases q) rfl q (tM hq) dX0_addHeard_45 ?_
    refine q_vret rfl dX0_addHeard_48 ?_
    first
      | (rw [if_pos (by assumption)]; exact ⟨rfl, rfl⟩)
      | (rw [if_neg (by assumption)]; exact ⟨rfl, rfl⟩)
  · refine q_iconst 33 rfl 1 k_i1 dX0_addHeard_32 ?_
    refine q_goto 37 (by decide) dX0_addHeard_33 ?_
    refine q_iast 38 rfl (q + 8) (tM8 hq) (by omega) (by decide) dX0_addHeard_37 ?_
    refine q_aload_n 39 rfl rfl dX0_addHeard_38 ?_
    refine q_dup 40 rfl rfl dX0_addHeard_39 ?_
    refine q_getI 43 rfl fX0_49 rfl q (tM hq) dX0_addHeard_40 ?_
    rw [e3]
    refine q_iconst 44 rfl 1 k_i1 dX0_addHeard_43 ?_
    refine q_iadd 45 rfl dX0_addHeard_44 ?_
    refine q_putI 48 rfl pX0_49 (fun q => by cases q) rfl q (tM hq) dX0_addHeard_45 ?_
    refine q_vret rfl dX0_addHeard_48 ?_
    first
      | (rw [if_pos (by assumption)]; exact ⟨rfl, rfl⟩)
      | (rw [if_neg (by assumption)]; exact ⟨rfl, rfl⟩)
theorem k_mix6 {X Y : Nat} {nm nw c : Nat} {Rl : Nat → Nat → Bool} (hG : GF ad G) (hX : CX ad G N nm nw c Rl) (hXX : X < 4294967296) (hYY : Y < 4294967296) : q_Con Γ mX6_mix 2 0 0 [.ref (ad 0), .int (nI X), .int (nI Y)] (LT ad, N, L, G) (q_is (some (.int (nI (mix6 N nw X Y).1))) (LT ad, (mix6 N nw X Y).2, L, G)) := by
  obtain ⟨hnm, hnw, hv5, hv6, hN, hM, hnr⟩ := id hX
  have hc : N nm 0 = c := hN.1
  have hc9 : c ≤ 9 := hN.2.1
  obtain ⟨hkd, hms, hpr, hpf, hps, hg9, hgn, hga, hh6, hhp, hhl, hhi, hod, ho1⟩ := id hM
  refine q_con (by decide) rfl rfl (Nat.le_of_ble_eq_true rfl) ?_
  refine q_iload_n 1 rfl rfl dX6_mix_0 ?_
  refine q_cS1 4 rfl lX6_159 (k_isLetter6 (by assumption)) rfl rfl rfl dX6_mix_1 ?_
  refine q_if_eqD 7 rfl 19 (by decide) dX6_mix_4 (fun h4 => ?_) (fun h4 => ?_)
  · refine q_iconst 20 rfl 4294967295 k_im1 dX6_mix_19 ?_
    refine q_iret rfl dX6_mix_20 ?_
    first
      | (rw [mix6, if_neg (by omega)]; exact ⟨rfl, rfl⟩)
      | (rw [mix6, if_pos (by omega), if_pos (by omega)]; exact ⟨rfl, rfl⟩)
      | (rw [mix6, if_pos (by omega), if_neg (by omega)]; exact ⟨rfl, rfl⟩)
  · refine q_iload_n 8 rfl rfl dX6_mix_7 ?_
    refine q_cS1 11 rfl lX6_159 (k_isLetter6 (by assumption)) rfl rfl rfl dX6_mix_8 ?_
    refine q_if_eqD 14 rfl 19 (by decide) dX6_mix_11 (fun h11 => ?_) (fun h11 => ?_)
    · refine q_iconst 20 rfl 4294967295 k_im1 dX6_mix_19 ?_
      refine q_iret rfl dX6_mix_20 ?_
      first
        | (rw [mix6, if_neg (by omega)]; exact ⟨rfl, rfl⟩)
        | (rw [mix6, if_pos (by omega), if_pos (by omega)]; exact ⟨rfl, rfl⟩)
        | (rw [mix6, if_pos (by omega), if_neg (by omega)]; exact ⟨rfl, rfl⟩)
    · refine q_iload_n 15 rfl rfl dX6_mix_14 ?_
      refine q_iload_n 16 rfl rfl dX6_mix_15 ?_
      refine q_icmp_ne 19 rfl 21 (by decide) (by omega) (by omega) dX6_mix_16 (fun h16 => ?_) (fun h16 => ?_)
      · refine q_aload_n 22 rfl rfl dX6_mix_21 ?_
        refine q_getR 25 rfl fX6_30 rfl 0 t_0 hv6 dX6_mix_22 ?_
        refine q_getI 28 rfl fX6_124 rfl nw (tM hnw) dX6_mix_25 ?_
        refine q_iconst 29 rfl 5 k_i5 dX6_mix_28 ?_
        refine q_icmp_lt 32 rfl 35 (by decide) (by omega) (by omega) dX6_mix_29 (fun h29 => ?_) (fun h29 => ?_)
        · refine q_aload_n 36 rfl rfl dX6_mix_35 ?_
          refine q_getR 39 rfl fX6_30 rfl 0 t_0 hv6 dX6_mix_36 ?_
          refine q_iload_n 40 rfl rfl dX6_mix_39 ?_
          refine q_iload_n 41 rfl rfl dX6_mix_40 ?_
          refine q_cV2v 44 rfl lX6_162 (k_addPair hG hnw (by omega)) rfl nw (tM hnw) rfl rfl rfl dX6_mix_41 ?_
          refine q_aload_n 45 rfl rfl dX6_mix_44 ?_
          refine q_getR 48 rfl fX6_30 rfl 0 t_0 hv6 dX6_mix_45 ?_
          refine q_getI 51 rfl fX6_124 rfl nw (tM hnw) dX6_mix_48 ?_
          rw [show ad2 N nw 3 2 3 X Y nw 3 = N nw 3 + 1 from q_s_at]
          refine q_iret rfl dX6_mix_51 ?_
          first
            | (rw [mix6, if_neg (by omega)]; exact ⟨rfl, rfl⟩)
            | (rw [mix6, if_pos (by omega), if_pos (by omega)]; exact ⟨rfl, rfl⟩)
            | (rw [mix6, if_pos (by omega), if_neg (by omega)]; exact ⟨rfl, rfl⟩)
        · refine q_bipush 34 rfl 4294967293 k_bm3 dX6_mix_32 ?_
          refine q_iret rfl dX6_mix_34 ?_
          first
            | (rw [mix6, if_neg (by omega)]; exact ⟨rfl, rfl⟩)
            | (rw [mix6, if_pos (by omega), if_pos (by omega)]; exact ⟨rfl, rfl⟩)
            | (rw [mix6, if_pos (by omega), if_neg (by omega)]; exact ⟨rfl, rfl⟩)
      · refine q_iconst 20 rfl 4294967295 k_im1 dX6_mix_19 ?_
        refine q_iret rfl dX6_mix_20 ?_
        first
          | (rw [mix6, if_neg (by omega)]; exact ⟨rfl, rfl⟩)
          | (rw [mix6, if_pos (by omega), if_pos (by omega)]; exact ⟨rfl, rfl⟩)
          | (rw [mix6, if_pos (by omega), if_neg (by omega)]; exact ⟨rfl, rfl⟩)
theorem k_guess6 {X Y : Nat} {nm nw c : Nat} {Rl : Nat → Nat → Bool} (hG : GF ad G) (hX : CX ad G N nm nw c Rl) (hXX : X < 4294967296) (hYY : Y < 4294967296) : q_Con Γ mX6_guess 2 0 0 [.ref (ad 0), .int (nI X), .int (nI Y)] (LT ad, N, L, G) (q_is (some (.int (nI (gue6 N nw c X Y).1))) (LT ad, (gue6 N nw c X Y).2, L, G)) := by
  obtain ⟨hnm, hnw, hv5, hv6, hN, hM, hnr⟩ := id hX
  have hc : N nm 0 = c := hN.1
  have hc9 : c ≤ 9 := hN.2.1
  obtain ⟨hkd, hms, hpr, hpf, hps, hg9, hgn, hga, hh6, hhp, hhl, hhi, hod, ho1⟩ := id hM
  refine q_con (by decide) rfl rfl (Nat.le_of_ble_eq_true rfl) ?_
  refine q_aload_n 1 rfl rfl dX6_guess_0 ?_
  refine q_iload_n 2 rfl rfl dX6_guess_1 ?_
  refine q_cV1 5 rfl lX6_130 (k_isName hG hX hXX) rfl 0 t_0 rfl rfl rfl dX6_guess_2 ?_
  refine q_if_eqD 8 rfl 17 (by decide) dX6_guess_5 (fun h5 => ?_) (fun h5 => ?_)
  · refine q_iconst 18 rfl 4294967295 k_im1 dX6_guess_17 ?_
    refine q_iret rfl dX6_guess_18 ?_
    first
      | (rw [gue6, if_neg (by omega)]; exact ⟨rfl, rfl⟩)
      | (rw [gue6, if_pos (by omega), if_pos (by omega)]; exact ⟨rfl, rfl⟩)
      | (rw [gue6, if_pos (by omega), if_neg (by omega)]; exact ⟨rfl, rfl⟩)
  · refine q_iload_n 9 rfl rfl dX6_guess_8 ?_
    refine q_iconst 10 rfl 0 k_i0 dX6_guess_9 ?_
    refine q_iconst 11 rfl 2 k_i2 dX6_guess_10 ?_
    refine q_cS3 14 rfl lX6_87 (k_within hYY (by omega) (by omega)) rfl rfl rfl dX6_guess_11 ?_
    refine q_if_neD 17 rfl 19 (by decide) dX6_guess_14 (fun h14 => ?_) (fun h14 => ?_)
    · refine q_aload_n 20 rfl rfl dX6_guess_19 ?_
      refine q_getR 23 rfl fX6_30 rfl 0 t_0 hv6 dX6_guess_20 ?_
      refine q_getI 26 rfl fX6_170 rfl nw (tM hnw) dX6_guess_23 ?_
      refine q_bipush 28 rfl 9 k_b9 dX6_guess_26 ?_
      refine q_icmp_lt 31 rfl 34 (by decide) (by omega) (by omega) dX6_guess_28 (fun h28 => ?_) (fun h28 => ?_)
      · refine q_aload_n 35 rfl rfl dX6_guess_34 ?_
        refine q_getR 38 rfl fX6_30 rfl 0 t_0 hv6 dX6_guess_35 ?_
        refine q_iload_n 39 rfl rfl dX6_guess_38 ?_
        refine q_iload_n 40 rfl rfl dX6_guess_39 ?_
        refine q_cV2v 43 rfl lX6_173 (k_addGuess hG hnw (by omega)) rfl nw (tM hnw) rfl rfl rfl dX6_guess_40 ?_
        refine q_aload_n 44 rfl rfl dX6_guess_43 ?_
        refine q_getR 47 rfl fX6_30 rfl 0 t_0 hv6 dX6_guess_44 ?_
        refine q_getI 50 rfl fX6_170 rfl nw (tM hnw) dX6_guess_47 ?_
        rw [show ad2 N nw 6 4 5 X Y nw 6 = N nw 6 + 1 from q_s_at]
        refine q_iret rfl dX6_guess_50 ?_
        first
          | (rw [gue6, if_neg (by omega)]; exact ⟨rfl, rfl⟩)
          | (rw [gue6, if_pos (by omega), if_pos (by omega)]; exact ⟨rfl, rfl⟩)
          | (rw [gue6, if_pos (by omega), if_neg (by omega)]; exact ⟨rfl, rfl⟩)
      · refine q_bipush 33 rfl 4294967293 k_bm3 dX6_guess_31 ?_
        refine q_iret rfl dX6_guess_33 ?_
        first
          | (rw [gue6, if_neg (by omega)]; exact ⟨rfl, rfl⟩)
          | (rw [gue6, if_pos (by omega), if_pos (by omega)]; exact ⟨rfl, rfl⟩)
          | (rw [gue6, if_pos (by omega), if_neg (by omega)]; exact ⟨rfl, rfl⟩)
    · refine q_iconst 18 rfl 4294967295 k_im1 dX6_guess_17 ?_
      refine q_iret rfl dX6_guess_18 ?_
      first
        | (rw [gue6, if_neg (by omega)]; exact ⟨rfl, rfl⟩)
        | (rw [gue6, if_pos (by omega), if_pos (by omega)]; exact ⟨rfl, rfl⟩)
        | (rw [gue6, if_pos (by omega), if_neg (by omega)]; exact ⟨rfl, rfl⟩)
theorem k_hear6 {X Y b : Nat} {nm nw c : Nat} {Rl : Nat → Nat → Bool} (hG : GF ad G) (hX : CX ad G N nm nw c Rl) (hXX : X < 4294967296) (hYY : Y < 4294967296) (hb : b < 4294967296) : q_Con Γ mX6_hear 2 0 0 [.ref (ad 0), .int (nI X), .int (nI Y), .int (nI b)] (LT ad, N, L, G) (q_is (some (.int (nI (hear6 N nw X Y b).1))) (LT ad, (hear6 N nw X Y b).2, L, G)) := by
  obtain ⟨hnm, hnw, hv5, hv6, hN, hM, hnr⟩ := id hX
  have hc : N nm 0 = c := hN.1
  have hc9 : c ≤ 9 := hN.2.1
  obtain ⟨hkd, hms, hpr, hpf, hps, hg9, hgn, hga, hh6, hhp, hhl, hhi, hod, ho1⟩ := id hM
  refine q_con (by decide) rfl rfl (Nat.le_of_ble_eq_true rfl) ?_
  refine q_iload_n 1 rfl rfl dX6_hear_0 ?_
  refine q_iconst 2 rfl 0 k_i0 dX6_hear_1 ?_
  refine q_bipush 4 rfl 7 k_b7 dX6_hear_2 ?_
  refine q_cS3 7 rfl lX6_87 (k_within hXX (by omega) (by omega)) rfl rfl rfl dX6_hear_4 ?_
  refine q_if_eqD 10 rfl 17 (by decide) dX6_hear_7 (fun h7 => ?_) (fun h7 => ?_)
  · refine q_iconst 18 rfl 4294967295 k_im1 dX6_hear_17 ?_
    refine q_iret rfl dX6_hear_18 ?_
    first
      | (rw [hear6, if_neg (by omega)]; exact ⟨rfl, rfl⟩)
      | (rw [hear6, if_pos (by omega), if_pos (by omega)]; exact ⟨rfl, rfl⟩)
      | (rw [hear6, if_pos (by omega), if_neg (by omega)]; exact ⟨rfl, rfl⟩)
  · refine q_iload_n 11 rfl rfl dX6_hear_10 ?_
    refine q_cS1 14 rfl lX6_159 (k_isLetter6 (by assumption)) rfl rfl rfl dX6_hear_11 ?_
    refine q_if_neD 17 rfl 19 (by decide) dX6_hear_14 (fun h14 => ?_) (fun h14 => ?_)
    · refine q_aload_n 20 rfl rfl dX6_hear_19 ?_
      refine q_getR 23 rfl fX6_30 rfl 0 t_0 hv6 dX6_hear_20 ?_
      refine q_getI 26 rfl fX6_176 rfl nw (tM hnw) dX6_hear_23 ?_
      refine q_bipush 28 rfl 6 k_b6 dX6_hear_26 ?_
      refine q_icmp_lt 31 rfl 34 (by decide) (by omega) (by omega) dX6_hear_28 (fun h28 => ?_) (fun h28 => ?_)
      · refine q_aload_n 35 rfl rfl dX6_hear_34 ?_
        refine q_getR 38 rfl fX6_30 rfl 0 t_0 hv6 dX6_hear_35 ?_
        refine q_iload_n 39 rfl rfl dX6_hear_38 ?_
        refine q_iload_n 40 rfl rfl dX6_hear_39 ?_
        refine q_iload_n 41 rfl rfl dX6_hear_40 ?_
        refine q_cV3v 44 rfl lX6_179 (k_addHeard hG hnw (by omega) hb) rfl nw (tM hnw) rfl rfl rfl dX6_hear_41 ?_
        refine q_aload_n 45 rfl rfl dX6_hear_44 ?_
        refine q_getR 48 rfl fX6_30 rfl 0 t_0 hv6 dX6_hear_45 ?_
        refine q_getI 51 rfl fX6_176 rfl nw (tM hnw) dX6_hear_48 ?_
        rw [show ad3 N nw 9 6 7 8 X Y (if b = 0 then 0 else 1) nw 9 = N nw 9 + 1 from q_s_at]
        refine q_iret rfl dX6_hear_51 ?_
        first
          | (rw [hear6, if_neg (by omega)]; exact ⟨rfl, rfl⟩)
          | (rw [hear6, if_pos (by omega), if_pos (by omega)]; exact ⟨rfl, rfl⟩)
          | (rw [hear6, if_pos (by omega), if_neg (by omega)]; exact ⟨rfl, rfl⟩)
      · refine q_bipush 33 rfl 4294967293 k_bm3 dX6_hear_31 ?_
        refine q_iret rfl dX6_hear_33 ?_
        first
          | (rw [hear6, if_neg (by omega)]; exact ⟨rfl, rfl⟩)
          | (rw [hear6, if_pos (by omega), if_pos (by omega)]; exact ⟨rfl, rfl⟩)
          | (rw [hear6, if_pos (by omega), if_neg (by omega)]; exact ⟨rfl, rfl⟩)
    · refine q_iconst 18 rfl 4294967295 k_im1 dX6_hear_17 ?_
      refine q_iret rfl dX6_hear_18 ?_
      first
        | (rw [hear6, if_neg (by omega)]; exact ⟨rfl, rfl⟩)
        | (rw [hear6, if_pos (by omega), if_pos (by omega)]; exact ⟨rfl, rfl⟩)
        | (rw [hear6, if_pos (by omega), if_neg (by omega)]; exact ⟨rfl, rfl⟩)
end
