abbrev cpa (N : Nat → Nat → Nat) (q p o n : Nat) : Nat → Nat → Nat := q_r N (q + o) (va_cpy (N (p + o)) (N (q + o)) 0 0 n)
abbrev cpf (N : Nat → Nat → Nat) (q p f : Nat) : Nat → Nat → Nat := q_s N q f (N p f)
def cpm (N : Nat → Nat → Nat) (q p : Nat) : Nat → Nat → Nat := cpa (cpa (cpa (cpf (cpa (cpa (cpf (cpa (cpa (cpf (cpf (cpf (cpa N q p 1 9) q p 1) q p 2) q p 3) q p 2 5) q p 3 5) q p 6) q p 4 9) q p 5 9) q p 9) q p 6 6) q p 7 6) q p 8 6
section
variable {Γ : q_G} {ad : Nat → Nat} {N : Nat → Nat → Nat} {L : Nat → Nat → Int} {G : Nat → Nat → Option Nat}
theorem k_rule6 {X : Nat} {nm nw c : Nat} {Rl : Nat → Nat → Bool} (hG : GF ad G) (hX : CX ad G N nm nw c Rl) (hXX : X < 4294967296) : q_Con Γ mX6_rule 0 0 0 [.ref (ad 0), .int (nI X)] (LT ad, N, L, G) (q_is (some (.int (nI (rule6 N nm nw X)))) (LT ad, N, L, G)) := by
  obtain ⟨hnm, hnw, hv5, hv6, hN, hM, hnr⟩ := id hX
  have hc : N nm 0 = c := hN.1
  have hc9 : c ≤ 9 := hN.2.1
  have z2 := z_two X hXX
  rcases (show X = 0 ∨ X = 1 ∨ X = 2 ∨ X = 3 ∨ X = 4 ∨ 5 ≤ X by omega) with rfl | rfl | rfl | rfl | rfl | h5
  · refine q_con (by decide) rfl rfl (Nat.le_of_ble_eq_true rfl) ?_
    refine q_iload_n 1 rfl rfl dX6_rule_0 ?_
    refine q_tab 36 (by decide) (by decide) (by decide) rfl (by decide) dX6_rule_1 ?_
    refine q_aload_n 37 rfl rfl dX6_rule_36 ?_
    refine q_getR 40 rfl fX6_23 rfl 0 t_0 hv5 dX6_rule_37 ?_
    refine q_getI 43 rfl fX6_115 rfl nm (tN hnm) dX6_rule_40 ?_
    refine q_iret rfl dX6_rule_43 ?_
    exact ⟨rfl, rfl⟩
  · refine q_con (by decide) rfl rfl (Nat.le_of_ble_eq_true rfl) ?_
    refine q_iload_n 1 rfl rfl dX6_rule_0 ?_
    refine q_tab 44 (by decide) (by decide) (by decide) rfl (by decide) dX6_rule_1 ?_
    refine q_aload_n 45 rfl rfl dX6_rule_44 ?_
    refine q_getR 48 rfl fX6_30 rfl 0 t_0 hv6 dX6_rule_45 ?_
    refine q_getI 51 rfl fX6_118 rfl nw (tM hnw) dX6_rule_48 ?_
    refine q_iret rfl dX6_rule_51 ?_
    exact ⟨rfl, rfl⟩
  · refine q_con (by decide) rfl rfl (Nat.le_of_ble_eq_true rfl) ?_
    refine q_iload_n 1 rfl rfl dX6_rule_0 ?_
    refine q_tab 52 (by decide) (by decide) (by decide) rfl (by decide) dX6_rule_1 ?_
    refine q_aload_n 53 rfl rfl dX6_rule_52 ?_
    refine q_getR 56 rfl fX6_30 rfl 0 t_0 hv6 dX6_rule_53 ?_
    refine q_getI 59 rfl fX6_121 rfl nw (tM hnw) dX6_rule_56 ?_
    refine q_iret rfl dX6_rule_59 ?_
    exact ⟨rfl, rfl⟩
  · refine q_con (by decide) rfl rfl (Nat.le_of_ble_eq_true rfl) ?_
    refine q_iload_n 1 rfl rfl dX6_rule_0 ?_
    refine q_tab 60 (by decide) (by decide) (by decide) rfl (by decide) dX6_rule_1 ?_
    refine q_aload_n 61 rfl rfl dX6_rule_60 ?_
    refine q_getR 64 rfl fX6_30 rfl 0 t_0 hv6 dX6_rule_61 ?_
    refine q_getI 67 rfl fX6_124 rfl nw (tM hnw) dX6_rule_64 ?_
    refine q_iret rfl dX6_rule_67 ?_
    exact ⟨rfl, rfl⟩
  · refine q_con (by decide) rfl rfl (Nat.le_of_ble_eq_true rfl) ?_
    refine q_iload_n 1 rfl rfl dX6_rule_0 ?_
    refine q_tab 68 (by decide) (by decide) (by decide) rfl (by decide) dX6_rule_1 ?_
    refine q_aload_n 69 rfl rfl dX6_rule_68 ?_
    refine q_getR 72 rfl fX6_23 rfl 0 t_0 hv5 dX6_rule_69 ?_
    refine q_getI 75 rfl fX6_127 rfl nm (tN hnm) dX6_rule_72 ?_
    refine q_iret rfl dX6_rule_75 ?_
    exact ⟨rfl, rfl⟩
  · refine q_con (by decide) rfl rfl (Nat.le_of_ble_eq_true rfl) ?_
    refine q_iload_n 1 rfl rfl dX6_rule_0 ?_
    refine q_tabO 76 (by omega) (by decide) dX6_rule_1 ?_
    refine q_iconst 77 rfl 4294967295 k_im1 dX6_rule_76 ?_
    refine q_iret rfl dX6_rule_77 ?_
    obtain ⟨j, rfl⟩ : ∃ j, X = j + 5 := ⟨X - 5, by omega⟩
    exact ⟨rfl, rfl⟩
theorem k_copy6 {q p : Nat} (hG : GF ad G) (hq : isM q) (hp : isM p) : q_Con Γ mX0_copy 1 0 0 [.ref (ad q), .ref (ad p)] (LT ad, N, L, G) (q_is none (LT ad, cpm N q p, L, G)) := by
  refine q_con (by decide) rfl rfl (Nat.le_of_ble_eq_true rfl) ?_
  refine q_aload_n 1 rfl rfl dX0_copy_0 ?_
  refine q_getR 4 rfl fX0_9 rfl p (tM hp) (gM_0 hp hG) dX0_copy_1 ?_
  refine q_iconst 5 rfl 0 k_i0 dX0_copy_4 ?_
  refine q_aload_n 6 rfl rfl dX0_copy_5 ?_
  refine q_getR 9 rfl fX0_9 rfl q (tM hq) (gM_0 hq hG) dX0_copy_6 ?_
  refine q_iconst 10 rfl 0 k_i0 dX0_copy_9 ?_
  refine q_bipush 12 rfl 9 k_b9 dX0_copy_10 ?_
  refine q_copy 15 rfl (p + 1) (q + 1) (tM1 hp) (tM1 hq) (by omega) (by omega) (by decide) (by decide) laX0_52 la_nat la_sta la_ini (by decide) (by decide) dX0_copy_12 ?_
  refine q_aload_n 16 rfl rfl dX0_copy_15 ?_
  refine q_aload_n 17 rfl rfl dX0_copy_16 ?_
  refine q_getI 20 rfl fX0_36 rfl p (tM hp) dX0_copy_17 ?_
  refine q_putI 23 rfl pX0_36 (fun q => by cases q) rfl q (tM hq) dX0_copy_20 ?_
  refine q_aload_n 24 rfl rfl dX0_copy_23 ?_
  refine q_aload_n 25 rfl rfl dX0_copy_24 ?_
  refine q_getI 28 rfl fX0_40 rfl p (tM hp) dX0_copy_25 ?_
  refine q_putI 31 rfl pX0_40 (fun q => by cases q) rfl q (tM hq) dX0_copy_28 ?_
  refine q_aload_n 32 rfl rfl dX0_copy_31 ?_
  refine q_aload_n 33 rfl rfl dX0_copy_32 ?_
  refine q_getI 36 rfl fX0_43 rfl p (tM hp) dX0_copy_33 ?_
  refine q_putI 39 rfl pX0_43 (fun q => by cases q) rfl q (tM hq) dX0_copy_36 ?_
  refine q_aload_n 40 rfl rfl dX0_copy_39 ?_
  refine q_getR 43 rfl fX0_15 rfl p (tM hp) (gM_4 hp hG) dX0_copy_40 ?_
  refine q_iconst 44 rfl 0 k_i0 dX0_copy_43 ?_
  refine q_aload_n 45 rfl rfl dX0_copy_44 ?_
  refine q_getR 48 rfl fX0_15 rfl q (tM hq) (gM_4 hq hG) dX0_copy_45 ?_
  refine q_iconst 49 rfl 0 k_i0 dX0_copy_48 ?_
  refine q_iconst 50 rfl 5 k_i5 dX0_copy_49 ?_
  refine q_copy 53 rfl (p + 2) (q + 2) (tM2 hp) (tM2 hq) (by omega) (by omega) (by decide) (by decide) laX0_52 la_nat la_sta la_ini (by decide) (by decide) dX0_copy_50 ?_
  refine q_aload_n 54 rfl rfl dX0_copy_53 ?_
  refine q_getR 57 rfl fX0_18 rfl p (tM hp) (gM_5 hp hG) dX0_copy_54 ?_
  refine q_iconst 58 rfl 0 k_i0 dX0_copy_57 ?_
  refine q_aload_n 59 rfl rfl dX0_copy_58 ?_
  refine q_getR 62 rfl fX0_18 rfl q (tM hq) (gM_5 hq hG) dX0_copy_59 ?_
  refine q_iconst 63 rfl 0 k_i0 dX0_copy_62 ?_
  refine q_iconst 64 rfl 5 k_i5 dX0_copy_63 ?_
  refine q_copy 67 rfl (p + 3) (q + 3) (tM3 hp) (tM3 hq) (by omega) (by omega) (by decide) (by decide) laX0_52 la_nat la_sta la_ini (by decide) (by decide) dX0_copy_64 ?_
  refine q_aload_n 68 rfl rfl dX0_copy_67 ?_
  refine q_aload_n 69 rfl rfl dX0_copy_68 ?_
  refine q_getI 72 rfl fX0_46 rfl p (tM hp) dX0_copy_69 ?_
  refine q_putI 75 rfl pX0_46 (fun q => by cases q) rfl q (tM hq) dX0_copy_72 ?_
  refine q_aload_n 76 rfl rfl dX0_copy_75 ?_
  refine q_getR 79 rfl fX0_21 rfl p (tM hp) (gM_7 hp hG) dX0_copy_76 ?_
  refine q_iconst 80 rfl 0 k_i0 dX0_copy_79 ?_
  refine q_aload_n 81 rfl rfl dX0_copy_80 ?_
  refine q_getR 84 rfl fX0_21 rfl q (tM hq) (gM_7 hq hG) dX0_copy_81 ?_
  refine q_iconst 85 rfl 0 k_i0 dX0_copy_84 ?_
  refine q_bipush 87 rfl 9 k_b9 dX0_copy_85 ?_
  refine q_copy 90 rfl (p + 4) (q + 4) (tM4 hp) (tM4 hq) (by omega) (by omega) (by decide) (by decide) laX0_52 la_nat la_sta la_ini (by decide) (by decide) dX0_copy_87 ?_
  refine q_aload_n 91 rfl rfl dX0_copy_90 ?_
  refine q_getR 94 rfl fX0_24 rfl p (tM hp) (gM_8 hp hG) dX0_copy_91 ?_
  refine q_iconst 95 rfl 0 k_i0 dX0_copy_94 ?_
  refine q_aload_n 96 rfl rfl dX0_copy_95 ?_
  refine q_getR 99 rfl fX0_24 rfl q (tM hq) (gM_8 hq hG) dX0_copy_96 ?_
  refine q_iconst 100 rfl 0 k_i0 dX0_copy_99 ?_
  refine q_bipush 102 rfl 9 k_b9 dX0_copy_100 ?_
  refine q_copy 105 rfl (p + 5) (q + 5) (tM5 hp) (tM5 hq) (by omega) (by omega) (by decide) (by decide) laX0_52 la_nat la_sta la_ini (by decide) (by decide) dX0_copy_102 ?_
  refine q_aload_n 106 rfl rfl dX0_copy_105 ?_
  refine q_aload_n 107 rfl rfl dX0_copy_106 ?_
  refine q_getI 110 rfl fX0_49 rfl p (tM hp) dX0_copy_107 ?_
  refine q_putI 113 rfl pX0_49 (fun q => by cases q) rfl q (tM hq) dX0_copy_110 ?_
  refine q_aload_n 114 rfl rfl dX0_copy_113 ?_
  refine q_getR 117 rfl fX0_27 rfl p (tM hp) (gM_10 hp hG) dX0_copy_114 ?_
  refine q_iconst 118 rfl 0 k_i0 dX0_copy_117 ?_
  refine q_aload_n 119 rfl rfl dX0_copy_118 ?_
  refine q_getR 122 rfl fX0_27 rfl q (tM hq) (gM_10 hq hG) dX0_copy_119 ?_
  refine q_iconst 123 rfl 0 k_i0 dX0_copy_122 ?_
  refine q_bipush 125 rfl 6 k_b6 dX0_copy_123 ?_
  refine q_copy 128 rfl (p + 6) (q + 6) (tM6 hp) (tM6 hq) (by omega) (by omega) (by decide) (by decide) laX0_52 la_nat la_sta la_ini (by decide) (by decide) dX0_copy_125 ?_
  refine q_aload_n 129 rfl rfl dX0_copy_128 ?_
  refine q_getR 132 rfl fX0_30 rfl p (tM hp) (gM_11 hp hG) dX0_copy_129 ?_
  refine q_iconst 133 rfl 0 k_i0 dX0_copy_132 ?_
  refine q_aload_n 134 rfl rfl dX0_copy_133 ?_
  refine q_getR 137 rfl fX0_30 rfl q (tM hq) (gM_11 hq hG) dX0_copy_134 ?_
  refine q_iconst 138 rfl 0 k_i0 dX0_copy_137 ?_
  refine q_bipush 140 rfl 6 k_b6 dX0_copy_138 ?_
  refine q_copy 143 rfl (p + 7) (q + 7) (tM7 hp) (tM7 hq) (by omega) (by omega) (by decide) (by decide) laX0_52 la_nat la_sta la_ini (by decide) (by decide) dX0_copy_140 ?_
  refine q_aload_n 144 rfl rfl dX0_copy_143 ?_
  refine q_getR 147 rfl fX0_33 rfl p (tM hp) (gM_12 hp hG) dX0_copy_144 ?_
  refine q_iconst 148 rfl 0 k_i0 dX0_copy_147 ?_
  refine q_aload_n 149 rfl rfl dX0_copy_148 ?_
  refine q_getR 152 rfl fX0_33 rfl q (tM hq) (gM_12 hq hG) dX0_copy_149 ?_
  refine q_iconst 153 rfl 0 k_i0 dX0_copy_152 ?_
  refine q_bipush 155 rfl 6 k_b6 dX0_copy_153 ?_
  refine q_copy 158 rfl (p + 8) (q + 8) (tM8 hp) (tM8 hq) (by omega) (by omega) (by decide) (by decide) laX0_52 la_nat la_sta la_ini (by decide) (by decide) dX0_copy_155 ?_
  refine q_vret rfl dX0_copy_158 ?_
  exact ⟨rfl, rfl⟩
theorem k_clear0 {q : Nat} (hG : GF ad G) (hq : isM q) : q_Con Γ mX0_clear 0 0 0 [.ref (ad q)] (LT ad, N, L, G) (q_is none (LT ad, q_s (q_s (q_s (q_s (q_s N q 1 0) q 2 0) q 3 0) q 6 0) q 9 0, L, G)) := by
  refine q_con (by decide) rfl rfl (Nat.le_of_ble_eq_true rfl) ?_
  refine q_aload_n 1 rfl rfl dX0_clear_0 ?_
  refine q_iconst 2 rfl 0 k_i0 dX0_clear_1 ?_
  refine q_putI 5 rfl pX0_36 (fun q => by cases q) rfl q (tM hq) dX0_clear_2 ?_
  refine q_aload_n 6 rfl rfl dX0_clear_5 ?_
  refine q_iconst 7 rfl 0 k_i0 dX0_clear_6 ?_
  refine q_putI 10 rfl pX0_40 (fun q => by cases q) rfl q (tM hq) dX0_clear_7 ?_
  refine q_aload_n 11 rfl rfl dX0_clear_10 ?_
  refine q_iconst 12 rfl 0 k_i0 dX0_clear_11 ?_
  refine q_putI 15 rfl pX0_43 (fun q => by cases q) rfl q (tM hq) dX0_clear_12 ?_
  refine q_aload_n 16 rfl rfl dX0_clear_15 ?_
  refine q_iconst 17 rfl 0 k_i0 dX0_clear_16 ?_
  refine q_putI 20 rfl pX0_46 (fun q => by cases q) rfl q (tM hq) dX0_clear_17 ?_
  refine q_aload_n 21 rfl rfl dX0_clear_20 ?_
  refine q_iconst 22 rfl 0 k_i0 dX0_clear_21 ?_
  refine q_putI 25 rfl pX0_49 (fun q => by cases q) rfl q (tM hq) dX0_clear_22 ?_
  refine q_vret rfl dX0_clear_25 ?_
  exact ⟨rfl, rfl⟩
theorem k_clear1 {q : Nat} (hG : GF ad G) (hq : isN q) : q_Con Γ mX1_clear 0 0 0 [.ref (ad q)] (LT ad, N, L, G) (q_is none (LT ad, q_s (q_s N q 0 0) q 5 0, L, G)) := by
  refine q_con (by decide) rfl rfl (Nat.le_of_ble_eq_true rfl) ?_
  refine q_aload_n 1 rfl rfl dX1_clear_0 ?_
  refine q_iconst 2 rfl 0 k_i0 dX1_clear_1 ?_
  refine q_putI 5 rfl pX1_27 (fun q => by cases q) rfl q (tN hq) dX1_clear_2 ?_
  refine q_aload_n 6 rfl rfl dX1_clear_5 ?_
  refine q_iconst 7 rfl 0 k_i0 dX1_clear_6 ?_
  refine q_putI 10 rfl pX1_31 (fun q => by cases q) rfl q (tN hq) dX1_clear_7 ?_
  refine q_vret rfl dX1_clear_10 ?_
  exact ⟨rfl, rfl⟩
end
