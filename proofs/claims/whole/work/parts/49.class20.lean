def cou6 (N : Nat → Nat → Nat) (nw c s X : Nat) : Nat := match X with
  | 0 => N nw 6
  | 1 => N nw 9
  | 2 => (if N 34 0 = 0 then 0 else 1) + (if N 34 1 = 0 then 0 else 1)
  | 3 => N 0 1
  | 4 => if N 69 0 = 4294967295 then 4294967292 else N 69 1
  | 5 => ods (N (nw + 1)) (mk (fun _ => true) c) c
  | 6 => pc s 26
  | _ => 4294967295
section
variable {Γ : q_G} {ad : Nat → Nat} {N : Nat → Nat → Nat} {L : Nat → Nat → Int} {G : Nat → Nat → Option Nat}
theorem k_count6 {X : Nat} {s : Nat} {nm nw c : Nat} {Rl : Nat → Nat → Bool} (hG : GF ad G) (hX : CX ad G N nm nw c Rl) (hsd : can6 N nm nw c Rl (N nw 6) = s) (hb : ∀ i, i < 2 → N 34 i < 4294967296) (h69 : N 69 0 < 4294967296) (hXX : X < 4294967296) : q_Con Γ mX6_count 4 0 0 [.ref (ad 0), .int (nI X)] (LT ad, N, L, G) (q_is (some (.int (nI (cou6 N nw c s X)))) (LT ad, N, L, G)) := by
  obtain ⟨hnm, hnw, hv5, hv6, hN, hM, hnr⟩ := id hX
  have hc : N nm 0 = c := hN.1
  have hc9 : c ≤ 9 := hN.2.1
  obtain ⟨hkd, hms, hpr, hpf, hps, hg9, hgn, hga, hh6, hhp, hhl, hhi, hod, ho1⟩ := id hM
  have hs9 : s < 512 := hsd ▸ can_lt hc9
  have hsc : s < 2 ^ c := hsd ▸ mk_lt _ c
  have b0 := hb 0 (by omega)
  have b1 := hb 1 (by omega)
  have z2 := z_two X hXX
  rcases (show X = 0 ∨ X = 1 ∨ X = 2 ∨ X = 3 ∨ X = 4 ∨ X = 5 ∨ X = 6 ∨ 7 ≤ X by omega) with rfl | rfl | rfl | rfl | rfl | rfl | rfl | h7
  · refine q_con (by decide) rfl rfl (Nat.le_of_ble_eq_true rfl) ?_
    refine q_iload_n 1 rfl rfl dX6_count_0 ?_
    refine q_tab 44 (by decide) (by decide) (by decide) rfl (by decide) dX6_count_1 ?_
    refine q_aload_n 45 rfl rfl dX6_count_44 ?_
    refine q_getR 48 rfl fX6_30 rfl 0 t_0 hv6 dX6_count_45 ?_
    refine q_getI 51 rfl fX6_170 rfl nw (tM hnw) dX6_count_48 ?_
    refine q_iret rfl dX6_count_51 ?_
    exact ⟨rfl, rfl⟩
  · refine q_con (by decide) rfl rfl (Nat.le_of_ble_eq_true rfl) ?_
    refine q_iload_n 1 rfl rfl dX6_count_0 ?_
    refine q_tab 52 (by decide) (by decide) (by decide) rfl (by decide) dX6_count_1 ?_
    refine q_aload_n 53 rfl rfl dX6_count_52 ?_
    refine q_getR 56 rfl fX6_30 rfl 0 t_0 hv6 dX6_count_53 ?_
    refine q_getI 59 rfl fX6_176 rfl nw (tM hnw) dX6_count_56 ?_
    refine q_iret rfl dX6_count_59 ?_
    exact ⟨rfl, rfl⟩
  · refine q_con (by decide) rfl rfl (Nat.le_of_ble_eq_true rfl) ?_
    refine q_iload_n 1 rfl rfl dX6_count_0 ?_
    refine q_tab 60 (by decide) (by decide) (by decide) rfl (by decide) dX6_count_1 ?_
    refine q_aload_n 61 rfl rfl dX6_count_60 ?_
    refine q_getR 64 rfl fX6_44 rfl 0 t_0 (g_0_10 hG) dX6_count_61 ?_
    refine q_iconst 65 rfl 0 k_i0 dX6_count_64 ?_
    refine q_zald 66 rfl 34 t_34 (by decide) (by decide) dX6_count_65 ?_
    refine q_if_eq 69 rfl 73 (by decide) (by omega) dX6_count_66 (fun h66 => ?_) (fun h66 => ?_)
    · refine q_iconst 74 rfl 0 k_i0 dX6_count_73 ?_
      refine q_aload_n 75 rfl rfl dX6_count_74 ?_
      refine q_getR 78 rfl fX6_44 rfl 0 t_0 (g_0_10 hG) dX6_count_75 ?_
      refine q_iconst 79 rfl 1 k_i1 dX6_count_78 ?_
      refine q_zald 80 rfl 34 t_34 (by decide) (by decide) dX6_count_79 ?_
      refine q_if_eq 83 rfl 87 (by decide) (by omega) dX6_count_80 (fun h80 => ?_) (fun h80 => ?_)
      · refine q_iconst 88 rfl 0 k_i0 dX6_count_87 ?_
        refine q_iadd 89 rfl dX6_count_88 ?_
        refine q_iret rfl dX6_count_89 ?_
        rw [show cou6 N nw c s 2 = (if N 34 0 = 0 then 0 else 1) + (if N 34 1 = 0 then 0 else 1) from rfl]
        first
          | (rw [if_pos h66, if_pos h80]; exact ⟨rfl, rfl⟩)
          | (rw [if_pos h66, if_neg h80]; exact ⟨rfl, rfl⟩)
          | (rw [if_neg h66, if_pos h80]; exact ⟨rfl, rfl⟩)
          | (rw [if_neg h66, if_neg h80]; exact ⟨rfl, rfl⟩)
      · refine q_iconst 84 rfl 1 k_i1 dX6_count_83 ?_
        refine q_goto 88 (by decide) dX6_count_84 ?_
        refine q_iadd 89 rfl dX6_count_88 ?_
        refine q_iret rfl dX6_count_89 ?_
        rw [show cou6 N nw c s 2 = (if N 34 0 = 0 then 0 else 1) + (if N 34 1 = 0 then 0 else 1) from rfl]
        first
          | (rw [if_pos h66, if_pos h80]; exact ⟨rfl, rfl⟩)
          | (rw [if_pos h66, if_neg h80]; exact ⟨rfl, rfl⟩)
          | (rw [if_neg h66, if_pos h80]; exact ⟨rfl, rfl⟩)
          | (rw [if_neg h66, if_neg h80]; exact ⟨rfl, rfl⟩)
    · refine q_iconst 70 rfl 1 k_i1 dX6_count_69 ?_
      refine q_goto 74 (by decide) dX6_count_70 ?_
      refine q_aload_n 75 rfl rfl dX6_count_74 ?_
      refine q_getR 78 rfl fX6_44 rfl 0 t_0 (g_0_10 hG) dX6_count_75 ?_
      refine q_iconst 79 rfl 1 k_i1 dX6_count_78 ?_
      refine q_zald 80 rfl 34 t_34 (by decide) (by decide) dX6_count_79 ?_
      refine q_if_eq 83 rfl 87 (by decide) (by omega) dX6_count_80 (fun h80 => ?_) (fun h80 => ?_)
      · refine q_iconst 88 rfl 0 k_i0 dX6_count_87 ?_
        refine q_iadd 89 rfl dX6_count_88 ?_
        refine q_iret rfl dX6_count_89 ?_
        rw [show cou6 N nw c s 2 = (if N 34 0 = 0 then 0 else 1) + (if N 34 1 = 0 then 0 else 1) from rfl]
        first
          | (rw [if_pos h66, if_pos h80]; exact ⟨rfl, rfl⟩)
          | (rw [if_pos h66, if_neg h80]; exact ⟨rfl, rfl⟩)
          | (rw [if_neg h66, if_pos h80]; exact ⟨rfl, rfl⟩)
          | (rw [if_neg h66, if_neg h80]; exact ⟨rfl, rfl⟩)
      · refine q_iconst 84 rfl 1 k_i1 dX6_count_83 ?_
        refine q_goto 88 (by decide) dX6_count_84 ?_
        refine q_iadd 89 rfl dX6_count_88 ?_
        refine q_iret rfl dX6_count_89 ?_
        rw [show cou6 N nw c s 2 = (if N 34 0 = 0 then 0 else 1) + (if N 34 1 = 0 then 0 else 1) from rfl]
        first
          | (rw [if_pos h66, if_pos h80]; exact ⟨rfl, rfl⟩)
          | (rw [if_pos h66, if_neg h80]; exact ⟨rfl, rfl⟩)
          | (rw [if_neg h66, if_pos h80]; exact ⟨rfl, rfl⟩)
          | (rw [if_neg h66, if_neg h80]; exact ⟨rfl, rfl⟩)
  · refine q_con (by decide) rfl rfl (Nat.le_of_ble_eq_true rfl) ?_
    refine q_iload_n 1 rfl rfl dX6_count_0 ?_
    refine q_tab 90 (by decide) (by decide) (by decide) rfl (by decide) dX6_count_1 ?_
    refine q_aload_n 91 rfl rfl dX6_count_90 ?_
    refine q_getI 94 rfl fX6_91 rfl 0 t_0 dX6_count_91 ?_
    refine q_iret rfl dX6_count_94 ?_
    exact ⟨rfl, rfl⟩
  · refine q_con (by decide) rfl rfl (Nat.le_of_ble_eq_true rfl) ?_
    refine q_iload_n 1 rfl rfl dX6_count_0 ?_
    refine q_tab 95 (by decide) (by decide) (by decide) rfl (by decide) dX6_count_1 ?_
    refine q_aload_n 96 rfl rfl dX6_count_95 ?_
    refine q_getR 99 rfl fX6_50 rfl 0 t_0 (g_0_11 hG) dX6_count_96 ?_
    refine q_iconst 100 rfl 0 k_i0 dX6_count_99 ?_
    refine q_aald5 101 rfl 35 t_35 (by decide) (by decide) (g_35_0 hG) dX6_count_100 ?_
    refine q_getI 104 rfl fX6_283 rfl 69 t_69 dX6_count_101 ?_
    refine q_iconst 105 rfl 4294967295 k_im1 dX6_count_104 ?_
    refine q_icmp_ne 108 rfl 113 (by decide) (by omega) (by omega) dX6_count_105 (fun h105 => ?_) (fun h105 => ?_)
    · refine q_aload_n 114 rfl rfl dX6_count_113 ?_
      refine q_getR 117 rfl fX6_50 rfl 0 t_0 (g_0_11 hG) dX6_count_114 ?_
      refine q_iconst 118 rfl 0 k_i0 dX6_count_117 ?_
      refine q_aald5 119 rfl 35 t_35 (by decide) (by decide) (g_35_0 hG) dX6_count_118 ?_
      refine q_getI 122 rfl fX6_286 rfl 69 t_69 dX6_count_119 ?_
      refine q_iret rfl dX6_count_122 ?_
      rw [show cou6 N nw c s 4 = if N 69 0 = 4294967295 then 4294967292 else N 69 1 from rfl]
      first
        | (rw [if_pos (by assumption)]; exact ⟨rfl, rfl⟩)
        | (rw [if_neg (by assumption)]; exact ⟨rfl, rfl⟩)
    · refine q_bipush 110 rfl 4294967292 k_bm4 dX6_count_108 ?_
      refine q_goto 122 (by decide) dX6_count_110 ?_
      refine q_iret rfl dX6_count_122 ?_
      rw [show cou6 N nw c s 4 = if N 69 0 = 4294967295 then 4294967292 else N 69 1 from rfl]
      first
        | (rw [if_pos (by assumption)]; exact ⟨rfl, rfl⟩)
        | (rw [if_neg (by assumption)]; exact ⟨rfl, rfl⟩)
  · refine q_con (by decide) rfl rfl (Nat.le_of_ble_eq_true rfl) ?_
    refine q_iload_n 1 rfl rfl dX6_count_0 ?_
    refine q_tab 123 (by decide) (by decide) (by decide) rfl (by decide) dX6_count_1 ?_
    refine q_aload_n 124 rfl rfl dX6_count_123 ?_
    refine q_aload_n 125 rfl rfl dX6_count_124 ?_
    refine q_cV0 128 rfl lX6_287 (k_allNames hG hX) rfl 0 t_0 rfl rfl rfl dX6_count_125 ?_
    refine q_cV1 131 rfl lX6_191 (k_oddsOf hG hX (Nat.lt_trans (mk_lt9 hc9) (by omega))) rfl 0 t_0 rfl rfl rfl dX6_count_128 ?_
    refine q_iret rfl dX6_count_131 ?_
    exact ⟨rfl, rfl⟩
  · refine q_con (by decide) rfl rfl (Nat.le_of_ble_eq_true rfl) ?_
    refine q_iload_n 1 rfl rfl dX6_count_0 ?_
    refine q_tab 132 (by decide) (by decide) (by decide) rfl (by decide) dX6_count_1 ?_
    refine q_aload_n 133 rfl rfl dX6_count_132 ?_
    refine q_cV0 136 rfl lX6_183 (k_possS hG hX hsd) rfl 0 t_0 rfl rfl rfl dX6_count_133 ?_
    refine q_cS1 139 rfl lX6_211 (k_bitCount (by omega)) rfl rfl rfl dX6_count_136 ?_
    refine q_iret rfl dX6_count_139 ?_
    exact ⟨rfl, rfl⟩
  · refine q_con (by decide) rfl rfl (Nat.le_of_ble_eq_true rfl) ?_
    refine q_iload_n 1 rfl rfl dX6_count_0 ?_
    refine q_tabO 140 (by omega) (by decide) dX6_count_1 ?_
    refine q_iconst 141 rfl 4294967295 k_im1 dX6_count_140 ?_
    refine q_iret rfl dX6_count_141 ?_
    obtain ⟨j, rfl⟩ : ∃ j, X = j + 7 := ⟨X - 7, by omega⟩
    exact ⟨rfl, rfl⟩
end
