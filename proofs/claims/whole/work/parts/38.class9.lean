section
variable {Γ : q_G} {ad : Nat → Nat} {N : Nat → Nat → Nat} {L : Nat → Nat → Int} {G : Nat → Nat → Option Nat}
theorem more6_2 {Z : q_Zt} {Y m mc mz : Nat} {wp : Nat → Nat} {nm nw c : Nat} {Rl : Nat → Nat → Bool} (hG : GF ad G) (hX : CX ad G N nm nw c Rl) (hW : ∀ i, i < c → N 50 i = wp i) (hw : ∀ i, i < c → wp i ≤ 675 ∨ wp i = 4294967295) (hx : q_R Γ mX6_more (q_room 2 mc mz) Z 0 0 138 [(1, .int (nI Y)), (2, .int (nI m)), (3, .int (nI ((mrs wp c (c)).1))), (4, .int (nI ((mrs wp c (c)).2)))] [] (LT ad, N, L, G)) : ∀ i, i ≤ c →  ∀ a : Nat, a = (mrs wp c i).1 → ∀ b : Nat, b = (mrs wp c i).2 → q_R Γ mX6_more (q_room 2 mc mz) Z 0 0 63 [(0, .ref (ad 0)), (1, .int (nI Y)), (2, .int (nI m)), (3, .int (nI a)), (4, .int (nI b)), (5, .int (nI i))] [] (LT ad, N, L, G) := by
  refine dn_loop (c) ?_ ?_
  · intro a h_a b h_b
    obtain ⟨hnm, hnw, hv5, hv6, hN, hM, hnr⟩ := id hX
    have hc : N nm 0 = c := hN.1
    have hc9 : c ≤ 9 := hN.2.1
    refine q_iload 65 rfl rfl dX6_more_63 ?_
    refine q_aload_n 66 rfl rfl dX6_more_65 ?_
    refine q_getR 69 rfl fX6_23 rfl 0 t_0 hv5 dX6_more_66 ?_
    refine q_getI 72 rfl fX6_115 rfl nm (tN hnm) dX6_more_69 ?_
    refine q_icmp_ge 75 rfl 138 (by decide) (by omega) (by omega) dX6_more_72 (fun h72 => ?_) (fun h72 => ?_)
    · subst h_a
      subst h_b
      exact q_loc hx (q_sub1 rfl (q_sub1 rfl (q_sub1 rfl (q_sub1 rfl q_sub0))))
    · exfalso; omega
  · intro i h_i ih a h_a b h_b
    obtain ⟨hnm, hnw, hv5, hv6, hN, hM, hnr⟩ := id hX
    have hc : N nm 0 = c := hN.1
    have hc9 : c ≤ 9 := hN.2.1
    have wl0 := hw i h_i
    have z0 := zs_le0 wl0
    have r1 := mrs_le wp c i
    have wn := won_le wp c i
    have hcw : (0 < wp i ∧ wp i ≤ 675) → cnt (fun m => decide (N 50 m = wp i)) c = won wp c i := fun h => by
      unfold won; rw [if_pos h]; exact cnt_ext (fun j hj => by rw [hW j hj])
    have hw0 : ¬ (0 < wp i ∧ wp i ≤ 675) → won wp c i = 0 := fun h => by unfold won; rw [if_neg h]
    rw [← h_a, ← h_b] at r1
    refine q_iload 65 rfl rfl dX6_more_63 ?_
    refine q_aload_n 66 rfl rfl dX6_more_65 ?_
    refine q_getR 69 rfl fX6_23 rfl 0 t_0 hv5 dX6_more_66 ?_
    refine q_getI 72 rfl fX6_115 rfl nm (tN hnm) dX6_more_69 ?_
    refine q_icmp_ge 75 rfl 138 (by decide) (by omega) (by omega) dX6_more_72 (fun h72 => ?_) (fun h72 => ?_)
    · exfalso; omega
    · refine q_aload_n 76 rfl rfl dX6_more_75 ?_
      refine q_getR 79 rfl fX6_83 rfl 0 t_0 (g_0_19 hG) dX6_more_76 ?_
      refine q_iload 81 rfl rfl dX6_more_79 ?_
      refine q_iald 82 rfl 50 t_50 (by omega) (by decide) dX6_more_81 ?_
      rw [hW i h_i]
      refine q_istore 84 rfl (by decide) dX6_more_82 ?_
      refine q_iload 86 rfl rfl dX6_more_84 ?_
      refine q_ifS_le 89 rfl 98 (by decide) dX6_more_86 (fun h86 => ?_) (fun h86 => ?_)
      · have hq := z0.mp h86
        have hz := hw0 hq
        clear h86 z0 hcw hw0
        refine q_iconst 99 rfl 0 k_i0 dX6_more_98 ?_
        refine q_istore 101 rfl (by decide) dX6_more_99 ?_
        refine q_iload 103 rfl rfl dX6_more_101 ?_
        refine q_iload_n 104 rfl rfl dX6_more_103 ?_
        refine q_icmp_gt 107 rfl 125 (by decide) (by omega) (by omega) dX6_more_104 (fun h104 => ?_) (fun h104 => ?_)
        · first
          | (exfalso; omega)
          | (refine q_iload 127 rfl rfl dX6_more_125 ?_
             refine q_istore_n 128 rfl (by decide) dX6_more_127 ?_
             refine q_iload 130 rfl rfl dX6_more_128 ?_
             refine q_istore 132 rfl (by decide) dX6_more_130 ?_
             refine q_iinc1 135 rfl 1 k_i1 rfl (by decide) dX6_more_132 ?_
             refine q_goto 63 (by decide) dX6_more_135 ?_
             refine q_loc (ih _ ?_ _ ?_) (q_sub1 rfl (q_sub1 rfl (q_sub1 rfl (q_sub1 rfl (q_sub1 rfl (q_sub1 rfl q_sub0))))))
             · simp only [mrs]
               first
                 | (rw [if_pos (by omega)]; done)
                 | (rw [if_neg (by omega)]; exact h_a)
             · simp only [mrs]
               first
                 | (rw [if_pos (by omega)]; done)
                 | (rw [if_neg (by omega)]; exact h_b))
        · first
          | (exfalso; omega)
          | (refine q_iload 109 rfl rfl dX6_more_107 ?_
             refine q_iload_n 110 rfl rfl dX6_more_109 ?_
             refine q_icmp_ne 113 rfl 132 (by decide) (by omega) (by omega) dX6_more_110 (fun h110 => ?_) (fun h110 => ?_)
             · first
               | (exfalso; omega)
               | (refine q_iinc1 135 rfl 1 k_i1 rfl (by decide) dX6_more_132 ?_
                  refine q_goto 63 (by decide) dX6_more_135 ?_
                  refine q_loc (ih _ ?_ _ ?_) (q_sub1 rfl (q_sub1 rfl (q_sub1 rfl (q_sub1 rfl (q_sub1 rfl (q_sub1 rfl q_sub0))))))
                  · simp only [mrs]
                    first
                      | (rw [if_pos (by omega)]; done)
                      | (rw [if_neg (by omega)]; exact h_a)
                  · simp only [mrs]
                    first
                      | (rw [if_pos (by omega)]; done)
                      | (rw [if_neg (by omega)]; exact h_b))
             · first
               | (exfalso; omega)
               | (refine q_iload 115 rfl rfl dX6_more_113 ?_
                  refine q_ifN_le 118 rfl 132 (by decide) (by omega) dX6_more_115 (fun h115 => ?_) (fun h115 => ?_)
                  · first
                    | (exfalso; omega)
                    | (refine q_iinc1 135 rfl 1 k_i1 rfl (by decide) dX6_more_132 ?_
                       refine q_goto 63 (by decide) dX6_more_135 ?_
                       refine q_loc (ih _ ?_ _ ?_) (q_sub1 rfl (q_sub1 rfl (q_sub1 rfl (q_sub1 rfl (q_sub1 rfl (q_sub1 rfl q_sub0))))))
                       · simp only [mrs]
                         first
                           | (rw [if_pos (by omega)]; done)
                           | (rw [if_neg (by omega)]; exact h_a)
                       · simp only [mrs]
                         first
                           | (rw [if_pos (by omega)]; done)
                           | (rw [if_neg (by omega)]; exact h_b))
                  · first
                    | (exfalso; omega)
                    | (refine q_iload 120 rfl rfl dX6_more_118 ?_
                       refine q_iload 122 rfl rfl dX6_more_120 ?_
                       refine q_icmp_ge 125 rfl 132 (by decide) (by omega) (by omega) dX6_more_122 (fun h122 => ?_) (fun h122 => ?_)
                       · first
                         | (exfalso; omega)
                         | (refine q_iinc1 135 rfl 1 k_i1 rfl (by decide) dX6_more_132 ?_
                            refine q_goto 63 (by decide) dX6_more_135 ?_
                            refine q_loc (ih _ ?_ _ ?_) (q_sub1 rfl (q_sub1 rfl (q_sub1 rfl (q_sub1 rfl (q_sub1 rfl (q_sub1 rfl q_sub0))))))
                            · simp only [mrs]
                              first
                                | (rw [if_pos (by omega)]; done)
                                | (rw [if_neg (by omega)]; exact h_a)
                            · simp only [mrs]
                              first
                                | (rw [if_pos (by omega)]; done)
                                | (rw [if_neg (by omega)]; exact h_b))
                       · first
                         | (exfalso; omega)
                         | (refine q_iload 127 rfl rfl dX6_more_125 ?_
                            refine q_istore_n 128 rfl (by decide) dX6_more_127 ?_
                            refine q_iload 130 rfl rfl dX6_more_128 ?_
                            refine q_istore 132 rfl (by decide) dX6_more_130 ?_
                            refine q_iinc1 135 rfl 1 k_i1 rfl (by decide) dX6_more_132 ?_
                            refine q_goto 63 (by decide) dX6_more_135 ?_
                            refine q_loc (ih _ ?_ _ ?_) (q_sub1 rfl (q_sub1 rfl (q_sub1 rfl (q_sub1 rfl (q_sub1 rfl (q_sub1 rfl q_sub0))))))
                            · simp only [mrs]
                              first
                                | (rw [if_pos (by omega)]; done)
                                | (rw [if_neg (by omega)]; exact h_a)
                            · simp only [mrs]
                              first
                                | (rw [if_pos (by omega)]; done)
                                | (rw [if_neg (by omega)]; exact h_b)))))
      · have hq : 0 < wp i ∧ wp i ≤ 675 := Decidable.not_not.mp (mt z0.mpr h86)
        clear h86 z0 hw0
        refine q_aload_n 90 rfl rfl dX6_more_89 ?_
        refine q_iload 92 rfl rfl dX6_more_90 ?_
        refine q_cV1 95 rfl lX6_247 (k_nwant hG hX (by omega) (fun j hj => by rw [hW j hj]; have := hw j hj; omega)) rfl 0 t_0 rfl rfl rfl dX6_more_92 ?_
        rw [hcw hq]
        refine q_goto 99 (by decide) dX6_more_95 ?_
        refine q_istore 101 rfl (by decide) dX6_more_99 ?_
        refine q_iload 103 rfl rfl dX6_more_101 ?_
        refine q_iload_n 104 rfl rfl dX6_more_103 ?_
        refine q_icmp_gt 107 rfl 125 (by decide) (by omega) (by omega) dX6_more_104 (fun h104 => ?_) (fun h104 => ?_)
        · first
          | (exfalso; omega)
          | (refine q_iload 127 rfl rfl dX6_more_125 ?_
             refine q_istore_n 128 rfl (by decide) dX6_more_127 ?_
             refine q_iload 130 rfl rfl dX6_more_128 ?_
             refine q_istore 132 rfl (by decide) dX6_more_130 ?_
             refine q_iinc1 135 rfl 1 k_i1 rfl (by decide) dX6_more_132 ?_
             refine q_goto 63 (by decide) dX6_more_135 ?_
             refine q_loc (ih _ ?_ _ ?_) (q_sub1 rfl (q_sub1 rfl (q_sub1 rfl (q_sub1 rfl (q_sub1 rfl (q_sub1 rfl q_sub0))))))
             · simp only [mrs]
               first
                 | (rw [if_pos (by omega)]; done)
                 | (rw [if_neg (by omega)]; exact h_a)
             · simp only [mrs]
               first
                 | (rw [if_pos (by omega)]; done)
                 | (rw [if_neg (by omega)]; exact h_b))
        · first
          | (exfalso; omega)
          | (refine q_iload 109 rfl rfl dX6_more_107 ?_
             refine q_iload_n 110 rfl rfl dX6_more_109 ?_
             refine q_icmp_ne 113 rfl 132 (by decide) (by omega) (by omega) dX6_more_110 (fun h110 => ?_) (fun h110 => ?_)
             · first
               | (exfalso; omega)
               | (refine q_iinc1 135 rfl 1 k_i1 rfl (by decide) dX6_more_132 ?_
                  refine q_goto 63 (by decide) dX6_more_135 ?_
                  refine q_loc (ih _ ?_ _ ?_) (q_sub1 rfl (q_sub1 rfl (q_sub1 rfl (q_sub1 rfl (q_sub1 rfl (q_sub1 rfl q_sub0))))))
                  · simp only [mrs]
                    first
                      | (rw [if_pos (by omega)]; done)
                      | (rw [if_neg (by omega)]; exact h_a)
                  · simp only [mrs]
                    first
                      | (rw [if_pos (by omega)]; done)
                      | (rw [if_neg (by omega)]; exact h_b))
             · first
               | (exfalso; omega)
               | (refine q_iload 115 rfl rfl dX6_more_113 ?_
                  refine q_ifN_le 118 rfl 132 (by decide) (by omega) dX6_more_115 (fun h115 => ?_) (fun h115 => ?_)
                  · first
                    | (exfalso; omega)
                    | (refine q_iinc1 135 rfl 1 k_i1 rfl (by decide) dX6_more_132 ?_
                       refine q_goto 63 (by decide) dX6_more_135 ?_
                       refine q_loc (ih _ ?_ _ ?_) (q_sub1 rfl (q_sub1 rfl (q_sub1 rfl (q_sub1 rfl (q_sub1 rfl (q_sub1 rfl q_sub0))))))
                       · simp only [mrs]
                         first
                           | (rw [if_pos (by omega)]; done)
                           | (rw [if_neg (by omega)]; exact h_a)
                       · simp only [mrs]
                         first
                           | (rw [if_pos (by omega)]; done)
                           | (rw [if_neg (by omega)]; exact h_b))
                  · first
                    | (exfalso; omega)
                    | (refine q_iload 120 rfl rfl dX6_more_118 ?_
                       refine q_iload 122 rfl rfl dX6_more_120 ?_
                       refine q_icmp_ge 125 rfl 132 (by decide) (by omega) (by omega) dX6_more_122 (fun h122 => ?_) (fun h122 => ?_)
                       · first
                         | (exfalso; omega)
                         | (refine q_iinc1 135 rfl 1 k_i1 rfl (by decide) dX6_more_132 ?_
                            refine q_goto 63 (by decide) dX6_more_135 ?_
                            refine q_loc (ih _ ?_ _ ?_) (q_sub1 rfl (q_sub1 rfl (q_sub1 rfl (q_sub1 rfl (q_sub1 rfl (q_sub1 rfl q_sub0))))))
                            · simp only [mrs]
                              first
                                | (rw [if_pos (by omega)]; done)
                                | (rw [if_neg (by omega)]; exact h_a)
                            · simp only [mrs]
                              first
                                | (rw [if_pos (by omega)]; done)
                                | (rw [if_neg (by omega)]; exact h_b))
                       · first
                         | (exfalso; omega)
                         | (refine q_iload 127 rfl rfl dX6_more_125 ?_
                            refine q_istore_n 128 rfl (by decide) dX6_more_127 ?_
                            refine q_iload 130 rfl rfl dX6_more_128 ?_
                            refine q_istore 132 rfl (by decide) dX6_more_130 ?_
                            refine q_iinc1 135 rfl 1 k_i1 rfl (by decide) dX6_more_132 ?_
                            refine q_goto 63 (by decide) dX6_more_135 ?_
                            refine q_loc (ih _ ?_ _ ?_) (q_sub1 rfl (q_sub1 rfl (q_sub1 rfl (q_sub1 rfl (q_sub1 rfl (q_sub1 rfl q_sub0))))))
                            · simp only [mrs]
                              first
                                | (rw [if_pos (by omega)]; done)
                                | (rw [if_neg (by omega)]; exact h_a)
                            · simp only [mrs]
                              first
                                | (rw [if_pos (by omega)]; done)
                                | (rw [if_neg (by omega)]; exact h_b)))))
theorem k_more6 {Y : Nat} {nm nw c : Nat} {Rl : Nat → Nat → Bool} (hG : GF ad G) (hX : CX ad G N nm nw c Rl) (hYY : Y < 4294967296) : q_Con Γ mX6_more 2 0 0 [.ref (ad 0), .int (nI Y)] (LT ad, N, L, G) (q_is (some (.int (nI (mov (mor6 N nm nw c 676) Y)))) (LT ad, (if Y ≤ 1 then fil N 50 (wp6 N nm nw) c else N), L, G)) := by
  obtain ⟨hnm, hnw, hv5, hv6, hN, hM, hnr⟩ := id hX
  have hc : N nm 0 = c := hN.1
  have hc9 : c ≤ 9 := hN.2.1
  have hE : ∀ a, (a < 33 ∨ a = 36 ∨ (51 ≤ a ∧ a ≤ 68)) → fil N 50 (wp6 N nm nw) c a = N a := fun a ha => by rw [fil_ne (by omega)]
  have hXH : CX ad G (fil N 50 (wp6 N nm nw) c) nm nw c Rl := hX.eq hE
  have me := mor6_eq (nw := nw) hN
  have r1 := mrs_le (wp6 N nm nw) c c
  have c1 := cnt_le (fun n => decide (wp6 N nm nw n = 0)) c
  refine q_con (by decide) rfl rfl (Nat.le_of_ble_eq_true rfl) ?_
  refine q_iload_n 1 rfl rfl dX6_more_0 ?_
  refine q_iconst 2 rfl 0 k_i0 dX6_more_1 ?_
  refine q_iconst 3 rfl 1 k_i1 dX6_more_2 ?_
  refine q_cS3 6 rfl lX6_87 (k_within hYY (by omega) (by omega)) rfl rfl rfl dX6_more_3 ?_
  refine q_if_neD 9 rfl 11 (by decide) dX6_more_6 (fun h6 => ?_) (fun h6 => ?_)
  · refine q_iconst 12 rfl 0 k_i0 dX6_more_11 ?_
    refine q_istore_n 13 rfl (by decide) dX6_more_12 ?_
    refine q_iconst 14 rfl 0 k_i0 dX6_more_13 ?_
    refine q_istore_n 15 rfl (by decide) dX6_more_14 ?_
    refine q_loc (more6_1 (Y := Y) (Rl := Rl) (nm := nm) (nw := nw) (c := c) hG hX ?_ 0 (by omega) _ rfl _ (fil_0 _ _ _).symm) (q_sub1 rfl (q_sub1 rfl (q_sub1 rfl (q_sub1 rfl q_sub0))))
    refine q_iconst 56 rfl 0 k_i0 dX6_more_55 ?_
    refine q_istore_n 57 rfl (by decide) dX6_more_56 ?_
    refine q_iconst 58 rfl 0 k_i0 dX6_more_57 ?_
    refine q_istore 60 rfl (by decide) dX6_more_58 ?_
    refine q_iconst 61 rfl 0 k_i0 dX6_more_60 ?_
    refine q_istore 63 rfl (by decide) dX6_more_61 ?_
    refine q_loc (more6_2 (Y := Y) (wp := wp6 N nm nw) (N := fil N 50 (wp6 N nm nw) c) (Rl := Rl) (nm := nm) (nw := nw) (c := c) hG hXH (fun i hi => fil_lt hi) (fun i hi => wp6_le hN (by omega)) ?_ 0 (by omega) _ rfl _ rfl) (q_sub1 rfl (q_sub1 rfl (q_sub1 rfl (q_sub1 rfl (q_sub1 rfl (q_sub1 rfl q_sub0))))))
    refine q_iload_n 139 rfl rfl dX6_more_138 ?_
    refine q_if_ne 142 rfl 145 (by decide) (by omega) dX6_more_139 (fun h139 => ?_) (fun h139 => ?_)
    · refine q_iload_n 146 rfl rfl dX6_more_145 ?_
      refine q_if_ne 149 rfl 154 (by decide) (by omega) dX6_more_146 (fun h146 => ?_) (fun h146 => ?_)
      · refine q_iload_n 155 rfl rfl dX6_more_154 ?_
        refine q_iload_n 156 rfl rfl dX6_more_155 ?_
        refine q_iadd 157 rfl dX6_more_156 ?_
        refine q_iret rfl dX6_more_157 ?_
        have hz2 : ¬ (mrs (wp6 N nm nw) c c).2 = 4294967292 := by omega
        rw [me, if_neg (by assumption), mov, if_pos (show Y ≤ 1 by omega), if_pos (show Y ≤ 1 by omega)]
        first
          | (rw [if_pos (.inr (by assumption))]; exact ⟨rfl, rfl⟩)
          | (rw [if_neg (fun q => q.elim hz2 (by assumption))]; exact ⟨rfl, rfl⟩)
      · refine q_iload 151 rfl rfl dX6_more_149 ?_
        refine q_goto 157 (by decide) dX6_more_151 ?_
        refine q_iret rfl dX6_more_157 ?_
        have hz2 : ¬ (mrs (wp6 N nm nw) c c).2 = 4294967292 := by omega
        rw [me, if_neg (by assumption), mov, if_pos (show Y ≤ 1 by omega), if_pos (show Y ≤ 1 by omega)]
        first
          | (rw [if_pos (.inr (by assumption))]; exact ⟨rfl, rfl⟩)
          | (rw [if_neg (fun q => q.elim hz2 (by assumption))]; exact ⟨rfl, rfl⟩)
    · refine q_bipush 144 rfl 4294967292 k_bm4 dX6_more_142 ?_
      refine q_iret rfl dX6_more_144 ?_
      rw [me, if_pos (by assumption), mov, if_pos (show Y ≤ 1 by omega), if_pos (.inl rfl), if_pos (show Y ≤ 1 by omega)]
      exact ⟨rfl, rfl⟩
  · refine q_iconst 10 rfl 4294967295 k_im1 dX6_more_9 ?_
    refine q_iret rfl dX6_more_10 ?_
    rw [mov, if_neg (by omega), if_neg (by omega)]
    exact ⟨rfl, rfl⟩
end
