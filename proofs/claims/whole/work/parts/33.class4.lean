theorem can6_s {N : Nat → Nat → Nat} {nm nw c : Nat} {Rl : Nat → Nat → Bool} {i : Nat} : can6 N nm nw c Rl i &&& mk (fun n => decide (aof Rl (N (nw + 4) i) n = N (nw + 5) i)) c = can6 N nm nw c Rl (i + 1) := by
  simp only [can6, can]
  rw [mk_and]
  refine mk_ext (fun n hn => ?_)
  simp only [okg]
  rw [Bool.and_assoc]
theorem near_bit {N : Nat → Nat → Nat} {c : Nat} {Rl : Nat → Nat → Bool} (hnr : ∀ g, g < c → N 36 g = mk (Rl g) c) {X Y : Nat} (hX : X < c) (hY : Y < c) : (N 36 X).testBit Y = Rl X Y := by
  rw [hnr X hX, mk_bit, decide_eq_true hY]; rfl
theorem near_lt {N : Nat → Nat → Nat} {c : Nat} {Rl : Nat → Nat → Bool} (hc : c ≤ 9) (hnr : ∀ g, g < c → N 36 g = mk (Rl g) c) {X : Nat} (hX : X < c) : N 36 X < 512 := by
  rw [hnr X hX]; exact mk_lt9 hc
theorem alw_split {p : Nat → Bool} {c i : Nat} (hi : i < c) (h : p i = false) : alw p c = false := by
  cases e : alw p c with
  | false => rfl
  | true => exact absurd (alw_le (show i + 1 ≤ c by omega) e) (by simp only [alw, h, Bool.and_false]; decide)
section
variable {Γ : q_G} {ad : Nat → Nat} {N : Nat → Nat → Nat} {L : Nat → Nat → Int} {G : Nat → Nat → Option Nat}
theorem lied6_lp  {mc mz : Nat} {nm nw c : Nat} {Rl : Nat → Nat → Bool} (hG : GF ad G) (hX : CX ad G N nm nw c Rl)  : ∀ i, i ≤ N nw 6 → lieF (fun k => can6 N nm nw c Rl k) (N nw 6) 0 = lieF (fun k => can6 N nm nw c Rl k) (N nw 6 - i) i →  ∀ s : Nat, s = can6 N nm nw c Rl i → q_R Γ mX6_lied (q_room 4 mc mz) (q_Z Γ (q_is (some (.int (nI (lieF (fun k => can6 N nm nw c Rl k) (N nw 6) 0)))) (LT ad, N, L, G)) 0 0) 0 0 7 [(0, .ref (ad 0)), (1, .int (nI s)), (2, .int (nI i))] [] (LT ad, N, L, G) := by
  refine dn_loop (N nw 6) ?_ ?_
  · intro h_ex s h_s
    obtain ⟨hnm, hnw, hv5, hv6, hN, hM, hnr⟩ := id hX
    have hc : N nm 0 = c := hN.1
    have hc9 : c ≤ 9 := hN.2.1
    obtain ⟨hkd, hms, hpr, hpf, hps, hg9, hgn, hga, hh6, hhp, hhl, hhi, hod, ho1⟩ := id hM
    refine q_iload_n 8 rfl rfl dX6_lied_7 ?_
    refine q_aload_n 9 rfl rfl dX6_lied_8 ?_
    refine q_getR 12 rfl fX6_30 rfl 0 t_0 hv6 dX6_lied_9 ?_
    refine q_getI 15 rfl fX6_170 rfl nw (tM hnw) dX6_lied_12 ?_
    refine q_icmp_ge 18 rfl 55 (by decide) (by omega) (by omega) dX6_lied_15 (fun h15 => ?_) (fun h15 => ?_)
    · refine q_bipush 57 rfl 4294967292 k_bm4 dX6_lied_55 ?_
      refine q_iret rfl dX6_lied_57 ?_
      rw [h_ex, Nat.sub_self]
      exact ⟨rfl, rfl⟩
    · exfalso; omega
  · intro i h_i ih h_ex s h_s
    obtain ⟨hnm, hnw, hv5, hv6, hN, hM, hnr⟩ := id hX
    have hc : N nm 0 = c := hN.1
    have hc9 : c ≤ 9 := hN.2.1
    obtain ⟨hkd, hms, hpr, hpf, hps, hg9, hgn, hga, hh6, hhp, hhl, hhi, hod, ho1⟩ := id hM
    have b1 := hgn i h_i
    have b2 := hga i h_i
    have hcl : can6 N nm nw c Rl (i + 1) < 512 := can_lt hc9
    have el : lieF (fun k => can6 N nm nw c Rl k) (N nw 6 - i) i = if can6 N nm nw c Rl (i + 1) = 0 then i else lieF (fun k => can6 N nm nw c Rl k) (N nw 6 - (i + 1)) (i + 1) := by
      rw [show N nw 6 - i = (N nw 6 - (i + 1)) + 1 by omega]; rfl
    refine q_iload_n 8 rfl rfl dX6_lied_7 ?_
    refine q_aload_n 9 rfl rfl dX6_lied_8 ?_
    refine q_getR 12 rfl fX6_30 rfl 0 t_0 hv6 dX6_lied_9 ?_
    refine q_getI 15 rfl fX6_170 rfl nw (tM hnw) dX6_lied_12 ?_
    refine q_icmp_ge 18 rfl 55 (by decide) (by omega) (by omega) dX6_lied_15 (fun h15 => ?_) (fun h15 => ?_)
    · exfalso; omega
    · refine q_iload_n 19 rfl rfl dX6_lied_18 ?_
      refine q_aload_n 20 rfl rfl dX6_lied_19 ?_
      refine q_aload_n 21 rfl rfl dX6_lied_20 ?_
      refine q_getR 24 rfl fX6_30 rfl 0 t_0 hv6 dX6_lied_21 ?_
      refine q_getR 27 rfl fX6_202 rfl nw (tM hnw) (gM_7 hnw hG) dX6_lied_24 ?_
      refine q_iload_n 28 rfl rfl dX6_lied_27 ?_
      refine q_iald 29 rfl (nw + 4) (tM4 hnw) (by omega) (by decide) dX6_lied_28 ?_
      refine q_aload_n 30 rfl rfl dX6_lied_29 ?_
      refine q_getR 33 rfl fX6_30 rfl 0 t_0 hv6 dX6_lied_30 ?_
      refine q_getR 36 rfl fX6_205 rfl nw (tM hnw) (gM_8 hnw hG) dX6_lied_33 ?_
      refine q_iload_n 37 rfl rfl dX6_lied_36 ?_
      refine q_iald 38 rfl (nw + 5) (tM5 hnw) (by omega) (by decide) dX6_lied_37 ?_
      refine q_cV2 41 rfl lX6_208 (k_answeredSo hG hX b1 b2) rfl 0 t_0 rfl rfl rfl dX6_lied_38 ?_
      refine q_iand 42 rfl dX6_lied_41 ?_
      rw [h_s, can6_s]
      refine q_istore_n 43 rfl (by decide) dX6_lied_42 ?_
      refine q_iload_n 44 rfl rfl dX6_lied_43 ?_
      refine q_if_ne 47 rfl 49 (by decide) (by omega) dX6_lied_44 (fun h44 => ?_) (fun h44 => ?_)
      · refine q_iinc1 52 rfl 1 k_i1 rfl (by decide) dX6_lied_49 ?_
        refine q_goto 7 (by decide) dX6_lied_52 ?_
        refine q_loc (ih ?_ _ rfl) (q_sub1 rfl (q_sub1 rfl (q_sub1 rfl q_sub0)))
        rw [h_ex, el, if_neg (by assumption)]
      · refine q_iload_n 48 rfl rfl dX6_lied_47 ?_
        refine q_iret rfl dX6_lied_48 ?_
        rw [h_ex, el, if_pos (by assumption)]
        exact ⟨rfl, rfl⟩
theorem k_lied6 {nm nw c : Nat} {Rl : Nat → Nat → Bool} (hG : GF ad G) (hX : CX ad G N nm nw c Rl) : q_Con Γ mX6_lied 4 0 0 [.ref (ad 0)] (LT ad, N, L, G) (q_is (some (.int (nI (lieF (fun k => can6 N nm nw c Rl k) (N nw 6) 0)))) (LT ad, N, L, G)) := by
  obtain ⟨hnm, hnw, hv5, hv6, hN, hM, hnr⟩ := id hX
  have hc : N nm 0 = c := hN.1
  have hc9 : c ≤ 9 := hN.2.1
  refine q_con (by decide) rfl rfl (Nat.le_of_ble_eq_true rfl) ?_
  refine q_aload_n 1 rfl rfl dX6_lied_0 ?_
  refine q_cV0 4 rfl lX6_199 (k_byHeard hG hX) rfl 0 t_0 rfl rfl rfl dX6_lied_1 ?_
  refine q_istore_n 5 rfl (by decide) dX6_lied_4 ?_
  refine q_iconst 6 rfl 0 k_i0 dX6_lied_5 ?_
  refine q_istore_n 7 rfl (by decide) dX6_lied_6 ?_
  exact q_loc (lied6_lp (Rl := Rl) (nm := nm) (nw := nw) (c := c) hG hX 0 (by omega) rfl _ (mk_ext (fun n _ => (Bool.and_true _).symm))) (q_sub1 rfl (q_sub1 rfl (q_sub1 rfl q_sub0)))
theorem next6_lp {Z : q_Zt} {s Y mc mz : Nat} {nm nw c : Nat} {Rl : Nat → Nat → Bool} (hG : GF ad G) (hX : CX ad G N nm nw c Rl) (hs : s < 2 ^ c) (hx : q_R Γ mX6_next (q_room 4 mc mz) Z 0 0 101 [(1, .int (nI Y)), (3, .int (nI ((amin (wst Rl c s) 10 (c)).2))), (4, .int (nI ((amin (wst Rl c s) 10 (c)).1)))] [] (LT ad, N, L, G)) : ∀ i, i ≤ c →  ∀ a : Nat, a = (amin (wst Rl c s) 10 i).1 → ∀ b : Nat, b = (amin (wst Rl c s) 10 i).2 → q_R Γ mX6_next (q_room 4 mc mz) Z 0 0 32 [(0, .ref (ad 0)), (1, .int (nI Y)), (2, .int (nI s)), (3, .int (nI b)), (4, .int (nI a)), (5, .int (nI i))] [] (LT ad, N, L, G) := by
  refine dn_loop (c) ?_ ?_
  · intro a h_a b h_b
    obtain ⟨hnm, hnw, hv5, hv6, hN, hM, hnr⟩ := id hX
    have hc : N nm 0 = c := hN.1
    have hc9 : c ≤ 9 := hN.2.1
    refine q_iload 34 rfl rfl dX6_next_32 ?_
    refine q_aload_n 35 rfl rfl dX6_next_34 ?_
    refine q_getR 38 rfl fX6_23 rfl 0 t_0 hv5 dX6_next_35 ?_
    refine q_getI 41 rfl fX6_115 rfl nm (tN hnm) dX6_next_38 ?_
    refine q_icmp_ge 44 rfl 101 (by decide) (by omega) (by omega) dX6_next_41 (fun h41 => ?_) (fun h41 => ?_)
    · subst h_a
      subst h_b
      exact q_loc hx (q_sub1 rfl (q_sub1 rfl (q_sub1 rfl q_sub0)))
    · exfalso; omega
  · intro i h_i ih a h_a b h_b
    obtain ⟨hnm, hnw, hv5, hv6, hN, hM, hnr⟩ := id hX
    have hc : N nm 0 = c := hN.1
    have hc9 : c ≤ 9 := hN.2.1
    have p9 := p2_9 hc9
    have l1 := prt_lt (Rl := Rl) (c := c) (s := s) (g := i) (a := 1)
    have l0 := prt_lt (Rl := Rl) (c := c) (s := s) (g := i) (a := 0)
    have b1 := pc_le (prt Rl c s i 1) 26
    have b0 := pc_le (prt Rl c s i 0) 26
    have w1 := wst_le (Rl := Rl) (c := c) (s := s) (g := i)
    have w2 := amin_le (wst Rl c s) 10 i
    refine q_iload 34 rfl rfl dX6_next_32 ?_
    refine q_aload_n 35 rfl rfl dX6_next_34 ?_
    refine q_getR 38 rfl fX6_23 rfl 0 t_0 hv5 dX6_next_35 ?_
    refine q_getI 41 rfl fX6_115 rfl nm (tN hnm) dX6_next_38 ?_
    refine q_icmp_ge 44 rfl 101 (by decide) (by omega) (by omega) dX6_next_41 (fun h41 => ?_) (fun h41 => ?_)
    · exfalso; omega
    · refine q_iload_n 45 rfl rfl dX6_next_44 ?_
      refine q_aload_n 46 rfl rfl dX6_next_45 ?_
      refine q_iload 48 rfl rfl dX6_next_46 ?_
      refine q_iconst 49 rfl 0 k_i0 dX6_next_48 ?_
      refine q_cV2 52 rfl lX6_208 (k_answeredSo hG hX h_i (by omega)) rfl 0 t_0 rfl rfl rfl dX6_next_49 ?_
      refine q_iand 53 rfl dX6_next_52 ?_
      rw [and_prt hs]
      refine q_cS1 56 rfl lX6_211 (k_bitCount (by omega)) rfl rfl rfl dX6_next_53 ?_
      refine q_istore 58 rfl (by decide) dX6_next_56 ?_
      refine q_iload_n 59 rfl rfl dX6_next_58 ?_
      refine q_aload_n 60 rfl rfl dX6_next_59 ?_
      refine q_iload 62 rfl rfl dX6_next_60 ?_
      refine q_iconst 63 rfl 1 k_i1 dX6_next_62 ?_
      refine q_cV2 66 rfl lX6_208 (k_answeredSo hG hX h_i (by omega)) rfl 0 t_0 rfl rfl rfl dX6_next_63 ?_
      refine q_iand 67 rfl dX6_next_66 ?_
      rw [and_prt hs]
      refine q_cS1 70 rfl lX6_211 (k_bitCount (by omega)) rfl rfl rfl dX6_next_67 ?_
      refine q_istore 72 rfl (by decide) dX6_next_70 ?_
      refine q_iload 74 rfl rfl dX6_next_72 ?_
      refine q_iload 76 rfl rfl dX6_next_74 ?_
      refine q_mmax 79 rfl (by omega) (by omega) lmX6_216 (by first | decide | exact Nat.le_of_ble_eq_true rfl) (Nat.le_of_ble_eq_true rfl) (by first | decide | exact Nat.zero_le _) (by first | decide | exact Nat.zero_le _) dX6_next_76 ?_
      rw [show max (pc (prt Rl c s i 0) 26) (pc (prt Rl c s i 1) 26) = wst Rl c s i from Nat.max_comm _ _]
      refine q_istore 81 rfl (by decide) dX6_next_79 ?_
      refine q_iload 83 rfl rfl dX6_next_81 ?_
      refine q_iload 85 rfl rfl dX6_next_83 ?_
      refine q_icmp_ge 88 rfl 95 (by decide) (by omega) (by omega) dX6_next_85 (fun h85 => ?_) (fun h85 => ?_)
      · refine q_iinc1 98 rfl 1 k_i1 rfl (by decide) dX6_next_95 ?_
        refine q_goto 32 (by decide) dX6_next_98 ?_
        refine q_loc (ih _ ?_ _ ?_) (q_sub1 rfl (q_sub1 rfl (q_sub1 rfl (q_sub1 rfl (q_sub1 rfl (q_sub1 rfl q_sub0))))))
        · simp only [amin]
          first
            | (rw [if_pos (by omega)]; done)
            | (rw [if_neg (by omega)]; exact h_a)
        · simp only [amin]
          first
            | (rw [if_pos (by omega)]; done)
            | (rw [if_neg (by omega)]; exact h_b)
      · refine q_iload 90 rfl rfl dX6_next_88 ?_
        refine q_istore 92 rfl (by decide) dX6_next_90 ?_
        refine q_iload 94 rfl rfl dX6_next_92 ?_
        refine q_istore_n 95 rfl (by decide) dX6_next_94 ?_
        refine q_iinc1 98 rfl 1 k_i1 rfl (by decide) dX6_next_95 ?_
        refine q_goto 32 (by decide) dX6_next_98 ?_
        refine q_loc (ih _ ?_ _ ?_) (q_sub1 rfl (q_sub1 rfl (q_sub1 rfl (q_sub1 rfl (q_sub1 rfl (q_sub1 rfl q_sub0))))))
        · simp only [amin]
          first
            | (rw [if_pos (by omega)]; done)
            | (rw [if_neg (by omega)]; exact h_a)
        · simp only [amin]
          first
            | (rw [if_pos (by omega)]; done)
            | (rw [if_neg (by omega)]; exact h_b)
theorem k_next6 {Y : Nat} {s : Nat} {nm nw c : Nat} {Rl : Nat → Nat → Bool} (hG : GF ad G) (hX : CX ad G N nm nw c Rl) (hsd : can6 N nm nw c Rl (N nw 6) = s) (hYY : Y < 4294967296) : q_Con Γ mX6_next 4 0 0 [.ref (ad 0), .int (nI Y)] (LT ad, N, L, G) (q_is (some (.int (nI (nxt Rl c Y s)))) (LT ad, N, L, G)) := by
  obtain ⟨hnm, hnw, hv5, hv6, hN, hM, hnr⟩ := id hX
  have hc : N nm 0 = c := hN.1
  have hc9 : c ≤ 9 := hN.2.1
  obtain ⟨hkd, hms, hpr, hpf, hps, hg9, hgn, hga, hh6, hhp, hhl, hhi, hod, ho1⟩ := id hM
  have hs9 : s < 512 := hsd ▸ can_lt hc9
  have hsc : s < 2 ^ c := hsd ▸ mk_lt _ c
  have ei : s ≠ 0 → amin (wst Rl c s) 10 c = amin (wst Rl c s) 1000 c := fun h => by
    refine amin_init (fun i hi => ?_) ?_
    · have hw : wst Rl c s i ≤ 9 := by
        have e1 : pc (prt Rl c s i 1) 26 = pc (prt Rl c s i 1) c := pc_hi prt_lt (by omega)
        have e0 : pc (prt Rl c s i 0) 26 = pc (prt Rl c s i 0) c := pc_hi prt_lt (by omega)
        have q1 := pc_le (prt Rl c s i 1) c
        have q0 := pc_le (prt Rl c s i 0) c
        exact Nat.max_le.mpr ⟨by omega, by omega⟩
      omega
    · rcases Nat.eq_zero_or_pos c with q | q
      · rw [q] at hsc; exact absurd (show s = 0 by simpa using hsc) h
      · exact q
  refine q_con (by decide) rfl rfl (Nat.le_of_ble_eq_true rfl) ?_
  refine q_iload_n 1 rfl rfl dX6_next_0 ?_
  refine q_iconst 2 rfl 0 k_i0 dX6_next_1 ?_
  refine q_iconst 3 rfl 1 k_i1 dX6_next_2 ?_
  refine q_cS3 6 rfl lX6_87 (k_within hYY (by omega) (by omega)) rfl rfl rfl dX6_next_3 ?_
  refine q_if_neD 9 rfl 11 (by decide) dX6_next_6 (fun h6 => ?_) (fun h6 => ?_)
  · refine q_aload_n 12 rfl rfl dX6_next_11 ?_
    refine q_cV0 15 rfl lX6_183 (k_possS hG hX hsd) rfl 0 t_0 rfl rfl rfl dX6_next_12 ?_
    refine q_istore_n 16 rfl (by decide) dX6_next_15 ?_
    refine q_iload_n 17 rfl rfl dX6_next_16 ?_
    refine q_if_ne 20 rfl 23 (by decide) (by omega) dX6_next_17 (fun h17 => ?_) (fun h17 => ?_)
    · refine q_iconst 24 rfl 0 k_i0 dX6_next_23 ?_
      refine q_istore_n 25 rfl (by decide) dX6_next_24 ?_
      refine q_bipush 27 rfl 10 k_b10 dX6_next_25 ?_
      refine q_istore 29 rfl (by decide) dX6_next_27 ?_
      refine q_iconst 30 rfl 0 k_i0 dX6_next_29 ?_
      refine q_istore 32 rfl (by decide) dX6_next_30 ?_
      refine q_loc (next6_lp (Rl := Rl) (nm := nm) (nw := nw) (c := c) hG hX hsc ?_ 0 (by omega) _ rfl _ rfl) (q_sub1 rfl (q_sub1 rfl (q_sub1 rfl (q_sub1 rfl (q_sub1 rfl (q_sub1 rfl q_sub0))))))
      rw [ei (by assumption)]
      refine q_iload_n 102 rfl rfl dX6_next_101 ?_
      refine q_if_ne 105 rfl 109 (by decide) (by omega) dX6_next_102 (fun h102 => ?_) (fun h102 => ?_)
      · refine q_iload 111 rfl rfl dX6_next_109 ?_
        refine q_iret rfl dX6_next_111 ?_
        first
          | (rw [nxt, if_neg (by omega)]; exact ⟨rfl, rfl⟩)
          | (rw [nxt, if_pos (by omega), if_pos (by assumption)]; exact ⟨rfl, rfl⟩)
          | (rw [nxt, if_pos (by omega), if_neg (by assumption), if_pos (by assumption)]; exact ⟨rfl, rfl⟩)
          | (rw [nxt, if_pos (by omega), if_neg (by assumption), if_neg (by assumption)]; exact ⟨rfl, rfl⟩)
      · refine q_iload_n 106 rfl rfl dX6_next_105 ?_
        refine q_goto 111 (by decide) dX6_next_106 ?_
        refine q_iret rfl dX6_next_111 ?_
        first
          | (rw [nxt, if_neg (by omega)]; exact ⟨rfl, rfl⟩)
          | (rw [nxt, if_pos (by omega), if_pos (by assumption)]; exact ⟨rfl, rfl⟩)
          | (rw [nxt, if_pos (by omega), if_neg (by assumption), if_pos (by assumption)]; exact ⟨rfl, rfl⟩)
          | (rw [nxt, if_pos (by omega), if_neg (by assumption), if_neg (by assumption)]; exact ⟨rfl, rfl⟩)
    · refine q_bipush 22 rfl 4294967294 k_bm2 dX6_next_20 ?_
      refine q_iret rfl dX6_next_22 ?_
      first
        | (rw [nxt, if_neg (by omega)]; exact ⟨rfl, rfl⟩)
        | (rw [nxt, if_pos (by omega), if_pos (by assumption)]; exact ⟨rfl, rfl⟩)
        | (rw [nxt, if_pos (by omega), if_neg (by assumption), if_pos (by assumption)]; exact ⟨rfl, rfl⟩)
        | (rw [nxt, if_pos (by omega), if_neg (by assumption), if_neg (by assumption)]; exact ⟨rfl, rfl⟩)
  · refine q_iconst 10 rfl 4294967295 k_im1 dX6_next_9 ?_
    refine q_iret rfl dX6_next_10 ?_
    first
      | (rw [nxt, if_neg (by omega)]; exact ⟨rfl, rfl⟩)
      | (rw [nxt, if_pos (by omega), if_pos (by assumption)]; exact ⟨rfl, rfl⟩)
      | (rw [nxt, if_pos (by omega), if_neg (by assumption), if_pos (by assumption)]; exact ⟨rfl, rfl⟩)
      | (rw [nxt, if_pos (by omega), if_neg (by assumption), if_neg (by assumption)]; exact ⟨rfl, rfl⟩)
theorem parts_lp  {a b mc mz : Nat} {nm nw c : Nat} {Rl : Nat → Nat → Bool} (hG : GF ad G) (hX : CX ad G N nm nw c Rl) (ha : a < c) (hb : b < c)  : ∀ i, i ≤ c → alw (twp Rl a b) i = true →  q_R Γ mX6_onlyTheirOwnGuessParts (q_room 1 mc mz) (q_Z Γ (q_is (some (.int (nI (alw (twp Rl a b) c).toNat))) (LT ad, N, L, G)) 0 0) 0 0 2 [(0, .ref (ad 0)), (1, .int (nI a)), (2, .int (nI b)), (3, .int (nI i))] [] (LT ad, N, L, G) := by
  refine dn_loop (c) ?_ ?_
  · intro h_ex 
    obtain ⟨hnm, hnw, hv5, hv6, hN, hM, hnr⟩ := id hX
    have hc : N nm 0 = c := hN.1
    have hc9 : c ≤ 9 := hN.2.1
    refine q_iload_n 3 rfl rfl dX6_onlyTheirOwnGuessParts_2 ?_
    refine q_aload_n 4 rfl rfl dX6_onlyTheirOwnGuessParts_3 ?_
    refine q_getR 7 rfl fX6_23 rfl 0 t_0 hv5 dX6_onlyTheirOwnGuessParts_4 ?_
    refine q_getI 10 rfl fX6_115 rfl nm (tN hnm) dX6_onlyTheirOwnGuessParts_7 ?_
    refine q_icmp_ge 13 rfl 54 (by decide) (by omega) (by omega) dX6_onlyTheirOwnGuessParts_10 (fun h10 => ?_) (fun h10 => ?_)
    · refine q_iconst 55 rfl 1 k_i1 dX6_onlyTheirOwnGuessParts_54 ?_
      refine q_zret rfl (by first | exact q_n0 | exact q_n1 | exact q_nb _) dX6_onlyTheirOwnGuessParts_55 ?_
      rw [h_ex]; exact ⟨rfl, rfl⟩
    · exfalso; omega
  · intro i h_i ih h_ex 
    obtain ⟨hnm, hnw, hv5, hv6, hN, hM, hnr⟩ := id hX
    have hc : N nm 0 = c := hN.1
    have hc9 : c ≤ 9 := hN.2.1
    have el : alw (twp Rl a b) (i + 1) = (alw (twp Rl a b) i && twp Rl a b i) := rfl
    have n1 := near_lt hc9 hnr h_i
    have ea := near_bit hnr h_i ha
    have eb := near_bit hnr h_i hb
    have t1 := Bool.toNat_le (Rl i a)
    have t2 := Bool.toNat_le (Rl i b)
    refine q_iload_n 3 rfl rfl dX6_onlyTheirOwnGuessParts_2 ?_
    refine q_aload_n 4 rfl rfl dX6_onlyTheirOwnGuessParts_3 ?_
    refine q_getR 7 rfl fX6_23 rfl 0 t_0 hv5 dX6_onlyTheirOwnGuessParts_4 ?_
    refine q_getI 10 rfl fX6_115 rfl nm (tN hnm) dX6_onlyTheirOwnGuessParts_7 ?_
    refine q_icmp_ge 13 rfl 54 (by decide) (by omega) (by omega) dX6_onlyTheirOwnGuessParts_10 (fun h10 => ?_) (fun h10 => ?_)
    · exfalso; omega
    · refine q_iload_n 14 rfl rfl dX6_onlyTheirOwnGuessParts_13 ?_
      refine q_iload_n 15 rfl rfl dX6_onlyTheirOwnGuessParts_14 ?_
      refine q_icmp_eq 18 rfl 48 (by decide) (by omega) (by omega) dX6_onlyTheirOwnGuessParts_15 (fun h15 => ?_) (fun h15 => ?_)
      · refine q_iinc1 51 rfl 1 k_i1 rfl (by decide) dX6_onlyTheirOwnGuessParts_48 ?_
        refine q_goto 2 (by decide) dX6_onlyTheirOwnGuessParts_51 ?_
        refine q_loc (ih ?_) (q_sub1 rfl (q_sub1 rfl (q_sub1 rfl (q_sub1 rfl q_sub0))))
        rw [el, h_ex, Bool.true_and]
        simp only [twp]
        first
          | (rw [decide_eq_true (show i = a by assumption)]; rfl)
          | (rw [decide_eq_true (show i = b by assumption), Bool.true_or, Bool.or_true]; done)
          | (cases h1 : Rl i a <;> cases h2 : Rl i b <;> first | (simp; done) | (rw [h1, h2] at h43; exact absurd h43 (by decide)))
      · refine q_iload_n 19 rfl rfl dX6_onlyTheirOwnGuessParts_18 ?_
        refine q_iload_n 20 rfl rfl dX6_onlyTheirOwnGuessParts_19 ?_
        refine q_icmp_eq 23 rfl 48 (by decide) (by omega) (by omega) dX6_onlyTheirOwnGuessParts_20 (fun h20 => ?_) (fun h20 => ?_)
        · refine q_iinc1 51 rfl 1 k_i1 rfl (by decide) dX6_onlyTheirOwnGuessParts_48 ?_
          refine q_goto 2 (by decide) dX6_onlyTheirOwnGuessParts_51 ?_
          refine q_loc (ih ?_) (q_sub1 rfl (q_sub1 rfl (q_sub1 rfl (q_sub1 rfl q_sub0))))
          rw [el, h_ex, Bool.true_and]
          simp only [twp]
          first
            | (rw [decide_eq_true (show i = a by assumption)]; rfl)
            | (rw [decide_eq_true (show i = b by assumption), Bool.true_or, Bool.or_true]; done)
            | (cases h1 : Rl i a <;> cases h2 : Rl i b <;> first | (simp; done) | (rw [h1, h2] at h43; exact absurd h43 (by decide)))
        · refine q_aload_n 24 rfl rfl dX6_onlyTheirOwnGuessParts_23 ?_
          refine q_getR 27 rfl fX6_54 rfl 0 t_0 (g_0_12 hG) dX6_onlyTheirOwnGuessParts_24 ?_
          refine q_iload_n 28 rfl rfl dX6_onlyTheirOwnGuessParts_27 ?_
          refine q_iald 29 rfl 36 t_36 (by omega) (by decide) dX6_onlyTheirOwnGuessParts_28 ?_
          refine q_iload_n 30 rfl rfl dX6_onlyTheirOwnGuessParts_29 ?_
          refine q_cS2 33 rfl lX6_166 (k_has (by omega) (by omega)) rfl rfl rfl dX6_onlyTheirOwnGuessParts_30 ?_
          first
            | rw [ea]
            | rw [eb]
          refine q_aload_n 34 rfl rfl dX6_onlyTheirOwnGuessParts_33 ?_
          refine q_getR 37 rfl fX6_54 rfl 0 t_0 (g_0_12 hG) dX6_onlyTheirOwnGuessParts_34 ?_
          refine q_iload_n 38 rfl rfl dX6_onlyTheirOwnGuessParts_37 ?_
          refine q_iald 39 rfl 36 t_36 (by omega) (by decide) dX6_onlyTheirOwnGuessParts_38 ?_
          refine q_iload_n 40 rfl rfl dX6_onlyTheirOwnGuessParts_39 ?_
          refine q_cS2 43 rfl lX6_166 (k_has (by omega) (by omega)) rfl rfl rfl dX6_onlyTheirOwnGuessParts_40 ?_
          first
            | rw [ea]
            | rw [eb]
          refine q_icmp_eq 46 rfl 48 (by decide) (by omega) (by omega) dX6_onlyTheirOwnGuessParts_43 (fun h43 => ?_) (fun h43 => ?_)
          · refine q_iinc1 51 rfl 1 k_i1 rfl (by decide) dX6_onlyTheirOwnGuessParts_48 ?_
            refine q_goto 2 (by decide) dX6_onlyTheirOwnGuessParts_51 ?_
            refine q_loc (ih ?_) (q_sub1 rfl (q_sub1 rfl (q_sub1 rfl (q_sub1 rfl q_sub0))))
            rw [el, h_ex, Bool.true_and]
            simp only [twp]
            first
              | (rw [decide_eq_true (show i = a by assumption)]; rfl)
              | (rw [decide_eq_true (show i = b by assumption), Bool.true_or, Bool.or_true]; done)
              | (cases h1 : Rl i a <;> cases h2 : Rl i b <;> first | (simp; done) | (rw [h1, h2] at h43; exact absurd h43 (by decide)))
          · refine q_iconst 47 rfl 0 k_i0 dX6_onlyTheirOwnGuessParts_46 ?_
            refine q_zret rfl (by first | exact q_n0 | exact q_n1 | exact q_nb _) dX6_onlyTheirOwnGuessParts_47 ?_
            rw [alw_split h_i (show twp Rl a b i = false by simp only [twp]; rw [decide_eq_false (by omega), decide_eq_false (by omega)]; cases h1 : Rl i a <;> cases h2 : Rl i b <;> first | rfl | (rw [h1, h2] at h43; exact absurd rfl h43))]; exact ⟨rfl, rfl⟩
theorem k_parts {a b : Nat} {nm nw c : Nat} {Rl : Nat → Nat → Bool} (hG : GF ad G) (hX : CX ad G N nm nw c Rl) (ha : a < c) (hb : b < c) : q_Con Γ mX6_onlyTheirOwnGuessParts 1 0 0 [.ref (ad 0), .int (nI a), .int (nI b)] (LT ad, N, L, G) (q_is (some (.int (nI ((alw (twp Rl a b) c).toNat)))) (LT ad, N, L, G)) := by
  refine q_con (by decide) rfl rfl (Nat.le_of_ble_eq_true rfl) ?_
  refine q_iconst 1 rfl 0 k_i0 dX6_onlyTheirOwnGuessParts_0 ?_
  refine q_istore_n 2 rfl (by decide) dX6_onlyTheirOwnGuessParts_1 ?_
  exact q_loc (parts_lp (Rl := Rl) (nm := nm) (nw := nw) (c := c) hG hX ha hb 0 (by omega) rfl) (q_sub1 rfl (q_sub1 rfl (q_sub1 rfl (q_sub1 rfl q_sub0))))
theorem twins6_b {Z : q_Zt} {s t0 a mc mz : Nat} {nm nw c : Nat} {Rl : Nat → Nat → Bool} (hG : GF ad G) (hX : CX ad G N nm nw c Rl) (hs : s < 512) (ha : a < c) (hx : q_R Γ mX6_twins (q_room 4 mc mz) Z 0 0 73 [(0, .ref (ad 0)), (1, .int (nI s)), (2, .int (nI (t0 + cnt (fun b => decide (a < b) && twa Rl c s a b) (c)))), (3, .int (nI a))] [] (LT ad, N, L, G)) : ∀ i, i ≤ c → a < i →  ∀ t : Nat, t = t0 + cnt (fun b => decide (a < b) && twa Rl c s a b) i → q_R Γ mX6_twins (q_room 4 mc mz) Z 0 0 25 [(0, .ref (ad 0)), (1, .int (nI s)), (2, .int (nI t)), (3, .int (nI a)), (4, .int (nI i))] [] (LT ad, N, L, G) := by
  refine dn_loop (c) ?_ ?_
  · intro h_ex t h_t
    obtain ⟨hnm, hnw, hv5, hv6, hN, hM, hnr⟩ := id hX
    have hc : N nm 0 = c := hN.1
    have hc9 : c ≤ 9 := hN.2.1
    refine q_iload 27 rfl rfl dX6_twins_25 ?_
    refine q_aload_n 28 rfl rfl dX6_twins_27 ?_
    refine q_getR 31 rfl fX6_23 rfl 0 t_0 hv5 dX6_twins_28 ?_
    refine q_getI 34 rfl fX6_115 rfl nm (tN hnm) dX6_twins_31 ?_
    refine q_icmp_ge 37 rfl 73 (by decide) (by omega) (by omega) dX6_twins_34 (fun h34 => ?_) (fun h34 => ?_)
    · subst h_t
      exact q_loc hx (q_sub1 rfl (q_sub1 rfl (q_sub1 rfl (q_sub1 rfl q_sub0))))
    · exfalso; omega
  · intro i h_i ih h_ex t h_t
    obtain ⟨hnm, hnw, hv5, hv6, hN, hM, hnr⟩ := id hX
    have hc : N nm 0 = c := hN.1
    have hc9 : c ≤ 9 := hN.2.1
    refine q_iload 27 rfl rfl dX6_twins_25 ?_
    refine q_aload_n 28 rfl rfl dX6_twins_27 ?_
    refine q_getR 31 rfl fX6_23 rfl 0 t_0 hv5 dX6_twins_28 ?_
    refine q_getI 34 rfl fX6_115 rfl nm (tN hnm) dX6_twins_31 ?_
    refine q_icmp_ge 37 rfl 73 (by decide) (by omega) (by omega) dX6_twins_34 (fun h34 => ?_) (fun h34 => ?_)
    · exfalso; omega
    · refine q_iload_n 38 rfl rfl dX6_twins_37 ?_
      refine q_iload_n 39 rfl rfl dX6_twins_38 ?_
      refine q_cS2 42 rfl lX6_166 (k_has (by omega) (by omega)) rfl rfl rfl dX6_twins_39 ?_
      refine q_if_eqB 45 rfl 67 (by decide) dX6_twins_42 (fun h42 => ?_) (fun h42 => ?_)
      · refine q_iinc1 70 rfl 1 k_i1 rfl (by decide) dX6_twins_67 ?_
        refine q_goto 25 (by decide) dX6_twins_70 ?_
        refine q_loc (ih (by omega) _ ?_) (q_sub1 rfl (q_sub1 rfl (q_sub1 rfl (q_sub1 rfl (q_sub1 rfl q_sub0)))))
        · rw [h_t]
          simp only [cnt, twa]
          rw [decide_eq_true h_ex, Bool.true_and]
          first
            | (rw [h42, h51, h61]; rfl)
            | (rw [h42, h51]; rfl)
            | (rw [h42]; rfl)
      · refine q_iload_n 46 rfl rfl dX6_twins_45 ?_
        refine q_iload 48 rfl rfl dX6_twins_46 ?_
        refine q_cS2 51 rfl lX6_166 (k_has (by omega) (by omega)) rfl rfl rfl dX6_twins_48 ?_
        refine q_if_eqB 54 rfl 67 (by decide) dX6_twins_51 (fun h51 => ?_) (fun h51 => ?_)
        · refine q_iinc1 70 rfl 1 k_i1 rfl (by decide) dX6_twins_67 ?_
          refine q_goto 25 (by decide) dX6_twins_70 ?_
          refine q_loc (ih (by omega) _ ?_) (q_sub1 rfl (q_sub1 rfl (q_sub1 rfl (q_sub1 rfl (q_sub1 rfl q_sub0)))))
          · rw [h_t]
            simp only [cnt, twa]
            rw [decide_eq_true h_ex, Bool.true_and]
            first
              | (rw [h42, h51, h61]; rfl)
              | (rw [h42, h51]; rfl)
              | (rw [h42]; rfl)
        · refine q_aload_n 55 rfl rfl dX6_twins_54 ?_
          refine q_iload_n 56 rfl rfl dX6_twins_55 ?_
          refine q_iload 58 rfl rfl dX6_twins_56 ?_
          refine q_cV2 61 rfl lX6_241 (k_parts hG hX ha h_i) rfl 0 t_0 rfl rfl rfl dX6_twins_58 ?_
          refine q_if_eqB 64 rfl 67 (by decide) dX6_twins_61 (fun h61 => ?_) (fun h61 => ?_)
          · refine q_iinc1 70 rfl 1 k_i1 rfl (by decide) dX6_twins_67 ?_
            refine q_goto 25 (by decide) dX6_twins_70 ?_
            refine q_loc (ih (by omega) _ ?_) (q_sub1 rfl (q_sub1 rfl (q_sub1 rfl (q_sub1 rfl (q_sub1 rfl q_sub0)))))
            · rw [h_t]
              simp only [cnt, twa]
              rw [decide_eq_true h_ex, Bool.true_and]
              first
                | (rw [h42, h51, h61]; rfl)
                | (rw [h42, h51]; rfl)
                | (rw [h42]; rfl)
          · refine q_iinc1 67 rfl 1 k_i1 rfl (by decide) dX6_twins_64 ?_
            refine q_iinc1 70 rfl 1 k_i1 rfl (by decide) dX6_twins_67 ?_
            refine q_goto 25 (by decide) dX6_twins_70 ?_
            refine q_loc (ih (by omega) _ ?_) (q_sub1 rfl (q_sub1 rfl (q_sub1 rfl (q_sub1 rfl (q_sub1 rfl q_sub0)))))
            · rw [h_t]
              simp only [cnt, twa]
              rw [decide_eq_true h_ex, Bool.true_and]
              first
                | (rw [h42, h51, h61]; rfl)
                | (rw [h42, h51]; rfl)
                | (rw [h42]; rfl)
theorem twins6_a {Z : q_Zt} {s mc mz : Nat} {nm nw c : Nat} {Rl : Nat → Nat → Bool} (hG : GF ad G) (hX : CX ad G N nm nw c Rl) (hs : s < 512) (hx : q_R Γ mX6_twins (q_room 4 mc mz) Z 0 0 79 [(2, .int (nI (smf (fun a => cnt (fun b => decide (a < b) && twa Rl c s a b) c) (c))))] [] (LT ad, N, L, G)) : ∀ i, i ≤ c →  ∀ t : Nat, t = smf (fun a => cnt (fun b => decide (a < b) && twa Rl c s a b) c) i → q_R Γ mX6_twins (q_room 4 mc mz) Z 0 0 9 [(0, .ref (ad 0)), (1, .int (nI s)), (2, .int (nI t)), (3, .int (nI i))] [] (LT ad, N, L, G) := by
  refine dn_loop (c) ?_ ?_
  · intro t h_t
    obtain ⟨hnm, hnw, hv5, hv6, hN, hM, hnr⟩ := id hX
    have hc : N nm 0 = c := hN.1
    have hc9 : c ≤ 9 := hN.2.1
    refine q_iload_n 10 rfl rfl dX6_twins_9 ?_
    refine q_aload_n 11 rfl rfl dX6_twins_10 ?_
    refine q_getR 14 rfl fX6_23 rfl 0 t_0 hv5 dX6_twins_11 ?_
    refine q_getI 17 rfl fX6_115 rfl nm (tN hnm) dX6_twins_14 ?_
    refine q_icmp_ge 20 rfl 79 (by decide) (by omega) (by omega) dX6_twins_17 (fun h17 => ?_) (fun h17 => ?_)
    · subst h_t
      exact q_loc hx (q_sub1 rfl q_sub0)
    · exfalso; omega
  · intro i h_i ih t h_t
    obtain ⟨hnm, hnw, hv5, hv6, hN, hM, hnr⟩ := id hX
    have hc : N nm 0 = c := hN.1
    have hc9 : c ≤ 9 := hN.2.1
    refine q_iload_n 10 rfl rfl dX6_twins_9 ?_
    refine q_aload_n 11 rfl rfl dX6_twins_10 ?_
    refine q_getR 14 rfl fX6_23 rfl 0 t_0 hv5 dX6_twins_11 ?_
    refine q_getI 17 rfl fX6_115 rfl nm (tN hnm) dX6_twins_14 ?_
    refine q_icmp_ge 20 rfl 79 (by decide) (by omega) (by omega) dX6_twins_17 (fun h17 => ?_) (fun h17 => ?_)
    · exfalso; omega
    · refine q_iload_n 21 rfl rfl dX6_twins_20 ?_
      refine q_iconst 22 rfl 1 k_i1 dX6_twins_21 ?_
      refine q_iadd 23 rfl dX6_twins_22 ?_
      refine q_istore 25 rfl (by decide) dX6_twins_23 ?_
      refine q_loc (twins6_b (Rl := Rl) (nm := nm) (nw := nw) (c := c) (t0 := t) hG hX hs h_i ?_ (i + 1) (by omega) (by omega) _ ?_) (q_sub1 rfl (q_sub1 rfl (q_sub1 rfl (q_sub1 rfl (q_sub1 rfl q_sub0)))))
      rotate_left
      · rw [cnt_0 (fun j hj => by rw [decide_eq_false (by omega), Bool.false_and])]; rfl
      refine q_iinc1 76 rfl 1 k_i1 rfl (by decide) dX6_twins_73 ?_
      refine q_goto 9 (by decide) dX6_twins_76 ?_
      refine q_loc (ih _ ?_) (q_sub1 rfl (q_sub1 rfl (q_sub1 rfl (q_sub1 rfl q_sub0))))
      · rw [h_t]; rfl
theorem k_twins6 {s : Nat} {nm nw c : Nat} {Rl : Nat → Nat → Bool} (hG : GF ad G) (hX : CX ad G N nm nw c Rl) (hsd : can6 N nm nw c Rl (N nw 6) = s) : q_Con Γ mX6_twins 4 0 0 [.ref (ad 0)] (LT ad, N, L, G) (q_is (some (.int (nI (twn Rl c s)))) (LT ad, N, L, G)) := by
  obtain ⟨hnm, hnw, hv5, hv6, hN, hM, hnr⟩ := id hX
  have hc : N nm 0 = c := hN.1
  have hc9 : c ≤ 9 := hN.2.1
  obtain ⟨hkd, hms, hpr, hpf, hps, hg9, hgn, hga, hh6, hhp, hhl, hhi, hod, ho1⟩ := id hM
  have hs9 : s < 512 := hsd ▸ can_lt hc9
  have hsc : s < 2 ^ c := hsd ▸ mk_lt _ c
  refine q_con (by decide) rfl rfl (Nat.le_of_ble_eq_true rfl) ?_
  refine q_aload_n 1 rfl rfl dX6_twins_0 ?_
  refine q_cV0 4 rfl lX6_183 (k_possS hG hX hsd) rfl 0 t_0 rfl rfl rfl dX6_twins_1 ?_
  refine q_istore_n 5 rfl (by decide) dX6_twins_4 ?_
  refine q_iconst 6 rfl 0 k_i0 dX6_twins_5 ?_
  refine q_istore_n 7 rfl (by decide) dX6_twins_6 ?_
  refine q_iconst 8 rfl 0 k_i0 dX6_twins_7 ?_
  refine q_istore_n 9 rfl (by decide) dX6_twins_8 ?_
  refine q_loc (twins6_a (Rl := Rl) (nm := nm) (nw := nw) (c := c) hG hX hs9 ?_ 0 (by omega) _ rfl) (q_sub1 rfl (q_sub1 rfl (q_sub1 rfl (q_sub1 rfl q_sub0))))
  refine q_iload_n 80 rfl rfl dX6_twins_79 ?_
  refine q_iret rfl dX6_twins_80 ?_
  exact ⟨rfl, rfl⟩
end
