def CX (ad : Nat → Nat) (G : Nat → Nat → Option Nat) (N : Nat → Nat → Nat) (nm nw c : Nat) (Rl : Nat → Nat → Bool) : Prop := isN nm ∧ isM nw ∧ G 0 5 = some (ad nm) ∧ G 0 6 = some (ad nw) ∧ CN N nm c ∧ CM N nw c ∧ (∀ g, g < c → N 36 g = mk (Rl g) c)
abbrev okh6 (N : Nat → Nat → Nat) (nm nw k n : Nat) : Bool := okh (N (nm + 1)) (lt6 N nm) (N (nw + 6)) (N (nw + 7)) (N (nw + 8)) k n
abbrev can6 (N : Nat → Nat → Nat) (nm nw c : Nat) (Rl : Nat → Nat → Bool) (k : Nat) : Nat := can c (N (nm + 1)) (lt6 N nm) (N (nw + 6)) (N (nw + 7)) (N (nw + 8)) (N nw 9) Rl (N (nw + 4)) (N (nw + 5)) k
theorem mk_lt9 {p : Nat → Bool} {c : Nat} (hc : c ≤ 9) : mk p c < 512 := Nat.lt_of_lt_of_le (mk_lt p c) (Nat.pow_le_pow_right (n := 2) (by decide) hc)
theorem ansd2 {Rl : Nat → Nat → Bool} {c g : Nat} (hg : g < c) : 1 * 2 ^ g = mk (fun n => decide (aof Rl g n = 2)) c := by
  apply bit_ext
  intro i
  rw [pow_bit, mk_bit]
  by_cases e : i = g
  · subst e; simp [aof, hg]
  · have e2 : ¬ g = i := fun q => e q.symm
    by_cases hr : Rl g i = true <;> simp [aof, e, e2, hr]
theorem ansd1 {Rl : Nat → Nat → Bool} {c g : Nat} (hc : c ≤ 9) : mk (Rl g) c &&& (1 * 2 ^ g ^^^ 4294967295) &&& mk (fun _ => true) c = mk (fun n => decide (aof Rl g n = 1)) c := by
  rw [mk_clr _ _ (by omega), mk_and]
  apply mk_ext
  intro i hi
  by_cases e : i = g
  · subst e; simp [aof]
  · by_cases hr : Rl g i = true <;> simp [aof, e, hr]
theorem ansd0 {Rl : Nat → Nat → Bool} {c g : Nat} (hc : c ≤ 9) : (mk (Rl g) c ^^^ 4294967295) &&& (1 * 2 ^ g ^^^ 4294967295) &&& mk (fun _ => true) c = mk (fun n => decide (aof Rl g n = 0)) c := by
  rw [Nat.and_comm, ← Nat.and_assoc, mk_andN _ _ (by omega), mk_clr _ _ (by omega)]
  apply mk_ext
  intro i hi
  by_cases e : i = g
  · subst e; simp [aof]
  · by_cases hr : Rl g i = true <;> simp [aof, e, hr]
section
variable {Γ : q_G} {ad : Nat → Nat} {N : Nat → Nat → Nat} {L : Nat → Nat → Int} {G : Nat → Nat → Option Nat}
theorem k_isName {X : Nat} {nm nw c : Nat} {Rl : Nat → Nat → Bool} (hG : GF ad G) (hX : CX ad G N nm nw c Rl) (hXX : X < 4294967296) : q_Con Γ mX6_isName 1 0 0 [.ref (ad 0), .int (nI X)] (LT ad, N, L, G) (q_is (some (.int (nI ((decide (X < c)).toNat)))) (LT ad, N, L, G)) := by
  obtain ⟨hnm, hnw, h5, h6, hN, hM, hnr⟩ := id hX
  have hc : N nm 0 = c := hN.1
  have hc9 : c ≤ 9 := hN.2.1
  refine q_con (by decide) rfl rfl (Nat.le_of_ble_eq_true rfl) ?_
  refine q_iload_n 1 rfl rfl dX6_isName_0 ?_
  refine q_iconst 2 rfl 0 k_i0 dX6_isName_1 ?_
  refine q_aload_n 3 rfl rfl dX6_isName_2 ?_
  refine q_getR 6 rfl fX6_23 rfl 0 t_0 h5 dX6_isName_3 ?_
  refine q_getI 9 rfl fX6_115 rfl nm (tN hnm) dX6_isName_6 ?_
  refine q_iconst 10 rfl 1 k_i1 dX6_isName_9 ?_
  refine q_isubG 11 rfl (by omega) dX6_isName_10 ?_
  refine q_cS3 14 rfl lX6_87 (k_within1 hXX (by omega) (by omega)) rfl rfl rfl dX6_isName_11 ?_
  refine q_zret rfl (by first | exact q_n0 | exact q_n1 | exact q_nb _) dX6_isName_14 ?_
  rw [decide_eq_decide.mpr (by omega : (X < c) ↔ (0 ≤ X ∧ X < N nm 0))]
  exact ⟨rfl, rfl⟩
theorem k_allNames {nm nw c : Nat} {Rl : Nat → Nat → Bool} (hG : GF ad G) (hX : CX ad G N nm nw c Rl) : q_Con Γ mX6_allNames 0 0 0 [.ref (ad 0)] (LT ad, N, L, G) (q_is (some (.int (nI (mk (fun _ => true) c)))) (LT ad, N, L, G)) := by
  obtain ⟨hnm, hnw, h5, h6, hN, hM, hnr⟩ := id hX
  have hc : N nm 0 = c := hN.1
  have hc9 : c ≤ 9 := hN.2.1
  refine q_con (by decide) rfl rfl (Nat.le_of_ble_eq_true rfl) ?_
  refine q_iconst 1 rfl 1 k_i1 dX6_allNames_0 ?_
  refine q_aload_n 2 rfl rfl dX6_allNames_1 ?_
  refine q_getR 5 rfl fX6_23 rfl 0 t_0 h5 dX6_allNames_2 ?_
  refine q_getI 8 rfl fX6_115 rfl nm (tN hnm) dX6_allNames_5 ?_
  refine q_ishl 9 rfl (by omega) dX6_allNames_8 ?_
  refine q_iconst 10 rfl 1 k_i1 dX6_allNames_9 ?_
  refine q_isub 11 rfl (by rw [Nat.one_mul]; exact Nat.one_le_two_pow) dX6_allNames_10 ?_
  refine q_iret rfl dX6_allNames_11 ?_
  rw [mk_all, Nat.one_mul, hc]
  exact ⟨rfl, rfl⟩
theorem k_answeredSo {g a : Nat} {nm nw c : Nat} {Rl : Nat → Nat → Bool} (hG : GF ad G) (hX : CX ad G N nm nw c Rl) (hg : g < c) (ha : a ≤ 2) : q_Con Γ mX6_answeredSo 1 0 0 [.ref (ad 0), .int (nI g), .int (nI a)] (LT ad, N, L, G) (q_is (some (.int (nI (mk (fun n => decide (aof Rl g n = a)) c)))) (LT ad, N, L, G)) := by
  obtain ⟨hnm, hnw, h5, h6, hN, hM, hnr⟩ := id hX
  have hc : N nm 0 = c := hN.1
  have hc9 : c ≤ 9 := hN.2.1
  refine q_con (by decide) rfl rfl (Nat.le_of_ble_eq_true rfl) ?_
  refine q_iconst 1 rfl 1 k_i1 dX6_answeredSo_0 ?_
  refine q_iload_n 2 rfl rfl dX6_answeredSo_1 ?_
  refine q_ishl 3 rfl (by omega) dX6_answeredSo_2 ?_
  refine q_istore_n 4 rfl (by decide) dX6_answeredSo_3 ?_
  refine q_iload_n 5 rfl rfl dX6_answeredSo_4 ?_
  refine q_iconst 6 rfl 2 k_i2 dX6_answeredSo_5 ?_
  refine q_icmp_ne 9 rfl 11 (by decide) (by omega) (by omega) dX6_answeredSo_6 (fun g6 => ?_) (fun g6 => ?_)
  · refine q_iload_n 12 rfl rfl dX6_answeredSo_11 ?_
    refine q_iconst 13 rfl 1 k_i1 dX6_answeredSo_12 ?_
    refine q_icmp_ne 16 rfl 25 (by decide) (by omega) (by omega) dX6_answeredSo_13 (fun h13 => ?_) (fun h13 => ?_)
    · refine q_aload_n 26 rfl rfl dX6_answeredSo_25 ?_
      refine q_getR 29 rfl fX6_54 rfl 0 t_0 (g_0_12 hG) dX6_answeredSo_26 ?_
      refine q_iload_n 30 rfl rfl dX6_answeredSo_29 ?_
      refine q_iald 31 rfl 36 t_36 (by omega) (by decide) dX6_answeredSo_30 ?_
      refine q_iconst 32 rfl 4294967295 k_im1 dX6_answeredSo_31 ?_
      refine q_ixor 33 rfl dX6_answeredSo_32 ?_
      refine q_istore 35 rfl (by decide) dX6_answeredSo_33 ?_
      refine q_iload 37 rfl rfl dX6_answeredSo_35 ?_
      refine q_iload_n 38 rfl rfl dX6_answeredSo_37 ?_
      refine q_iconst 39 rfl 4294967295 k_im1 dX6_answeredSo_38 ?_
      refine q_ixor 40 rfl dX6_answeredSo_39 ?_
      refine q_iand 41 rfl dX6_answeredSo_40 ?_
      refine q_aload_n 42 rfl rfl dX6_answeredSo_41 ?_
      refine q_cV0 45 rfl lX6_287 (k_allNames hG hX) rfl 0 t_0 rfl rfl rfl dX6_answeredSo_42 ?_
      refine q_iand 46 rfl dX6_answeredSo_45 ?_
      refine q_iret rfl dX6_answeredSo_46 ?_
      first
        | (have e : a = 1 := h13; subst e; exact ⟨by rw [hnr g hg, ansd1 hc9], rfl⟩)
        | (have e : a = 0 := by omega
           subst e; exact ⟨by rw [hnr g hg, ansd0 hc9], rfl⟩)
    · refine q_aload_n 17 rfl rfl dX6_answeredSo_16 ?_
      refine q_getR 20 rfl fX6_54 rfl 0 t_0 (g_0_12 hG) dX6_answeredSo_17 ?_
      refine q_iload_n 21 rfl rfl dX6_answeredSo_20 ?_
      refine q_iald 22 rfl 36 t_36 (by omega) (by decide) dX6_answeredSo_21 ?_
      refine q_goto 33 (by decide) dX6_answeredSo_22 ?_
      refine q_istore 35 rfl (by decide) dX6_answeredSo_33 ?_
      refine q_iload 37 rfl rfl dX6_answeredSo_35 ?_
      refine q_iload_n 38 rfl rfl dX6_answeredSo_37 ?_
      refine q_iconst 39 rfl 4294967295 k_im1 dX6_answeredSo_38 ?_
      refine q_ixor 40 rfl dX6_answeredSo_39 ?_
      refine q_iand 41 rfl dX6_answeredSo_40 ?_
      refine q_aload_n 42 rfl rfl dX6_answeredSo_41 ?_
      refine q_cV0 45 rfl lX6_287 (k_allNames hG hX) rfl 0 t_0 rfl rfl rfl dX6_answeredSo_42 ?_
      refine q_iand 46 rfl dX6_answeredSo_45 ?_
      refine q_iret rfl dX6_answeredSo_46 ?_
      first
        | (have e : a = 1 := h13; subst e; exact ⟨by rw [hnr g hg, ansd1 hc9], rfl⟩)
        | (have e : a = 0 := by omega
           subst e; exact ⟨by rw [hnr g hg, ansd0 hc9], rfl⟩)
  · refine q_iload_n 10 rfl rfl dX6_answeredSo_9 ?_
    refine q_iret rfl dX6_answeredSo_10 ?_
    have e : a = 2 := by omega
    subst e
    exact ⟨by rw [ansd2 (Rl := Rl) hg], rfl⟩
theorem heard_lp {Z : q_Zt} {mc mz : Nat} {nm nw c : Nat} {Rl : Nat → Nat → Bool} (hG : GF ad G) (hX : CX ad G N nm nw c Rl) (hx : q_R Γ mX6_possibleByHeard (q_room 2 mc mz) Z 0 0 73 [(1, .int (nI (mk (okh6 N nm nw (N nw 9)) c)))] [] (LT ad, N, L, G)) : ∀ i, i ≤ N nw 9 →  ∀ s : Nat, s = mk (okh6 N nm nw i) c → q_R Γ mX6_possibleByHeard (q_room 2 mc mz) Z 0 0 7 [(0, .ref (ad 0)), (1, .int (nI s)), (2, .int (nI i))] [] (LT ad, N, L, G) := by
  refine dn_loop (N nw 9) ?_ ?_
  · intro s h_s
    obtain ⟨hnm, hnw, h5, h6, hN, hM, hnr⟩ := id hX
    have hc : N nm 0 = c := hN.1
    have hc9 : c ≤ 9 := hN.2.1
    have hh6 : N nw 9 ≤ 6 := hM.2.2.2.2.2.2.2.2.1
    refine q_iload_n 8 rfl rfl dX6_possibleByHeard_7 ?_
    refine q_aload_n 9 rfl rfl dX6_possibleByHeard_8 ?_
    refine q_getR 12 rfl fX6_30 rfl 0 t_0 h6 dX6_possibleByHeard_9 ?_
    refine q_getI 15 rfl fX6_176 rfl nw (tM hnw) dX6_possibleByHeard_12 ?_
    refine q_icmp_ge 18 rfl 73 (by decide) (by omega) (by omega) dX6_possibleByHeard_15 (fun h15 => ?_) (fun h15 => ?_)
    · subst h_s
      exact q_loc hx (q_sub1 rfl q_sub0)
    · exfalso; omega
  · intro i h_i ih s h_s
    obtain ⟨hnm, hnw, h5, h6, hN, hM, hnr⟩ := id hX
    have hc : N nm 0 = c := hN.1
    have hc9 : c ≤ 9 := hN.2.1
    have hh6 : N nw 9 ≤ 6 := hM.2.2.2.2.2.2.2.2.1
    have b1 := hM.2.2.2.2.2.2.2.2.2.1 i h_i
    have b2 := hM.2.2.2.2.2.2.2.2.2.2.1 i h_i
    have b3 := hM.2.2.2.2.2.2.2.2.2.2.2.1 i h_i
    refine q_iload_n 8 rfl rfl dX6_possibleByHeard_7 ?_
    refine q_aload_n 9 rfl rfl dX6_possibleByHeard_8 ?_
    refine q_getR 12 rfl fX6_30 rfl 0 t_0 h6 dX6_possibleByHeard_9 ?_
    refine q_getI 15 rfl fX6_176 rfl nw (tM hnw) dX6_possibleByHeard_12 ?_
    refine q_icmp_ge 18 rfl 73 (by decide) (by omega) (by omega) dX6_possibleByHeard_15 (fun h15 => ?_) (fun h15 => ?_)
    · exfalso; omega
    · refine q_aload_n 19 rfl rfl dX6_possibleByHeard_18 ?_
      refine q_getR 22 rfl fX6_23 rfl 0 t_0 h5 dX6_possibleByHeard_19 ?_
      refine q_aload_n 23 rfl rfl dX6_possibleByHeard_22 ?_
      refine q_getR 26 rfl fX6_30 rfl 0 t_0 h6 dX6_possibleByHeard_23 ?_
      refine q_getR 29 rfl fX6_304 rfl nw (tM hnw) (gM_10 hnw hG) dX6_possibleByHeard_26 ?_
      refine q_iload_n 30 rfl rfl dX6_possibleByHeard_29 ?_
      refine q_iald 31 rfl (nw + 6) (tM6 hnw) (by omega) (by decide) dX6_possibleByHeard_30 ?_
      refine q_aload_n 32 rfl rfl dX6_possibleByHeard_31 ?_
      refine q_getR 35 rfl fX6_30 rfl 0 t_0 h6 dX6_possibleByHeard_32 ?_
      refine q_getR 38 rfl fX6_307 rfl nw (tM hnw) (gM_11 hnw hG) dX6_possibleByHeard_35 ?_
      refine q_iload_n 39 rfl rfl dX6_possibleByHeard_38 ?_
      refine q_iald 40 rfl (nw + 7) (tM7 hnw) (by omega) (by decide) dX6_possibleByHeard_39 ?_
      refine q_cV2 43 rfl lX6_310 (k_withL hG hnm hN b1 b2) rfl nm (tN hnm) rfl rfl rfl dX6_possibleByHeard_40 ?_
      refine q_istore_n 44 rfl (by decide) dX6_possibleByHeard_43 ?_
      refine q_iload_n 45 rfl rfl dX6_possibleByHeard_44 ?_
      refine q_aload_n 46 rfl rfl dX6_possibleByHeard_45 ?_
      refine q_getR 49 rfl fX6_30 rfl 0 t_0 h6 dX6_possibleByHeard_46 ?_
      refine q_getR 52 rfl fX6_313 rfl nw (tM hnw) (gM_12 hnw hG) dX6_possibleByHeard_49 ?_
      refine q_iload_n 53 rfl rfl dX6_possibleByHeard_52 ?_
      refine q_iald 54 rfl (nw + 8) (tM8 hnw) (by omega) (by decide) dX6_possibleByHeard_53 ?_
      refine q_iconst 55 rfl 1 k_i1 dX6_possibleByHeard_54 ?_
      refine q_icmp_ne 58 rfl 62 (by decide) (by omega) (by omega) dX6_possibleByHeard_55 (fun h55 => ?_) (fun h55 => ?_)
      · refine q_iload_n 63 rfl rfl dX6_possibleByHeard_62 ?_
        refine q_iconst 64 rfl 4294967295 k_im1 dX6_possibleByHeard_63 ?_
        refine q_ixor 65 rfl dX6_possibleByHeard_64 ?_
        refine q_iand 66 rfl dX6_possibleByHeard_65 ?_
        refine q_istore_n 67 rfl (by decide) dX6_possibleByHeard_66 ?_
        refine q_iinc1 70 rfl 1 k_i1 rfl (by decide) dX6_possibleByHeard_67 ?_
        refine q_goto 7 (by decide) dX6_possibleByHeard_70 ?_
        refine q_loc (ih _ ?_) (q_sub1 rfl (q_sub1 rfl (q_sub1 rfl q_sub0)))
        · rw [h_s]
          first
            | (rw [mk_and]; refine mk_ext (fun n hn => ?_); have e1 : decide (N (nw + 8) i = 1) = true := decide_eq_true (by omega); simp only [okh6, okh, tst, e1]; simp)
            | (rw [mk_andN _ _ (by omega)]; refine mk_ext (fun n hn => ?_); have e1 : decide (N (nw + 8) i = 1) = false := decide_eq_false (by omega); simp only [okh6, okh, tst, e1]; simp)
      · refine q_iload_n 59 rfl rfl dX6_possibleByHeard_58 ?_
        refine q_goto 65 (by decide) dX6_possibleByHeard_59 ?_
        refine q_iand 66 rfl dX6_possibleByHeard_65 ?_
        refine q_istore_n 67 rfl (by decide) dX6_possibleByHeard_66 ?_
        refine q_iinc1 70 rfl 1 k_i1 rfl (by decide) dX6_possibleByHeard_67 ?_
        refine q_goto 7 (by decide) dX6_possibleByHeard_70 ?_
        refine q_loc (ih _ ?_) (q_sub1 rfl (q_sub1 rfl (q_sub1 rfl q_sub0)))
        · rw [h_s]
          first
            | (rw [mk_and]; refine mk_ext (fun n hn => ?_); have e1 : decide (N (nw + 8) i = 1) = true := decide_eq_true (by omega); simp only [okh6, okh, tst, e1]; simp)
            | (rw [mk_andN _ _ (by omega)]; refine mk_ext (fun n hn => ?_); have e1 : decide (N (nw + 8) i = 1) = false := decide_eq_false (by omega); simp only [okh6, okh, tst, e1]; simp)
theorem k_byHeard {nm nw c : Nat} {Rl : Nat → Nat → Bool} (hG : GF ad G) (hX : CX ad G N nm nw c Rl) : q_Con Γ mX6_possibleByHeard 2 0 0 [.ref (ad 0)] (LT ad, N, L, G) (q_is (some (.int (nI (mk (okh6 N nm nw (N nw 9)) c)))) (LT ad, N, L, G)) := by
  obtain ⟨hnm, hnw, h5, h6, hN, hM, hnr⟩ := id hX
  have hc : N nm 0 = c := hN.1
  have hc9 : c ≤ 9 := hN.2.1
  refine q_con (by decide) rfl rfl (Nat.le_of_ble_eq_true rfl) ?_
  refine q_aload_n 1 rfl rfl dX6_possibleByHeard_0 ?_
  refine q_cV0 4 rfl lX6_287 (k_allNames hG hX) rfl 0 t_0 rfl rfl rfl dX6_possibleByHeard_1 ?_
  refine q_istore_n 5 rfl (by decide) dX6_possibleByHeard_4 ?_
  refine q_iconst 6 rfl 0 k_i0 dX6_possibleByHeard_5 ?_
  refine q_istore_n 7 rfl (by decide) dX6_possibleByHeard_6 ?_
  refine q_loc (heard_lp (Rl := Rl) (nm := nm) (nw := nw) (c := c) hG hX ?_ 0 (by omega) _ rfl) (q_sub1 rfl (q_sub1 rfl (q_sub1 rfl q_sub0)))
  refine q_iload_n 74 rfl rfl dX6_possibleByHeard_73 ?_
  refine q_iret rfl dX6_possibleByHeard_74 ?_
  exact ⟨rfl, rfl⟩
theorem poss_lp {Z : q_Zt} {mc mz : Nat} {nm nw c : Nat} {Rl : Nat → Nat → Bool} (hG : GF ad G) (hX : CX ad G N nm nw c Rl) (hx : q_R Γ mX6_possible (q_room 3 mc mz) Z 0 0 49 [(1, .int (nI (can6 N nm nw c Rl (N nw 6))))] [] (LT ad, N, L, G)) : ∀ i, i ≤ N nw 6 →  ∀ s : Nat, s = can6 N nm nw c Rl i → q_R Γ mX6_possible (q_room 3 mc mz) Z 0 0 7 [(0, .ref (ad 0)), (1, .int (nI s)), (2, .int (nI i))] [] (LT ad, N, L, G) := by
  refine dn_loop (N nw 6) ?_ ?_
  · intro s h_s
    obtain ⟨hnm, hnw, h5, h6, hN, hM, hnr⟩ := id hX
    have hc : N nm 0 = c := hN.1
    have hc9 : c ≤ 9 := hN.2.1
    have hg9 : N nw 6 ≤ 9 := hM.2.2.2.2.2.1
    refine q_iload_n 8 rfl rfl dX6_possible_7 ?_
    refine q_aload_n 9 rfl rfl dX6_possible_8 ?_
    refine q_getR 12 rfl fX6_30 rfl 0 t_0 h6 dX6_possible_9 ?_
    refine q_getI 15 rfl fX6_170 rfl nw (tM hnw) dX6_possible_12 ?_
    refine q_icmp_ge 18 rfl 49 (by decide) (by omega) (by omega) dX6_possible_15 (fun h15 => ?_) (fun h15 => ?_)
    · subst h_s
      exact q_loc hx (q_sub1 rfl q_sub0)
    · exfalso; omega
  · intro i h_i ih s h_s
    obtain ⟨hnm, hnw, h5, h6, hN, hM, hnr⟩ := id hX
    have hc : N nm 0 = c := hN.1
    have hc9 : c ≤ 9 := hN.2.1
    have hg9 : N nw 6 ≤ 9 := hM.2.2.2.2.2.1
    have b1 := hM.2.2.2.2.2.2.1 i h_i
    have b2 := hM.2.2.2.2.2.2.2.1 i h_i
    refine q_iload_n 8 rfl rfl dX6_possible_7 ?_
    refine q_aload_n 9 rfl rfl dX6_possible_8 ?_
    refine q_getR 12 rfl fX6_30 rfl 0 t_0 h6 dX6_possible_9 ?_
    refine q_getI 15 rfl fX6_170 rfl nw (tM hnw) dX6_possible_12 ?_
    refine q_icmp_ge 18 rfl 49 (by decide) (by omega) (by omega) dX6_possible_15 (fun h15 => ?_) (fun h15 => ?_)
    · exfalso; omega
    · refine q_iload_n 19 rfl rfl dX6_possible_18 ?_
      refine q_aload_n 20 rfl rfl dX6_possible_19 ?_
      refine q_aload_n 21 rfl rfl dX6_possible_20 ?_
      refine q_getR 24 rfl fX6_30 rfl 0 t_0 h6 dX6_possible_21 ?_
      refine q_getR 27 rfl fX6_202 rfl nw (tM hnw) (gM_7 hnw hG) dX6_possible_24 ?_
      refine q_iload_n 28 rfl rfl dX6_possible_27 ?_
      refine q_iald 29 rfl (nw + 4) (tM4 hnw) (by omega) (by decide) dX6_possible_28 ?_
      refine q_aload_n 30 rfl rfl dX6_possible_29 ?_
      refine q_getR 33 rfl fX6_30 rfl 0 t_0 h6 dX6_possible_30 ?_
      refine q_getR 36 rfl fX6_205 rfl nw (tM hnw) (gM_8 hnw hG) dX6_possible_33 ?_
      refine q_iload_n 37 rfl rfl dX6_possible_36 ?_
      refine q_iald 38 rfl (nw + 5) (tM5 hnw) (by omega) (by decide) dX6_possible_37 ?_
      refine q_cV2 41 rfl lX6_208 (k_answeredSo hG hX b1 b2) rfl 0 t_0 rfl rfl rfl dX6_possible_38 ?_
      refine q_iand 42 rfl dX6_possible_41 ?_
      refine q_istore_n 43 rfl (by decide) dX6_possible_42 ?_
      refine q_iinc1 46 rfl 1 k_i1 rfl (by decide) dX6_possible_43 ?_
      refine q_goto 7 (by decide) dX6_possible_46 ?_
      refine q_loc (ih _ ?_) (q_sub1 rfl (q_sub1 rfl (q_sub1 rfl q_sub0)))
      · rw [h_s]
        simp only [can6, can]
        rw [mk_and]
        refine mk_ext (fun n hn => ?_)
        simp only [okg]
        rw [Bool.and_assoc]
theorem k_possible {nm nw c : Nat} {Rl : Nat → Nat → Bool} (hG : GF ad G) (hX : CX ad G N nm nw c Rl) : q_Con Γ mX6_possible 3 0 0 [.ref (ad 0)] (LT ad, N, L, G) (q_is (some (.int (nI (can6 N nm nw c Rl (N nw 6))))) (LT ad, N, L, G)) := by
  obtain ⟨hnm, hnw, h5, h6, hN, hM, hnr⟩ := id hX
  have hc : N nm 0 = c := hN.1
  have hc9 : c ≤ 9 := hN.2.1
  refine q_con (by decide) rfl rfl (Nat.le_of_ble_eq_true rfl) ?_
  refine q_aload_n 1 rfl rfl dX6_possible_0 ?_
  refine q_cV0 4 rfl lX6_199 (k_byHeard hG hX) rfl 0 t_0 rfl rfl rfl dX6_possible_1 ?_
  refine q_istore_n 5 rfl (by decide) dX6_possible_4 ?_
  refine q_iconst 6 rfl 0 k_i0 dX6_possible_5 ?_
  refine q_istore_n 7 rfl (by decide) dX6_possible_6 ?_
  refine q_loc (poss_lp (Rl := Rl) (nm := nm) (nw := nw) (c := c) hG hX ?_ 0 (by omega) _ (mk_ext (fun n _ => (Bool.and_true _).symm))) (q_sub1 rfl (q_sub1 rfl (q_sub1 rfl q_sub0)))
  refine q_iload_n 50 rfl rfl dX6_possible_49 ?_
  refine q_iret rfl dX6_possible_50 ?_
  exact ⟨rfl, rfl⟩
theorem k_can6 {nm nw c : Nat} {Rl : Nat → Nat → Bool} (hG : GF ad G) (hX : CX ad G N nm nw c Rl) : q_Con Γ mX6_can 4 0 0 [.ref (ad 0)] (LT ad, N, L, G) (q_is (some (.int (nI (can6 N nm nw c Rl (N nw 6))))) (LT ad, N, L, G)) := by
  refine q_con (by decide) rfl rfl (Nat.le_of_ble_eq_true rfl) ?_
  refine q_aload_n 1 rfl rfl dX6_can_0 ?_
  refine q_cV0 4 rfl lX6_183 (k_possible hG hX) rfl 0 t_0 rfl rfl rfl dX6_can_1 ?_
  refine q_iret rfl dX6_can_4 ?_
  exact ⟨rfl, rfl⟩
theorem odds6_lp {Z : q_Zt} {s mc mz : Nat} {nm nw c : Nat} {Rl : Nat → Nat → Bool} (hG : GF ad G) (hX : CX ad G N nm nw c Rl) (hs : s < 4294967296) (hx : q_R Γ mX6_oddsOf (q_room 1 mc mz) Z 0 0 41 [(2, .int (nI (ods (N (nw + 1)) s (c))))] [] (LT ad, N, L, G)) : ∀ i, i ≤ c →  ∀ a : Nat, a = ods (N (nw + 1)) s i → q_R Γ mX6_oddsOf (q_room 1 mc mz) Z 0 0 4 [(0, .ref (ad 0)), (1, .int (nI s)), (2, .int (nI a)), (3, .int (nI i))] [] (LT ad, N, L, G) := by
  refine dn_loop (c) ?_ ?_
  · intro a h_a
    obtain ⟨hnm, hnw, h5, h6, hN, hM, hnr⟩ := id hX
    have hc : N nm 0 = c := hN.1
    have hc9 : c ≤ 9 := hN.2.1
    refine q_iload_n 5 rfl rfl dX6_oddsOf_4 ?_
    refine q_aload_n 6 rfl rfl dX6_oddsOf_5 ?_
    refine q_getR 9 rfl fX6_23 rfl 0 t_0 h5 dX6_oddsOf_6 ?_
    refine q_getI 12 rfl fX6_115 rfl nm (tN hnm) dX6_oddsOf_9 ?_
    refine q_icmp_ge 15 rfl 41 (by decide) (by omega) (by omega) dX6_oddsOf_12 (fun h12 => ?_) (fun h12 => ?_)
    · subst h_a
      exact q_loc hx (q_sub1 rfl q_sub0)
    · exfalso; omega
  · intro i h_i ih a h_a
    obtain ⟨hnm, hnw, h5, h6, hN, hM, hnr⟩ := id hX
    have hc : N nm 0 = c := hN.1
    have hc9 : c ≤ 9 := hN.2.1
    refine q_iload_n 5 rfl rfl dX6_oddsOf_4 ?_
    refine q_aload_n 6 rfl rfl dX6_oddsOf_5 ?_
    refine q_getR 9 rfl fX6_23 rfl 0 t_0 h5 dX6_oddsOf_6 ?_
    refine q_getI 12 rfl fX6_115 rfl nm (tN hnm) dX6_oddsOf_9 ?_
    refine q_icmp_ge 15 rfl 41 (by decide) (by omega) (by omega) dX6_oddsOf_12 (fun h12 => ?_) (fun h12 => ?_)
    · exfalso; omega
    · refine q_iload_n 16 rfl rfl dX6_oddsOf_15 ?_
      refine q_iload_n 17 rfl rfl dX6_oddsOf_16 ?_
      refine q_cS2 20 rfl lX6_166 (k_has hs (by omega)) rfl rfl rfl dX6_oddsOf_17 ?_
      refine q_if_eqB 23 rfl 35 (by decide) dX6_oddsOf_20 (fun h20 => ?_) (fun h20 => ?_)
      · refine q_iinc1 38 rfl 1 k_i1 rfl (by decide) dX6_oddsOf_35 ?_
        refine q_goto 4 (by decide) dX6_oddsOf_38 ?_
        refine q_loc (ih _ ?_) (q_sub1 rfl (q_sub1 rfl (q_sub1 rfl (q_sub1 rfl q_sub0))))
        · rw [h_a]
          simp only [ods]
          rw [h20]
          first
            | rfl
            | (rw [if_pos rfl]; done)
            | (rw [if_neg (by decide)]; rfl)
      · refine q_iload_n 24 rfl rfl dX6_oddsOf_23 ?_
        refine q_aload_n 25 rfl rfl dX6_oddsOf_24 ?_
        refine q_getR 28 rfl fX6_30 rfl 0 t_0 h6 dX6_oddsOf_25 ?_
        refine q_getR 31 rfl fX6_134 rfl nw (tM hnw) (gM_0 hnw hG) dX6_oddsOf_28 ?_
        refine q_iload_n 32 rfl rfl dX6_oddsOf_31 ?_
        refine q_iald 33 rfl (nw + 1) (tM1 hnw) (by omega) (by decide) dX6_oddsOf_32 ?_
        refine q_iadd 34 rfl dX6_oddsOf_33 ?_
        refine q_istore_n 35 rfl (by decide) dX6_oddsOf_34 ?_
        refine q_iinc1 38 rfl 1 k_i1 rfl (by decide) dX6_oddsOf_35 ?_
        refine q_goto 4 (by decide) dX6_oddsOf_38 ?_
        refine q_loc (ih _ ?_) (q_sub1 rfl (q_sub1 rfl (q_sub1 rfl (q_sub1 rfl q_sub0))))
        · rw [h_a]
          simp only [ods]
          rw [h20]
          first
            | rfl
            | (rw [if_pos rfl]; done)
            | (rw [if_neg (by decide)]; rfl)
theorem k_oddsOf {s : Nat} {nm nw c : Nat} {Rl : Nat → Nat → Bool} (hG : GF ad G) (hX : CX ad G N nm nw c Rl) (hs : s < 4294967296) : q_Con Γ mX6_oddsOf 1 0 0 [.ref (ad 0), .int (nI s)] (LT ad, N, L, G) (q_is (some (.int (nI (ods (N (nw + 1)) s c)))) (LT ad, N, L, G)) := by
  obtain ⟨hnm, hnw, h5, h6, hN, hM, hnr⟩ := id hX
  have hc : N nm 0 = c := hN.1
  have hc9 : c ≤ 9 := hN.2.1
  refine q_con (by decide) rfl rfl (Nat.le_of_ble_eq_true rfl) ?_
  refine q_iconst 1 rfl 0 k_i0 dX6_oddsOf_0 ?_
  refine q_istore_n 2 rfl (by decide) dX6_oddsOf_1 ?_
  refine q_iconst 3 rfl 0 k_i0 dX6_oddsOf_2 ?_
  refine q_istore_n 4 rfl (by decide) dX6_oddsOf_3 ?_
  refine q_loc (odds6_lp (Rl := Rl) (nm := nm) (nw := nw) (c := c) hG hX hs ?_ 0 (by omega) _ rfl) (q_sub1 rfl (q_sub1 rfl (q_sub1 rfl (q_sub1 rfl q_sub0))))
  refine q_iload_n 42 rfl rfl dX6_oddsOf_41 ?_
  refine q_iret rfl dX6_oddsOf_42 ?_
  exact ⟨rfl, rfl⟩
theorem k_applyLaw {nm nw c : Nat} (hG : GF ad G) (hnm : isN nm) (hnw : isM nw) (h5 : G 0 5 = some (ad nm)) (h6 : G 0 6 = some (ad nw)) (hN : CN N nm c) (hk : N nw 1 < 5) (hms : N nw 2 ≤ 8) : q_Con Γ mX6_applyLaw 4 0 0 [.ref (ad 0)] (LT ad, N, L, G) (q_is none (LT ad, fil N 36 (fun n => mk (nr6 N nm (N nw 1) (N nw 2) n) c) c, L, G)) := by
  refine q_con (by decide) rfl rfl (Nat.le_of_ble_eq_true rfl) ?_
  refine q_aload_n 1 rfl rfl dX6_applyLaw_0 ?_
  refine q_getR 4 rfl fX6_23 rfl 0 t_0 h5 dX6_applyLaw_1 ?_
  refine q_aload_n 5 rfl rfl dX6_applyLaw_4 ?_
  refine q_getR 8 rfl fX6_30 rfl 0 t_0 h6 dX6_applyLaw_5 ?_
  refine q_getI 11 rfl fX6_118 rfl nw (tM hnw) dX6_applyLaw_8 ?_
  refine q_aload_n 12 rfl rfl dX6_applyLaw_11 ?_
  refine q_getR 15 rfl fX6_30 rfl 0 t_0 h6 dX6_applyLaw_12 ?_
  refine q_getI 18 rfl fX6_121 rfl nw (tM hnw) dX6_applyLaw_15 ?_
  refine q_aload_n 19 rfl rfl dX6_applyLaw_18 ?_
  refine q_getR 22 rfl fX6_54 rfl 0 t_0 (g_0_12 hG) dX6_applyLaw_19 ?_
  refine q_cV3v 25 rfl lX6_300 (k_fillNear hG hnm hN (.inl rfl) t_36 hk hms) rfl nm (tN hnm) rfl rfl rfl dX6_applyLaw_22 ?_
  refine q_vret rfl dX6_applyLaw_25 ?_
  exact ⟨rfl, rfl⟩
end
