section
variable {Γ : q_G} {ad : Nat → Nat} {N : Nat → Nat → Nat} {L : Nat → Nat → Int} {G : Nat → Nat → Option Nat}
theorem k_takeMaid {S : Nat → Nat → Nat} {dn dm p tk st vl : Nat} (hG : GF ad G) (hr0 : G 2 0 = some (ad 1)) (hr2 : G 2 2 = some (ad dn)) (hr3 : G 2 3 = some (ad dm)) (hdn : isN dn) (hdm : isM dm) (hd : isD dn dm) (hl : N 2 1 ≤ 160) (ht : ∀ i, i < 160 → N 1 i < 128) (hp : p ≤ N 2 1) (hW : WFS S) (hR : CR S N dn dm) (hB : CB N dn dm) : q_Con Γ mX2_takeMaid 3 0 0 [.ref (ad 2)] (LT ad, P2 N p tk st vl 0, L, G) (RC ad L G N (bS (tldS S 3) (N 1) (N 2 1) 3 p) dn dm (cF S (N 1) (N 2 1) 3 p) (cP S (N 1) (N 2 1) 3 p st) (bE (N 1) (N 2 1) 3 p)) := by
  obtain ⟨a1, a2, a3, a4, a5, a6, a7, a8, a9, b1, b2, b3⟩ := id hR
  obtain ⟨f1, f2, f3, f4, f5, f6, f7, f8⟩ := id hB
  have hS0 := hW.1
  have hS3 := hW.2.2.2.2.1
  have hS5 := hW.2.2.2.2.2.2.2.2.1
  have hS6 := hW.2.2.2.2.2.2.2.2.2
  obtain ⟨t1, t2, t3, t4, t5, t6, t7, t8, t9⟩ := tkn_spec (t := N 1) hp
  unfold cF cP
  have cq : chkL S 3 = if S 0 6 = 1 then 4 else 0 := rfl
  have bq : bF (tldS S 3) (N 1) (N 2 1) 3 p = wrdf (N 1) (N 2 1) p 8 := rfl
  have bp : bP (tldS S 3) (N 1) (N 2 1) 3 p = tkS (N 1) (N 2 1) p := rfl
  have bs : bS (tldS S 3) (N 1) (N 2 1) 3 p = adM (tldS S 3) (N 1) (tkS (N 1) (N 2 1) p) (tkE (N 1) (N 2 1) p - tkS (N 1) (N 2 1) p) := rfl
  have be : bE (N 1) (N 2 1) 3 p = tkE (N 1) (N 2 1) p := rfl
  rw [bq, bp, bs, be, cq]
  have wok := wrdf_ok (t := N 1) (len := N 2 1) (p := p) (mx := 8)
  obtain ⟨N1, hN1⟩ : ∃ N1, q_s N 2 10 1 = N1 := ⟨_, rfl⟩
  have e1 : N1 1 = N 1 := by rw [← hN1]; exact q_s_ne (by omega)
  have el : N1 2 1 = N 2 1 := by rw [← hN1]; exact q_s_off (by omega)
  have fc1 : FC N N1 dn dm := by rw [← hN1]; exact FC.fld (Or.inr rfl)
  have cb1 : CB N1 dn dm := by rw [← hN1]; exact hB.fld hd
  have cr1 : CR (tldS S 3) N1 dn dm := by
    have := hR.tld hd (w := 3) (Or.inr rfl)
    rw [if_neg (by decide), hN1] at this
    exact this
  have h3 : S 0 6 = 1 ∨ (S 0 6 = 0 ∧ wrdf (N 1) (N 2 1) p 8 ≠ 0) ∨ (S 0 6 = 0 ∧ wrdf (N 1) (N 2 1) p 8 = 0) := by omega
  rcases h3 with hA | ⟨hA, hw⟩ | ⟨hA, hw⟩
  · rw [if_pos hA, if_pos (by decide), if_pos (by decide)]
    refine q_con (by decide) rfl rfl (Nat.le_of_ble_eq_true rfl) ?_
    refine q_aload_n 1 rfl rfl dX2_takeMaid_0 ?_
    refine q_getI 4 rfl fX2_37 rfl 2 t_2 dX2_takeMaid_1 ?_
    rw [P2_o (by decide) (by decide)]
    refine q_if_eq 7 rfl 13 (by decide) (by omega) dX2_takeMaid_4 (fun h4 => ?_) (fun h4 => ?_)
    · exfalso; omega
    · refine q_aload_n 8 rfl rfl dX2_takeMaid_7 ?_
      refine q_iconst 9 rfl 4 k_i4 dX2_takeMaid_8 ?_
      refine q_cV1 12 rfl lX2_50 (k_refuse hG) rfl 2 t_2 rfl rfl rfl dX2_takeMaid_9 ?_
      refine q_zret rfl (by first | exact q_n0 | exact q_n1 | exact q_nb _) dX2_takeMaid_12 ?_
      exact ⟨N, _, _, _, _, rfl, FC.rf, hB, Or.inl ⟨by decide, rfl, rfl⟩⟩
  · rw [if_neg (show ¬ S 0 6 = 1 by omega), if_neg (by decide), if_neg (by decide)]
    refine q_con (by decide) rfl rfl (Nat.le_of_ble_eq_true rfl) ?_
    refine q_aload_n 1 rfl rfl dX2_takeMaid_0 ?_
    refine q_getI 4 rfl fX2_37 rfl 2 t_2 dX2_takeMaid_1 ?_
    rw [P2_o (by decide) (by decide)]
    refine q_if_eq 7 rfl 13 (by decide) (by omega) dX2_takeMaid_4 (fun h4 => ?_) (fun h4 => ?_)
    · refine q_aload_n 14 rfl rfl dX2_takeMaid_13 ?_
      refine q_iconst 15 rfl 1 k_i1 dX2_takeMaid_14 ?_
      refine q_putZ 18 rfl pX2_37 (fun q => by cases q) rfl (by omega) 2 t_2 dX2_takeMaid_15 ?_
      rw [P2_so (by decide) (by decide)]
      rw [hN1]
      refine q_aload_n 19 rfl rfl dX2_takeMaid_18 ?_
      refine q_bipush 21 rfl 8 k_b8 dX2_takeMaid_19 ?_
      refine q_cV1 24 rfl lX2_86 (k_takeWord (N := N1) hG hr0 (by rw [el]; exact hl) (by rw [e1]; exact ht) (by rw [el]; exact hp) (by omega)) rfl 2 t_2 rfl rfl rfl dX2_takeMaid_21 ?_
      rw [e1, el]
      refine q_if_neD 27 rfl 29 (by decide) dX2_takeMaid_24 (fun h24 => ?_) (fun h24 => ?_)
      · exfalso; omega
      · refine q_iconst 28 rfl 0 k_i0 dX2_takeMaid_27 ?_
        refine q_zret rfl (by first | exact q_n0 | exact q_n1 | exact q_nb _) dX2_takeMaid_28 ?_
        rw [if_pos hw]
        exact ⟨N1, _, _, _, _, rfl, fc1, cb1, Or.inl ⟨hw, rfl, rfl⟩⟩
    · exfalso; omega
  · rw [if_neg (show ¬ S 0 6 = 1 by omega), if_neg (by decide), if_neg (by decide), hw]
    refine q_con (by decide) rfl rfl (Nat.le_of_ble_eq_true rfl) ?_
    refine q_aload_n 1 rfl rfl dX2_takeMaid_0 ?_
    refine q_getI 4 rfl fX2_37 rfl 2 t_2 dX2_takeMaid_1 ?_
    rw [P2_o (by decide) (by decide)]
    refine q_if_eq 7 rfl 13 (by decide) (by omega) dX2_takeMaid_4 (fun h4 => ?_) (fun h4 => ?_)
    · refine q_aload_n 14 rfl rfl dX2_takeMaid_13 ?_
      refine q_iconst 15 rfl 1 k_i1 dX2_takeMaid_14 ?_
      refine q_putZ 18 rfl pX2_37 (fun q => by cases q) rfl (by omega) 2 t_2 dX2_takeMaid_15 ?_
      rw [P2_so (by decide) (by decide)]
      rw [hN1]
      refine q_aload_n 19 rfl rfl dX2_takeMaid_18 ?_
      refine q_bipush 21 rfl 8 k_b8 dX2_takeMaid_19 ?_
      refine q_cV1 24 rfl lX2_86 (k_takeWord (N := N1) hG hr0 (by rw [el]; exact hl) (by rw [e1]; exact ht) (by rw [el]; exact hp) (by omega)) rfl 2 t_2 rfl rfl rfl dX2_takeMaid_21 ?_
      rw [e1, el]
      refine q_if_neD 27 rfl 29 (by decide) dX2_takeMaid_24 (fun h24 => ?_) (fun h24 => ?_)
      · rw [hw, if_neg (show ¬ (0 : Nat) ≠ 0 by decide)]
        refine q_aload_n 30 rfl rfl dX2_takeMaid_29 ?_
        refine q_getR 33 rfl fX2_19 rfl 2 t_2 hr2 dX2_takeMaid_30 ?_
        refine q_aload_n 34 rfl rfl dX2_takeMaid_33 ?_
        refine q_getR 37 rfl fX2_9 rfl 2 t_2 hr0 dX2_takeMaid_34 ?_
        refine q_aload_n 38 rfl rfl dX2_takeMaid_37 ?_
        refine q_getI 41 rfl fX2_89 rfl 2 t_2 dX2_takeMaid_38 ?_
        rw [P2_6]
        refine q_aload_n 42 rfl rfl dX2_takeMaid_41 ?_
        refine q_getI 45 rfl fX2_27 rfl 2 t_2 dX2_takeMaid_42 ?_
        rw [P2_4]
        refine q_aload_n 46 rfl rfl dX2_takeMaid_45 ?_
        refine q_getI 49 rfl fX2_89 rfl 2 t_2 dX2_takeMaid_46 ?_
        rw [P2_6]
        refine q_isub 50 rfl (by omega) dX2_takeMaid_49 ?_
        refine q_cV3v 53 rfl lX2_130 (k_writeDown (q := dn) hG hdn (by omega) (fun i hi => by rw [P2_ne (by decide), e1]; exact (t7 (wok hw).1).2 _ (by omega) (by omega)) (wok hw).2) rfl dn (tN hdn) rfl rfl rfl dX2_takeMaid_50 ?_
        rw [wdC_P2 (by omega) (by omega)]
        refine q_iconst 54 rfl 1 k_i1 dX2_takeMaid_53 ?_
        refine q_zret rfl (by first | exact q_n0 | exact q_n1 | exact q_nb _) dX2_takeMaid_54 ?_
        refine ⟨_, _, _, _, _, rfl, fc1.tr (FC.wd hd), cb1.wd hd (fun i hi => by rw [e1]; exact (t7 (wok hw).1).2 _ (by omega) (by omega)), Or.inr ⟨rfl, rfl, rfl, ?_⟩⟩
        have := cr1.addM (s := tkS (N 1) (N 2 1) p) (k := tkE (N 1) (N 2 1) p - tkS (N 1) (N 2 1) p) hd
        rw [e1] at this
        exact this
      · exfalso; omega
    · exfalso; omega
theorem k_takePair {S : Nat → Nat → Nat} {dn dm p tk st vl : Nat} (hG : GF ad G) (hr0 : G 2 0 = some (ad 1)) (hr2 : G 2 2 = some (ad dn)) (hr3 : G 2 3 = some (ad dm)) (hdn : isN dn) (hdm : isM dm) (hd : isD dn dm) (hl : N 2 1 ≤ 160) (ht : ∀ i, i < 160 → N 1 i < 128) (hp : p ≤ N 2 1) (hW : WFS S) (hR : CR S N dn dm) (hB : CB N dn dm) : q_Con Γ mX2_takePair 3 0 0 [.ref (ad 2)] (LT ad, P2 N p tk st vl 0, L, G) (RC ad L G N (bS (tldS S 2) (N 1) (N 2 1) 2 p) dn dm (cF S (N 1) (N 2 1) 2 p) (cP S (N 1) (N 2 1) 2 p st) (bE (N 1) (N 2 1) 2 p)) := by
  obtain ⟨a1, a2, a3, a4, a5, a6, a7, a8, a9, b1, b2, b3⟩ := id hR
  obtain ⟨f1, f2, f3, f4, f5, f6, f7, f8⟩ := id hB
  have hS0 := hW.1
  have hS3 := hW.2.2.2.2.1
  have hS5 := hW.2.2.2.2.2.2.2.2.1
  have hS6 := hW.2.2.2.2.2.2.2.2.2
  obtain ⟨t1, t2, t3, t4, t5, t6, t7, t8, t9⟩ := tkn_spec (t := N 1) hp
  unfold cF cP
  have cq : chkL S 2 = if S 0 3 = 5 then 5 else 0 := rfl
  have bq : bF (tldS S 2) (N 1) (N 2 1) 2 p = fPair (N 1) (N 2 1) p := rfl
  have bp : bP (tldS S 2) (N 1) (N 2 1) 2 p = pPair (N 1) (N 2 1) p := rfl
  have bs : bS (tldS S 2) (N 1) (N 2 1) 2 p = adP S (N 1 (tkS (N 1) (N 2 1) p) - 97) (N 1 (tkS (N 1) (N 2 1) (tkE (N 1) (N 2 1) p)) - 97) := rfl
  have be : bE (N 1) (N 2 1) 2 p = tkE (N 1) (N 2 1) (tkE (N 1) (N 2 1) p) := rfl
  rw [bq, bp, bs, be, cq]
  unfold fPair pPair
  have wok := wrdf_ok (t := N 1) (len := N 2 1) (p := p) (mx := 1)
  obtain ⟨u1, u2, u3, u4, u5, u6, u7, u8, u9⟩ := tkn_spec (t := N 1) t3
  have wok2 := wrdf_ok (t := N 1) (len := N 2 1) (p := tkE (N 1) (N 2 1) p) (mx := 1)
  have h5 : S 0 3 = 5 ∨ (S 0 3 < 5 ∧ wrdf (N 1) (N 2 1) p 1 ≠ 0) ∨ (S 0 3 < 5 ∧ wrdf (N 1) (N 2 1) p 1 = 0 ∧ wrdf (N 1) (N 2 1) (tkE (N 1) (N 2 1) p) 1 ≠ 0) ∨ (S 0 3 < 5 ∧ wrdf (N 1) (N 2 1) p 1 = 0 ∧ wrdf (N 1) (N 2 1) (tkE (N 1) (N 2 1) p) 1 = 0 ∧ N 1 (tkS (N 1) (N 2 1) p) = N 1 (tkS (N 1) (N 2 1) (tkE (N 1) (N 2 1) p))) ∨ (S 0 3 < 5 ∧ wrdf (N 1) (N 2 1) p 1 = 0 ∧ wrdf (N 1) (N 2 1) (tkE (N 1) (N 2 1) p) 1 = 0 ∧ N 1 (tkS (N 1) (N 2 1) p) ≠ N 1 (tkS (N 1) (N 2 1) (tkE (N 1) (N 2 1) p))) := by omega
  rcases h5 with hA | ⟨hA, hw⟩ | ⟨hA, hw, hz⟩ | ⟨hA, hw, hz, hab⟩ | ⟨hA, hw, hz, hab⟩
  · rw [if_pos hA, if_pos (show (5 : Nat) ≠ 0 by decide), if_pos (show (5 : Nat) ≠ 0 by decide)]
    refine q_con (by decide) rfl rfl (Nat.le_of_ble_eq_true rfl) ?_
    refine q_aload_n 1 rfl rfl dX2_takePair_0 ?_
    refine q_getR 4 rfl fX2_23 rfl 2 t_2 hr3 dX2_takePair_1 ?_
    refine q_getI 7 rfl fX2_123 rfl dm (tM hdm) dX2_takePair_4 ?_
    rw [P2_ne (by omega)]
    rw [a5]
    refine q_iconst 8 rfl 5 k_i5 dX2_takePair_7 ?_
    refine q_icmp_lt 11 rfl 17 (by decide) (by omega) (by omega) dX2_takePair_8 (fun h8 => ?_) (fun h8 => ?_)
    · exfalso; omega
    · refine q_aload_n 12 rfl rfl dX2_takePair_11 ?_
      refine q_iconst 13 rfl 5 k_i5 dX2_takePair_12 ?_
      refine q_cV1 16 rfl lX2_50 (k_refuse hG) rfl 2 t_2 rfl rfl rfl dX2_takePair_13 ?_
      refine q_zret rfl (by first | exact q_n0 | exact q_n1 | exact q_nb _) dX2_takePair_16 ?_
      exact ⟨N, _, _, _, _, rfl, FC.rf, hB, Or.inl ⟨by decide, rfl, rfl⟩⟩
  · rw [if_neg (show ¬ S 0 3 = 5 by omega), if_neg (show ¬ (0 : Nat) ≠ 0 by decide), if_neg (show ¬ (0 : Nat) ≠ 0 by decide), if_pos hw, if_pos hw]
    refine q_con (by decide) rfl rfl (Nat.le_of_ble_eq_true rfl) ?_
    refine q_aload_n 1 rfl rfl dX2_takePair_0 ?_
    refine q_getR 4 rfl fX2_23 rfl 2 t_2 hr3 dX2_takePair_1 ?_
    refine q_getI 7 rfl fX2_123 rfl dm (tM hdm) dX2_takePair_4 ?_
    rw [P2_ne (by omega)]
    rw [a5]
    refine q_iconst 8 rfl 5 k_i5 dX2_takePair_7 ?_
    refine q_icmp_lt 11 rfl 17 (by decide) (by omega) (by omega) dX2_takePair_8 (fun h8 => ?_) (fun h8 => ?_)
    · refine q_aload_n 18 rfl rfl dX2_takePair_17 ?_
      refine q_iconst 19 rfl 1 k_i1 dX2_takePair_18 ?_
      refine q_cV1 22 rfl lX2_86 (k_takeWord hG hr0 hl ht hp (by omega)) rfl 2 t_2 rfl rfl rfl dX2_takePair_19 ?_
      refine q_if_neD 25 rfl 27 (by decide) dX2_takePair_22 (fun h22 => ?_) (fun h22 => ?_)
      · exfalso; omega
      · refine q_iconst 26 rfl 0 k_i0 dX2_takePair_25 ?_
        refine q_zret rfl (by first | exact q_n0 | exact q_n1 | exact q_nb _) dX2_takePair_26 ?_
        rw [if_pos hw]
        exact ⟨N, _, _, _, _, rfl, FC.rf, hB, Or.inl ⟨hw, rfl, rfl⟩⟩
    · exfalso; omega
  · have k1 := (wok hw).1
    have l1 := (t7 k1).2 (tkS (N 1) (N 2 1) p) (by omega) (t7 k1).1
    have l0 := (t7 k1).1
    rw [if_neg (show ¬ S 0 3 = 5 by omega), if_neg (show ¬ (0 : Nat) ≠ 0 by decide), if_neg (show ¬ (0 : Nat) ≠ 0 by decide), if_neg (show ¬ wrdf (N 1) (N 2 1) p 1 ≠ 0 by omega), if_pos hz, if_neg (show ¬ wrdf (N 1) (N 2 1) p 1 ≠ 0 by omega)]
    refine q_con (by decide) rfl rfl (Nat.le_of_ble_eq_true rfl) ?_
    refine q_aload_n 1 rfl rfl dX2_takePair_0 ?_
    refine q_getR 4 rfl fX2_23 rfl 2 t_2 hr3 dX2_takePair_1 ?_
    refine q_getI 7 rfl fX2_123 rfl dm (tM hdm) dX2_takePair_4 ?_
    rw [P2_ne (by omega)]
    rw [a5]
    refine q_iconst 8 rfl 5 k_i5 dX2_takePair_7 ?_
    refine q_icmp_lt 11 rfl 17 (by decide) (by omega) (by omega) dX2_takePair_8 (fun h8 => ?_) (fun h8 => ?_)
    · refine q_aload_n 18 rfl rfl dX2_takePair_17 ?_
      refine q_iconst 19 rfl 1 k_i1 dX2_takePair_18 ?_
      refine q_cV1 22 rfl lX2_86 (k_takeWord hG hr0 hl ht hp (by omega)) rfl 2 t_2 rfl rfl rfl dX2_takePair_19 ?_
      refine q_if_neD 25 rfl 27 (by decide) dX2_takePair_22 (fun h22 => ?_) (fun h22 => ?_)
      · rw [if_neg (show ¬ wrdf (N 1) (N 2 1) p 1 ≠ 0 by omega)]
        refine q_aload_n 28 rfl rfl dX2_takePair_27 ?_
        refine q_getR 31 rfl fX2_9 rfl 2 t_2 hr0 dX2_takePair_28 ?_
        refine q_aload_n 32 rfl rfl dX2_takePair_31 ?_
        refine q_getI 35 rfl fX2_89 rfl 2 t_2 dX2_takePair_32 ?_
        rw [P2_6]
        refine q_bald 36 rfl 1 t_1 (by omega) (by decide) dX2_takePair_35 ?_
        rw [P2_ne (by omega)]
        refine q_bipush 38 rfl 97 k_b97 dX2_takePair_36 ?_
        refine q_isub 39 rfl (by omega) dX2_takePair_38 ?_
        refine q_istore_n 40 rfl (by decide) dX2_takePair_39 ?_
        refine q_aload_n 41 rfl rfl dX2_takePair_40 ?_
        refine q_iconst 42 rfl 1 k_i1 dX2_takePair_41 ?_
        refine q_cV1 45 rfl lX2_86 (k_takeWord hG hr0 hl ht t3 (by omega)) rfl 2 t_2 rfl rfl rfl dX2_takePair_42 ?_
        refine q_if_neD 48 rfl 50 (by decide) dX2_takePair_45 (fun h45 => ?_) (fun h45 => ?_)
        · exfalso; omega
        · refine q_iconst 49 rfl 0 k_i0 dX2_takePair_48 ?_
          refine q_zret rfl (by first | exact q_n0 | exact q_n1 | exact q_nb _) dX2_takePair_49 ?_
          rw [if_pos hz]
          exact ⟨N, _, _, _, _, rfl, FC.rf, hB, Or.inl ⟨hz, rfl, rfl⟩⟩
      · exfalso; omega
    · exfalso; omega
  · have k1 := (wok hw).1
    have l1 := (t7 k1).2 (tkS (N 1) (N 2 1) p) (by omega) (t7 k1).1
    have l0 := (t7 k1).1
    have k2 := (wok2 hz).1
    have m1 := (u7 k2).2 (tkS (N 1) (N 2 1) (tkE (N 1) (N 2 1) p)) (by omega) (u7 k2).1
    have m0 := (u7 k2).1
    rw [if_neg (show ¬ S 0 3 = 5 by omega), if_neg (show ¬ (0 : Nat) ≠ 0 by decide), if_neg (show ¬ (0 : Nat) ≠ 0 by decide), if_neg (show ¬ wrdf (N 1) (N 2 1) p 1 ≠ 0 by omega), if_neg (show ¬ wrdf (N 1) (N 2 1) (tkE (N 1) (N 2 1) p) 1 ≠ 0 by omega), if_pos hab, if_neg (show ¬ wrdf (N 1) (N 2 1) p 1 ≠ 0 by omega)]
    refine q_con (by decide) rfl rfl (Nat.le_of_ble_eq_true rfl) ?_
    refine q_aload_n 1 rfl rfl dX2_takePair_0 ?_
    refine q_getR 4 rfl fX2_23 rfl 2 t_2 hr3 dX2_takePair_1 ?_
    refine q_getI 7 rfl fX2_123 rfl dm (tM hdm) dX2_takePair_4 ?_
    rw [P2_ne (by omega)]
    rw [a5]
    refine q_iconst 8 rfl 5 k_i5 dX2_takePair_7 ?_
    refine q_icmp_lt 11 rfl 17 (by decide) (by omega) (by omega) dX2_takePair_8 (fun h8 => ?_) (fun h8 => ?_)
    · refine q_aload_n 18 rfl rfl dX2_takePair_17 ?_
      refine q_iconst 19 rfl 1 k_i1 dX2_takePair_18 ?_
      refine q_cV1 22 rfl lX2_86 (k_takeWord hG hr0 hl ht hp (by omega)) rfl 2 t_2 rfl rfl rfl dX2_takePair_19 ?_
      refine q_if_neD 25 rfl 27 (by decide) dX2_takePair_22 (fun h22 => ?_) (fun h22 => ?_)
      · rw [if_neg (show ¬ wrdf (N 1) (N 2 1) p 1 ≠ 0 by omega)]
        refine q_aload_n 28 rfl rfl dX2_takePair_27 ?_
        refine q_getR 31 rfl fX2_9 rfl 2 t_2 hr0 dX2_takePair_28 ?_
        refine q_aload_n 32 rfl rfl dX2_takePair_31 ?_
        refine q_getI 35 rfl fX2_89 rfl 2 t_2 dX2_takePair_32 ?_
        rw [P2_6]
        refine q_bald 36 rfl 1 t_1 (by omega) (by decide) dX2_takePair_35 ?_
        rw [P2_ne (by omega)]
        refine q_bipush 38 rfl 97 k_b97 dX2_takePair_36 ?_
        refine q_isub 39 rfl (by omega) dX2_takePair_38 ?_
        refine q_istore_n 40 rfl (by decide) dX2_takePair_39 ?_
        refine q_aload_n 41 rfl rfl dX2_takePair_40 ?_
        refine q_iconst 42 rfl 1 k_i1 dX2_takePair_41 ?_
        refine q_cV1 45 rfl lX2_86 (k_takeWord hG hr0 hl ht t3 (by omega)) rfl 2 t_2 rfl rfl rfl dX2_takePair_42 ?_
        refine q_if_neD 48 rfl 50 (by decide) dX2_takePair_45 (fun h45 => ?_) (fun h45 => ?_)
        · rw [if_neg (show ¬ wrdf (N 1) (N 2 1) (tkE (N 1) (N 2 1) p) 1 ≠ 0 by omega)]
          refine q_aload_n 51 rfl rfl dX2_takePair_50 ?_
          refine q_getR 54 rfl fX2_9 rfl 2 t_2 hr0 dX2_takePair_51 ?_
          refine q_aload_n 55 rfl rfl dX2_takePair_54 ?_
          refine q_getI 58 rfl fX2_89 rfl 2 t_2 dX2_takePair_55 ?_
          rw [P2_6]
          refine q_bald 59 rfl 1 t_1 (by omega) (by decide) dX2_takePair_58 ?_
          rw [P2_ne (by omega)]
          refine q_bipush 61 rfl 97 k_b97 dX2_takePair_59 ?_
          refine q_isub 62 rfl (by omega) dX2_takePair_61 ?_
          refine q_istore_n 63 rfl (by decide) dX2_takePair_62 ?_
          refine q_iload_n 64 rfl rfl dX2_takePair_63 ?_
          refine q_iload_n 65 rfl rfl dX2_takePair_64 ?_
          refine q_icmp_ne 68 rfl 74 (by decide) (by omega) (by omega) dX2_takePair_65 (fun h65 => ?_) (fun h65 => ?_)
          · exfalso; omega
          · refine q_aload_n 69 rfl rfl dX2_takePair_68 ?_
            refine q_iconst 70 rfl 4 k_i4 dX2_takePair_69 ?_
            refine q_cV1 73 rfl lX2_50 (k_refuse hG) rfl 2 t_2 rfl rfl rfl dX2_takePair_70 ?_
            refine q_zret rfl (by first | exact q_n0 | exact q_n1 | exact q_nb _) dX2_takePair_73 ?_
            exact ⟨N, _, _, _, _, rfl, FC.rf, hB, Or.inl ⟨by decide, rfl, rfl⟩⟩
        · exfalso; omega
      · exfalso; omega
    · exfalso; omega
  · have k1 := (wok hw).1
    have l1 := (t7 k1).2 (tkS (N 1) (N 2 1) p) (by omega) (t7 k1).1
    have l0 := (t7 k1).1
    have k2 := (wok2 hz).1
    have m1 := (u7 k2).2 (tkS (N 1) (N 2 1) (tkE (N 1) (N 2 1) p)) (by omega) (u7 k2).1
    have m0 := (u7 k2).1
    rw [if_neg (show ¬ S 0 3 = 5 by omega), if_neg (show ¬ (0 : Nat) ≠ 0 by decide), if_neg (show ¬ (0 : Nat) ≠ 0 by decide), if_neg (show ¬ wrdf (N 1) (N 2 1) p 1 ≠ 0 by omega), if_neg (show ¬ wrdf (N 1) (N 2 1) (tkE (N 1) (N 2 1) p) 1 ≠ 0 by omega), if_neg hab, if_neg (show ¬ wrdf (N 1) (N 2 1) p 1 ≠ 0 by omega)]
    refine q_con (by decide) rfl rfl (Nat.le_of_ble_eq_true rfl) ?_
    refine q_aload_n 1 rfl rfl dX2_takePair_0 ?_
    refine q_getR 4 rfl fX2_23 rfl 2 t_2 hr3 dX2_takePair_1 ?_
    refine q_getI 7 rfl fX2_123 rfl dm (tM hdm) dX2_takePair_4 ?_
    rw [P2_ne (by omega)]
    rw [a5]
    refine q_iconst 8 rfl 5 k_i5 dX2_takePair_7 ?_
    refine q_icmp_lt 11 rfl 17 (by decide) (by omega) (by omega) dX2_takePair_8 (fun h8 => ?_) (fun h8 => ?_)
    · refine q_aload_n 18 rfl rfl dX2_takePair_17 ?_
      refine q_iconst 19 rfl 1 k_i1 dX2_takePair_18 ?_
      refine q_cV1 22 rfl lX2_86 (k_takeWord hG hr0 hl ht hp (by omega)) rfl 2 t_2 rfl rfl rfl dX2_takePair_19 ?_
      refine q_if_neD 25 rfl 27 (by decide) dX2_takePair_22 (fun h22 => ?_) (fun h22 => ?_)
      · rw [if_neg (show ¬ wrdf (N 1) (N 2 1) p 1 ≠ 0 by omega)]
        refine q_aload_n 28 rfl rfl dX2_takePair_27 ?_
        refine q_getR 31 rfl fX2_9 rfl 2 t_2 hr0 dX2_takePair_28 ?_
        refine q_aload_n 32 rfl rfl dX2_takePair_31 ?_
        refine q_getI 35 rfl fX2_89 rfl 2 t_2 dX2_takePair_32 ?_
        rw [P2_6]
        refine q_bald 36 rfl 1 t_1 (by omega) (by decide) dX2_takePair_35 ?_
        rw [P2_ne (by omega)]
        refine q_bipush 38 rfl 97 k_b97 dX2_takePair_36 ?_
        refine q_isub 39 rfl (by omega) dX2_takePair_38 ?_
        refine q_istore_n 40 rfl (by decide) dX2_takePair_39 ?_
        refine q_aload_n 41 rfl rfl dX2_takePair_40 ?_
        refine q_iconst 42 rfl 1 k_i1 dX2_takePair_41 ?_
        refine q_cV1 45 rfl lX2_86 (k_takeWord hG hr0 hl ht t3 (by omega)) rfl 2 t_2 rfl rfl rfl dX2_takePair_42 ?_
        refine q_if_neD 48 rfl 50 (by decide) dX2_takePair_45 (fun h45 => ?_) (fun h45 => ?_)
        · rw [if_neg (show ¬ wrdf (N 1) (N 2 1) (tkE (N 1) (N 2 1) p) 1 ≠ 0 by omega)]
          refine q_aload_n 51 rfl rfl dX2_takePair_50 ?_
          refine q_getR 54 rfl fX2_9 rfl 2 t_2 hr0 dX2_takePair_51 ?_
          refine q_aload_n 55 rfl rfl dX2_takePair_54 ?_
          refine q_getI 58 rfl fX2_89 rfl 2 t_2 dX2_takePair_55 ?_
          rw [P2_6]
          refine q_bald 59 rfl 1 t_1 (by omega) (by decide) dX2_takePair_58 ?_
          rw [P2_ne (by omega)]
          refine q_bipush 61 rfl 97 k_b97 dX2_takePair_59 ?_
          refine q_isub 62 rfl (by omega) dX2_takePair_61 ?_
          refine q_istore_n 63 rfl (by decide) dX2_takePair_62 ?_
          refine q_iload_n 64 rfl rfl dX2_takePair_63 ?_
          refine q_iload_n 65 rfl rfl dX2_takePair_64 ?_
          refine q_icmp_ne 68 rfl 74 (by decide) (by omega) (by omega) dX2_takePair_65 (fun h65 => ?_) (fun h65 => ?_)
          · refine q_aload_n 75 rfl rfl dX2_takePair_74 ?_
            refine q_getR 78 rfl fX2_23 rfl 2 t_2 hr3 dX2_takePair_75 ?_
            refine q_iload_n 79 rfl rfl dX2_takePair_78 ?_
            refine q_iload_n 80 rfl rfl dX2_takePair_79 ?_
            refine q_cV2v 83 rfl lX2_126 (k_addPair (q := dm) hG hdm (by rw [P2_ne (by omega), a5]; exact hA)) rfl dm (tM hdm) rfl rfl rfl dX2_takePair_80 ?_
            rw [ad2_P2 hd.2]
            refine q_iconst 84 rfl 1 k_i1 dX2_takePair_83 ?_
            refine q_zret rfl (by first | exact q_n0 | exact q_n1 | exact q_nb _) dX2_takePair_84 ?_
            exact ⟨_, _, _, _, _, rfl, FC.p2 hd, hB.p2 hd (by omega) (by omega), Or.inr ⟨rfl, rfl, rfl, hR.addP hd⟩⟩
          · exfalso; omega
        · exfalso; omega
      · exfalso; omega
    · exfalso; omega
end
