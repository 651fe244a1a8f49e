def kdv (t : Nat → Nat) (st k : Nat) : Nat := if wis t st k 4 = true then 0 else if wis t st k 5 = true then 1 else if wis t st k 6 = true then 2 else if wis t st k 7 = true then 3 else if wis t st k 8 = true then 4 else 4294967295
theorem kdv_eq {t : Nat → Nat} {st k : Nat} : kdv t st k = if 4 ≤ whf t st k 9 0 ∧ whf t st k 9 0 < 9 then whf t st k 9 0 - 4 else 4294967295 := by
  have no : ∀ j, 4 ≤ j → j < 9 → wis t st k j = true → wis t st k 0 = false ∧ wis t st k 1 = false ∧ wis t st k 2 = false ∧ wis t st k 3 = false := fun j h1 h2 h3 => ⟨wis_x (by omega) h1 h2 h3, wis_x (by omega) h1 h2 h3, wis_x (by omega) h1 h2 h3, wis_x (by omega) h1 h2 h3⟩
  rw [kdv, whf9]
  by_cases h4 : wis t st k 4 = true
  · obtain ⟨n0, n1, n2, n3⟩ := no 4 (by omega) (by omega) h4
    rw [n0, n1, n2, n3, h4]; rfl
  · by_cases h5 : wis t st k 5 = true
    · obtain ⟨n0, n1, n2, n3⟩ := no 5 (by omega) (by omega) h5
      rw [if_neg h4, if_pos h5, n0, n1, n2, n3]
      simp [h4, h5]
    · by_cases h6 : wis t st k 6 = true
      · obtain ⟨n0, n1, n2, n3⟩ := no 6 (by omega) (by omega) h6
        rw [if_neg h4, if_neg h5, if_pos h6, n0, n1, n2, n3]
        simp [h4, h5, h6]
      · by_cases h7 : wis t st k 7 = true
        · obtain ⟨n0, n1, n2, n3⟩ := no 7 (by omega) (by omega) h7
          rw [if_neg h4, if_neg h5, if_neg h6, if_pos h7, n0, n1, n2, n3]
          simp [h4, h5, h6, h7]
        · by_cases h8 : wis t st k 8 = true
          · obtain ⟨n0, n1, n2, n3⟩ := no 8 (by omega) (by omega) h8
            rw [if_neg h4, if_neg h5, if_neg h6, if_neg h7, if_pos h8, n0, n1, n2, n3]
            simp [h4, h5, h6, h7, h8]
          · rw [if_neg h4, if_neg h5, if_neg h6, if_neg h7, if_neg h8]
            simp only [h4, h5, h6, h7, h8]
            cases wis t st k 0 <;> cases wis t st k 1 <;> cases wis t st k 2 <;> cases wis t st k 3 <;> rfl
section
variable {Γ : q_G} {ad : Nat → Nat} {N : Nat → Nat → Nat} {L : Nat → Nat → Int} {G : Nat → Nat → Option Nat}
theorem k_kindOfWord {p : Nat} {tk st vl ft : Nat} (hG : GF ad G) (hr0 : G 2 0 = some (ad 1)) (hl : N 2 1 ≤ 160) (ht : ∀ i, i < 160 → N 1 i < 128) (hs : st ≤ p) (hp : p ≤ N 2 1) : q_Con Γ mX2_kindOfWord 5 0 0 [.ref (ad 2)] (LT ad, P2 N p tk st vl ft, L, G) (q_is (some (.int (nI (kdv (N 1) st (p - st))))) (LT ad, P2 N p tk st vl ft, L, G)) := by
  refine q_con (by decide) rfl rfl (Nat.le_of_ble_eq_true rfl) ?_
  refine q_aload_n 1 rfl rfl dX2_kindOfWord_0 ?_
  refine q_ldcs 3 rfl 4 (by decide) rfl rfl dX2_kindOfWord_1 ?_
  refine q_cV1 6 rfl lX2_56 (k_isWord (j := 4) hG hr0 hl ht (by decide) hs hp) rfl 2 t_2 rfl rfl rfl dX2_kindOfWord_3 ?_
  refine q_if_eqB 9 rfl 11 (by decide) dX2_kindOfWord_6 (fun h6 => ?_) (fun h6 => ?_)
  · refine q_aload_n 12 rfl rfl dX2_kindOfWord_11 ?_
    refine q_ldcs 14 rfl 5 (by decide) rfl rfl dX2_kindOfWord_12 ?_
    refine q_cV1 17 rfl lX2_56 (k_isWord (j := 5) hG hr0 hl ht (by decide) hs hp) rfl 2 t_2 rfl rfl rfl dX2_kindOfWord_14 ?_
    refine q_if_eqB 20 rfl 22 (by decide) dX2_kindOfWord_17 (fun h17 => ?_) (fun h17 => ?_)
    · refine q_aload_n 23 rfl rfl dX2_kindOfWord_22 ?_
      refine q_ldcs 25 rfl 6 (by decide) rfl rfl dX2_kindOfWord_23 ?_
      refine q_cV1 28 rfl lX2_56 (k_isWord (j := 6) hG hr0 hl ht (by decide) hs hp) rfl 2 t_2 rfl rfl rfl dX2_kindOfWord_25 ?_
      refine q_if_eqB 31 rfl 33 (by decide) dX2_kindOfWord_28 (fun h28 => ?_) (fun h28 => ?_)
      · refine q_aload_n 34 rfl rfl dX2_kindOfWord_33 ?_
        refine q_ldcs 36 rfl 7 (by decide) rfl rfl dX2_kindOfWord_34 ?_
        refine q_cV1 39 rfl lX2_56 (k_isWord (j := 7) hG hr0 hl ht (by decide) hs hp) rfl 2 t_2 rfl rfl rfl dX2_kindOfWord_36 ?_
        refine q_if_eqB 42 rfl 44 (by decide) dX2_kindOfWord_39 (fun h39 => ?_) (fun h39 => ?_)
        · refine q_aload_n 45 rfl rfl dX2_kindOfWord_44 ?_
          refine q_ldcs 47 rfl 8 (by decide) rfl rfl dX2_kindOfWord_45 ?_
          refine q_cV1 50 rfl lX2_56 (k_isWord (j := 8) hG hr0 hl ht (by decide) hs hp) rfl 2 t_2 rfl rfl rfl dX2_kindOfWord_47 ?_
          refine q_if_eqB 53 rfl 57 (by decide) dX2_kindOfWord_50 (fun h50 => ?_) (fun h50 => ?_)
          · refine q_iconst 58 rfl 4294967295 k_im1 dX2_kindOfWord_57 ?_
            refine q_iret rfl dX2_kindOfWord_58 ?_
            rw [kdv, h6, h17, h28, h39, h50]; exact ⟨rfl, rfl⟩
          · refine q_iconst 54 rfl 4 k_i4 dX2_kindOfWord_53 ?_
            refine q_goto 58 (by decide) dX2_kindOfWord_54 ?_
            refine q_iret rfl dX2_kindOfWord_58 ?_
            rw [kdv, h6, h17, h28, h39, h50]; exact ⟨rfl, rfl⟩
        · refine q_iconst 43 rfl 3 k_i3 dX2_kindOfWord_42 ?_
          refine q_iret rfl dX2_kindOfWord_43 ?_
          rw [kdv, h6, h17, h28, h39]; exact ⟨rfl, rfl⟩
      · refine q_iconst 32 rfl 2 k_i2 dX2_kindOfWord_31 ?_
        refine q_iret rfl dX2_kindOfWord_32 ?_
        rw [kdv, h6, h17, h28]; exact ⟨rfl, rfl⟩
    · refine q_iconst 21 rfl 1 k_i1 dX2_kindOfWord_20 ?_
      refine q_iret rfl dX2_kindOfWord_21 ?_
      rw [kdv, h6, h17]; exact ⟨rfl, rfl⟩
  · refine q_iconst 10 rfl 0 k_i0 dX2_kindOfWord_9 ?_
    refine q_iret rfl dX2_kindOfWord_10 ?_
    rw [kdv, h6]; exact ⟨rfl, rfl⟩
theorem k_takeLaw {S : Nat → Nat → Nat} {dn dm p tk st vl : Nat} (hG : GF ad G) (hr0 : G 2 0 = some (ad 1)) (hr2 : G 2 2 = some (ad dn)) (hr3 : G 2 3 = some (ad dm)) (hdn : isN dn) (hdm : isM dm) (hd : isD dn dm) (hl : N 2 1 ≤ 160) (ht : ∀ i, i < 160 → N 1 i < 128) (hp : p ≤ N 2 1) (hW : WFS S) (hR : CR S N dn dm) (hB : CB N dn dm) : q_Con Γ mX2_takeLaw 6 0 0 [.ref (ad 2)] (LT ad, P2 N p tk st vl 0, L, G) (RC ad L G N (bS (tldS S 1) (N 1) (N 2 1) 1 p) dn dm (cF S (N 1) (N 2 1) 1 p) (cP S (N 1) (N 2 1) 1 p st) (bE (N 1) (N 2 1) 1 p)) := by
  obtain ⟨a1, a2, a3, a4, a5, a6, a7, a8, a9, b1, b2, b3⟩ := id hR
  obtain ⟨f1, f2, f3, f4, f5, f6, f7, f8⟩ := id hB
  have hS0 := hW.1
  have hS3 := hW.2.2.2.2.1
  have hS5 := hW.2.2.2.2.2.2.2.2.1
  have hS6 := hW.2.2.2.2.2.2.2.2.2
  obtain ⟨t1, t2, t3, t4, t5, t6, t7, t8, t9⟩ := tkn_spec (t := N 1) hp
  unfold cF cP
  have cq : chkL S 1 = if S 0 5 = 1 then 4 else 0 := rfl
  have bq : bF (tldS S 1) (N 1) (N 2 1) 1 p = fLaw (N 1) (N 2 1) p := rfl
  have bp : bP (tldS S 1) (N 1) (N 2 1) 1 p = pLaw (N 1) (N 2 1) p := rfl
  have bs : bS (tldS S 1) (N 1) (N 2 1) 1 p = adL (tldS S 1) (wrd9 (N 1) (N 2 1) p - 4) (tkV (N 1) (N 2 1) (tkE (N 1) (N 2 1) p)) := rfl
  have be : bE (N 1) (N 2 1) 1 p = tkE (N 1) (N 2 1) (tkE (N 1) (N 2 1) p) := rfl
  rw [bq, bp, bs, be, cq]
  have wok := wrdf_ok (t := N 1) (len := N 2 1) (p := p) (mx := 160)
  obtain ⟨N1, hN1⟩ : ∃ N1, q_s N 2 9 1 = N1 := ⟨_, rfl⟩
  have e1 : N1 1 = N 1 := by rw [← hN1]; exact q_s_ne (by omega)
  have el : N1 2 1 = N 2 1 := by rw [← hN1]; exact q_s_off (by omega)
  have fc1 : FC N N1 dn dm := by rw [← hN1]; exact FC.fld (Or.inl rfl)
  have cb1 : CB N1 dn dm := by rw [← hN1]; exact hB.fld hd
  have cr1 : CR (tldS S 1) N1 dn dm := by
    have := hR.tld hd (w := 1) (Or.inl rfl)
    rw [if_pos rfl, hN1] at this
    exact this
  have twc : q_Con Γ mX2_takeWord 2 0 0 [.ref (ad 2), .int (nI 160)] (LT ad, P2 N1 p tk st vl 0, L, G) (q_is (some (.int (nI (decide (wrdf (N 1) (N 2 1) p 160 = 0)).toNat))) (LT ad, P2 N1 (tkE (N 1) (N 2 1) p) (if (tkn (N 1) (N 2 1) p).1 = 4 then 2 else (tkn (N 1) (N 2 1) p).1) (tkS (N 1) (N 2 1) p) vl (if wrdf (N 1) (N 2 1) p 160 ≠ 0 then wrdf (N 1) (N 2 1) p 160 else 0), L, G)) := by
    have := k_takeWord (Γ := Γ) (L := L) (N := N1) (p := p) (mx := 160) (tk := tk) (st := st) (vl := vl) (ft := 0) hG hr0 (by rw [el]; exact hl) (by rw [e1]; exact ht) (by rw [el]; exact hp) (by omega)
    rw [e1, el] at this
    exact this
  have kwc : ∀ a b c, q_Con Γ mX2_kindOfWord 5 0 0 [.ref (ad 2)] (LT ad, P2 N1 (tkE (N 1) (N 2 1) p) a (tkS (N 1) (N 2 1) p) b c, L, G) (q_is (some (.int (nI (kdv (N 1) (tkS (N 1) (N 2 1) p) (tkE (N 1) (N 2 1) p - tkS (N 1) (N 2 1) p))))) (LT ad, P2 N1 (tkE (N 1) (N 2 1) p) a (tkS (N 1) (N 2 1) p) b c, L, G)) := fun a b c => by
    have := k_kindOfWord (Γ := Γ) (L := L) (N := N1) (p := tkE (N 1) (N 2 1) p) (tk := a) (st := tkS (N 1) (N 2 1) p) (vl := b) (ft := c) hG hr0 (by rw [el]; exact hl) (by rw [e1]; exact ht) t2 (by rw [el]; exact t3)
    rw [e1] at this
    exact this
  have tnc : ∀ a b c, q_Con Γ mX2_takeNumber 2 0 0 [.ref (ad 2), .int (nI 0), .int (nI 8)] (LT ad, P2 N1 (tkE (N 1) (N 2 1) p) a b c 0, L, G) (q_is (some (.int (nI (decide (nmbf (N 1) (N 2 1) (tkE (N 1) (N 2 1) p) 0 8 = 0)).toNat))) (LT ad, P2 N1 (tkE (N 1) (N 2 1) (tkE (N 1) (N 2 1) p)) (if (tkn (N 1) (N 2 1) (tkE (N 1) (N 2 1) p)).1 = 4 then 2 else (tkn (N 1) (N 2 1) (tkE (N 1) (N 2 1) p)).1) (tkS (N 1) (N 2 1) (tkE (N 1) (N 2 1) p)) (if (tkn (N 1) (N 2 1) (tkE (N 1) (N 2 1) p)).1 = 2 then tkV (N 1) (N 2 1) (tkE (N 1) (N 2 1) p) else c) (if nmbf (N 1) (N 2 1) (tkE (N 1) (N 2 1) p) 0 8 ≠ 0 then nmbf (N 1) (N 2 1) (tkE (N 1) (N 2 1) p) 0 8 else 0), L, G)) := fun a b c => by
    have := k_takeNumber (Γ := Γ) (L := L) (N := N1) (p := tkE (N 1) (N 2 1) p) (tk := a) (st := b) (vl := c) (ft := 0) (lo := 0) (hi := 8) hG hr0 (by rw [el]; exact hl) (by rw [e1]; exact ht) (by rw [el]; exact t3) (by omega) (by omega)
    rw [e1, el] at this
    exact this
  have nok := nmbf_ok (t := N 1) (len := N 2 1) (p := tkE (N 1) (N 2 1) p) (lo := 0) (hi := 8)
  have wk : wrdf (N 1) (N 2 1) p 160 = 0 → kdv (N 1) (tkS (N 1) (N 2 1) p) (tkE (N 1) (N 2 1) p - tkS (N 1) (N 2 1) p) = if 4 ≤ wrd9 (N 1) (N 2 1) p ∧ wrd9 (N 1) (N 2 1) p < 9 then wrd9 (N 1) (N 2 1) p - 4 else 4294967295 := fun q => by
    have q1 := (wok q).1
    rw [kdv_eq, wrd9, if_pos q1]
  have wb0 : wrdf (N 1) (N 2 1) p 160 ≠ 0 → fLaw (N 1) (N 2 1) p = wrdf (N 1) (N 2 1) p 160 ∧ pLaw (N 1) (N 2 1) p = tkS (N 1) (N 2 1) p := fun q => by
    unfold fLaw pLaw
    by_cases q4 : (tkn (N 1) (N 2 1) p).1 = 4
    · rw [if_pos q4, if_pos q4, wrdf, if_pos q4]; exact ⟨rfl, rfl⟩
    · have q1 : (tkn (N 1) (N 2 1) p).1 ≠ 1 := fun z => q (by rw [wrdf, if_neg q4, wb, if_neg (by omega), if_neg (by omega)])
      have q9 : ¬ (4 ≤ wrd9 (N 1) (N 2 1) p ∧ wrd9 (N 1) (N 2 1) p < 9) := by rw [wrd9, if_neg q1]; omega
      rw [if_neg q4, if_neg q4, if_neg q9, if_neg q9, wrdf, if_neg q4, wb, if_pos q1]; exact ⟨rfl, rfl⟩
  have wb1 : wrdf (N 1) (N 2 1) p 160 = 0 → fLaw (N 1) (N 2 1) p = (if 4 ≤ wrd9 (N 1) (N 2 1) p ∧ wrd9 (N 1) (N 2 1) p < 9 then nmbf (N 1) (N 2 1) (tkE (N 1) (N 2 1) p) 0 8 else 2) ∧ pLaw (N 1) (N 2 1) p = (if 4 ≤ wrd9 (N 1) (N 2 1) p ∧ wrd9 (N 1) (N 2 1) p < 9 then tkS (N 1) (N 2 1) (tkE (N 1) (N 2 1) p) else tkS (N 1) (N 2 1) p) := fun q => by
    have q1 := (wok q).1
    have q4 : ¬ (tkn (N 1) (N 2 1) p).1 = 4 := by omega
    unfold fLaw pLaw
    rw [if_neg q4, if_neg q4]; exact ⟨rfl, rfl⟩
  generalize fLaw (N 1) (N 2 1) p = fl at *
  generalize pLaw (N 1) (N 2 1) p = pl at *
  generalize nmbf (N 1) (N 2 1) (tkE (N 1) (N 2 1) p) 0 8 = nf at *
  generalize wrdf (N 1) (N 2 1) p 160 = wf at *
  generalize wrd9 (N 1) (N 2 1) p = wd at *
  have h5 : S 0 5 = 1 ∨ (S 0 5 = 0 ∧ wf ≠ 0) ∨ (S 0 5 = 0 ∧ wf = 0 ∧ ¬ (4 ≤ wd ∧ wd < 9)) ∨ (S 0 5 = 0 ∧ wf = 0 ∧ (4 ≤ wd ∧ wd < 9) ∧ nf ≠ 0) ∨ (S 0 5 = 0 ∧ wf = 0 ∧ (4 ≤ wd ∧ wd < 9) ∧ nf = 0) := by omega
  rcases h5 with hA | ⟨hA, hw⟩ | ⟨hA, hw, h9⟩ | ⟨hA, hw, h9, hz⟩ | ⟨hA, hw, h9, hz⟩
  · rw [if_pos hA, if_pos (show (4 : Nat) ≠ 0 by decide), if_pos (show (4 : Nat) ≠ 0 by decide)]
    refine q_con (by decide) rfl rfl (Nat.le_of_ble_eq_true rfl) ?_
    refine q_aload_n 1 rfl rfl dX2_takeLaw_0 ?_
    refine q_getI 4 rfl fX2_33 rfl 2 t_2 dX2_takeLaw_1 ?_
    rw [P2_o (by decide) (by decide)]
    refine q_if_eq 7 rfl 13 (by decide) (by omega) dX2_takeLaw_4 (fun h4 => ?_) (fun h4 => ?_)
    · exfalso; omega
    · refine q_aload_n 8 rfl rfl dX2_takeLaw_7 ?_
      refine q_iconst 9 rfl 4 k_i4 dX2_takeLaw_8 ?_
      refine q_cV1 12 rfl lX2_50 (k_refuse hG) rfl 2 t_2 rfl rfl rfl dX2_takeLaw_9 ?_
      refine q_zret rfl (by first | exact q_n0 | exact q_n1 | exact q_nb _) dX2_takeLaw_12 ?_
      exact ⟨N, _, _, _, _, rfl, FC.rf, hB, Or.inl ⟨by decide, rfl, rfl⟩⟩
  · rw [if_neg (show ¬ S 0 5 = 1 by omega), if_neg (show ¬ (0 : Nat) ≠ 0 by decide), if_neg (show ¬ (0 : Nat) ≠ 0 by decide), (wb0 hw).1, (wb0 hw).2]
    refine q_con (by decide) rfl rfl (Nat.le_of_ble_eq_true rfl) ?_
    refine q_aload_n 1 rfl rfl dX2_takeLaw_0 ?_
    refine q_getI 4 rfl fX2_33 rfl 2 t_2 dX2_takeLaw_1 ?_
    rw [P2_o (by decide) (by decide)]
    refine q_if_eq 7 rfl 13 (by decide) (by omega) dX2_takeLaw_4 (fun h4 => ?_) (fun h4 => ?_)
    · refine q_aload_n 14 rfl rfl dX2_takeLaw_13 ?_
      refine q_iconst 15 rfl 1 k_i1 dX2_takeLaw_14 ?_
      refine q_putZ 18 rfl pX2_33 (fun q => by cases q) rfl (by omega) 2 t_2 dX2_takeLaw_15 ?_
      rw [P2_so (by decide) (by decide)]
      rw [hN1]
      refine q_aload_n 19 rfl rfl dX2_takeLaw_18 ?_
      refine q_sipush 22 rfl 160 k_s160 dX2_takeLaw_19 ?_
      refine q_cV1 25 rfl lX2_86 (twc) rfl 2 t_2 rfl rfl rfl dX2_takeLaw_22 ?_
      refine q_if_neD 28 rfl 30 (by decide) dX2_takeLaw_25 (fun h25 => ?_) (fun h25 => ?_)
      · exfalso; omega
      · refine q_iconst 29 rfl 0 k_i0 dX2_takeLaw_28 ?_
        refine q_zret rfl (by first | exact q_n0 | exact q_n1 | exact q_nb _) dX2_takeLaw_29 ?_
        rw [if_pos hw]
        exact ⟨N1, _, _, _, _, rfl, fc1, cb1, Or.inl ⟨hw, rfl, rfl⟩⟩
    · exfalso; omega
  · rw [if_neg (show ¬ S 0 5 = 1 by omega), if_neg (show ¬ (0 : Nat) ≠ 0 by decide), if_neg (show ¬ (0 : Nat) ≠ 0 by decide), (wb1 hw).1, (wb1 hw).2, if_neg h9, if_neg h9]
    have zm : z_s 4294967295 = -1 := by rw [z_s_hi (by omega) (by omega)]; rfl
    have z00 : z_s 0 = 0 := rfl
    refine q_con (by decide) rfl rfl (Nat.le_of_ble_eq_true rfl) ?_
    refine q_aload_n 1 rfl rfl dX2_takeLaw_0 ?_
    refine q_getI 4 rfl fX2_33 rfl 2 t_2 dX2_takeLaw_1 ?_
    rw [P2_o (by decide) (by decide)]
    refine q_if_eq 7 rfl 13 (by decide) (by omega) dX2_takeLaw_4 (fun h4 => ?_) (fun h4 => ?_)
    · refine q_aload_n 14 rfl rfl dX2_takeLaw_13 ?_
      refine q_iconst 15 rfl 1 k_i1 dX2_takeLaw_14 ?_
      refine q_putZ 18 rfl pX2_33 (fun q => by cases q) rfl (by omega) 2 t_2 dX2_takeLaw_15 ?_
      rw [P2_so (by decide) (by decide)]
      rw [hN1]
      refine q_aload_n 19 rfl rfl dX2_takeLaw_18 ?_
      refine q_sipush 22 rfl 160 k_s160 dX2_takeLaw_19 ?_
      refine q_cV1 25 rfl lX2_86 (twc) rfl 2 t_2 rfl rfl rfl dX2_takeLaw_22 ?_
      refine q_if_neD 28 rfl 30 (by decide) dX2_takeLaw_25 (fun h25 => ?_) (fun h25 => ?_)
      · rw [if_neg (show ¬ wf ≠ 0 by omega)]
        refine q_aload_n 31 rfl rfl dX2_takeLaw_30 ?_
        refine q_cV0 34 rfl lX2_113 (kwc _ _ _) rfl 2 t_2 rfl rfl rfl dX2_takeLaw_31 ?_
        rw [wk hw, if_neg h9]
        refine q_istore_n 35 rfl (by decide) dX2_takeLaw_34 ?_
        refine q_iload_n 36 rfl rfl dX2_takeLaw_35 ?_
        refine q_ifS_ge 39 rfl 45 (by decide) dX2_takeLaw_36 (fun h36 => ?_) (fun h36 => ?_)
        · exfalso; omega
        · refine q_aload_n 40 rfl rfl dX2_takeLaw_39 ?_
          refine q_iconst 41 rfl 2 k_i2 dX2_takeLaw_40 ?_
          refine q_cV1 44 rfl lX2_50 (k_refuse hG) rfl 2 t_2 rfl rfl rfl dX2_takeLaw_41 ?_
          refine q_zret rfl (by first | exact q_n0 | exact q_n1 | exact q_nb _) dX2_takeLaw_44 ?_
          exact ⟨N1, _, _, _, _, rfl, fc1, cb1, Or.inl ⟨by decide, rfl, rfl⟩⟩
      · exfalso; omega
    · exfalso; omega
  · rw [if_neg (show ¬ S 0 5 = 1 by omega), if_neg (show ¬ (0 : Nat) ≠ 0 by decide), if_neg (show ¬ (0 : Nat) ≠ 0 by decide), (wb1 hw).1, (wb1 hw).2, if_pos h9, if_pos h9]
    refine q_con (by decide) rfl rfl (Nat.le_of_ble_eq_true rfl) ?_
    refine q_aload_n 1 rfl rfl dX2_takeLaw_0 ?_
    refine q_getI 4 rfl fX2_33 rfl 2 t_2 dX2_takeLaw_1 ?_
    rw [P2_o (by decide) (by decide)]
    refine q_if_eq 7 rfl 13 (by decide) (by omega) dX2_takeLaw_4 (fun h4 => ?_) (fun h4 => ?_)
    · refine q_aload_n 14 rfl rfl dX2_takeLaw_13 ?_
      refine q_iconst 15 rfl 1 k_i1 dX2_takeLaw_14 ?_
      refine q_putZ 18 rfl pX2_33 (fun q => by cases q) rfl (by omega) 2 t_2 dX2_takeLaw_15 ?_
      rw [P2_so (by decide) (by decide)]
      rw [hN1]
      refine q_aload_n 19 rfl rfl dX2_takeLaw_18 ?_
      refine q_sipush 22 rfl 160 k_s160 dX2_takeLaw_19 ?_
      refine q_cV1 25 rfl lX2_86 (twc) rfl 2 t_2 rfl rfl rfl dX2_takeLaw_22 ?_
      refine q_if_neD 28 rfl 30 (by decide) dX2_takeLaw_25 (fun h25 => ?_) (fun h25 => ?_)
      · rw [if_neg (show ¬ wf ≠ 0 by omega)]
        refine q_aload_n 31 rfl rfl dX2_takeLaw_30 ?_
        refine q_cV0 34 rfl lX2_113 (kwc _ _ _) rfl 2 t_2 rfl rfl rfl dX2_takeLaw_31 ?_
        rw [wk hw, if_pos h9]
        refine q_istore_n 35 rfl (by decide) dX2_takeLaw_34 ?_
        refine q_iload_n 36 rfl rfl dX2_takeLaw_35 ?_
        refine q_ifN_ge 39 rfl 45 (by decide) (by omega) dX2_takeLaw_36 (fun h36 => ?_) (fun h36 => ?_)
        · refine q_aload_n 46 rfl rfl dX2_takeLaw_45 ?_
          refine q_iconst 47 rfl 0 k_i0 dX2_takeLaw_46 ?_
          refine q_bipush 49 rfl 8 k_b8 dX2_takeLaw_47 ?_
          refine q_cV2 52 rfl lX2_100 (tnc _ _ _) rfl 2 t_2 rfl rfl rfl dX2_takeLaw_49 ?_
          refine q_if_neD 55 rfl 57 (by decide) dX2_takeLaw_52 (fun h52 => ?_) (fun h52 => ?_)
          · exfalso; omega
          · refine q_iconst 56 rfl 0 k_i0 dX2_takeLaw_55 ?_
            refine q_zret rfl (by first | exact q_n0 | exact q_n1 | exact q_nb _) dX2_takeLaw_56 ?_
            rw [if_pos hz]
            exact ⟨N1, _, _, _, _, rfl, fc1, cb1, Or.inl ⟨hz, rfl, rfl⟩⟩
        · exfalso; omega
      · exfalso; omega
    · exfalso; omega
  · rw [if_neg (show ¬ S 0 5 = 1 by omega), if_neg (show ¬ (0 : Nat) ≠ 0 by decide), if_neg (show ¬ (0 : Nat) ≠ 0 by decide), (wb1 hw).1, (wb1 hw).2, if_pos h9, if_pos h9, hz]
    refine q_con (by decide) rfl rfl (Nat.le_of_ble_eq_true rfl) ?_
    refine q_aload_n 1 rfl rfl dX2_takeLaw_0 ?_
    refine q_getI 4 rfl fX2_33 rfl 2 t_2 dX2_takeLaw_1 ?_
    rw [P2_o (by decide) (by decide)]
    refine q_if_eq 7 rfl 13 (by decide) (by omega) dX2_takeLaw_4 (fun h4 => ?_) (fun h4 => ?_)
    · refine q_aload_n 14 rfl rfl dX2_takeLaw_13 ?_
      refine q_iconst 15 rfl 1 k_i1 dX2_takeLaw_14 ?_
      refine q_putZ 18 rfl pX2_33 (fun q => by cases q) rfl (by omega) 2 t_2 dX2_takeLaw_15 ?_
      rw [P2_so (by decide) (by decide)]
      rw [hN1]
      refine q_aload_n 19 rfl rfl dX2_takeLaw_18 ?_
      refine q_sipush 22 rfl 160 k_s160 dX2_takeLaw_19 ?_
      refine q_cV1 25 rfl lX2_86 (twc) rfl 2 t_2 rfl rfl rfl dX2_takeLaw_22 ?_
      refine q_if_neD 28 rfl 30 (by decide) dX2_takeLaw_25 (fun h25 => ?_) (fun h25 => ?_)
      · rw [if_neg (show ¬ wf ≠ 0 by omega)]
        refine q_aload_n 31 rfl rfl dX2_takeLaw_30 ?_
        refine q_cV0 34 rfl lX2_113 (kwc _ _ _) rfl 2 t_2 rfl rfl rfl dX2_takeLaw_31 ?_
        rw [wk hw, if_pos h9]
        refine q_istore_n 35 rfl (by decide) dX2_takeLaw_34 ?_
        refine q_iload_n 36 rfl rfl dX2_takeLaw_35 ?_
        refine q_ifN_ge 39 rfl 45 (by decide) (by omega) dX2_takeLaw_36 (fun h36 => ?_) (fun h36 => ?_)
        · refine q_aload_n 46 rfl rfl dX2_takeLaw_45 ?_
          refine q_iconst 47 rfl 0 k_i0 dX2_takeLaw_46 ?_
          refine q_bipush 49 rfl 8 k_b8 dX2_takeLaw_47 ?_
          refine q_cV2 52 rfl lX2_100 (tnc _ _ _) rfl 2 t_2 rfl rfl rfl dX2_takeLaw_49 ?_
          refine q_if_neD 55 rfl 57 (by decide) dX2_takeLaw_52 (fun h52 => ?_) (fun h52 => ?_)
          · rw [if_neg (show ¬ nf ≠ 0 by omega), if_pos (nok hz).1]
            refine q_aload_n 58 rfl rfl dX2_takeLaw_57 ?_
            refine q_getR 61 rfl fX2_23 rfl 2 t_2 hr3 dX2_takeLaw_58 ?_
            refine q_iload_n 62 rfl rfl dX2_takeLaw_61 ?_
            refine q_putI 65 rfl pX2_117 (fun q => by cases q) rfl dm (tM hdm) dX2_takeLaw_62 ?_
            rw [P2_as (by omega)]
            refine q_aload_n 66 rfl rfl dX2_takeLaw_65 ?_
            refine q_getR 69 rfl fX2_23 rfl 2 t_2 hr3 dX2_takeLaw_66 ?_
            refine q_aload_n 70 rfl rfl dX2_takeLaw_69 ?_
            refine q_getI 73 rfl fX2_110 rfl 2 t_2 dX2_takeLaw_70 ?_
            rw [P2_7]
            refine q_putI 76 rfl pX2_120 (fun q => by cases q) rfl dm (tM hdm) dX2_takeLaw_73 ?_
            rw [P2_as (by omega)]
            refine q_iconst 77 rfl 1 k_i1 dX2_takeLaw_76 ?_
            refine q_zret rfl (by first | exact q_n0 | exact q_n1 | exact q_nb _) dX2_takeLaw_77 ?_
            exact ⟨_, _, _, _, _, rfl, (fc1.tr (FC.dm hd)).tr (FC.dm hd), (cb1.dm hd).dm hd, Or.inr ⟨rfl, rfl, rfl, cr1.addL hd⟩⟩
          · exfalso; omega
        · exfalso; omega
      · exfalso; omega
    · exfalso; omega
end
