section
variable {Γ : q_G} {ad : Nat → Nat} {N : Nat → Nat → Nat} {L : Nat → Nat → Int} {G : Nat → Nat → Option Nat}
theorem k_takeName {S : Nat → Nat → Nat} {dn dm p tk st vl : Nat} (hG : GF ad G) (hr0 : G 2 0 = some (ad 1)) (hr2 : G 2 2 = some (ad dn)) (hr3 : G 2 3 = some (ad dm)) (hdn : isN dn) (hdm : isM dm) (hd : isD dn dm) (hl : N 2 1 ≤ 160) (ht : ∀ i, i < 160 → N 1 i < 128) (hp : p ≤ N 2 1) (hW : WFS S) (hR : CR S N dn dm) (hB : CB N dn dm) : q_Con Γ mX2_takeName 3 0 0 [.ref (ad 2)] (LT ad, P2 N p tk st vl 0, L, G) (RC ad L G N (bS (tldS S 0) (N 1) (N 2 1) 0 p) dn dm (cF S (N 1) (N 2 1) 0 p) (cP S (N 1) (N 2 1) 0 p st) (bE (N 1) (N 2 1) 0 p)) := by
  obtain ⟨a1, a2, a3, a4, a5, a6, a7, a8, a9, b1, b2, b3⟩ := id hR
  obtain ⟨f1, f2, f3, f4, f5, f6, f7, f8⟩ := id hB
  have hS0 := hW.1
  have hS3 := hW.2.2.2.2.1
  have hS5 := hW.2.2.2.2.2.2.2.2.1
  have hS6 := hW.2.2.2.2.2.2.2.2.2
  obtain ⟨t1, t2, t3, t4, t5, t6, t7, t8, t9⟩ := tkn_spec (t := N 1) hp
  unfold cF cP
  have cq : chkL S 0 = if S 0 0 = 9 then 5 else 0 := rfl
  have bq : bF (tldS S 0) (N 1) (N 2 1) 0 p = fName S (N 1) (N 2 1) p := rfl
  have bp : bP (tldS S 0) (N 1) (N 2 1) 0 p = pName S (N 1) (N 2 1) p := rfl
  have bs : bS (tldS S 0) (N 1) (N 2 1) 0 p = adN S (N 1) (tkS (N 1) (N 2 1) p) (tkE (N 1) (N 2 1) p - tkS (N 1) (N 2 1) p) (tkV (N 1) (N 2 1) (tkE (N 1) (N 2 1) p)) := rfl
  have be : bE (N 1) (N 2 1) 0 p = tkE (N 1) (N 2 1) (tkE (N 1) (N 2 1) p) := rfl
  rw [bq, bp, bs, be, cq]
  unfold fName pName
  have wok := wrdf_ok (t := N 1) (len := N 2 1) (p := p) (mx := 8)
  have twc := k_takeWord (Γ := Γ) (L := L) (mx := 8) (tk := tk) (st := st) (vl := vl) (ft := 0) hG hr0 hl ht hp (by omega)
  generalize (if (tkn (N 1) (N 2 1) p).1 = 4 then 2 else (tkn (N 1) (N 2 1) p).1) = kk at *
  generalize wrdf (N 1) (N 2 1) p 8 = wf at *
  generalize (tkn (N 1) (N 2 1) p).1 = k at *
  generalize tkE (N 1) (N 2 1) p = e at *
  generalize tkS (N 1) (N 2 1) p = s at *
  have nok := nmbf_ok (t := N 1) (len := N 2 1) (p := e) (lo := 1) (hi := 9)
  have nwC := new_C (s := s) (k := e - s) hR
  obtain ⟨w0, w1, w2, w3, w4, w5, w6⟩ := adC_f (N := N) (q := dn) (s := s) (k := e - s)
  have fc1 : FC N (adC N dn s (e - s)) dn dm := FC.ad hd
  have mr1 : ∀ v, S 0 0 < 9 → e - s ≤ 8 → CR (adN S (N 1) s (e - s) v) (q_s (adC N dn s (e - s)) (dm + 1) (S 0 0) v) dn dm := fun v q1 q2 => hR.addN hd hW q1 q2
  have cb1 : S 0 0 < 9 → wf = 0 → CB (adC N dn s (e - s)) dn dm := fun q1 q2 => hB.ad hd (by rw [a1]; exact q1) (wok q2).2 (fun i hi => (t7 (wok q2).1).2 _ (by omega) (by omega))
  obtain ⟨N1, hN1⟩ : ∃ N1, adC N dn s (e - s) = N1 := ⟨_, rfl⟩
  rw [hN1] at fc1 cb1 w2
  have mr2 : ∀ v, S 0 0 < 9 → e - s ≤ 8 → CR (adN S (N 1) s (e - s) v) (q_s N1 (dm + 1) (S 0 0) v) dn dm := fun v q1 q2 => by rw [← hN1]; exact mr1 v q1 q2
  have e1 := fc1.t hd
  have el := fc1.len
  have tnc : ∀ a b c, q_Con Γ mX2_takeNumber 2 0 0 [.ref (ad 2), .int (nI 1), .int (nI 9)] (LT ad, P2 N1 e a b c 0, L, G) (q_is (some (.int (nI (decide (nmbf (N 1) (N 2 1) e 1 9 = 0)).toNat))) (LT ad, P2 N1 (tkE (N 1) (N 2 1) e) (if (tkn (N 1) (N 2 1) e).1 = 4 then 2 else (tkn (N 1) (N 2 1) e).1) (tkS (N 1) (N 2 1) e) (if (tkn (N 1) (N 2 1) e).1 = 2 then tkV (N 1) (N 2 1) e else c) (if nmbf (N 1) (N 2 1) e 1 9 ≠ 0 then nmbf (N 1) (N 2 1) e 1 9 else 0), L, G)) := fun a b c => by
    have := k_takeNumber (Γ := Γ) (L := L) (N := N1) (p := e) (tk := a) (st := b) (vl := c) (ft := 0) (lo := 1) (hi := 9) hG hr0 (by rw [el]; exact hl) (by rw [e1]; exact ht) (by rw [el]; exact t3) (by omega) (by omega)
    rw [e1, el] at this
    exact this
  clear mr1 w0 w1 w3 w4 w5 w6
  generalize (if (tkn (N 1) (N 2 1) e).1 = 4 then 2 else (tkn (N 1) (N 2 1) e).1) = kk2 at *
  generalize nmbf (N 1) (N 2 1) e 1 9 = nf at *
  generalize tkV (N 1) (N 2 1) e = v2 at *
  generalize (tkn (N 1) (N 2 1) e).1 = k2 at *
  generalize tkE (N 1) (N 2 1) e = e2 at *
  generalize tkS (N 1) (N 2 1) e = s2 at *
  have h5 : S 0 0 = 9 ∨ (S 0 0 < 9 ∧ wf ≠ 0) ∨ (S 0 0 < 9 ∧ wf = 0 ∧ newn S (N 1) s (e - s) = false) ∨ (S 0 0 < 9 ∧ wf = 0 ∧ newn S (N 1) s (e - s) = true ∧ nf ≠ 0) ∨ (S 0 0 < 9 ∧ wf = 0 ∧ newn S (N 1) s (e - s) = true ∧ nf = 0) := by
    cases newn S (N 1) s (e - s) <;> simp <;> omega
  rcases h5 with hA | ⟨hA, hw⟩ | ⟨hA, hw, hn⟩ | ⟨hA, hw, hn, hz⟩ | ⟨hA, hw, hn, hz⟩
  · rw [if_pos hA, if_pos (show (5 : Nat) ≠ 0 by decide), if_pos (show (5 : Nat) ≠ 0 by decide)]
    refine q_con (by decide) rfl rfl (Nat.le_of_ble_eq_true rfl) ?_
    refine q_aload_n 1 rfl rfl dX2_takeName_0 ?_
    refine q_getR 4 rfl fX2_19 rfl 2 t_2 hr2 dX2_takeName_1 ?_
    refine q_getI 7 rfl fX2_81 rfl dn (tN hdn) dX2_takeName_4 ?_
    rw [P2_ne (by omega)]
    rw [a1]
    refine q_bipush 9 rfl 9 k_b9 dX2_takeName_7 ?_
    refine q_icmp_lt 12 rfl 18 (by decide) (by omega) (by omega) dX2_takeName_9 (fun h9 => ?_) (fun h9 => ?_)
    · exfalso; omega
    · refine q_aload_n 13 rfl rfl dX2_takeName_12 ?_
      refine q_iconst 14 rfl 5 k_i5 dX2_takeName_13 ?_
      refine q_cV1 17 rfl lX2_50 (k_refuse hG) rfl 2 t_2 rfl rfl rfl dX2_takeName_14 ?_
      refine q_zret rfl (by first | exact q_n0 | exact q_n1 | exact q_nb _) dX2_takeName_17 ?_
      exact ⟨N, _, _, _, _, rfl, FC.rf, hB, Or.inl ⟨by decide, rfl, rfl⟩⟩
  · rw [if_neg (show ¬ S 0 0 = 9 by omega), if_neg (show ¬ (0 : Nat) ≠ 0 by decide), if_neg (show ¬ (0 : Nat) ≠ 0 by decide), if_pos hw, if_pos hw]
    refine q_con (by decide) rfl rfl (Nat.le_of_ble_eq_true rfl) ?_
    refine q_aload_n 1 rfl rfl dX2_takeName_0 ?_
    refine q_getR 4 rfl fX2_19 rfl 2 t_2 hr2 dX2_takeName_1 ?_
    refine q_getI 7 rfl fX2_81 rfl dn (tN hdn) dX2_takeName_4 ?_
    rw [P2_ne (by omega)]
    rw [a1]
    refine q_bipush 9 rfl 9 k_b9 dX2_takeName_7 ?_
    refine q_icmp_lt 12 rfl 18 (by decide) (by omega) (by omega) dX2_takeName_9 (fun h9 => ?_) (fun h9 => ?_)
    · refine q_aload_n 19 rfl rfl dX2_takeName_18 ?_
      refine q_bipush 21 rfl 8 k_b8 dX2_takeName_19 ?_
      refine q_cV1 24 rfl lX2_86 (twc) rfl 2 t_2 rfl rfl rfl dX2_takeName_21 ?_
      refine q_if_neD 27 rfl 29 (by decide) dX2_takeName_24 (fun h24 => ?_) (fun h24 => ?_)
      · exfalso; omega
      · refine q_iconst 28 rfl 0 k_i0 dX2_takeName_27 ?_
        refine q_zret rfl (by first | exact q_n0 | exact q_n1 | exact q_nb _) dX2_takeName_28 ?_
        rw [if_pos hw]
        exact ⟨N, _, _, _, _, rfl, FC.rf, hB, Or.inl ⟨hw, rfl, rfl⟩⟩
    · exfalso; omega
  · have k1 := (wok hw).1
    have k8 := (wok hw).2
    have l0 := (t7 k1).1
    have d0 := hd.1
    have lw : ∀ i, i < e - s → 97 ≤ N 1 (s + i) ∧ N 1 (s + i) ≤ 122 := fun i hi => (t7 k1).2 _ (by omega) (by omega)
    rw [if_neg (show ¬ S 0 0 = 9 by omega), if_neg (show ¬ (0 : Nat) ≠ 0 by decide), if_neg (show ¬ (0 : Nat) ≠ 0 by decide), if_neg (show ¬ wf ≠ 0 by omega), if_neg (by rw [hn]; decide), if_neg (show ¬ wf ≠ 0 by omega), if_neg (by rw [hn]; decide)]
    refine q_con (by decide) rfl rfl (Nat.le_of_ble_eq_true rfl) ?_
    refine q_aload_n 1 rfl rfl dX2_takeName_0 ?_
    refine q_getR 4 rfl fX2_19 rfl 2 t_2 hr2 dX2_takeName_1 ?_
    refine q_getI 7 rfl fX2_81 rfl dn (tN hdn) dX2_takeName_4 ?_
    rw [P2_ne (by omega)]
    rw [a1]
    refine q_bipush 9 rfl 9 k_b9 dX2_takeName_7 ?_
    refine q_icmp_lt 12 rfl 18 (by decide) (by omega) (by omega) dX2_takeName_9 (fun h9 => ?_) (fun h9 => ?_)
    · refine q_aload_n 19 rfl rfl dX2_takeName_18 ?_
      refine q_bipush 21 rfl 8 k_b8 dX2_takeName_19 ?_
      refine q_cV1 24 rfl lX2_86 (twc) rfl 2 t_2 rfl rfl rfl dX2_takeName_21 ?_
      refine q_if_neD 27 rfl 29 (by decide) dX2_takeName_24 (fun h24 => ?_) (fun h24 => ?_)
      · rw [if_neg (show ¬ wf ≠ 0 by omega)]
        refine q_aload_n 30 rfl rfl dX2_takeName_29 ?_
        refine q_getR 33 rfl fX2_19 rfl 2 t_2 hr2 dX2_takeName_30 ?_
        refine q_aload_n 34 rfl rfl dX2_takeName_33 ?_
        refine q_getR 37 rfl fX2_9 rfl 2 t_2 hr0 dX2_takeName_34 ?_
        refine q_aload_n 38 rfl rfl dX2_takeName_37 ?_
        refine q_getI 41 rfl fX2_89 rfl 2 t_2 dX2_takeName_38 ?_
        rw [P2_6]
        refine q_aload_n 42 rfl rfl dX2_takeName_41 ?_
        refine q_getI 45 rfl fX2_27 rfl 2 t_2 dX2_takeName_42 ?_
        rw [P2_4]
        refine q_aload_n 46 rfl rfl dX2_takeName_45 ?_
        refine q_getI 49 rfl fX2_89 rfl 2 t_2 dX2_takeName_46 ?_
        rw [P2_6]
        refine q_isub 50 rfl (by omega) dX2_takeName_49 ?_
        refine q_cV3 53 rfl lX2_92 (k_isTold6 (q := dn) hG hdn (by omega) (fun i hi => by rw [P2_ne (by decide)]; exact lw i hi) k8 (by rw [P2_ne (by omega), a1]; omega) (fun n hn => by rw [P2_ne (by omega)]; have := f1 n hn; omega) (fun i hi => by rw [P2_ne (by omega)]; have := f2 i hi; omega)) rfl dn (tN hdn) rfl rfl rfl dX2_takeName_50 ?_
        rw [newC_P2 hd.1, nwC, hn]
        refine q_if_eq 56 rfl 62 (by decide) (by decide) dX2_takeName_53 (fun h53 => ?_) (fun h53 => ?_)
        · exact absurd h53 (by decide)
        · refine q_aload_n 57 rfl rfl dX2_takeName_56 ?_
          refine q_iconst 58 rfl 4 k_i4 dX2_takeName_57 ?_
          refine q_cV1 61 rfl lX2_50 (k_refuse hG) rfl 2 t_2 rfl rfl rfl dX2_takeName_58 ?_
          refine q_zret rfl (by first | exact q_n0 | exact q_n1 | exact q_nb _) dX2_takeName_61 ?_
          exact ⟨N, _, _, _, _, rfl, FC.rf, hB, Or.inl ⟨by decide, rfl, rfl⟩⟩
      · exfalso; omega
    · exfalso; omega
  · have k1 := (wok hw).1
    have k8 := (wok hw).2
    have l0 := (t7 k1).1
    have d0 := hd.1
    have lw : ∀ i, i < e - s → 97 ≤ N 1 (s + i) ∧ N 1 (s + i) ≤ 122 := fun i hi => (t7 k1).2 _ (by omega) (by omega)
    rw [if_neg (show ¬ S 0 0 = 9 by omega), if_neg (show ¬ (0 : Nat) ≠ 0 by decide), if_neg (show ¬ (0 : Nat) ≠ 0 by decide), if_neg (show ¬ wf ≠ 0 by omega), if_pos hn, if_neg (show ¬ wf ≠ 0 by omega), if_pos hn]
    refine q_con (by decide) rfl rfl (Nat.le_of_ble_eq_true rfl) ?_
    refine q_aload_n 1 rfl rfl dX2_takeName_0 ?_
    refine q_getR 4 rfl fX2_19 rfl 2 t_2 hr2 dX2_takeName_1 ?_
    refine q_getI 7 rfl fX2_81 rfl dn (tN hdn) dX2_takeName_4 ?_
    rw [P2_ne (by omega)]
    rw [a1]
    refine q_bipush 9 rfl 9 k_b9 dX2_takeName_7 ?_
    refine q_icmp_lt 12 rfl 18 (by decide) (by omega) (by omega) dX2_takeName_9 (fun h9 => ?_) (fun h9 => ?_)
    · refine q_aload_n 19 rfl rfl dX2_takeName_18 ?_
      refine q_bipush 21 rfl 8 k_b8 dX2_takeName_19 ?_
      refine q_cV1 24 rfl lX2_86 (twc) rfl 2 t_2 rfl rfl rfl dX2_takeName_21 ?_
      refine q_if_neD 27 rfl 29 (by decide) dX2_takeName_24 (fun h24 => ?_) (fun h24 => ?_)
      · rw [if_neg (show ¬ wf ≠ 0 by omega)]
        refine q_aload_n 30 rfl rfl dX2_takeName_29 ?_
        refine q_getR 33 rfl fX2_19 rfl 2 t_2 hr2 dX2_takeName_30 ?_
        refine q_aload_n 34 rfl rfl dX2_takeName_33 ?_
        refine q_getR 37 rfl fX2_9 rfl 2 t_2 hr0 dX2_takeName_34 ?_
        refine q_aload_n 38 rfl rfl dX2_takeName_37 ?_
        refine q_getI 41 rfl fX2_89 rfl 2 t_2 dX2_takeName_38 ?_
        rw [P2_6]
        refine q_aload_n 42 rfl rfl dX2_takeName_41 ?_
        refine q_getI 45 rfl fX2_27 rfl 2 t_2 dX2_takeName_42 ?_
        rw [P2_4]
        refine q_aload_n 46 rfl rfl dX2_takeName_45 ?_
        refine q_getI 49 rfl fX2_89 rfl 2 t_2 dX2_takeName_46 ?_
        rw [P2_6]
        refine q_isub 50 rfl (by omega) dX2_takeName_49 ?_
        refine q_cV3 53 rfl lX2_92 (k_isTold6 (q := dn) hG hdn (by omega) (fun i hi => by rw [P2_ne (by decide)]; exact lw i hi) k8 (by rw [P2_ne (by omega), a1]; omega) (fun n hn => by rw [P2_ne (by omega)]; have := f1 n hn; omega) (fun i hi => by rw [P2_ne (by omega)]; have := f2 i hi; omega)) rfl dn (tN hdn) rfl rfl rfl dX2_takeName_50 ?_
        rw [newC_P2 hd.1, nwC, hn]
        refine q_if_eq 56 rfl 62 (by decide) (by decide) dX2_takeName_53 (fun h53 => ?_) (fun h53 => ?_)
        · refine q_aload_n 63 rfl rfl dX2_takeName_62 ?_
          refine q_getR 66 rfl fX2_19 rfl 2 t_2 hr2 dX2_takeName_63 ?_
          refine q_aload_n 67 rfl rfl dX2_takeName_66 ?_
          refine q_getR 70 rfl fX2_9 rfl 2 t_2 hr0 dX2_takeName_67 ?_
          refine q_aload_n 71 rfl rfl dX2_takeName_70 ?_
          refine q_getI 74 rfl fX2_89 rfl 2 t_2 dX2_takeName_71 ?_
          rw [P2_6]
          refine q_aload_n 75 rfl rfl dX2_takeName_74 ?_
          refine q_getI 78 rfl fX2_27 rfl 2 t_2 dX2_takeName_75 ?_
          rw [P2_4]
          refine q_aload_n 79 rfl rfl dX2_takeName_78 ?_
          refine q_getI 82 rfl fX2_89 rfl 2 t_2 dX2_takeName_79 ?_
          rw [P2_6]
          refine q_isub 83 rfl (by omega) dX2_takeName_82 ?_
          refine q_cV3v 86 rfl lX2_96 (k_addName (q := dn) hG hdn (by omega) (fun i hi => by rw [P2_ne (by decide)]; exact lw i hi) k8 (by rw [P2_ne (by omega), a1]; exact hA)) rfl dn (tN hdn) rfl rfl rfl dX2_takeName_83 ?_
          rw [adC_P2 hd.1, hN1]
          refine q_aload_n 87 rfl rfl dX2_takeName_86 ?_
          refine q_iconst 88 rfl 1 k_i1 dX2_takeName_87 ?_
          refine q_bipush 90 rfl 9 k_b9 dX2_takeName_88 ?_
          refine q_cV2 93 rfl lX2_100 (tnc _ _ _) rfl 2 t_2 rfl rfl rfl dX2_takeName_90 ?_
          refine q_if_neD 96 rfl 98 (by decide) dX2_takeName_93 (fun h93 => ?_) (fun h93 => ?_)
          · exfalso; omega
          · refine q_iconst 97 rfl 0 k_i0 dX2_takeName_96 ?_
            refine q_zret rfl (by first | exact q_n0 | exact q_n1 | exact q_nb _) dX2_takeName_97 ?_
            rw [if_pos hz]
            exact ⟨N1, _, _, _, _, rfl, fc1, cb1 hA hw, Or.inl ⟨hz, rfl, rfl⟩⟩
        · exact absurd rfl h53
      · exfalso; omega
    · exfalso; omega
  · have k1 := (wok hw).1
    have k8 := (wok hw).2
    have l0 := (t7 k1).1
    have d0 := hd.1
    have lw : ∀ i, i < e - s → 97 ≤ N 1 (s + i) ∧ N 1 (s + i) ≤ 122 := fun i hi => (t7 k1).2 _ (by omega) (by omega)
    rw [if_neg (show ¬ S 0 0 = 9 by omega), if_neg (show ¬ (0 : Nat) ≠ 0 by decide), if_neg (show ¬ (0 : Nat) ≠ 0 by decide), if_neg (show ¬ wf ≠ 0 by omega), if_pos hn, if_neg (show ¬ wf ≠ 0 by omega), if_pos hn, hz]
    refine q_con (by decide) rfl rfl (Nat.le_of_ble_eq_true rfl) ?_
    refine q_aload_n 1 rfl rfl dX2_takeName_0 ?_
    refine q_getR 4 rfl fX2_19 rfl 2 t_2 hr2 dX2_takeName_1 ?_
    refine q_getI 7 rfl fX2_81 rfl dn (tN hdn) dX2_takeName_4 ?_
    rw [P2_ne (by omega)]
    rw [a1]
    refine q_bipush 9 rfl 9 k_b9 dX2_takeName_7 ?_
    refine q_icmp_lt 12 rfl 18 (by decide) (by omega) (by omega) dX2_takeName_9 (fun h9 => ?_) (fun h9 => ?_)
    · refine q_aload_n 19 rfl rfl dX2_takeName_18 ?_
      refine q_bipush 21 rfl 8 k_b8 dX2_takeName_19 ?_
      refine q_cV1 24 rfl lX2_86 (twc) rfl 2 t_2 rfl rfl rfl dX2_takeName_21 ?_
      refine q_if_neD 27 rfl 29 (by decide) dX2_takeName_24 (fun h24 => ?_) (fun h24 => ?_)
      · rw [if_neg (show ¬ wf ≠ 0 by omega)]
        refine q_aload_n 30 rfl rfl dX2_takeName_29 ?_
        refine q_getR 33 rfl fX2_19 rfl 2 t_2 hr2 dX2_takeName_30 ?_
        refine q_aload_n 34 rfl rfl dX2_takeName_33 ?_
        refine q_getR 37 rfl fX2_9 rfl 2 t_2 hr0 dX2_takeName_34 ?_
        refine q_aload_n 38 rfl rfl dX2_takeName_37 ?_
        refine q_getI 41 rfl fX2_89 rfl 2 t_2 dX2_takeName_38 ?_
        rw [P2_6]
        refine q_aload_n 42 rfl rfl dX2_takeName_41 ?_
        refine q_getI 45 rfl fX2_27 rfl 2 t_2 dX2_takeName_42 ?_
        rw [P2_4]
        refine q_aload_n 46 rfl rfl dX2_takeName_45 ?_
        refine q_getI 49 rfl fX2_89 rfl 2 t_2 dX2_takeName_46 ?_
        rw [P2_6]
        refine q_isub 50 rfl (by omega) dX2_takeName_49 ?_
        refine q_cV3 53 rfl lX2_92 (k_isTold6 (q := dn) hG hdn (by omega) (fun i hi => by rw [P2_ne (by decide)]; exact lw i hi) k8 (by rw [P2_ne (by omega), a1]; omega) (fun n hn => by rw [P2_ne (by omega)]; have := f1 n hn; omega) (fun i hi => by rw [P2_ne (by omega)]; have := f2 i hi; omega)) rfl dn (tN hdn) rfl rfl rfl dX2_takeName_50 ?_
        rw [newC_P2 hd.1, nwC, hn]
        refine q_if_eq 56 rfl 62 (by decide) (by decide) dX2_takeName_53 (fun h53 => ?_) (fun h53 => ?_)
        · refine q_aload_n 63 rfl rfl dX2_takeName_62 ?_
          refine q_getR 66 rfl fX2_19 rfl 2 t_2 hr2 dX2_takeName_63 ?_
          refine q_aload_n 67 rfl rfl dX2_takeName_66 ?_
          refine q_getR 70 rfl fX2_9 rfl 2 t_2 hr0 dX2_takeName_67 ?_
          refine q_aload_n 71 rfl rfl dX2_takeName_70 ?_
          refine q_getI 74 rfl fX2_89 rfl 2 t_2 dX2_takeName_71 ?_
          rw [P2_6]
          refine q_aload_n 75 rfl rfl dX2_takeName_74 ?_
          refine q_getI 78 rfl fX2_27 rfl 2 t_2 dX2_takeName_75 ?_
          rw [P2_4]
          refine q_aload_n 79 rfl rfl dX2_takeName_78 ?_
          refine q_getI 82 rfl fX2_89 rfl 2 t_2 dX2_takeName_79 ?_
          rw [P2_6]
          refine q_isub 83 rfl (by omega) dX2_takeName_82 ?_
          refine q_cV3v 86 rfl lX2_96 (k_addName (q := dn) hG hdn (by omega) (fun i hi => by rw [P2_ne (by decide)]; exact lw i hi) k8 (by rw [P2_ne (by omega), a1]; exact hA)) rfl dn (tN hdn) rfl rfl rfl dX2_takeName_83 ?_
          rw [adC_P2 hd.1, hN1]
          refine q_aload_n 87 rfl rfl dX2_takeName_86 ?_
          refine q_iconst 88 rfl 1 k_i1 dX2_takeName_87 ?_
          refine q_bipush 90 rfl 9 k_b9 dX2_takeName_88 ?_
          refine q_cV2 93 rfl lX2_100 (tnc _ _ _) rfl 2 t_2 rfl rfl rfl dX2_takeName_90 ?_
          refine q_if_neD 96 rfl 98 (by decide) dX2_takeName_93 (fun h93 => ?_) (fun h93 => ?_)
          · rw [if_neg (show ¬ nf ≠ 0 by omega), if_pos (nok hz).1]
            refine q_aload_n 99 rfl rfl dX2_takeName_98 ?_
            refine q_getR 102 rfl fX2_23 rfl 2 t_2 hr3 dX2_takeName_99 ?_
            refine q_getR 105 rfl fX2_104 rfl dm (tM hdm) (gM_0 hdm hG) dX2_takeName_102 ?_
            refine q_aload_n 106 rfl rfl dX2_takeName_105 ?_
            refine q_getR 109 rfl fX2_19 rfl 2 t_2 hr2 dX2_takeName_106 ?_
            refine q_getI 112 rfl fX2_81 rfl dn (tN hdn) dX2_takeName_109 ?_
            rw [P2_ne (by omega)]
            rw [w2, a1]
            refine q_iconst 113 rfl 1 k_i1 dX2_takeName_112 ?_
            refine q_isub 114 rfl (by omega) dX2_takeName_113 ?_
            rw [show S 0 0 + 1 - 1 = S 0 0 by omega]
            refine q_aload_n 115 rfl rfl dX2_takeName_114 ?_
            refine q_getI 118 rfl fX2_110 rfl 2 t_2 dX2_takeName_115 ?_
            rw [P2_7]
            refine q_iast 119 rfl (dm + 1) (tM1 hdm) (by omega) (by decide) dX2_takeName_118 ?_
            rw [P2_as (by omega)]
            refine q_iconst 120 rfl 1 k_i1 dX2_takeName_119 ?_
            refine q_zret rfl (by first | exact q_n0 | exact q_n1 | exact q_nb _) dX2_takeName_120 ?_
            exact ⟨_, _, _, _, _, rfl, fc1.tr (FC.od hd), (cb1 hA hw).od hd (nok hz).2.2, Or.inr ⟨rfl, rfl, rfl, mr2 _ hA k8⟩⟩
          · exfalso; omega
        · exact absurd rfl h53
      · exfalso; omega
    · exfalso; omega
end
