section
variable {Γ : q_G} {ad : Nat → Nat} {N : Nat → Nat → Nat} {L : Nat → Nat → Int} {G : Nat → Nat → Option Nat}
theorem k_takeWord {mx : Nat} {p : Nat} {tk st vl ft : Nat} (hG : GF ad G) (hr0 : G 2 0 = some (ad 1)) (hl : N 2 1 ≤ 160) (ht : ∀ i, i < 160 → N 1 i < 128) (hp : p ≤ N 2 1) (hmx : mx < 2147483648) : q_Con Γ mX2_takeWord 2 0 0 [.ref (ad 2), .int (nI mx)] (LT ad, P2 N p tk st vl ft, L, G) (q_is (some (.int (nI (decide (wrdf (N 1) (N 2 1) p mx = 0)).toNat))) (LT ad, P2 N (tkE (N 1) (N 2 1) p) (if (tkn (N 1) (N 2 1) p).1 = 4 then 2 else (tkn (N 1) (N 2 1) p).1) (tkS (N 1) (N 2 1) p) vl (if wrdf (N 1) (N 2 1) p mx ≠ 0 then wrdf (N 1) (N 2 1) p mx else ft), L, G)) := by
  obtain ⟨t1, t2, t3, t4, t5, t6, t7, t8, t9⟩ := tkn_spec (t := N 1) hp
  have w4 : (tkn (N 1) (N 2 1) p).1 = 4 → wrdf (N 1) (N 2 1) p mx = 1 := fun q => by rw [wrdf, if_pos q]
  have w2 : (tkn (N 1) (N 2 1) p).1 ≠ 4 → (tkn (N 1) (N 2 1) p).1 ≠ 1 → wrdf (N 1) (N 2 1) p mx = 2 := fun q1 q2 => by rw [wrdf, if_neg q1, wb, if_pos q2]
  have w3 : (tkn (N 1) (N 2 1) p).1 = 1 → mx < tkE (N 1) (N 2 1) p - tkS (N 1) (N 2 1) p → wrdf (N 1) (N 2 1) p mx = 3 := fun q1 q2 => by rw [wrdf, if_neg (by omega), wb, if_neg (by omega), if_pos q2]
  have w0 : (tkn (N 1) (N 2 1) p).1 = 1 → ¬ mx < tkE (N 1) (N 2 1) p - tkS (N 1) (N 2 1) p → wrdf (N 1) (N 2 1) p mx = 0 := fun q1 q2 => by rw [wrdf, if_neg (by omega), wb, if_neg (by omega), if_neg q2]
  generalize hwf : wrdf (N 1) (N 2 1) p mx = wf at *
  have tkc := k_take (Γ := Γ) (L := L) (tk := tk) (st := st) (vl := vl) (ft := ft) hG hr0 hl ht hp
  generalize hkk : (tkn (N 1) (N 2 1) p).1 = k at *
  generalize hee : tkE (N 1) (N 2 1) p = e at *
  generalize hss : tkS (N 1) (N 2 1) p = s at *
  refine q_con (by decide) rfl rfl (Nat.le_of_ble_eq_true rfl) ?_
  refine q_aload_n 1 rfl rfl dX2_takeWord_0 ?_
  refine q_cV0 4 rfl lX2_40 (tkc) rfl 2 t_2 rfl rfl rfl dX2_takeWord_1 ?_
  refine q_if_neD 7 rfl 9 (by decide) dX2_takeWord_4 (fun h4 => ?_) (fun h4 => ?_)
  · rw [if_neg h4, if_neg h4]
    refine q_aload_n 10 rfl rfl dX2_takeWord_9 ?_
    refine q_getI 13 rfl fX2_44 rfl 2 t_2 dX2_takeWord_10 ?_
    rw [P2_5]
    refine q_iconst 14 rfl 1 k_i1 dX2_takeWord_13 ?_
    refine q_icmp_eq 17 rfl 23 (by decide) (by omega) (by omega) dX2_takeWord_14 (fun h14 => ?_) (fun h14 => ?_)
    · refine q_aload_n 24 rfl rfl dX2_takeWord_23 ?_
      refine q_getI 27 rfl fX2_27 rfl 2 t_2 dX2_takeWord_24 ?_
      rw [P2_4]
      refine q_aload_n 28 rfl rfl dX2_takeWord_27 ?_
      refine q_getI 31 rfl fX2_89 rfl 2 t_2 dX2_takeWord_28 ?_
      rw [P2_6]
      refine q_isub 32 rfl (by omega) dX2_takeWord_31 ?_
      refine q_iload_n 33 rfl rfl dX2_takeWord_32 ?_
      refine q_icmp_le 36 rfl 44 (by decide) (by omega) (by omega) dX2_takeWord_33 (fun h33 => ?_) (fun h33 => ?_)
      · refine q_iconst 45 rfl 1 k_i1 dX2_takeWord_44 ?_
        refine q_goto 49 (by decide) dX2_takeWord_45 ?_
        refine q_zret rfl (by first | exact q_n0 | exact q_n1 | exact q_nb _) dX2_takeWord_49 ?_
        first
          | (have e1 := w4 h4; subst e1; exact ⟨rfl, rfl⟩)
          | (have e1 := w2 h4 h14; subst e1; exact ⟨rfl, rfl⟩)
          | (have e1 := w3 h14 (by omega); subst e1; exact ⟨rfl, rfl⟩)
          | (have e1 := w0 h14 (by omega); subst e1; exact ⟨rfl, rfl⟩)
      · refine q_aload_n 37 rfl rfl dX2_takeWord_36 ?_
        refine q_iconst 38 rfl 3 k_i3 dX2_takeWord_37 ?_
        refine q_cV1 41 rfl lX2_50 (k_refuse hG) rfl 2 t_2 rfl rfl rfl dX2_takeWord_38 ?_
        refine q_if_eq 44 rfl 48 (by decide) (by omega) dX2_takeWord_41 (fun h41 => ?_) (fun h41 => ?_)
        · refine q_iconst 49 rfl 0 k_i0 dX2_takeWord_48 ?_
          refine q_zret rfl (by first | exact q_n0 | exact q_n1 | exact q_nb _) dX2_takeWord_49 ?_
          first
            | (have e1 := w4 h4; subst e1; exact ⟨rfl, rfl⟩)
            | (have e1 := w2 h4 h14; subst e1; exact ⟨rfl, rfl⟩)
            | (have e1 := w3 h14 (by omega); subst e1; exact ⟨rfl, rfl⟩)
            | (have e1 := w0 h14 (by omega); subst e1; exact ⟨rfl, rfl⟩)
        · exfalso; omega
    · refine q_aload_n 18 rfl rfl dX2_takeWord_17 ?_
      refine q_iconst 19 rfl 2 k_i2 dX2_takeWord_18 ?_
      refine q_cV1 22 rfl lX2_50 (k_refuse hG) rfl 2 t_2 rfl rfl rfl dX2_takeWord_19 ?_
      refine q_zret rfl (by first | exact q_n0 | exact q_n1 | exact q_nb _) dX2_takeWord_22 ?_
      first
        | (have e1 := w4 h4; subst e1; exact ⟨rfl, rfl⟩)
        | (have e1 := w2 h4 h14; subst e1; exact ⟨rfl, rfl⟩)
        | (have e1 := w3 h14 (by omega); subst e1; exact ⟨rfl, rfl⟩)
        | (have e1 := w0 h14 (by omega); subst e1; exact ⟨rfl, rfl⟩)
  · have h4 : k = 4 := Classical.byContradiction h4
    rw [if_pos h4, if_pos h4]
    refine q_iconst 8 rfl 0 k_i0 dX2_takeWord_7 ?_
    refine q_zret rfl (by first | exact q_n0 | exact q_n1 | exact q_nb _) dX2_takeWord_8 ?_
    first
      | (have e1 := w4 h4; subst e1; exact ⟨rfl, rfl⟩)
      | (have e1 := w2 h4 h14; subst e1; exact ⟨rfl, rfl⟩)
      | (have e1 := w3 h14 (by omega); subst e1; exact ⟨rfl, rfl⟩)
      | (have e1 := w0 h14 (by omega); subst e1; exact ⟨rfl, rfl⟩)
theorem k_takeStop {p : Nat} {tk st vl ft : Nat} (hG : GF ad G) (hr0 : G 2 0 = some (ad 1)) (hl : N 2 1 ≤ 160) (ht : ∀ i, i < 160 → N 1 i < 128) (hp : p ≤ N 2 1) : q_Con Γ mX2_takeStop 2 0 0 [.ref (ad 2)] (LT ad, P2 N p tk st vl ft, L, G) (q_is (some (.int (nI (decide (sttf (N 1) (N 2 1) p = 0)).toNat))) (LT ad, P2 N (tkE (N 1) (N 2 1) p) (if (tkn (N 1) (N 2 1) p).1 = 4 then 2 else (tkn (N 1) (N 2 1) p).1) (tkS (N 1) (N 2 1) p) vl (if sttf (N 1) (N 2 1) p ≠ 0 then sttf (N 1) (N 2 1) p else ft), L, G)) := by
  obtain ⟨t1, t2, t3, t4, t5, t6, t7, t8, t9⟩ := tkn_spec (t := N 1) hp
  have w4 : (tkn (N 1) (N 2 1) p).1 = 4 → sttf (N 1) (N 2 1) p = 1 := fun q => by rw [sttf, if_pos q]
  have w0 : (tkn (N 1) (N 2 1) p).1 = 3 → sttf (N 1) (N 2 1) p = 0 := fun q => by rw [sttf, if_neg (by omega), if_pos q]
  have w2 : (tkn (N 1) (N 2 1) p).1 ≠ 4 → (tkn (N 1) (N 2 1) p).1 ≠ 3 → sttf (N 1) (N 2 1) p = 2 := fun q1 q2 => by rw [sttf, if_neg q1, if_neg q2]
  generalize hwf : sttf (N 1) (N 2 1) p = wf at *
  have tkc := k_take (Γ := Γ) (L := L) (tk := tk) (st := st) (vl := vl) (ft := ft) hG hr0 hl ht hp
  generalize hkk : (tkn (N 1) (N 2 1) p).1 = k at *
  generalize hee : tkE (N 1) (N 2 1) p = e at *
  generalize hss : tkS (N 1) (N 2 1) p = s at *
  refine q_con (by decide) rfl rfl (Nat.le_of_ble_eq_true rfl) ?_
  refine q_aload_n 1 rfl rfl dX2_takeStop_0 ?_
  refine q_cV0 4 rfl lX2_40 (tkc) rfl 2 t_2 rfl rfl rfl dX2_takeStop_1 ?_
  refine q_if_eqD 7 rfl 27 (by decide) dX2_takeStop_4 (fun h4 => ?_) (fun h4 => ?_)
  · have h4 : k = 4 := Classical.byContradiction h4
    rw [if_pos h4, if_pos h4]
    refine q_iconst 28 rfl 0 k_i0 dX2_takeStop_27 ?_
    refine q_zret rfl (by first | exact q_n0 | exact q_n1 | exact q_nb _) dX2_takeStop_28 ?_
    first
      | (have e1 := w4 h4; subst e1; exact ⟨rfl, rfl⟩)
      | (have e1 := w0 h12; subst e1; exact ⟨rfl, rfl⟩)
      | (have e1 := w2 h4 h12; subst e1; exact ⟨rfl, rfl⟩)
  · rw [if_neg h4, if_neg h4]
    refine q_aload_n 8 rfl rfl dX2_takeStop_7 ?_
    refine q_getI 11 rfl fX2_44 rfl 2 t_2 dX2_takeStop_8 ?_
    rw [P2_5]
    refine q_iconst 12 rfl 3 k_i3 dX2_takeStop_11 ?_
    refine q_icmp_eq 15 rfl 23 (by decide) (by omega) (by omega) dX2_takeStop_12 (fun h12 => ?_) (fun h12 => ?_)
    · refine q_iconst 24 rfl 1 k_i1 dX2_takeStop_23 ?_
      refine q_goto 28 (by decide) dX2_takeStop_24 ?_
      refine q_zret rfl (by first | exact q_n0 | exact q_n1 | exact q_nb _) dX2_takeStop_28 ?_
      first
        | (have e1 := w4 h4; subst e1; exact ⟨rfl, rfl⟩)
        | (have e1 := w0 h12; subst e1; exact ⟨rfl, rfl⟩)
        | (have e1 := w2 h4 h12; subst e1; exact ⟨rfl, rfl⟩)
    · refine q_aload_n 16 rfl rfl dX2_takeStop_15 ?_
      refine q_iconst 17 rfl 2 k_i2 dX2_takeStop_16 ?_
      refine q_cV1 20 rfl lX2_50 (k_refuse hG) rfl 2 t_2 rfl rfl rfl dX2_takeStop_17 ?_
      refine q_if_eq 23 rfl 27 (by decide) (by omega) dX2_takeStop_20 (fun h20 => ?_) (fun h20 => ?_)
      · refine q_iconst 28 rfl 0 k_i0 dX2_takeStop_27 ?_
        refine q_zret rfl (by first | exact q_n0 | exact q_n1 | exact q_nb _) dX2_takeStop_28 ?_
        first
          | (have e1 := w4 h4; subst e1; exact ⟨rfl, rfl⟩)
          | (have e1 := w0 h12; subst e1; exact ⟨rfl, rfl⟩)
          | (have e1 := w2 h4 h12; subst e1; exact ⟨rfl, rfl⟩)
      · exfalso; omega
theorem num_lp {Z : q_Zt} {lo hi e s ft mc mz : Nat} (hG : GF ad G) (hr0 : G 2 0 = some (ad 1)) (hl : N 2 1 ≤ 160) (he : e ≤ N 2 1) (h2 : e ≤ s + 2) (hd : ∀ i, s ≤ i → i < e → 48 ≤ N 1 i ∧ N 1 i ≤ 57) (hx : q_R Γ mX2_takeNumber (q_room 2 mc mz) Z 0 0 68 [(0, .ref (ad 2)), (1, .int (nI lo)), (2, .int (nI hi))] [] (LT ad, (P2 N e 2 s (vlr (N 1) s ((e) - s)) ft), L, G)) : ∀ i, i ≤ e → s ≤ i →  ∀ H : Nat → Nat → Nat, H = P2 N e 2 s (vlr (N 1) s (i - s)) ft → q_R Γ mX2_takeNumber (q_room 2 mc mz) Z 0 0 33 [(0, .ref (ad 2)), (1, .int (nI lo)), (2, .int (nI hi)), (3, .int (nI i))] [] (LT ad, H, L, G) := by
  refine dn_loop (e) ?_ ?_
  · intro h_ex H h_H
    subst h_H
    refine q_iload_n 34 rfl rfl dX2_takeNumber_33 ?_
    refine q_aload_n 35 rfl rfl dX2_takeNumber_34 ?_
    refine q_getI 38 rfl fX2_27 rfl 2 t_2 dX2_takeNumber_35 ?_
    rw [P2_4]
    refine q_icmp_ge 41 rfl 68 (by decide) (by omega) (by omega) dX2_takeNumber_38 (fun h38 => ?_) (fun h38 => ?_)
    · exact q_loc hx (q_sub1 rfl (q_sub1 rfl (q_sub1 rfl q_sub0)))
    · exfalso; omega
  · intro i h_i ih h_ex H h_H
    subst h_H
    have d1 := hd i h_ex h_i
    have ev : vlr (N 1) s (i - s) * 10 + (N 1 i - 48) = vlr (N 1) s (i + 1 - s) := by
      rw [show i + 1 - s = (i - s) + 1 by omega, vlr, show s + (i - s) = i by omega, Nat.mul_comm]
    refine q_iload_n 34 rfl rfl dX2_takeNumber_33 ?_
    refine q_aload_n 35 rfl rfl dX2_takeNumber_34 ?_
    refine q_getI 38 rfl fX2_27 rfl 2 t_2 dX2_takeNumber_35 ?_
    rw [P2_4]
    refine q_icmp_ge 41 rfl 68 (by decide) (by omega) (by omega) dX2_takeNumber_38 (fun h38 => ?_) (fun h38 => ?_)
    · exfalso; omega
    · refine q_aload_n 42 rfl rfl dX2_takeNumber_41 ?_
      refine q_aload_n 43 rfl rfl dX2_takeNumber_42 ?_
      refine q_getI 46 rfl fX2_110 rfl 2 t_2 dX2_takeNumber_43 ?_
      rw [P2_7]
      refine q_bipush 48 rfl 10 k_b10 dX2_takeNumber_46 ?_
      refine q_imul 49 rfl dX2_takeNumber_48 ?_
      refine q_aload_n 50 rfl rfl dX2_takeNumber_49 ?_
      refine q_getR 53 rfl fX2_9 rfl 2 t_2 hr0 dX2_takeNumber_50 ?_
      refine q_iload_n 54 rfl rfl dX2_takeNumber_53 ?_
      refine q_bald 55 rfl 1 t_1 (by omega) (by decide) dX2_takeNumber_54 ?_
      rw [P2_ne (by omega)]
      refine q_bipush 57 rfl 48 k_b48 dX2_takeNumber_55 ?_
      refine q_isub 58 rfl (by omega) dX2_takeNumber_57 ?_
      refine q_iadd 59 rfl dX2_takeNumber_58 ?_
      rw [ev]
      refine q_putI 62 rfl pX2_110 (fun q => by cases q) rfl 2 t_2 dX2_takeNumber_59 ?_
      rw [P2_s7]
      refine q_iinc1 65 rfl 1 k_i1 rfl (by decide) dX2_takeNumber_62 ?_
      refine q_goto 33 (by decide) dX2_takeNumber_65 ?_
      refine q_loc (ih (by omega) _ ?_) (q_sub1 rfl (q_sub1 rfl (q_sub1 rfl (q_sub1 rfl q_sub0))))
      · rfl
theorem k_takeNumber {lo hi : Nat} {p : Nat} {tk st vl ft : Nat} (hG : GF ad G) (hr0 : G 2 0 = some (ad 1)) (hl : N 2 1 ≤ 160) (ht : ∀ i, i < 160 → N 1 i < 128) (hp : p ≤ N 2 1) (hlo : lo < 2147483648) (hhi : hi < 2147483648) : q_Con Γ mX2_takeNumber 2 0 0 [.ref (ad 2), .int (nI lo), .int (nI hi)] (LT ad, P2 N p tk st vl ft, L, G) (q_is (some (.int (nI (decide (nmbf (N 1) (N 2 1) p lo hi = 0)).toNat))) (LT ad, P2 N (tkE (N 1) (N 2 1) p) (if (tkn (N 1) (N 2 1) p).1 = 4 then 2 else (tkn (N 1) (N 2 1) p).1) (tkS (N 1) (N 2 1) p) (if (tkn (N 1) (N 2 1) p).1 = 2 then tkV (N 1) (N 2 1) p else vl) (if nmbf (N 1) (N 2 1) p lo hi ≠ 0 then nmbf (N 1) (N 2 1) p lo hi else ft), L, G)) := by
  obtain ⟨t1, t2, t3, t4, t5, t6, t7, t8, t9⟩ := tkn_spec (t := N 1) hp
  have vle := tkV_le (t := N 1) (len := N 2 1) (p := p) hp
  have w4 : (tkn (N 1) (N 2 1) p).1 = 4 → nmbf (N 1) (N 2 1) p lo hi = 1 := fun q => by rw [nmbf, if_pos q]
  have w2 : (tkn (N 1) (N 2 1) p).1 ≠ 4 → (tkn (N 1) (N 2 1) p).1 ≠ 2 → nmbf (N 1) (N 2 1) p lo hi = 2 := fun q1 q2 => by rw [nmbf, if_neg q1, nb, if_pos q2]
  have w3 : (tkn (N 1) (N 2 1) p).1 = 2 → ¬ (lo ≤ tkV (N 1) (N 2 1) p ∧ tkV (N 1) (N 2 1) p ≤ hi) → nmbf (N 1) (N 2 1) p lo hi = 3 := fun q1 q2 => by rw [nmbf, if_neg (by omega), nb, if_neg (by omega), if_neg q2]
  have w0 : (tkn (N 1) (N 2 1) p).1 = 2 → (lo ≤ tkV (N 1) (N 2 1) p ∧ tkV (N 1) (N 2 1) p ≤ hi) → nmbf (N 1) (N 2 1) p lo hi = 0 := fun q1 q2 => by rw [nmbf, if_neg (by omega), nb, if_neg (by omega), if_pos q2]
  unfold tkV at *
  generalize hwf : nmbf (N 1) (N 2 1) p lo hi = wf at *
  have tkc := k_take (Γ := Γ) (L := L) (tk := tk) (st := st) (vl := vl) (ft := ft) hG hr0 hl ht hp
  generalize hkk : (tkn (N 1) (N 2 1) p).1 = k at *
  generalize hee : tkE (N 1) (N 2 1) p = e at *
  generalize hss : tkS (N 1) (N 2 1) p = s at *
  refine q_con (by decide) rfl rfl (Nat.le_of_ble_eq_true rfl) ?_
  refine q_aload_n 1 rfl rfl dX2_takeNumber_0 ?_
  refine q_cV0 4 rfl lX2_40 (tkc) rfl 2 t_2 rfl rfl rfl dX2_takeNumber_1 ?_
  refine q_if_neD 7 rfl 9 (by decide) dX2_takeNumber_4 (fun h4 => ?_) (fun h4 => ?_)
  · rw [if_neg h4, if_neg h4]
    refine q_aload_n 10 rfl rfl dX2_takeNumber_9 ?_
    refine q_getI 13 rfl fX2_44 rfl 2 t_2 dX2_takeNumber_10 ?_
    rw [P2_5]
    refine q_iconst 14 rfl 2 k_i2 dX2_takeNumber_13 ?_
    refine q_icmp_eq 17 rfl 23 (by decide) (by omega) (by omega) dX2_takeNumber_14 (fun h14 => ?_) (fun h14 => ?_)
    · obtain ⟨q1, q2, q3⟩ := t8 (by omega)
      have vl9 := vle (by omega)
      rw [show k = 2 by omega]
      refine q_aload_n 24 rfl rfl dX2_takeNumber_23 ?_
      refine q_iconst 25 rfl 0 k_i0 dX2_takeNumber_24 ?_
      refine q_putI 28 rfl pX2_110 (fun q => by cases q) rfl 2 t_2 dX2_takeNumber_25 ?_
      rw [P2_s7]
      refine q_aload_n 29 rfl rfl dX2_takeNumber_28 ?_
      refine q_getI 32 rfl fX2_89 rfl 2 t_2 dX2_takeNumber_29 ?_
      rw [P2_6]
      refine q_istore_n 33 rfl (by decide) dX2_takeNumber_32 ?_
      refine q_loc (num_lp (N := N) (e := e) (s := s) (ft := ft) hG hr0 hl t3 q2 q3 ?_ s (by omega) (by omega) _ ?_) (q_sub1 rfl (q_sub1 rfl (q_sub1 rfl (q_sub1 rfl q_sub0))))
      rotate_left
      · rw [Nat.sub_self]; rfl
      refine q_aload_n 69 rfl rfl dX2_takeNumber_68 ?_
      refine q_getI 72 rfl fX2_110 rfl 2 t_2 dX2_takeNumber_69 ?_
      rw [P2_7]
      refine q_iload_n 73 rfl rfl dX2_takeNumber_72 ?_
      refine q_iload_n 74 rfl rfl dX2_takeNumber_73 ?_
      refine q_cS3 77 rfl lX2_133 (k_within (by omega) (by omega) (by omega)) rfl rfl rfl dX2_takeNumber_74 ?_
      refine q_if_neD 80 rfl 88 (by decide) dX2_takeNumber_77 (fun h77 => ?_) (fun h77 => ?_)
      · refine q_iconst 89 rfl 1 k_i1 dX2_takeNumber_88 ?_
        refine q_goto 93 (by decide) dX2_takeNumber_89 ?_
        refine q_zret rfl (by first | exact q_n0 | exact q_n1 | exact q_nb _) dX2_takeNumber_93 ?_
        first
          | (have e1 := w4 h4; subst e1; (try rw [if_neg (show ¬ k = 2 by omega)]); exact ⟨rfl, rfl⟩)
          | (have e1 := w2 h4 h14; subst e1; (try rw [if_neg h14]); exact ⟨rfl, rfl⟩)
          | (have e1 := w3 h14 (by omega); subst e1; exact ⟨rfl, rfl⟩)
          | (have e1 := w0 h14 (by omega); subst e1; exact ⟨rfl, rfl⟩)
      · refine q_aload_n 81 rfl rfl dX2_takeNumber_80 ?_
        refine q_iconst 82 rfl 3 k_i3 dX2_takeNumber_81 ?_
        refine q_cV1 85 rfl lX2_50 (k_refuse hG) rfl 2 t_2 rfl rfl rfl dX2_takeNumber_82 ?_
        refine q_if_eq 88 rfl 92 (by decide) (by omega) dX2_takeNumber_85 (fun h85 => ?_) (fun h85 => ?_)
        · refine q_iconst 93 rfl 0 k_i0 dX2_takeNumber_92 ?_
          refine q_zret rfl (by first | exact q_n0 | exact q_n1 | exact q_nb _) dX2_takeNumber_93 ?_
          first
            | (have e1 := w4 h4; subst e1; (try rw [if_neg (show ¬ k = 2 by omega)]); exact ⟨rfl, rfl⟩)
            | (have e1 := w2 h4 h14; subst e1; (try rw [if_neg h14]); exact ⟨rfl, rfl⟩)
            | (have e1 := w3 h14 (by omega); subst e1; exact ⟨rfl, rfl⟩)
            | (have e1 := w0 h14 (by omega); subst e1; exact ⟨rfl, rfl⟩)
        · exfalso; omega
    · refine q_aload_n 18 rfl rfl dX2_takeNumber_17 ?_
      refine q_iconst 19 rfl 2 k_i2 dX2_takeNumber_18 ?_
      refine q_cV1 22 rfl lX2_50 (k_refuse hG) rfl 2 t_2 rfl rfl rfl dX2_takeNumber_19 ?_
      refine q_zret rfl (by first | exact q_n0 | exact q_n1 | exact q_nb _) dX2_takeNumber_22 ?_
      first
        | (have e1 := w4 h4; subst e1; (try rw [if_neg (show ¬ k = 2 by omega)]); exact ⟨rfl, rfl⟩)
        | (have e1 := w2 h4 h14; subst e1; (try rw [if_neg h14]); exact ⟨rfl, rfl⟩)
        | (have e1 := w3 h14 (by omega); subst e1; exact ⟨rfl, rfl⟩)
        | (have e1 := w0 h14 (by omega); subst e1; exact ⟨rfl, rfl⟩)
  · have h4 : k = 4 := Classical.byContradiction h4
    rw [if_pos h4, if_pos h4]
    refine q_iconst 8 rfl 0 k_i0 dX2_takeNumber_7 ?_
    refine q_zret rfl (by first | exact q_n0 | exact q_n1 | exact q_nb _) dX2_takeNumber_8 ?_
    first
      | (have e1 := w4 h4; subst e1; (try rw [if_neg (show ¬ k = 2 by omega)]); exact ⟨rfl, rfl⟩)
      | (have e1 := w2 h4 h14; subst e1; (try rw [if_neg h14]); exact ⟨rfl, rfl⟩)
      | (have e1 := w3 h14 (by omega); subst e1; exact ⟨rfl, rfl⟩)
      | (have e1 := w0 h14 (by omega); subst e1; exact ⟨rfl, rfl⟩)
end
