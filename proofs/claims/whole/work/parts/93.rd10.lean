section
variable {Γ : q_G} {ad : Nat → Nat} {N : Nat → Nat → Nat} {L : Nat → Nat → Int} {G : Nat → Nat → Option Nat}
theorem k_takeLine {S : Nat → Nat → Nat} {dn dm p vl : Nat} (hG : GF ad G) (hr0 : G 2 0 = some (ad 1)) (hr2 : G 2 2 = some (ad dn)) (hr3 : G 2 3 = some (ad dm)) (hdn : isN dn) (hdm : isM dm) (hd : isD dn dm) (hl : N 2 1 ≤ 160) (ht : ∀ i, i < 160 → N 1 i < 128) (hp : p ≤ N 2 1) (hW : WFS S) (hR : CR S N dn dm) (hB : CB N dn dm) (hk4 : (tkn (N 1) (N 2 1) p).1 ≠ 4) : q_Con Γ mX2_takeLine 7 0 0 [.ref (ad 2)] (LT ad, P2 N (tkE (N 1) (N 2 1) p) (tkn (N 1) (N 2 1) p).1 (tkS (N 1) (N 2 1) p) vl 0, L, G) (RC ad L G N (sLine S (N 1) (N 2 1) p) dn dm (fLine S (N 1) (N 2 1) p) (pLine S (N 1) (N 2 1) p) (eLine (N 1) (N 2 1) p)) := by
  obtain ⟨t1, t2, t3, t4, t5, t6, t7, t8, t9⟩ := tkn_spec (t := N 1) hp
  have kI : ∀ j, j < 9 → ∀ a b c, q_Con Γ mX2_isWord 4 0 0 [.ref (ad 2), .ref (q_sa Γ j)] (LT ad, P2 N (tkE (N 1) (N 2 1) p) a (tkS (N 1) (N 2 1) p) b c, L, G) (q_is (some (.int (nI (wis (N 1) (tkS (N 1) (N 2 1) p) (tkE (N 1) (N 2 1) p - tkS (N 1) (N 2 1) p) j).toNat))) (LT ad, P2 N (tkE (N 1) (N 2 1) p) a (tkS (N 1) (N 2 1) p) b c, L, G)) := fun j hj a b c => k_isWord hG hr0 hl ht hj t2 t3
  have hcl : ∀ x, x ≤ 3 → wrd9 (N 1) (N 2 1) p = x → fLine S (N 1) (N 2 1) p = (if cF S (N 1) (N 2 1) x (tkE (N 1) (N 2 1) p) ≠ 0 then cF S (N 1) (N 2 1) x (tkE (N 1) (N 2 1) p) else sttf (N 1) (N 2 1) (bE (N 1) (N 2 1) x (tkE (N 1) (N 2 1) p))) ∧ pLine S (N 1) (N 2 1) p = (if cF S (N 1) (N 2 1) x (tkE (N 1) (N 2 1) p) ≠ 0 then cP S (N 1) (N 2 1) x (tkE (N 1) (N 2 1) p) (tkS (N 1) (N 2 1) p) else tkS (N 1) (N 2 1) (bE (N 1) (N 2 1) x (tkE (N 1) (N 2 1) p))) ∧ sLine S (N 1) (N 2 1) p = bS (tldS S x) (N 1) (N 2 1) x (tkE (N 1) (N 2 1) p) ∧ eLine (N 1) (N 2 1) p = tkE (N 1) (N 2 1) (bE (N 1) (N 2 1) x (tkE (N 1) (N 2 1) p)) := fun x hx e => by
    unfold fLine pLine sLine eLine cF cP
    rw [e]
    refine ⟨?_, ?_, rfl, rfl⟩
    · rw [if_neg (show ¬ 3 < x by omega)]
      by_cases q : chkL S x ≠ 0
      · rw [if_pos q, if_pos q, if_pos q]
      · rw [if_neg q, if_neg q]
    · rw [if_neg (show ¬ 3 < x by omega)]
      by_cases q : chkL S x ≠ 0
      · rw [if_pos q, if_pos q, if_pos q, if_pos q]
      · rw [if_neg q, if_neg q, if_neg q]
  have hbad : 3 < wrd9 (N 1) (N 2 1) p → fLine S (N 1) (N 2 1) p = 2 ∧ pLine S (N 1) (N 2 1) p = tkS (N 1) (N 2 1) p := fun q => by
    unfold fLine pLine; rw [if_pos q, if_pos q]; exact ⟨rfl, rfl⟩
  have w9 : (tkn (N 1) (N 2 1) p).1 = 1 → wrd9 (N 1) (N 2 1) p = whf (N 1) (tkS (N 1) (N 2 1) p) (tkE (N 1) (N 2 1) p - tkS (N 1) (N 2 1) p) 9 0 := fun q => by rw [wrd9, if_pos q]
  have w9n : (tkn (N 1) (N 2 1) p).1 ≠ 1 → wrd9 (N 1) (N 2 1) p = 4294967292 := fun q => by rw [wrd9, if_neg q]
  rw [whf9] at w9
  have bE_l : ∀ x, bE (N 1) (N 2 1) x (tkE (N 1) (N 2 1) p) ≤ N 2 1 := fun x => (bE_le (t := N 1) (len := N 2 1) (wi := x) t3).1
  have sl := fun q => sttf_le (t := N 1) (len := N 2 1) (p := q)
  generalize hw0 : wis (N 1) (tkS (N 1) (N 2 1) p) (tkE (N 1) (N 2 1) p - tkS (N 1) (N 2 1) p) 0 = w0 at *
  generalize hw1 : wis (N 1) (tkS (N 1) (N 2 1) p) (tkE (N 1) (N 2 1) p - tkS (N 1) (N 2 1) p) 1 = w1 at *
  generalize hw2 : wis (N 1) (tkS (N 1) (N 2 1) p) (tkE (N 1) (N 2 1) p - tkS (N 1) (N 2 1) p) 2 = w2 at *
  generalize hw3 : wis (N 1) (tkS (N 1) (N 2 1) p) (tkE (N 1) (N 2 1) p - tkS (N 1) (N 2 1) p) 3 = w3 at *
  have h6 : (tkn (N 1) (N 2 1) p).1 ≠ 1 ∨ ((tkn (N 1) (N 2 1) p).1 = 1 ∧ w0 = true) ∨ ((tkn (N 1) (N 2 1) p).1 = 1 ∧ w0 = false ∧ w1 = true) ∨ ((tkn (N 1) (N 2 1) p).1 = 1 ∧ w0 = false ∧ w1 = false ∧ w2 = true) ∨ ((tkn (N 1) (N 2 1) p).1 = 1 ∧ w0 = false ∧ w1 = false ∧ w2 = false ∧ w3 = true) ∨ ((tkn (N 1) (N 2 1) p).1 = 1 ∧ w0 = false ∧ w1 = false ∧ w2 = false ∧ w3 = false) := by
    cases w0 <;> cases w1 <;> cases w2 <;> cases w3 <;> simp <;> omega
  rcases h6 with hk | ⟨hk, b0⟩ | ⟨hk, b0, b1⟩ | ⟨hk, b0, b1, b2⟩ | ⟨hk, b0, b1, b2, b3⟩ | ⟨hk, b0, b1, b2, b3⟩
  · have e9 := w9n hk
    obtain ⟨q1, q2⟩ := hbad (by omega)
    rw [q1, q2]
    refine q_con (by decide) rfl rfl (Nat.le_of_ble_eq_true rfl) ?_
    refine q_aload_n 1 rfl rfl dX2_takeLine_0 ?_
    refine q_getI 4 rfl fX2_44 rfl 2 t_2 dX2_takeLine_1 ?_
    rw [P2_5]
    refine q_iconst 5 rfl 1 k_i1 dX2_takeLine_4 ?_
    refine q_icmp_eq 8 rfl 14 (by decide) (by omega) (by omega) dX2_takeLine_5 (fun h5 => ?_) (fun h5 => ?_)
    · exfalso; omega
    · refine q_aload_n 9 rfl rfl dX2_takeLine_8 ?_
      refine q_iconst 10 rfl 2 k_i2 dX2_takeLine_9 ?_
      refine q_cV1 13 rfl lX2_50 (k_refuse hG) rfl 2 t_2 rfl rfl rfl dX2_takeLine_10 ?_
      refine q_zret rfl (by first | exact q_n0 | exact q_n1 | exact q_nb _) dX2_takeLine_13 ?_
      exact ⟨N, _, _, _, _, rfl, FC.rf, hB, Or.inl ⟨by decide, rfl, rfl⟩⟩
  · have e9 : wrd9 (N 1) (N 2 1) p = 0 := by rw [w9 hk, if_pos b0]
    obtain ⟨q1, q2, q3, q4⟩ := hcl 0 (by omega) e9
    rw [q1, q2, q3, q4]
    refine q_con (by decide) rfl rfl (Nat.le_of_ble_eq_true rfl) ?_
    refine q_aload_n 1 rfl rfl dX2_takeLine_0 ?_
    refine q_getI 4 rfl fX2_44 rfl 2 t_2 dX2_takeLine_1 ?_
    rw [P2_5]
    refine q_iconst 5 rfl 1 k_i1 dX2_takeLine_4 ?_
    refine q_icmp_eq 8 rfl 14 (by decide) (by omega) (by omega) dX2_takeLine_5 (fun h5 => ?_) (fun h5 => ?_)
    · refine q_aload_n 15 rfl rfl dX2_takeLine_14 ?_
      refine q_ldcs 17 rfl 0 (by decide) rfl rfl dX2_takeLine_15 ?_
      refine q_cV1 20 rfl lX2_56 (kI 0 (by decide) _ _ _) rfl 2 t_2 rfl rfl rfl dX2_takeLine_17 ?_
      rw [hw0, b0]
      refine q_if_eq 23 rfl 43 (by decide) (by decide) dX2_takeLine_20 (fun h20 => ?_) (fun h20 => ?_)
      · exact absurd h20 (by decide)
      · refine q_aload_n 24 rfl rfl dX2_takeLine_23 ?_
        refine q_cV0q 27 rfl lX2_60 (k_takeName (S := S) hG hr0 hr2 hr3 hdn hdm hd hl ht t3 hW hR hB) rfl 2 t_2 rfl rfl rfl dX2_takeLine_24 ?_
        rintro v h ⟨K, at2, tk2, st2, vl2, rfl, hFC, hCB, hq | hq⟩
        · obtain ⟨hf, rfl, rfl⟩ := hq
          rw [if_pos hf, if_pos hf]
          refine q_if_eq 30 rfl 41 (by decide) (by decide) dX2_takeLine_27 (fun q => ?_) (fun q => ?_)
          · refine q_iconst 42 rfl 0 k_i0 dX2_takeLine_41 ?_
            refine q_zret rfl q_n0 dX2_takeLine_42 ?_
            exact ⟨K, _, _, _, _, rfl, hFC, hCB, Or.inl ⟨hf, rfl, rfl⟩⟩
          · exact absurd rfl q
        obtain ⟨hf, rfl, rfl, hCR⟩ := hq
        have e1 := hFC.t hd
        have el := hFC.len
        rw [hf]
        rw [if_neg (show ¬ (0 : Nat) ≠ 0 by decide), if_neg (show ¬ (0 : Nat) ≠ 0 by decide)]
        have sle := sl (bE (N 1) (N 2 1) 0 (tkE (N 1) (N 2 1) p))
        have tsc := k_takeStop (Γ := Γ) (L := L) (N := K) (p := bE (N 1) (N 2 1) 0 (tkE (N 1) (N 2 1) p)) (tk := tk2) (st := st2) (vl := vl2) (ft := 0) hG hr0 (by rw [el]; exact hl) (by rw [e1]; exact ht) (by rw [el]; exact bE_l 0)
        rw [e1, el] at tsc
        refine q_if_eq 30 rfl 41 (by decide) (by decide) dX2_takeLine_27 (fun h27 => ?_) (fun h27 => ?_)
        · exact absurd h27 (by decide)
        · refine q_aload_n 31 rfl rfl dX2_takeLine_30 ?_
          refine q_cV0 34 rfl lX2_63 (tsc) rfl 2 t_2 rfl rfl rfl dX2_takeLine_31 ?_
          refine q_if_eqD 37 rfl 41 (by decide) dX2_takeLine_34 (fun h34 => ?_) (fun h34 => ?_)
          · refine q_iconst 42 rfl 0 k_i0 dX2_takeLine_41 ?_
            refine q_zret rfl (by first | exact q_n0 | exact q_n1 | exact q_nb _) dX2_takeLine_42 ?_
            first
              | (rw [if_neg (show ¬ sttf (N 1) (N 2 1) (bE (N 1) (N 2 1) 0 (tkE (N 1) (N 2 1) p)) ≠ 0 by omega), show sttf (N 1) (N 2 1) (bE (N 1) (N 2 1) 0 (tkE (N 1) (N 2 1) p)) = 0 by omega]
                 exact ⟨K, _, _, _, _, rfl, hFC, hCB, Or.inr ⟨rfl, rfl, rfl, hCR⟩⟩)
              | (have hs : sttf (N 1) (N 2 1) (bE (N 1) (N 2 1) 0 (tkE (N 1) (N 2 1) p)) ≠ 0 := by omega
                 rw [if_pos hs]
                 exact ⟨K, _, _, _, _, rfl, hFC, hCB, Or.inl ⟨hs, rfl, rfl⟩⟩)
          · refine q_iconst 38 rfl 1 k_i1 dX2_takeLine_37 ?_
            refine q_goto 42 (by decide) dX2_takeLine_38 ?_
            refine q_zret rfl (by first | exact q_n0 | exact q_n1 | exact q_nb _) dX2_takeLine_42 ?_
            first
              | (rw [if_neg (show ¬ sttf (N 1) (N 2 1) (bE (N 1) (N 2 1) 0 (tkE (N 1) (N 2 1) p)) ≠ 0 by omega), show sttf (N 1) (N 2 1) (bE (N 1) (N 2 1) 0 (tkE (N 1) (N 2 1) p)) = 0 by omega]
                 exact ⟨K, _, _, _, _, rfl, hFC, hCB, Or.inr ⟨rfl, rfl, rfl, hCR⟩⟩)
              | (have hs : sttf (N 1) (N 2 1) (bE (N 1) (N 2 1) 0 (tkE (N 1) (N 2 1) p)) ≠ 0 := by omega
                 rw [if_pos hs]
                 exact ⟨K, _, _, _, _, rfl, hFC, hCB, Or.inl ⟨hs, rfl, rfl⟩⟩)
    · exfalso; omega
  · have e9 : wrd9 (N 1) (N 2 1) p = 1 := by rw [w9 hk, if_neg (show ¬ w0 = true by rw [b0]; decide), if_pos b1]
    obtain ⟨q1, q2, q3, q4⟩ := hcl 1 (by omega) e9
    rw [q1, q2, q3, q4]
    refine q_con (by decide) rfl rfl (Nat.le_of_ble_eq_true rfl) ?_
    refine q_aload_n 1 rfl rfl dX2_takeLine_0 ?_
    refine q_getI 4 rfl fX2_44 rfl 2 t_2 dX2_takeLine_1 ?_
    rw [P2_5]
    refine q_iconst 5 rfl 1 k_i1 dX2_takeLine_4 ?_
    refine q_icmp_eq 8 rfl 14 (by decide) (by omega) (by omega) dX2_takeLine_5 (fun h5 => ?_) (fun h5 => ?_)
    · refine q_aload_n 15 rfl rfl dX2_takeLine_14 ?_
      refine q_ldcs 17 rfl 0 (by decide) rfl rfl dX2_takeLine_15 ?_
      refine q_cV1 20 rfl lX2_56 (kI 0 (by decide) _ _ _) rfl 2 t_2 rfl rfl rfl dX2_takeLine_17 ?_
      rw [hw0, b0]
      refine q_if_eq 23 rfl 43 (by decide) (by decide) dX2_takeLine_20 (fun h20 => ?_) (fun h20 => ?_)
      · refine q_aload_n 44 rfl rfl dX2_takeLine_43 ?_
        refine q_ldcs 46 rfl 1 (by decide) rfl rfl dX2_takeLine_44 ?_
        refine q_cV1 49 rfl lX2_56 (kI 1 (by decide) _ _ _) rfl 2 t_2 rfl rfl rfl dX2_takeLine_46 ?_
        rw [hw1, b1]
        refine q_if_eq 52 rfl 72 (by decide) (by decide) dX2_takeLine_49 (fun h49 => ?_) (fun h49 => ?_)
        · exact absurd h49 (by decide)
        · refine q_aload_n 53 rfl rfl dX2_takeLine_52 ?_
          refine q_cV0q 56 rfl lX2_68 (k_takeLaw (S := S) hG hr0 hr2 hr3 hdn hdm hd hl ht t3 hW hR hB) rfl 2 t_2 rfl rfl rfl dX2_takeLine_53 ?_
          rintro v h ⟨K, at2, tk2, st2, vl2, rfl, hFC, hCB, hq | hq⟩
          · obtain ⟨hf, rfl, rfl⟩ := hq
            rw [if_pos hf, if_pos hf]
            refine q_if_eq 59 rfl 70 (by decide) (by decide) dX2_takeLine_56 (fun q => ?_) (fun q => ?_)
            · refine q_iconst 71 rfl 0 k_i0 dX2_takeLine_70 ?_
              refine q_zret rfl q_n0 dX2_takeLine_71 ?_
              exact ⟨K, _, _, _, _, rfl, hFC, hCB, Or.inl ⟨hf, rfl, rfl⟩⟩
            · exact absurd rfl q
          obtain ⟨hf, rfl, rfl, hCR⟩ := hq
          have e1 := hFC.t hd
          have el := hFC.len
          rw [hf]
          rw [if_neg (show ¬ (0 : Nat) ≠ 0 by decide), if_neg (show ¬ (0 : Nat) ≠ 0 by decide)]
          have sle := sl (bE (N 1) (N 2 1) 1 (tkE (N 1) (N 2 1) p))
          have tsc := k_takeStop (Γ := Γ) (L := L) (N := K) (p := bE (N 1) (N 2 1) 1 (tkE (N 1) (N 2 1) p)) (tk := tk2) (st := st2) (vl := vl2) (ft := 0) hG hr0 (by rw [el]; exact hl) (by rw [e1]; exact ht) (by rw [el]; exact bE_l 1)
          rw [e1, el] at tsc
          refine q_if_eq 59 rfl 70 (by decide) (by decide) dX2_takeLine_56 (fun h56 => ?_) (fun h56 => ?_)
          · exact absurd h56 (by decide)
          · refine q_aload_n 60 rfl rfl dX2_takeLine_59 ?_
            refine q_cV0 63 rfl lX2_63 (tsc) rfl 2 t_2 rfl rfl rfl dX2_takeLine_60 ?_
            refine q_if_eqD 66 rfl 70 (by decide) dX2_takeLine_63 (fun h63 => ?_) (fun h63 => ?_)
            · refine q_iconst 71 rfl 0 k_i0 dX2_takeLine_70 ?_
              refine q_zret rfl (by first | exact q_n0 | exact q_n1 | exact q_nb _) dX2_takeLine_71 ?_
              first
                | (rw [if_neg (show ¬ sttf (N 1) (N 2 1) (bE (N 1) (N 2 1) 1 (tkE (N 1) (N 2 1) p)) ≠ 0 by omega), show sttf (N 1) (N 2 1) (bE (N 1) (N 2 1) 1 (tkE (N 1) (N 2 1) p)) = 0 by omega]
                   exact ⟨K, _, _, _, _, rfl, hFC, hCB, Or.inr ⟨rfl, rfl, rfl, hCR⟩⟩)
                | (have hs : sttf (N 1) (N 2 1) (bE (N 1) (N 2 1) 1 (tkE (N 1) (N 2 1) p)) ≠ 0 := by omega
                   rw [if_pos hs]
                   exact ⟨K, _, _, _, _, rfl, hFC, hCB, Or.inl ⟨hs, rfl, rfl⟩⟩)
            · refine q_iconst 67 rfl 1 k_i1 dX2_takeLine_66 ?_
              refine q_goto 71 (by decide) dX2_takeLine_67 ?_
              refine q_zret rfl (by first | exact q_n0 | exact q_n1 | exact q_nb _) dX2_takeLine_71 ?_
              first
                | (rw [if_neg (show ¬ sttf (N 1) (N 2 1) (bE (N 1) (N 2 1) 1 (tkE (N 1) (N 2 1) p)) ≠ 0 by omega), show sttf (N 1) (N 2 1) (bE (N 1) (N 2 1) 1 (tkE (N 1) (N 2 1) p)) = 0 by omega]
                   exact ⟨K, _, _, _, _, rfl, hFC, hCB, Or.inr ⟨rfl, rfl, rfl, hCR⟩⟩)
                | (have hs : sttf (N 1) (N 2 1) (bE (N 1) (N 2 1) 1 (tkE (N 1) (N 2 1) p)) ≠ 0 := by omega
                   rw [if_pos hs]
                   exact ⟨K, _, _, _, _, rfl, hFC, hCB, Or.inl ⟨hs, rfl, rfl⟩⟩)
      · exact absurd rfl h20
    · exfalso; omega
  · have e9 : wrd9 (N 1) (N 2 1) p = 2 := by rw [w9 hk, if_neg (show ¬ w0 = true by rw [b0]; decide), if_neg (show ¬ w1 = true by rw [b1]; decide), if_pos b2]
    obtain ⟨q1, q2, q3, q4⟩ := hcl 2 (by omega) e9
    rw [q1, q2, q3, q4]
    refine q_con (by decide) rfl rfl (Nat.le_of_ble_eq_true rfl) ?_
    refine q_aload_n 1 rfl rfl dX2_takeLine_0 ?_
    refine q_getI 4 rfl fX2_44 rfl 2 t_2 dX2_takeLine_1 ?_
    rw [P2_5]
    refine q_iconst 5 rfl 1 k_i1 dX2_takeLine_4 ?_
    refine q_icmp_eq 8 rfl 14 (by decide) (by omega) (by omega) dX2_takeLine_5 (fun h5 => ?_) (fun h5 => ?_)
    · refine q_aload_n 15 rfl rfl dX2_takeLine_14 ?_
      refine q_ldcs 17 rfl 0 (by decide) rfl rfl dX2_takeLine_15 ?_
      refine q_cV1 20 rfl lX2_56 (kI 0 (by decide) _ _ _) rfl 2 t_2 rfl rfl rfl dX2_takeLine_17 ?_
      rw [hw0, b0]
      refine q_if_eq 23 rfl 43 (by decide) (by decide) dX2_takeLine_20 (fun h20 => ?_) (fun h20 => ?_)
      · refine q_aload_n 44 rfl rfl dX2_takeLine_43 ?_
        refine q_ldcs 46 rfl 1 (by decide) rfl rfl dX2_takeLine_44 ?_
        refine q_cV1 49 rfl lX2_56 (kI 1 (by decide) _ _ _) rfl 2 t_2 rfl rfl rfl dX2_takeLine_46 ?_
        rw [hw1, b1]
        refine q_if_eq 52 rfl 72 (by decide) (by decide) dX2_takeLine_49 (fun h49 => ?_) (fun h49 => ?_)
        · refine q_aload_n 73 rfl rfl dX2_takeLine_72 ?_
          refine q_ldcs 75 rfl 2 (by decide) rfl rfl dX2_takeLine_73 ?_
          refine q_cV1 78 rfl lX2_56 (kI 2 (by decide) _ _ _) rfl 2 t_2 rfl rfl rfl dX2_takeLine_75 ?_
          rw [hw2, b2]
          refine q_if_eq 81 rfl 101 (by decide) (by decide) dX2_takeLine_78 (fun h78 => ?_) (fun h78 => ?_)
          · exact absurd h78 (by decide)
          · refine q_aload_n 82 rfl rfl dX2_takeLine_81 ?_
            refine q_cV0q 85 rfl lX2_73 (k_takePair (S := S) hG hr0 hr2 hr3 hdn hdm hd hl ht t3 hW hR hB) rfl 2 t_2 rfl rfl rfl dX2_takeLine_82 ?_
            rintro v h ⟨K, at2, tk2, st2, vl2, rfl, hFC, hCB, hq | hq⟩
            · obtain ⟨hf, rfl, rfl⟩ := hq
              rw [if_pos hf, if_pos hf]
              refine q_if_eq 88 rfl 99 (by decide) (by decide) dX2_takeLine_85 (fun q => ?_) (fun q => ?_)
              · refine q_iconst 100 rfl 0 k_i0 dX2_takeLine_99 ?_
                refine q_zret rfl q_n0 dX2_takeLine_100 ?_
                exact ⟨K, _, _, _, _, rfl, hFC, hCB, Or.inl ⟨hf, rfl, rfl⟩⟩
              · exact absurd rfl q
            obtain ⟨hf, rfl, rfl, hCR⟩ := hq
            have e1 := hFC.t hd
            have el := hFC.len
            rw [hf]
            rw [if_neg (show ¬ (0 : Nat) ≠ 0 by decide), if_neg (show ¬ (0 : Nat) ≠ 0 by decide)]
            have sle := sl (bE (N 1) (N 2 1) 2 (tkE (N 1) (N 2 1) p))
            have tsc := k_takeStop (Γ := Γ) (L := L) (N := K) (p := bE (N 1) (N 2 1) 2 (tkE (N 1) (N 2 1) p)) (tk := tk2) (st := st2) (vl := vl2) (ft := 0) hG hr0 (by rw [el]; exact hl) (by rw [e1]; exact ht) (by rw [el]; exact bE_l 2)
            rw [e1, el] at tsc
            refine q_if_eq 88 rfl 99 (by decide) (by decide) dX2_takeLine_85 (fun h85 => ?_) (fun h85 => ?_)
            · exact absurd h85 (by decide)
            · refine q_aload_n 89 rfl rfl dX2_takeLine_88 ?_
              refine q_cV0 92 rfl lX2_63 (tsc) rfl 2 t_2 rfl rfl rfl dX2_takeLine_89 ?_
              refine q_if_eqD 95 rfl 99 (by decide) dX2_takeLine_92 (fun h92 => ?_) (fun h92 => ?_)
              · refine q_iconst 100 rfl 0 k_i0 dX2_takeLine_99 ?_
                refine q_zret rfl (by first | exact q_n0 | exact q_n1 | exact q_nb _) dX2_takeLine_100 ?_
                first
                  | (rw [if_neg (show ¬ sttf (N 1) (N 2 1) (bE (N 1) (N 2 1) 2 (tkE (N 1) (N 2 1) p)) ≠ 0 by omega), show sttf (N 1) (N 2 1) (bE (N 1) (N 2 1) 2 (tkE (N 1) (N 2 1) p)) = 0 by omega]
                     exact ⟨K, _, _, _, _, rfl, hFC, hCB, Or.inr ⟨rfl, rfl, rfl, hCR⟩⟩)
                  | (have hs : sttf (N 1) (N 2 1) (bE (N 1) (N 2 1) 2 (tkE (N 1) (N 2 1) p)) ≠ 0 := by omega
                     rw [if_pos hs]
                     exact ⟨K, _, _, _, _, rfl, hFC, hCB, Or.inl ⟨hs, rfl, rfl⟩⟩)
              · refine q_iconst 96 rfl 1 k_i1 dX2_takeLine_95 ?_
                refine q_goto 100 (by decide) dX2_takeLine_96 ?_
                refine q_zret rfl (by first | exact q_n0 | exact q_n1 | exact q_nb _) dX2_takeLine_100 ?_
                first
                  | (rw [if_neg (show ¬ sttf (N 1) (N 2 1) (bE (N 1) (N 2 1) 2 (tkE (N 1) (N 2 1) p)) ≠ 0 by omega), show sttf (N 1) (N 2 1) (bE (N 1) (N 2 1) 2 (tkE (N 1) (N 2 1) p)) = 0 by omega]
                     exact ⟨K, _, _, _, _, rfl, hFC, hCB, Or.inr ⟨rfl, rfl, rfl, hCR⟩⟩)
                  | (have hs : sttf (N 1) (N 2 1) (bE (N 1) (N 2 1) 2 (tkE (N 1) (N 2 1) p)) ≠ 0 := by omega
                     rw [if_pos hs]
                     exact ⟨K, _, _, _, _, rfl, hFC, hCB, Or.inl ⟨hs, rfl, rfl⟩⟩)
        · exact absurd rfl h49
      · exact absurd rfl h20
    · exfalso; omega
  · have e9 : wrd9 (N 1) (N 2 1) p = 3 := by rw [w9 hk, if_neg (show ¬ w0 = true by rw [b0]; decide), if_neg (show ¬ w1 = true by rw [b1]; decide), if_neg (show ¬ w2 = true by rw [b2]; decide), if_pos b3]
    obtain ⟨q1, q2, q3, q4⟩ := hcl 3 (by omega) e9
    rw [q1, q2, q3, q4]
    refine q_con (by decide) rfl rfl (Nat.le_of_ble_eq_true rfl) ?_
    refine q_aload_n 1 rfl rfl dX2_takeLine_0 ?_
    refine q_getI 4 rfl fX2_44 rfl 2 t_2 dX2_takeLine_1 ?_
    rw [P2_5]
    refine q_iconst 5 rfl 1 k_i1 dX2_takeLine_4 ?_
    refine q_icmp_eq 8 rfl 14 (by decide) (by omega) (by omega) dX2_takeLine_5 (fun h5 => ?_) (fun h5 => ?_)
    · refine q_aload_n 15 rfl rfl dX2_takeLine_14 ?_
      refine q_ldcs 17 rfl 0 (by decide) rfl rfl dX2_takeLine_15 ?_
      refine q_cV1 20 rfl lX2_56 (kI 0 (by decide) _ _ _) rfl 2 t_2 rfl rfl rfl dX2_takeLine_17 ?_
      rw [hw0, b0]
      refine q_if_eq 23 rfl 43 (by decide) (by decide) dX2_takeLine_20 (fun h20 => ?_) (fun h20 => ?_)
      · refine q_aload_n 44 rfl rfl dX2_takeLine_43 ?_
        refine q_ldcs 46 rfl 1 (by decide) rfl rfl dX2_takeLine_44 ?_
        refine q_cV1 49 rfl lX2_56 (kI 1 (by decide) _ _ _) rfl 2 t_2 rfl rfl rfl dX2_takeLine_46 ?_
        rw [hw1, b1]
        refine q_if_eq 52 rfl 72 (by decide) (by decide) dX2_takeLine_49 (fun h49 => ?_) (fun h49 => ?_)
        · refine q_aload_n 73 rfl rfl dX2_takeLine_72 ?_
          refine q_ldcs 75 rfl 2 (by decide) rfl rfl dX2_takeLine_73 ?_
          refine q_cV1 78 rfl lX2_56 (kI 2 (by decide) _ _ _) rfl 2 t_2 rfl rfl rfl dX2_takeLine_75 ?_
          rw [hw2, b2]
          refine q_if_eq 81 rfl 101 (by decide) (by decide) dX2_takeLine_78 (fun h78 => ?_) (fun h78 => ?_)
          · refine q_aload_n 102 rfl rfl dX2_takeLine_101 ?_
            refine q_ldcs 104 rfl 3 (by decide) rfl rfl dX2_takeLine_102 ?_
            refine q_cV1 107 rfl lX2_56 (kI 3 (by decide) _ _ _) rfl 2 t_2 rfl rfl rfl dX2_takeLine_104 ?_
            rw [hw3, b3]
            refine q_if_eq 110 rfl 130 (by decide) (by decide) dX2_takeLine_107 (fun h107 => ?_) (fun h107 => ?_)
            · exact absurd h107 (by decide)
            · refine q_aload_n 111 rfl rfl dX2_takeLine_110 ?_
              refine q_cV0q 114 rfl lX2_78 (k_takeMaid (S := S) hG hr0 hr2 hr3 hdn hdm hd hl ht t3 hW hR hB) rfl 2 t_2 rfl rfl rfl dX2_takeLine_111 ?_
              rintro v h ⟨K, at2, tk2, st2, vl2, rfl, hFC, hCB, hq | hq⟩
              · obtain ⟨hf, rfl, rfl⟩ := hq
                rw [if_pos hf, if_pos hf]
                refine q_if_eq 117 rfl 128 (by decide) (by decide) dX2_takeLine_114 (fun q => ?_) (fun q => ?_)
                · refine q_iconst 129 rfl 0 k_i0 dX2_takeLine_128 ?_
                  refine q_zret rfl q_n0 dX2_takeLine_129 ?_
                  exact ⟨K, _, _, _, _, rfl, hFC, hCB, Or.inl ⟨hf, rfl, rfl⟩⟩
                · exact absurd rfl q
              obtain ⟨hf, rfl, rfl, hCR⟩ := hq
              have e1 := hFC.t hd
              have el := hFC.len
              rw [hf]
              rw [if_neg (show ¬ (0 : Nat) ≠ 0 by decide), if_neg (show ¬ (0 : Nat) ≠ 0 by decide)]
              have sle := sl (bE (N 1) (N 2 1) 3 (tkE (N 1) (N 2 1) p))
              have tsc := k_takeStop (Γ := Γ) (L := L) (N := K) (p := bE (N 1) (N 2 1) 3 (tkE (N 1) (N 2 1) p)) (tk := tk2) (st := st2) (vl := vl2) (ft := 0) hG hr0 (by rw [el]; exact hl) (by rw [e1]; exact ht) (by rw [el]; exact bE_l 3)
              rw [e1, el] at tsc
              refine q_if_eq 117 rfl 128 (by decide) (by decide) dX2_takeLine_114 (fun h114 => ?_) (fun h114 => ?_)
              · exact absurd h114 (by decide)
              · refine q_aload_n 118 rfl rfl dX2_takeLine_117 ?_
                refine q_cV0 121 rfl lX2_63 (tsc) rfl 2 t_2 rfl rfl rfl dX2_takeLine_118 ?_
                refine q_if_eqD 124 rfl 128 (by decide) dX2_takeLine_121 (fun h121 => ?_) (fun h121 => ?_)
                · refine q_iconst 129 rfl 0 k_i0 dX2_takeLine_128 ?_
                  refine q_zret rfl (by first | exact q_n0 | exact q_n1 | exact q_nb _) dX2_takeLine_129 ?_
                  first
                    | (rw [if_neg (show ¬ sttf (N 1) (N 2 1) (bE (N 1) (N 2 1) 3 (tkE (N 1) (N 2 1) p)) ≠ 0 by omega), show sttf (N 1) (N 2 1) (bE (N 1) (N 2 1) 3 (tkE (N 1) (N 2 1) p)) = 0 by omega]
                       exact ⟨K, _, _, _, _, rfl, hFC, hCB, Or.inr ⟨rfl, rfl, rfl, hCR⟩⟩)
                    | (have hs : sttf (N 1) (N 2 1) (bE (N 1) (N 2 1) 3 (tkE (N 1) (N 2 1) p)) ≠ 0 := by omega
                       rw [if_pos hs]
                       exact ⟨K, _, _, _, _, rfl, hFC, hCB, Or.inl ⟨hs, rfl, rfl⟩⟩)
                · refine q_iconst 125 rfl 1 k_i1 dX2_takeLine_124 ?_
                  refine q_goto 129 (by decide) dX2_takeLine_125 ?_
                  refine q_zret rfl (by first | exact q_n0 | exact q_n1 | exact q_nb _) dX2_takeLine_129 ?_
                  first
                    | (rw [if_neg (show ¬ sttf (N 1) (N 2 1) (bE (N 1) (N 2 1) 3 (tkE (N 1) (N 2 1) p)) ≠ 0 by omega), show sttf (N 1) (N 2 1) (bE (N 1) (N 2 1) 3 (tkE (N 1) (N 2 1) p)) = 0 by omega]
                       exact ⟨K, _, _, _, _, rfl, hFC, hCB, Or.inr ⟨rfl, rfl, rfl, hCR⟩⟩)
                    | (have hs : sttf (N 1) (N 2 1) (bE (N 1) (N 2 1) 3 (tkE (N 1) (N 2 1) p)) ≠ 0 := by omega
                       rw [if_pos hs]
                       exact ⟨K, _, _, _, _, rfl, hFC, hCB, Or.inl ⟨hs, rfl, rfl⟩⟩)
          · exact absurd rfl h78
        · exact absurd rfl h49
      · exact absurd rfl h20
    · exfalso; omega
  · have e9 : 3 < wrd9 (N 1) (N 2 1) p := by
      rw [w9 hk, if_neg (show ¬ w0 = true by rw [b0]; decide), if_neg (show ¬ w1 = true by rw [b1]; decide), if_neg (show ¬ w2 = true by rw [b2]; decide), if_neg (show ¬ w3 = true by rw [b3]; decide)]
      repeat' split
      all_goals omega
    obtain ⟨q1, q2⟩ := hbad e9
    rw [q1, q2]
    refine q_con (by decide) rfl rfl (Nat.le_of_ble_eq_true rfl) ?_
    refine q_aload_n 1 rfl rfl dX2_takeLine_0 ?_
    refine q_getI 4 rfl fX2_44 rfl 2 t_2 dX2_takeLine_1 ?_
    rw [P2_5]
    refine q_iconst 5 rfl 1 k_i1 dX2_takeLine_4 ?_
    refine q_icmp_eq 8 rfl 14 (by decide) (by omega) (by omega) dX2_takeLine_5 (fun h5 => ?_) (fun h5 => ?_)
    · refine q_aload_n 15 rfl rfl dX2_takeLine_14 ?_
      refine q_ldcs 17 rfl 0 (by decide) rfl rfl dX2_takeLine_15 ?_
      refine q_cV1 20 rfl lX2_56 (kI 0 (by decide) _ _ _) rfl 2 t_2 rfl rfl rfl dX2_takeLine_17 ?_
      rw [hw0, b0]
      refine q_if_eq 23 rfl 43 (by decide) (by decide) dX2_takeLine_20 (fun h20 => ?_) (fun h20 => ?_)
      · refine q_aload_n 44 rfl rfl dX2_takeLine_43 ?_
        refine q_ldcs 46 rfl 1 (by decide) rfl rfl dX2_takeLine_44 ?_
        refine q_cV1 49 rfl lX2_56 (kI 1 (by decide) _ _ _) rfl 2 t_2 rfl rfl rfl dX2_takeLine_46 ?_
        rw [hw1, b1]
        refine q_if_eq 52 rfl 72 (by decide) (by decide) dX2_takeLine_49 (fun h49 => ?_) (fun h49 => ?_)
        · refine q_aload_n 73 rfl rfl dX2_takeLine_72 ?_
          refine q_ldcs 75 rfl 2 (by decide) rfl rfl dX2_takeLine_73 ?_
          refine q_cV1 78 rfl lX2_56 (kI 2 (by decide) _ _ _) rfl 2 t_2 rfl rfl rfl dX2_takeLine_75 ?_
          rw [hw2, b2]
          refine q_if_eq 81 rfl 101 (by decide) (by decide) dX2_takeLine_78 (fun h78 => ?_) (fun h78 => ?_)
          · refine q_aload_n 102 rfl rfl dX2_takeLine_101 ?_
            refine q_ldcs 104 rfl 3 (by decide) rfl rfl dX2_takeLine_102 ?_
            refine q_cV1 107 rfl lX2_56 (kI 3 (by decide) _ _ _) rfl 2 t_2 rfl rfl rfl dX2_takeLine_104 ?_
            rw [hw3, b3]
            refine q_if_eq 110 rfl 130 (by decide) (by decide) dX2_takeLine_107 (fun h107 => ?_) (fun h107 => ?_)
            · refine q_aload_n 131 rfl rfl dX2_takeLine_130 ?_
              refine q_iconst 132 rfl 2 k_i2 dX2_takeLine_131 ?_
              refine q_cV1 135 rfl lX2_50 (k_refuse hG) rfl 2 t_2 rfl rfl rfl dX2_takeLine_132 ?_
              refine q_zret rfl (by first | exact q_n0 | exact q_n1 | exact q_nb _) dX2_takeLine_135 ?_
              exact ⟨N, _, _, _, _, rfl, FC.rf, hB, Or.inl ⟨by decide, rfl, rfl⟩⟩
            · exact absurd rfl h107
          · exact absurd rfl h78
        · exact absurd rfl h49
      · exact absurd rfl h20
    · exfalso; omega
end
