theorem wrdf_le {t : Nat → Nat} {len p mx : Nat} : wrdf t len p mx ≤ 3 := by unfold wrdf wb; split <;> (try split) <;> (try split) <;> omega
theorem nmbf_le {t : Nat → Nat} {len p lo hi : Nat} : nmbf t len p lo hi ≤ 3 := by unfold nmbf nb; split <;> (try split) <;> (try split) <;> omega
theorem bF_le {S : Nat → Nat → Nat} {t : Nat → Nat} {len wi e : Nat} : bF S t len wi e ≤ 4 := by
  have h1 := wrdf_le (t := t) (len := len) (p := e) (mx := 8)
  have h2 := nmbf_le (t := t) (len := len) (p := tkE t len e) (lo := 1) (hi := 9)
  have h3 := nmbf_le (t := t) (len := len) (p := tkE t len e) (lo := 0) (hi := 8)
  have h4 := wrdf_le (t := t) (len := len) (p := e) (mx := 1)
  have h5 := wrdf_le (t := t) (len := len) (p := tkE t len e) (mx := 1)
  unfold bF fName fLaw fPair
  repeat' split
  all_goals omega
theorem bF_4 {S : Nat → Nat → Nat} {t : Nat → Nat} {len wi e : Nat} (h : (tkn t len e).1 = 4) : bF S t len wi e = 1 ∧ bP S t len wi e = tkS t len e := by
  have h1 : ∀ mx, wrdf t len e mx = 1 := fun mx => by rw [wrdf, if_pos h]
  unfold bF bP fName pName fLaw pLaw fPair pPair
  rw [h1 8, h1 1, if_pos h, if_pos h]
  repeat' split
  all_goals first
    | exact ⟨rfl, rfl⟩
    | omega
theorem RS.fr {ad : Nat → Nat} {L : Nat → Nat → Int} {G : Nat → Nat → Option Nat} {N M S : Nat → Nat → Nat} {ba f pos p : Nat} {v : Option Value} {h : q_H} (hF : FR N M) (hq : RS ad L G M S ba f pos p v h) : RS ad L G N S ba f pos p v h := by
  obtain ⟨h0, hq | hq⟩ := hq
  · obtain ⟨hf, K, sp, he, tk, vl, e, h1, h2⟩ := hq
    exact ⟨h0, Or.inl ⟨hf, K, sp, he, tk, vl, e, hF.tr h1, h2⟩⟩
  · obtain ⟨hf, K, e, h1, h2, h3⟩ := hq
    exact ⟨h0, Or.inr ⟨hf, K, e, hF.tr h1, h2, h3⟩⟩
theorem bE_le {t : Nat → Nat} {len wi e : Nat} (h : e ≤ len) : bE t len wi e ≤ len ∧ e ≤ bE t len wi e := by
  obtain ⟨t1, t2, t3, _⟩ := tkn_spec (t := t) h
  obtain ⟨u1, u2, u3, _⟩ := tkn_spec (t := t) t3
  unfold bE
  split <;> omega
section
variable {Γ : q_G} {ad : Nat → Nat} {N : Nat → Nat → Nat} {L : Nat → Nat → Int} {G : Nat → Nat → Option Nat}
theorem k_readLine {S : Nat → Nat → Nat} {ba p : Nat} (hG : GF ad G) (hl : N 77 10 ≤ 160) (ht : ∀ i, i < 160 → N 84 i < 128) (hcu : ∀ i, i < 10 → N 85 i = cu i) (hlw : ∀ i, i < 42 → N 86 i = lw i) (hR : MR S N) (hW : WFS S) (hB : MB N) (hp : p ≤ N 77 10) (hk4 : (tkn (N 84) (N 77 10) p).1 ≠ 4) : q_Con Γ mX7_readLine 4 0 0 [.ref (ad 77)] (LT ad, stp N ba p, L, G) (RS ad L G N (sLine S (N 84) (N 77 10) p) ba (fLine S (N 84) (N 77 10) p) (pLine S (N 84) (N 77 10) p) (eLine (N 84) (N 77 10) p)) := by
  rw [stp_ok hk4]
  obtain ⟨t1, t2, t3, t4, t5, t6, t7, t8, t9⟩ := tkn_spec (t := N 84) hp
  have w9 := wrd9_rg (t := N 84) (len := N 77 10) (p := p)
  have w9e : wrd9 (N 84) (N 77 10) p = if (tkn (N 84) (N 77 10) p).1 = 1 then whf (N 84) (tkS (N 84) (N 77 10) p) (tkE (N 84) (N 77 10) p - tkS (N 84) (N 77 10) p) 9 0 else 4294967292 := rfl
  unfold fLine pLine sLine eLine
  generalize (if (tkn (N 84) (N 77 10) p).1 = 2 then tkV (N 84) (N 77 10) p else 0) = v0 at *
  generalize wrd9 (N 84) (N 77 10) p = wd at *
  generalize (tkn (N 84) (N 77 10) p).1 = k at *
  generalize tkE (N 84) (N 77 10) p = e at *
  generalize tkS (N 84) (N 77 10) p = s at *
  have hc6 : N 77 6 = S 0 0 := hR.1
  have hp21 : N 81 21 = S 0 3 := hR.2.2.2.2.2.1
  have h8 := hR.2.2.2.2.2.2.2.2.2.1
  have h85 := hR.2.2.2.2.2.2.2.2.2.2.1
  have h86 := hR.2.2.2.2.2.2.2.2.2.2.2.1
  have hS0 := hW.1
  have hS3 := hW.2.2.2.2.1
  have hS5 := hW.2.2.2.2.2.2.2.2.1
  have hS6 := hW.2.2.2.2.2.2.2.2.2
  obtain ⟨N1, hN1⟩ : ∃ N1, q_s N 77 8 (N 77 8 ||| 1 * 2 ^ wd) = N1 := ⟨_, rfl⟩
  have e84 : N1 84 = N 84 := by rw [← hN1]; exact q_s_ne (by omega)
  have e10 : N1 77 10 = N 77 10 := by rw [← hN1]; exact q_s_off (by omega)
  have fr1 : FR N N1 := by rw [← hN1]; exact FR.fld (Or.inr rfl)
  have mb1 : MB N1 := by rw [← hN1]; exact hB
  have mr1 : wd < 4 → MR (tldS S wd) N1 := fun q => by rw [← hN1]; exact hR.tld q
  have wf1 : WFS (tldS S wd) := hW.tld
  have e85 : N1 85 = N 85 := by rw [← hN1]; exact q_s_ne (by omega)
  have e86 : N1 86 = N 86 := by rw [← hN1]; exact q_s_ne (by omega)
  have hk41 : (tkn (N 84) (N 77 10) e).1 ≠ 4 → (tkn (N1 84) (N1 77 10) e).1 ≠ 4 := fun h => by rw [e84, e10]; exact h
  have st4 : (tkn (N 84) (N 77 10) e).1 = 4 → ∃ e2 k2 v2, stp N1 ba e = P7 N1 1 (tkS (N 84) (N 77 10) e) e2 (tkS (N 84) (N 77 10) e) k2 v2 := fun h => by
    have := stp_bad (N := N1) (ba := ba) (sp := e) (by rw [e84, e10]; exact h)
    rw [e84, e10] at this
    exact this
  obtain ⟨t50, t60, t00, tr0⟩ := tldS_0 (S := S) (w := wd)
  have bl := bF_le (S := tldS S wd) (t := N 84) (len := N 77 10) (wi := wd) (e := e)
  have bel := (bE_le (t := N 84) (len := N 77 10) (wi := wd) t3).1
  have h13 : 3 < wd ∨ (wd = 0 ∧ chkL S wd ≠ 0) ∨ (wd = 0 ∧ chkL S wd = 0 ∧ (tkn (N 84) (N 77 10) e).1 = 4) ∨ (wd = 0 ∧ chkL S wd = 0 ∧ (tkn (N 84) (N 77 10) e).1 ≠ 4) ∨ (wd = 1 ∧ chkL S wd ≠ 0) ∨ (wd = 1 ∧ chkL S wd = 0 ∧ (tkn (N 84) (N 77 10) e).1 = 4) ∨ (wd = 1 ∧ chkL S wd = 0 ∧ (tkn (N 84) (N 77 10) e).1 ≠ 4) ∨ (wd = 2 ∧ chkL S wd ≠ 0) ∨ (wd = 2 ∧ chkL S wd = 0 ∧ (tkn (N 84) (N 77 10) e).1 = 4) ∨ (wd = 2 ∧ chkL S wd = 0 ∧ (tkn (N 84) (N 77 10) e).1 ≠ 4) ∨ (wd = 3 ∧ chkL S wd ≠ 0) ∨ (wd = 3 ∧ chkL S wd = 0 ∧ (tkn (N 84) (N 77 10) e).1 = 4) ∨ (wd = 3 ∧ chkL S wd = 0 ∧ (tkn (N 84) (N 77 10) e).1 ≠ 4) := by omega
  rcases h13 with hA | ⟨hwd, hk⟩ | ⟨hwd, hk, h4⟩ | ⟨hwd, hk, h4⟩ | ⟨hwd, hk⟩ | ⟨hwd, hk, h4⟩ | ⟨hwd, hk, h4⟩ | ⟨hwd, hk⟩ | ⟨hwd, hk, h4⟩ | ⟨hwd, hk, h4⟩ | ⟨hwd, hk⟩ | ⟨hwd, hk, h4⟩ | ⟨hwd, hk, h4⟩
  · rw [if_pos hA, if_pos hA]
    refine q_con (by decide) rfl rfl (Nat.le_of_ble_eq_true rfl) ?_
    refine q_aload_n 1 rfl rfl dX7_readLine_0 ?_
    refine q_cV0 4 rfl lX7_131 (k_wordHere hG hl ht t2 t3 hcu hlw t4) rfl 77 t_77 rfl rfl rfl dX7_readLine_1 ?_
    rw [← w9e]
    refine q_istore_n 5 rfl (by decide) dX7_readLine_4 ?_
    refine q_iload_n 6 rfl rfl dX7_readLine_5 ?_
    refine q_i2l 7 rfl dX7_readLine_6 ?_
    refine q_lconst 8 rfl 0 lN0 dX7_readLine_7 ?_
    refine q_ldc2 11 rfl (3) klX7_135 rfl dX7_readLine_8 ?_
    refine q_cS3 14 rfl lX7_68 (k_in (X := wd) (by omega) (by omega) (by omega) rfl (by omega) (by omega)) rfl rfl rfl dX7_readLine_11 ?_
    refine q_if_neD 17 rfl 23 (by decide) dX7_readLine_14 (fun h14 => ?_) (fun h14 => ?_)
    · exfalso; omega
    · refine q_aload_n 18 rfl rfl dX7_readLine_17 ?_
      refine q_iconst 19 rfl 2 k_i2 dX7_readLine_18 ?_
      refine q_cV1v 22 rfl lX7_106 (k_fails hG (by omega)) rfl 77 t_77 rfl rfl rfl dX7_readLine_19 ?_
      rw [if_pos rfl]
      refine q_vret rfl dX7_readLine_22 ?_
      exact ⟨rfl, Or.inl ⟨by decide, _, _, _, _, _, rfl, FR.rf, hB⟩⟩
  · have h3 : ¬ 3 < wd := by omega
    have cq : chkL S wd = if S 0 0 = 9 then 5 else 0 := by rw [chkL, if_pos hwd]
    have c9 : S 0 0 = 9 := Classical.byContradiction fun q => by rw [if_neg q] at cq; exact hk cq
    rw [if_pos c9] at cq
    rw [if_neg h3, if_pos hk, if_neg h3, if_pos hk, cq]
    refine q_con (by decide) rfl rfl (Nat.le_of_ble_eq_true rfl) ?_
    refine q_aload_n 1 rfl rfl dX7_readLine_0 ?_
    refine q_cV0 4 rfl lX7_131 (k_wordHere hG hl ht t2 t3 hcu hlw t4) rfl 77 t_77 rfl rfl rfl dX7_readLine_1 ?_
    rw [← w9e]
    refine q_istore_n 5 rfl (by decide) dX7_readLine_4 ?_
    refine q_iload_n 6 rfl rfl dX7_readLine_5 ?_
    refine q_i2l 7 rfl dX7_readLine_6 ?_
    refine q_lconst 8 rfl 0 lN0 dX7_readLine_7 ?_
    refine q_ldc2 11 rfl (3) klX7_135 rfl dX7_readLine_8 ?_
    refine q_cS3 14 rfl lX7_68 (k_in (X := wd) (by omega) (by omega) (by omega) rfl (by omega) (by omega)) rfl rfl rfl dX7_readLine_11 ?_
    refine q_if_neD 17 rfl 23 (by decide) dX7_readLine_14 (fun h14 => ?_) (fun h14 => ?_)
    · refine q_iload_n 24 rfl rfl dX7_readLine_23 ?_
      refine q_if_ne 27 rfl 36 (by decide) (by omega) dX7_readLine_24 (fun h24 => ?_) (fun h24 => ?_)
      · exfalso; omega
      · refine q_aload_n 28 rfl rfl dX7_readLine_27 ?_
        refine q_getI 31 rfl fX7_116 rfl 77 t_77 dX7_readLine_28 ?_
        rw [P7_o (by decide) (by decide)]
        rw [hc6]
        refine q_bipush 33 rfl 9 k_b9 dX7_readLine_31 ?_
        refine q_icmp_eq 36 rfl 52 (by decide) (by omega) (by omega) dX7_readLine_33 (fun h33 => ?_) (fun h33 => ?_)
        · refine q_aload_n 53 rfl rfl dX7_readLine_52 ?_
          refine q_iconst 54 rfl 5 k_i5 dX7_readLine_53 ?_
          refine q_cV1v 57 rfl lX7_106 (k_fails hG (by omega)) rfl 77 t_77 rfl rfl rfl dX7_readLine_54 ?_
          rw [if_pos rfl]
          refine q_iload_n 58 rfl rfl dX7_readLine_57 ?_
          refine q_iconst 59 rfl 1 k_i1 dX7_readLine_58 ?_
          refine q_icmp_eq 62 rfl 67 (by decide) (by omega) (by omega) dX7_readLine_59 (fun h59 => ?_) (fun h59 => ?_)
          · exfalso; omega
          · refine q_iload_n 63 rfl rfl dX7_readLine_62 ?_
            refine q_iconst 64 rfl 3 k_i3 dX7_readLine_63 ?_
            refine q_icmp_ne 67 rfl 84 (by decide) (by omega) (by omega) dX7_readLine_64 (fun h64 => ?_) (fun h64 => ?_)
            · refine q_aload_n 85 rfl rfl dX7_readLine_84 ?_
              refine q_dup 86 rfl rfl dX7_readLine_85 ?_
              refine q_getI 89 rfl fX7_137 rfl 77 t_77 dX7_readLine_86 ?_
              rw [P7_o (by decide) (by decide)]
              refine q_iconst 90 rfl 1 k_i1 dX7_readLine_89 ?_
              refine q_iload_n 91 rfl rfl dX7_readLine_90 ?_
              refine q_ishl 92 rfl (by omega) dX7_readLine_91 ?_
              refine q_ior 93 rfl dX7_readLine_92 ?_
              refine q_putI 96 rfl pX7_137 (fun q => by cases q) rfl 77 t_77 dX7_readLine_93 ?_
              rw [P7_so (by decide) (by decide)]
              rw [hN1]
              refine q_aload_n 97 rfl rfl dX7_readLine_96 ?_
              refine q_cV0v 100 rfl lX7_110 (k_stepB hG (by decide) (by decide)) rfl 77 t_77 rfl rfl rfl dX7_readLine_97 ?_
              refine q_aload_n 101 rfl rfl dX7_readLine_100 ?_
              refine q_getI 104 rfl fX7_76 rfl 77 t_77 dX7_readLine_101 ?_
              rw [P7_12]
              refine q_ifN_le 107 rfl 108 (by decide) (by omega) dX7_readLine_104 (fun h104 => ?_) (fun h104 => ?_)
              · exfalso; omega
              · refine q_vret rfl dX7_readLine_107 ?_
                exact ⟨rfl, Or.inl ⟨by decide, _, _, _, _, _, rfl, fr1, mb1⟩⟩
            · exfalso; omega
        · exfalso; omega
    · exfalso; omega
  · have h3 : ¬ 3 < wd := by omega
    have cq : chkL S wd = if S 0 0 = 9 then 5 else 0 := by rw [chkL, if_pos hwd]
    have c9 : ¬ S 0 0 = 9 := fun q => by rw [if_pos q] at cq; omega
    have hk0 : ¬ chkL S wd ≠ 0 := by omega
    obtain ⟨e3, k3, v3, hst⟩ := st4 h4
    obtain ⟨q1, q2⟩ := bF_4 (S := tldS S wd) (wi := wd) h4
    rw [if_neg h3, if_neg hk0, if_neg h3, if_neg hk0, q1, q2, if_pos (by decide), if_pos (by decide)]
    refine q_con (by decide) rfl rfl (Nat.le_of_ble_eq_true rfl) ?_
    refine q_aload_n 1 rfl rfl dX7_readLine_0 ?_
    refine q_cV0 4 rfl lX7_131 (k_wordHere hG hl ht t2 t3 hcu hlw t4) rfl 77 t_77 rfl rfl rfl dX7_readLine_1 ?_
    rw [← w9e]
    refine q_istore_n 5 rfl (by decide) dX7_readLine_4 ?_
    refine q_iload_n 6 rfl rfl dX7_readLine_5 ?_
    refine q_i2l 7 rfl dX7_readLine_6 ?_
    refine q_lconst 8 rfl 0 lN0 dX7_readLine_7 ?_
    refine q_ldc2 11 rfl (3) klX7_135 rfl dX7_readLine_8 ?_
    refine q_cS3 14 rfl lX7_68 (k_in (X := wd) (by omega) (by omega) (by omega) rfl (by omega) (by omega)) rfl rfl rfl dX7_readLine_11 ?_
    refine q_if_neD 17 rfl 23 (by decide) dX7_readLine_14 (fun h14 => ?_) (fun h14 => ?_)
    · refine q_iload_n 24 rfl rfl dX7_readLine_23 ?_
      refine q_if_ne 27 rfl 36 (by decide) (by omega) dX7_readLine_24 (fun h24 => ?_) (fun h24 => ?_)
      · exfalso; omega
      · refine q_aload_n 28 rfl rfl dX7_readLine_27 ?_
        refine q_getI 31 rfl fX7_116 rfl 77 t_77 dX7_readLine_28 ?_
        rw [P7_o (by decide) (by decide)]
        rw [hc6]
        refine q_bipush 33 rfl 9 k_b9 dX7_readLine_31 ?_
        refine q_icmp_eq 36 rfl 52 (by decide) (by omega) (by omega) dX7_readLine_33 (fun h33 => ?_) (fun h33 => ?_)
        · exfalso; omega
        · refine q_iload_n 37 rfl rfl dX7_readLine_36 ?_
          refine q_iconst 38 rfl 2 k_i2 dX7_readLine_37 ?_
          refine q_icmp_ne 41 rfl 57 (by decide) (by omega) (by omega) dX7_readLine_38 (fun h38 => ?_) (fun h38 => ?_)
          · refine q_iload_n 58 rfl rfl dX7_readLine_57 ?_
            refine q_iconst 59 rfl 1 k_i1 dX7_readLine_58 ?_
            refine q_icmp_eq 62 rfl 67 (by decide) (by omega) (by omega) dX7_readLine_59 (fun h59 => ?_) (fun h59 => ?_)
            · exfalso; omega
            · refine q_iload_n 63 rfl rfl dX7_readLine_62 ?_
              refine q_iconst 64 rfl 3 k_i3 dX7_readLine_63 ?_
              refine q_icmp_ne 67 rfl 84 (by decide) (by omega) (by omega) dX7_readLine_64 (fun h64 => ?_) (fun h64 => ?_)
              · refine q_aload_n 85 rfl rfl dX7_readLine_84 ?_
                refine q_dup 86 rfl rfl dX7_readLine_85 ?_
                refine q_getI 89 rfl fX7_137 rfl 77 t_77 dX7_readLine_86 ?_
                rw [P7_o (by decide) (by decide)]
                refine q_iconst 90 rfl 1 k_i1 dX7_readLine_89 ?_
                refine q_iload_n 91 rfl rfl dX7_readLine_90 ?_
                refine q_ishl 92 rfl (by omega) dX7_readLine_91 ?_
                refine q_ior 93 rfl dX7_readLine_92 ?_
                refine q_putI 96 rfl pX7_137 (fun q => by cases q) rfl 77 t_77 dX7_readLine_93 ?_
                rw [P7_so (by decide) (by decide)]
                rw [hN1]
                refine q_aload_n 97 rfl rfl dX7_readLine_96 ?_
                refine q_cV0v 100 rfl lX7_110 (k_step0 (N := N1) hG (by rw [e10]; exact hl) (by rw [e84]; exact ht) (by rw [e10]; exact t3)) rfl 77 t_77 rfl rfl rfl dX7_readLine_97 ?_
                rw [hst]
                refine q_aload_n 101 rfl rfl dX7_readLine_100 ?_
                refine q_getI 104 rfl fX7_76 rfl 77 t_77 dX7_readLine_101 ?_
                rw [P7_12]
                refine q_ifN_le 107 rfl 108 (by decide) (by omega) dX7_readLine_104 (fun h104 => ?_) (fun h104 => ?_)
                · exfalso; omega
                · refine q_vret rfl dX7_readLine_107 ?_
                  exact ⟨rfl, Or.inl ⟨by decide, _, _, _, _, _, rfl, fr1, mb1⟩⟩
              · exfalso; omega
          · exfalso; omega
    · exfalso; omega
  · have h3 : ¬ 3 < wd := by omega
    have cq : chkL S wd = if S 0 0 = 9 then 5 else 0 := by rw [chkL, if_pos hwd]
    have c9 : ¬ S 0 0 = 9 := fun q => by rw [if_pos q] at cq; omega
    have hk0 : ¬ chkL S wd ≠ 0 := by omega
    have b1 : bF (tldS S wd) (N 84) (N 77 10) wd e = fName (tldS S wd) (N 84) (N 77 10) e := by rw [bF, if_pos hwd]
    have b2 : bP (tldS S wd) (N 84) (N 77 10) wd e = pName (tldS S wd) (N 84) (N 77 10) e := by rw [bP, if_pos hwd]
    have b4 : bE (N 84) (N 77 10) wd e = tkE (N 84) (N 77 10) (tkE (N 84) (N 77 10) e) := by rw [bE, if_neg (show ¬ wd = 3 by omega)]
    rw [if_neg h3, if_neg hk0, if_neg h3, if_neg hk0, bS, if_pos hwd, b1, b2, b4]
    rw [b1] at bl
    rw [b4] at bel
    refine q_con (by decide) rfl rfl (Nat.le_of_ble_eq_true rfl) ?_
    refine q_aload_n 1 rfl rfl dX7_readLine_0 ?_
    refine q_cV0 4 rfl lX7_131 (k_wordHere hG hl ht t2 t3 hcu hlw t4) rfl 77 t_77 rfl rfl rfl dX7_readLine_1 ?_
    rw [← w9e]
    refine q_istore_n 5 rfl (by decide) dX7_readLine_4 ?_
    refine q_iload_n 6 rfl rfl dX7_readLine_5 ?_
    refine q_i2l 7 rfl dX7_readLine_6 ?_
    refine q_lconst 8 rfl 0 lN0 dX7_readLine_7 ?_
    refine q_ldc2 11 rfl (3) klX7_135 rfl dX7_readLine_8 ?_
    refine q_cS3 14 rfl lX7_68 (k_in (X := wd) (by omega) (by omega) (by omega) rfl (by omega) (by omega)) rfl rfl rfl dX7_readLine_11 ?_
    refine q_if_neD 17 rfl 23 (by decide) dX7_readLine_14 (fun h14 => ?_) (fun h14 => ?_)
    · refine q_iload_n 24 rfl rfl dX7_readLine_23 ?_
      refine q_if_ne 27 rfl 36 (by decide) (by omega) dX7_readLine_24 (fun h24 => ?_) (fun h24 => ?_)
      · exfalso; omega
      · refine q_aload_n 28 rfl rfl dX7_readLine_27 ?_
        refine q_getI 31 rfl fX7_116 rfl 77 t_77 dX7_readLine_28 ?_
        rw [P7_o (by decide) (by decide)]
        rw [hc6]
        refine q_bipush 33 rfl 9 k_b9 dX7_readLine_31 ?_
        refine q_icmp_eq 36 rfl 52 (by decide) (by omega) (by omega) dX7_readLine_33 (fun h33 => ?_) (fun h33 => ?_)
        · exfalso; omega
        · refine q_iload_n 37 rfl rfl dX7_readLine_36 ?_
          refine q_iconst 38 rfl 2 k_i2 dX7_readLine_37 ?_
          refine q_icmp_ne 41 rfl 57 (by decide) (by omega) (by omega) dX7_readLine_38 (fun h38 => ?_) (fun h38 => ?_)
          · refine q_iload_n 58 rfl rfl dX7_readLine_57 ?_
            refine q_iconst 59 rfl 1 k_i1 dX7_readLine_58 ?_
            refine q_icmp_eq 62 rfl 67 (by decide) (by omega) (by omega) dX7_readLine_59 (fun h59 => ?_) (fun h59 => ?_)
            · exfalso; omega
            · refine q_iload_n 63 rfl rfl dX7_readLine_62 ?_
              refine q_iconst 64 rfl 3 k_i3 dX7_readLine_63 ?_
              refine q_icmp_ne 67 rfl 84 (by decide) (by omega) (by omega) dX7_readLine_64 (fun h64 => ?_) (fun h64 => ?_)
              · refine q_aload_n 85 rfl rfl dX7_readLine_84 ?_
                refine q_dup 86 rfl rfl dX7_readLine_85 ?_
                refine q_getI 89 rfl fX7_137 rfl 77 t_77 dX7_readLine_86 ?_
                rw [P7_o (by decide) (by decide)]
                refine q_iconst 90 rfl 1 k_i1 dX7_readLine_89 ?_
                refine q_iload_n 91 rfl rfl dX7_readLine_90 ?_
                refine q_ishl 92 rfl (by omega) dX7_readLine_91 ?_
                refine q_ior 93 rfl dX7_readLine_92 ?_
                refine q_putI 96 rfl pX7_137 (fun q => by cases q) rfl 77 t_77 dX7_readLine_93 ?_
                rw [P7_so (by decide) (by decide)]
                rw [hN1]
                refine q_aload_n 97 rfl rfl dX7_readLine_96 ?_
                refine q_cV0v 100 rfl lX7_110 (k_step0 (N := N1) hG (by rw [e10]; exact hl) (by rw [e84]; exact ht) (by rw [e10]; exact t3)) rfl 77 t_77 rfl rfl rfl dX7_readLine_97 ?_
                refine q_aload_n 101 rfl rfl dX7_readLine_100 ?_
                refine q_getI 104 rfl fX7_76 rfl 77 t_77 dX7_readLine_101 ?_
                rw [stp_12 (hk41 h4)]
                refine q_ifN_le 107 rfl 108 (by decide) (by omega) dX7_readLine_104 (fun h104 => ?_) (fun h104 => ?_)
                · refine q_iload_n 109 rfl rfl dX7_readLine_108 ?_
                  refine q_if_ne 112 rfl 119 (by decide) (by omega) dX7_readLine_109 (fun h109 => ?_) (fun h109 => ?_)
                  · exfalso; omega
                  · refine q_aload_n 113 rfl rfl dX7_readLine_112 ?_
                    refine q_cV0q 116 rfl lX7_140 (k_readName (N := N1) (S := tldS S wd) hG (by rw [e10]; exact hl) (by rw [e84]; exact ht) (mr1 (by omega)) wf1 mb1 (by rw [e10]; exact t3) (hk41 h4) (by rw [t00 0 (by omega) (by omega)]; omega)) rfl 77 t_77 rfl rfl rfl dX7_readLine_113 ?_
                    rintro v h hq
                    have hv := hq.1
                    subst hv
                    rw [e84, e10] at hq
                    refine q_goto 162 (by decide) dX7_readLine_116 ?_
                    exact q_loc (rl_tail (N := N) hG hl ht bel (by omega) rfl rfl (RS.fr fr1 hq)) (q_sub1 rfl q_sub0)
                · exfalso; omega
              · exfalso; omega
          · exfalso; omega
    · exfalso; omega
  · have h3 : ¬ 3 < wd := by omega
    have cq : chkL S wd = if S 0 5 = 1 then 4 else 0 := by rw [chkL, if_neg (by omega), if_pos hwd]
    have hbit : N 77 8 / 2 ^ wd % 2 = S 0 5 := by rw [hwd]; exact h85
    have c9 : S 0 5 = 1 := Classical.byContradiction fun q => by rw [if_neg q] at cq; exact hk cq
    rw [if_pos c9] at cq
    rw [if_neg h3, if_pos hk, if_neg h3, if_pos hk, cq]
    refine q_con (by decide) rfl rfl (Nat.le_of_ble_eq_true rfl) ?_
    refine q_aload_n 1 rfl rfl dX7_readLine_0 ?_
    refine q_cV0 4 rfl lX7_131 (k_wordHere hG hl ht t2 t3 hcu hlw t4) rfl 77 t_77 rfl rfl rfl dX7_readLine_1 ?_
    rw [← w9e]
    refine q_istore_n 5 rfl (by decide) dX7_readLine_4 ?_
    refine q_iload_n 6 rfl rfl dX7_readLine_5 ?_
    refine q_i2l 7 rfl dX7_readLine_6 ?_
    refine q_lconst 8 rfl 0 lN0 dX7_readLine_7 ?_
    refine q_ldc2 11 rfl (3) klX7_135 rfl dX7_readLine_8 ?_
    refine q_cS3 14 rfl lX7_68 (k_in (X := wd) (by omega) (by omega) (by omega) rfl (by omega) (by omega)) rfl rfl rfl dX7_readLine_11 ?_
    refine q_if_neD 17 rfl 23 (by decide) dX7_readLine_14 (fun h14 => ?_) (fun h14 => ?_)
    · refine q_iload_n 24 rfl rfl dX7_readLine_23 ?_
      refine q_if_ne 27 rfl 36 (by decide) (by omega) dX7_readLine_24 (fun h24 => ?_) (fun h24 => ?_)
      · refine q_iload_n 37 rfl rfl dX7_readLine_36 ?_
        refine q_iconst 38 rfl 2 k_i2 dX7_readLine_37 ?_
        refine q_icmp_ne 41 rfl 57 (by decide) (by omega) (by omega) dX7_readLine_38 (fun h38 => ?_) (fun h38 => ?_)
        · refine q_iload_n 58 rfl rfl dX7_readLine_57 ?_
          refine q_iconst 59 rfl 1 k_i1 dX7_readLine_58 ?_
          refine q_icmp_eq 62 rfl 67 (by decide) (by omega) (by omega) dX7_readLine_59 (fun h59 => ?_) (fun h59 => ?_)
          · refine q_aload_n 68 rfl rfl dX7_readLine_67 ?_
            refine q_getI 71 rfl fX7_137 rfl 77 t_77 dX7_readLine_68 ?_
            rw [P7_o (by decide) (by decide)]
            refine q_iload_n 72 rfl rfl dX7_readLine_71 ?_
            refine q_ishr 73 rfl (by omega) (by omega) dX7_readLine_72 ?_
            refine q_iconst 74 rfl 1 k_i1 dX7_readLine_73 ?_
            refine q_iand 75 rfl dX7_readLine_74 ?_
            rw [Nat.and_one_is_mod, hbit]
            refine q_iconst 76 rfl 1 k_i1 dX7_readLine_75 ?_
            refine q_icmp_ne 79 rfl 84 (by decide) (by omega) (by omega) dX7_readLine_76 (fun h76 => ?_) (fun h76 => ?_)
            · exfalso; omega
            · refine q_aload_n 80 rfl rfl dX7_readLine_79 ?_
              refine q_iconst 81 rfl 4 k_i4 dX7_readLine_80 ?_
              refine q_cV1v 84 rfl lX7_106 (k_fails hG (by omega)) rfl 77 t_77 rfl rfl rfl dX7_readLine_81 ?_
              rw [if_pos rfl]
              refine q_aload_n 85 rfl rfl dX7_readLine_84 ?_
              refine q_dup 86 rfl rfl dX7_readLine_85 ?_
              refine q_getI 89 rfl fX7_137 rfl 77 t_77 dX7_readLine_86 ?_
              rw [P7_o (by decide) (by decide)]
              refine q_iconst 90 rfl 1 k_i1 dX7_readLine_89 ?_
              refine q_iload_n 91 rfl rfl dX7_readLine_90 ?_
              refine q_ishl 92 rfl (by omega) dX7_readLine_91 ?_
              refine q_ior 93 rfl dX7_readLine_92 ?_
              refine q_putI 96 rfl pX7_137 (fun q => by cases q) rfl 77 t_77 dX7_readLine_93 ?_
              rw [P7_so (by decide) (by decide)]
              rw [hN1]
              refine q_aload_n 97 rfl rfl dX7_readLine_96 ?_
              refine q_cV0v 100 rfl lX7_110 (k_stepB hG (by decide) (by decide)) rfl 77 t_77 rfl rfl rfl dX7_readLine_97 ?_
              refine q_aload_n 101 rfl rfl dX7_readLine_100 ?_
              refine q_getI 104 rfl fX7_76 rfl 77 t_77 dX7_readLine_101 ?_
              rw [P7_12]
              refine q_ifN_le 107 rfl 108 (by decide) (by omega) dX7_readLine_104 (fun h104 => ?_) (fun h104 => ?_)
              · exfalso; omega
              · refine q_vret rfl dX7_readLine_107 ?_
                exact ⟨rfl, Or.inl ⟨by decide, _, _, _, _, _, rfl, fr1, mb1⟩⟩
          · exfalso; omega
        · exfalso; omega
      · exfalso; omega
    · exfalso; omega
  · have h3 : ¬ 3 < wd := by omega
    have cq : chkL S wd = if S 0 5 = 1 then 4 else 0 := by rw [chkL, if_neg (by omega), if_pos hwd]
    have hbit : N 77 8 / 2 ^ wd % 2 = S 0 5 := by rw [hwd]; exact h85
    have c9 : ¬ S 0 5 = 1 := fun q => by rw [if_pos q] at cq; omega
    have hk0 : ¬ chkL S wd ≠ 0 := by omega
    obtain ⟨e3, k3, v3, hst⟩ := st4 h4
    obtain ⟨q1, q2⟩ := bF_4 (S := tldS S wd) (wi := wd) h4
    rw [if_neg h3, if_neg hk0, if_neg h3, if_neg hk0, q1, q2, if_pos (by decide), if_pos (by decide)]
    refine q_con (by decide) rfl rfl (Nat.le_of_ble_eq_true rfl) ?_
    refine q_aload_n 1 rfl rfl dX7_readLine_0 ?_
    refine q_cV0 4 rfl lX7_131 (k_wordHere hG hl ht t2 t3 hcu hlw t4) rfl 77 t_77 rfl rfl rfl dX7_readLine_1 ?_
    rw [← w9e]
    refine q_istore_n 5 rfl (by decide) dX7_readLine_4 ?_
    refine q_iload_n 6 rfl rfl dX7_readLine_5 ?_
    refine q_i2l 7 rfl dX7_readLine_6 ?_
    refine q_lconst 8 rfl 0 lN0 dX7_readLine_7 ?_
    refine q_ldc2 11 rfl (3) klX7_135 rfl dX7_readLine_8 ?_
    refine q_cS3 14 rfl lX7_68 (k_in (X := wd) (by omega) (by omega) (by omega) rfl (by omega) (by omega)) rfl rfl rfl dX7_readLine_11 ?_
    refine q_if_neD 17 rfl 23 (by decide) dX7_readLine_14 (fun h14 => ?_) (fun h14 => ?_)
    · refine q_iload_n 24 rfl rfl dX7_readLine_23 ?_
      refine q_if_ne 27 rfl 36 (by decide) (by omega) dX7_readLine_24 (fun h24 => ?_) (fun h24 => ?_)
      · refine q_iload_n 37 rfl rfl dX7_readLine_36 ?_
        refine q_iconst 38 rfl 2 k_i2 dX7_readLine_37 ?_
        refine q_icmp_ne 41 rfl 57 (by decide) (by omega) (by omega) dX7_readLine_38 (fun h38 => ?_) (fun h38 => ?_)
        · refine q_iload_n 58 rfl rfl dX7_readLine_57 ?_
          refine q_iconst 59 rfl 1 k_i1 dX7_readLine_58 ?_
          refine q_icmp_eq 62 rfl 67 (by decide) (by omega) (by omega) dX7_readLine_59 (fun h59 => ?_) (fun h59 => ?_)
          · refine q_aload_n 68 rfl rfl dX7_readLine_67 ?_
            refine q_getI 71 rfl fX7_137 rfl 77 t_77 dX7_readLine_68 ?_
            rw [P7_o (by decide) (by decide)]
            refine q_iload_n 72 rfl rfl dX7_readLine_71 ?_
            refine q_ishr 73 rfl (by omega) (by omega) dX7_readLine_72 ?_
            refine q_iconst 74 rfl 1 k_i1 dX7_readLine_73 ?_
            refine q_iand 75 rfl dX7_readLine_74 ?_
            rw [Nat.and_one_is_mod, hbit]
            refine q_iconst 76 rfl 1 k_i1 dX7_readLine_75 ?_
            refine q_icmp_ne 79 rfl 84 (by decide) (by omega) (by omega) dX7_readLine_76 (fun h76 => ?_) (fun h76 => ?_)
            · refine q_aload_n 85 rfl rfl dX7_readLine_84 ?_
              refine q_dup 86 rfl rfl dX7_readLine_85 ?_
              refine q_getI 89 rfl fX7_137 rfl 77 t_77 dX7_readLine_86 ?_
              rw [P7_o (by decide) (by decide)]
              refine q_iconst 90 rfl 1 k_i1 dX7_readLine_89 ?_
              refine q_iload_n 91 rfl rfl dX7_readLine_90 ?_
              refine q_ishl 92 rfl (by omega) dX7_readLine_91 ?_
              refine q_ior 93 rfl dX7_readLine_92 ?_
              refine q_putI 96 rfl pX7_137 (fun q => by cases q) rfl 77 t_77 dX7_readLine_93 ?_
              rw [P7_so (by decide) (by decide)]
              rw [hN1]
              refine q_aload_n 97 rfl rfl dX7_readLine_96 ?_
              refine q_cV0v 100 rfl lX7_110 (k_step0 (N := N1) hG (by rw [e10]; exact hl) (by rw [e84]; exact ht) (by rw [e10]; exact t3)) rfl 77 t_77 rfl rfl rfl dX7_readLine_97 ?_
              rw [hst]
              refine q_aload_n 101 rfl rfl dX7_readLine_100 ?_
              refine q_getI 104 rfl fX7_76 rfl 77 t_77 dX7_readLine_101 ?_
              rw [P7_12]
              refine q_ifN_le 107 rfl 108 (by decide) (by omega) dX7_readLine_104 (fun h104 => ?_) (fun h104 => ?_)
              · exfalso; omega
              · refine q_vret rfl dX7_readLine_107 ?_
                exact ⟨rfl, Or.inl ⟨by decide, _, _, _, _, _, rfl, fr1, mb1⟩⟩
            · exfalso; omega
          · exfalso; omega
        · exfalso; omega
      · exfalso; omega
    · exfalso; omega
  · have h3 : ¬ 3 < wd := by omega
    have cq : chkL S wd = if S 0 5 = 1 then 4 else 0 := by rw [chkL, if_neg (by omega), if_pos hwd]
    have hbit : N 77 8 / 2 ^ wd % 2 = S 0 5 := by rw [hwd]; exact h85
    have c9 : ¬ S 0 5 = 1 := fun q => by rw [if_pos q] at cq; omega
    have hk0 : ¬ chkL S wd ≠ 0 := by omega
    have b1 : bF (tldS S wd) (N 84) (N 77 10) wd e = fLaw (N 84) (N 77 10) e := by rw [bF, if_neg (show ¬ wd = 0 by omega), if_pos hwd]
    have b2 : bP (tldS S wd) (N 84) (N 77 10) wd e = pLaw (N 84) (N 77 10) e := by rw [bP, if_neg (show ¬ wd = 0 by omega), if_pos hwd]
    have b4 : bE (N 84) (N 77 10) wd e = tkE (N 84) (N 77 10) (tkE (N 84) (N 77 10) e) := by rw [bE, if_neg (show ¬ wd = 3 by omega)]
    rw [if_neg h3, if_neg hk0, if_neg h3, if_neg hk0, bS, if_neg (show ¬ wd = 0 by omega), if_pos hwd, b1, b2, b4]
    rw [b1] at bl
    rw [b4] at bel
    refine q_con (by decide) rfl rfl (Nat.le_of_ble_eq_true rfl) ?_
    refine q_aload_n 1 rfl rfl dX7_readLine_0 ?_
    refine q_cV0 4 rfl lX7_131 (k_wordHere hG hl ht t2 t3 hcu hlw t4) rfl 77 t_77 rfl rfl rfl dX7_readLine_1 ?_
    rw [← w9e]
    refine q_istore_n 5 rfl (by decide) dX7_readLine_4 ?_
    refine q_iload_n 6 rfl rfl dX7_readLine_5 ?_
    refine q_i2l 7 rfl dX7_readLine_6 ?_
    refine q_lconst 8 rfl 0 lN0 dX7_readLine_7 ?_
    refine q_ldc2 11 rfl (3) klX7_135 rfl dX7_readLine_8 ?_
    refine q_cS3 14 rfl lX7_68 (k_in (X := wd) (by omega) (by omega) (by omega) rfl (by omega) (by omega)) rfl rfl rfl dX7_readLine_11 ?_
    refine q_if_neD 17 rfl 23 (by decide) dX7_readLine_14 (fun h14 => ?_) (fun h14 => ?_)
    · refine q_iload_n 24 rfl rfl dX7_readLine_23 ?_
      refine q_if_ne 27 rfl 36 (by decide) (by omega) dX7_readLine_24 (fun h24 => ?_) (fun h24 => ?_)
      · refine q_iload_n 37 rfl rfl dX7_readLine_36 ?_
        refine q_iconst 38 rfl 2 k_i2 dX7_readLine_37 ?_
        refine q_icmp_ne 41 rfl 57 (by decide) (by omega) (by omega) dX7_readLine_38 (fun h38 => ?_) (fun h38 => ?_)
        · refine q_iload_n 58 rfl rfl dX7_readLine_57 ?_
          refine q_iconst 59 rfl 1 k_i1 dX7_readLine_58 ?_
          refine q_icmp_eq 62 rfl 67 (by decide) (by omega) (by omega) dX7_readLine_59 (fun h59 => ?_) (fun h59 => ?_)
          · refine q_aload_n 68 rfl rfl dX7_readLine_67 ?_
            refine q_getI 71 rfl fX7_137 rfl 77 t_77 dX7_readLine_68 ?_
            rw [P7_o (by decide) (by decide)]
            refine q_iload_n 72 rfl rfl dX7_readLine_71 ?_
            refine q_ishr 73 rfl (by omega) (by omega) dX7_readLine_72 ?_
            refine q_iconst 74 rfl 1 k_i1 dX7_readLine_73 ?_
            refine q_iand 75 rfl dX7_readLine_74 ?_
            rw [Nat.and_one_is_mod, hbit]
            refine q_iconst 76 rfl 1 k_i1 dX7_readLine_75 ?_
            refine q_icmp_ne 79 rfl 84 (by decide) (by omega) (by omega) dX7_readLine_76 (fun h76 => ?_) (fun h76 => ?_)
            · refine q_aload_n 85 rfl rfl dX7_readLine_84 ?_
              refine q_dup 86 rfl rfl dX7_readLine_85 ?_
              refine q_getI 89 rfl fX7_137 rfl 77 t_77 dX7_readLine_86 ?_
              rw [P7_o (by decide) (by decide)]
              refine q_iconst 90 rfl 1 k_i1 dX7_readLine_89 ?_
              refine q_iload_n 91 rfl rfl dX7_readLine_90 ?_
              refine q_ishl 92 rfl (by omega) dX7_readLine_91 ?_
              refine q_ior 93 rfl dX7_readLine_92 ?_
              refine q_putI 96 rfl pX7_137 (fun q => by cases q) rfl 77 t_77 dX7_readLine_93 ?_
              rw [P7_so (by decide) (by decide)]
              rw [hN1]
              refine q_aload_n 97 rfl rfl dX7_readLine_96 ?_
              refine q_cV0v 100 rfl lX7_110 (k_step0 (N := N1) hG (by rw [e10]; exact hl) (by rw [e84]; exact ht) (by rw [e10]; exact t3)) rfl 77 t_77 rfl rfl rfl dX7_readLine_97 ?_
              refine q_aload_n 101 rfl rfl dX7_readLine_100 ?_
              refine q_getI 104 rfl fX7_76 rfl 77 t_77 dX7_readLine_101 ?_
              rw [stp_12 (hk41 h4)]
              refine q_ifN_le 107 rfl 108 (by decide) (by omega) dX7_readLine_104 (fun h104 => ?_) (fun h104 => ?_)
              · refine q_iload_n 109 rfl rfl dX7_readLine_108 ?_
                refine q_if_ne 112 rfl 119 (by decide) (by omega) dX7_readLine_109 (fun h109 => ?_) (fun h109 => ?_)
                · refine q_iload_n 120 rfl rfl dX7_readLine_119 ?_
                  refine q_iconst 121 rfl 2 k_i2 dX7_readLine_120 ?_
                  refine q_icmp_ne 124 rfl 131 (by decide) (by omega) (by omega) dX7_readLine_121 (fun h121 => ?_) (fun h121 => ?_)
                  · refine q_iload_n 132 rfl rfl dX7_readLine_131 ?_
                    refine q_iconst 133 rfl 1 k_i1 dX7_readLine_132 ?_
                    refine q_icmp_ne 136 rfl 143 (by decide) (by omega) (by omega) dX7_readLine_133 (fun h133 => ?_) (fun h133 => ?_)
                    · exfalso; omega
                    · refine q_aload_n 137 rfl rfl dX7_readLine_136 ?_
                      refine q_cV0q 140 rfl lX7_146 (k_readLaw (N := N1) (S := tldS S wd) hG (by rw [e10]; exact hl) (by rw [e84]; exact ht) (by rw [e85]; exact hcu) (by rw [e86]; exact hlw) (mr1 (by omega)) mb1 (by rw [e10]; exact t3) (hk41 h4)) rfl 77 t_77 rfl rfl rfl dX7_readLine_137 ?_
                      rintro v h hq
                      have hv := hq.1
                      subst hv
                      rw [e84, e10] at hq
                      refine q_goto 162 (by decide) dX7_readLine_140 ?_
                      exact q_loc (rl_tail (N := N) hG hl ht bel (by omega) rfl rfl (RS.fr fr1 hq)) (q_sub1 rfl q_sub0)
                  · exfalso; omega
                · exfalso; omega
              · exfalso; omega
            · exfalso; omega
          · exfalso; omega
        · exfalso; omega
      · exfalso; omega
    · exfalso; omega
  · have h3 : ¬ 3 < wd := by omega
    have cq : chkL S wd = if S 0 3 = 5 then 5 else 0 := by rw [chkL, if_neg (by omega), if_neg (by omega), if_pos hwd]
    have c9 : S 0 3 = 5 := Classical.byContradiction fun q => by rw [if_neg q] at cq; exact hk cq
    rw [if_pos c9] at cq
    rw [if_neg h3, if_pos hk, if_neg h3, if_pos hk, cq]
    refine q_con (by decide) rfl rfl (Nat.le_of_ble_eq_true rfl) ?_
    refine q_aload_n 1 rfl rfl dX7_readLine_0 ?_
    refine q_cV0 4 rfl lX7_131 (k_wordHere hG hl ht t2 t3 hcu hlw t4) rfl 77 t_77 rfl rfl rfl dX7_readLine_1 ?_
    rw [← w9e]
    refine q_istore_n 5 rfl (by decide) dX7_readLine_4 ?_
    refine q_iload_n 6 rfl rfl dX7_readLine_5 ?_
    refine q_i2l 7 rfl dX7_readLine_6 ?_
    refine q_lconst 8 rfl 0 lN0 dX7_readLine_7 ?_
    refine q_ldc2 11 rfl (3) klX7_135 rfl dX7_readLine_8 ?_
    refine q_cS3 14 rfl lX7_68 (k_in (X := wd) (by omega) (by omega) (by omega) rfl (by omega) (by omega)) rfl rfl rfl dX7_readLine_11 ?_
    refine q_if_neD 17 rfl 23 (by decide) dX7_readLine_14 (fun h14 => ?_) (fun h14 => ?_)
    · refine q_iload_n 24 rfl rfl dX7_readLine_23 ?_
      refine q_if_ne 27 rfl 36 (by decide) (by omega) dX7_readLine_24 (fun h24 => ?_) (fun h24 => ?_)
      · refine q_iload_n 37 rfl rfl dX7_readLine_36 ?_
        refine q_iconst 38 rfl 2 k_i2 dX7_readLine_37 ?_
        refine q_icmp_ne 41 rfl 57 (by decide) (by omega) (by omega) dX7_readLine_38 (fun h38 => ?_) (fun h38 => ?_)
        · exfalso; omega
        · refine q_aload_n 42 rfl rfl dX7_readLine_41 ?_
          refine q_getR 45 rfl fX7_19 rfl 77 t_77 (g_77_4 hG) dX7_readLine_42 ?_
          refine q_bipush 47 rfl 21 k_b21 dX7_readLine_45 ?_
          refine q_iald 48 rfl 81 t_81 (by omega) (by decide) dX7_readLine_47 ?_
          rw [P7_ne (by decide)]
          rw [hp21]
          refine q_iconst 49 rfl 5 k_i5 dX7_readLine_48 ?_
          refine q_icmp_ne 52 rfl 57 (by decide) (by omega) (by omega) dX7_readLine_49 (fun h49 => ?_) (fun h49 => ?_)
          · exfalso; omega
          · refine q_aload_n 53 rfl rfl dX7_readLine_52 ?_
            refine q_iconst 54 rfl 5 k_i5 dX7_readLine_53 ?_
            refine q_cV1v 57 rfl lX7_106 (k_fails hG (by omega)) rfl 77 t_77 rfl rfl rfl dX7_readLine_54 ?_
            rw [if_pos rfl]
            refine q_iload_n 58 rfl rfl dX7_readLine_57 ?_
            refine q_iconst 59 rfl 1 k_i1 dX7_readLine_58 ?_
            refine q_icmp_eq 62 rfl 67 (by decide) (by omega) (by omega) dX7_readLine_59 (fun h59 => ?_) (fun h59 => ?_)
            · exfalso; omega
            · refine q_iload_n 63 rfl rfl dX7_readLine_62 ?_
              refine q_iconst 64 rfl 3 k_i3 dX7_readLine_63 ?_
              refine q_icmp_ne 67 rfl 84 (by decide) (by omega) (by omega) dX7_readLine_64 (fun h64 => ?_) (fun h64 => ?_)
              · refine q_aload_n 85 rfl rfl dX7_readLine_84 ?_
                refine q_dup 86 rfl rfl dX7_readLine_85 ?_
                refine q_getI 89 rfl fX7_137 rfl 77 t_77 dX7_readLine_86 ?_
                rw [P7_o (by decide) (by decide)]
                refine q_iconst 90 rfl 1 k_i1 dX7_readLine_89 ?_
                refine q_iload_n 91 rfl rfl dX7_readLine_90 ?_
                refine q_ishl 92 rfl (by omega) dX7_readLine_91 ?_
                refine q_ior 93 rfl dX7_readLine_92 ?_
                refine q_putI 96 rfl pX7_137 (fun q => by cases q) rfl 77 t_77 dX7_readLine_93 ?_
                rw [P7_so (by decide) (by decide)]
                rw [hN1]
                refine q_aload_n 97 rfl rfl dX7_readLine_96 ?_
                refine q_cV0v 100 rfl lX7_110 (k_stepB hG (by decide) (by decide)) rfl 77 t_77 rfl rfl rfl dX7_readLine_97 ?_
                refine q_aload_n 101 rfl rfl dX7_readLine_100 ?_
                refine q_getI 104 rfl fX7_76 rfl 77 t_77 dX7_readLine_101 ?_
                rw [P7_12]
                refine q_ifN_le 107 rfl 108 (by decide) (by omega) dX7_readLine_104 (fun h104 => ?_) (fun h104 => ?_)
                · exfalso; omega
                · refine q_vret rfl dX7_readLine_107 ?_
                  exact ⟨rfl, Or.inl ⟨by decide, _, _, _, _, _, rfl, fr1, mb1⟩⟩
              · exfalso; omega
      · exfalso; omega
    · exfalso; omega
  · have h3 : ¬ 3 < wd := by omega
    have cq : chkL S wd = if S 0 3 = 5 then 5 else 0 := by rw [chkL, if_neg (by omega), if_neg (by omega), if_pos hwd]
    have c9 : ¬ S 0 3 = 5 := fun q => by rw [if_pos q] at cq; omega
    have hk0 : ¬ chkL S wd ≠ 0 := by omega
    obtain ⟨e3, k3, v3, hst⟩ := st4 h4
    obtain ⟨q1, q2⟩ := bF_4 (S := tldS S wd) (wi := wd) h4
    rw [if_neg h3, if_neg hk0, if_neg h3, if_neg hk0, q1, q2, if_pos (by decide), if_pos (by decide)]
    refine q_con (by decide) rfl rfl (Nat.le_of_ble_eq_true rfl) ?_
    refine q_aload_n 1 rfl rfl dX7_readLine_0 ?_
    refine q_cV0 4 rfl lX7_131 (k_wordHere hG hl ht t2 t3 hcu hlw t4) rfl 77 t_77 rfl rfl rfl dX7_readLine_1 ?_
    rw [← w9e]
    refine q_istore_n 5 rfl (by decide) dX7_readLine_4 ?_
    refine q_iload_n 6 rfl rfl dX7_readLine_5 ?_
    refine q_i2l 7 rfl dX7_readLine_6 ?_
    refine q_lconst 8 rfl 0 lN0 dX7_readLine_7 ?_
    refine q_ldc2 11 rfl (3) klX7_135 rfl dX7_readLine_8 ?_
    refine q_cS3 14 rfl lX7_68 (k_in (X := wd) (by omega) (by omega) (by omega) rfl (by omega) (by omega)) rfl rfl rfl dX7_readLine_11 ?_
    refine q_if_neD 17 rfl 23 (by decide) dX7_readLine_14 (fun h14 => ?_) (fun h14 => ?_)
    · refine q_iload_n 24 rfl rfl dX7_readLine_23 ?_
      refine q_if_ne 27 rfl 36 (by decide) (by omega) dX7_readLine_24 (fun h24 => ?_) (fun h24 => ?_)
      · refine q_iload_n 37 rfl rfl dX7_readLine_36 ?_
        refine q_iconst 38 rfl 2 k_i2 dX7_readLine_37 ?_
        refine q_icmp_ne 41 rfl 57 (by decide) (by omega) (by omega) dX7_readLine_38 (fun h38 => ?_) (fun h38 => ?_)
        · exfalso; omega
        · refine q_aload_n 42 rfl rfl dX7_readLine_41 ?_
          refine q_getR 45 rfl fX7_19 rfl 77 t_77 (g_77_4 hG) dX7_readLine_42 ?_
          refine q_bipush 47 rfl 21 k_b21 dX7_readLine_45 ?_
          refine q_iald 48 rfl 81 t_81 (by omega) (by decide) dX7_readLine_47 ?_
          rw [P7_ne (by decide)]
          rw [hp21]
          refine q_iconst 49 rfl 5 k_i5 dX7_readLine_48 ?_
          refine q_icmp_ne 52 rfl 57 (by decide) (by omega) (by omega) dX7_readLine_49 (fun h49 => ?_) (fun h49 => ?_)
          · refine q_iload_n 58 rfl rfl dX7_readLine_57 ?_
            refine q_iconst 59 rfl 1 k_i1 dX7_readLine_58 ?_
            refine q_icmp_eq 62 rfl 67 (by decide) (by omega) (by omega) dX7_readLine_59 (fun h59 => ?_) (fun h59 => ?_)
            · exfalso; omega
            · refine q_iload_n 63 rfl rfl dX7_readLine_62 ?_
              refine q_iconst 64 rfl 3 k_i3 dX7_readLine_63 ?_
              refine q_icmp_ne 67 rfl 84 (by decide) (by omega) (by omega) dX7_readLine_64 (fun h64 => ?_) (fun h64 => ?_)
              · refine q_aload_n 85 rfl rfl dX7_readLine_84 ?_
                refine q_dup 86 rfl rfl dX7_readLine_85 ?_
                refine q_getI 89 rfl fX7_137 rfl 77 t_77 dX7_readLine_86 ?_
                rw [P7_o (by decide) (by decide)]
                refine q_iconst 90 rfl 1 k_i1 dX7_readLine_89 ?_
                refine q_iload_n 91 rfl rfl dX7_readLine_90 ?_
                refine q_ishl 92 rfl (by omega) dX7_readLine_91 ?_
                refine q_ior 93 rfl dX7_readLine_92 ?_
                refine q_putI 96 rfl pX7_137 (fun q => by cases q) rfl 77 t_77 dX7_readLine_93 ?_
                rw [P7_so (by decide) (by decide)]
                rw [hN1]
                refine q_aload_n 97 rfl rfl dX7_readLine_96 ?_
                refine q_cV0v 100 rfl lX7_110 (k_step0 (N := N1) hG (by rw [e10]; exact hl) (by rw [e84]; exact ht) (by rw [e10]; exact t3)) rfl 77 t_77 rfl rfl rfl dX7_readLine_97 ?_
                rw [hst]
                refine q_aload_n 101 rfl rfl dX7_readLine_100 ?_
                refine q_getI 104 rfl fX7_76 rfl 77 t_77 dX7_readLine_101 ?_
                rw [P7_12]
                refine q_ifN_le 107 rfl 108 (by decide) (by omega) dX7_readLine_104 (fun h104 => ?_) (fun h104 => ?_)
                · exfalso; omega
                · refine q_vret rfl dX7_readLine_107 ?_
                  exact ⟨rfl, Or.inl ⟨by decide, _, _, _, _, _, rfl, fr1, mb1⟩⟩
              · exfalso; omega
          · exfalso; omega
      · exfalso; omega
    · exfalso; omega
  · have h3 : ¬ 3 < wd := by omega
    have cq : chkL S wd = if S 0 3 = 5 then 5 else 0 := by rw [chkL, if_neg (by omega), if_neg (by omega), if_pos hwd]
    have c9 : ¬ S 0 3 = 5 := fun q => by rw [if_pos q] at cq; omega
    have hk0 : ¬ chkL S wd ≠ 0 := by omega
    have b1 : bF (tldS S wd) (N 84) (N 77 10) wd e = fPair (N 84) (N 77 10) e := by rw [bF, if_neg (show ¬ wd = 0 by omega), if_neg (show ¬ wd = 1 by omega), if_pos hwd]
    have b2 : bP (tldS S wd) (N 84) (N 77 10) wd e = pPair (N 84) (N 77 10) e := by rw [bP, if_neg (show ¬ wd = 0 by omega), if_neg (show ¬ wd = 1 by omega), if_pos hwd]
    have b4 : bE (N 84) (N 77 10) wd e = tkE (N 84) (N 77 10) (tkE (N 84) (N 77 10) e) := by rw [bE, if_neg (show ¬ wd = 3 by omega)]
    rw [if_neg h3, if_neg hk0, if_neg h3, if_neg hk0, bS, if_neg (show ¬ wd = 0 by omega), if_neg (show ¬ wd = 1 by omega), if_pos hwd, b1, b2, b4]
    rw [b1] at bl
    rw [b4] at bel
    refine q_con (by decide) rfl rfl (Nat.le_of_ble_eq_true rfl) ?_
    refine q_aload_n 1 rfl rfl dX7_readLine_0 ?_
    refine q_cV0 4 rfl lX7_131 (k_wordHere hG hl ht t2 t3 hcu hlw t4) rfl 77 t_77 rfl rfl rfl dX7_readLine_1 ?_
    rw [← w9e]
    refine q_istore_n 5 rfl (by decide) dX7_readLine_4 ?_
    refine q_iload_n 6 rfl rfl dX7_readLine_5 ?_
    refine q_i2l 7 rfl dX7_readLine_6 ?_
    refine q_lconst 8 rfl 0 lN0 dX7_readLine_7 ?_
    refine q_ldc2 11 rfl (3) klX7_135 rfl dX7_readLine_8 ?_
    refine q_cS3 14 rfl lX7_68 (k_in (X := wd) (by omega) (by omega) (by omega) rfl (by omega) (by omega)) rfl rfl rfl dX7_readLine_11 ?_
    refine q_if_neD 17 rfl 23 (by decide) dX7_readLine_14 (fun h14 => ?_) (fun h14 => ?_)
    · refine q_iload_n 24 rfl rfl dX7_readLine_23 ?_
      refine q_if_ne 27 rfl 36 (by decide) (by omega) dX7_readLine_24 (fun h24 => ?_) (fun h24 => ?_)
      · refine q_iload_n 37 rfl rfl dX7_readLine_36 ?_
        refine q_iconst 38 rfl 2 k_i2 dX7_readLine_37 ?_
        refine q_icmp_ne 41 rfl 57 (by decide) (by omega) (by omega) dX7_readLine_38 (fun h38 => ?_) (fun h38 => ?_)
        · exfalso; omega
        · refine q_aload_n 42 rfl rfl dX7_readLine_41 ?_
          refine q_getR 45 rfl fX7_19 rfl 77 t_77 (g_77_4 hG) dX7_readLine_42 ?_
          refine q_bipush 47 rfl 21 k_b21 dX7_readLine_45 ?_
          refine q_iald 48 rfl 81 t_81 (by omega) (by decide) dX7_readLine_47 ?_
          rw [P7_ne (by decide)]
          rw [hp21]
          refine q_iconst 49 rfl 5 k_i5 dX7_readLine_48 ?_
          refine q_icmp_ne 52 rfl 57 (by decide) (by omega) (by omega) dX7_readLine_49 (fun h49 => ?_) (fun h49 => ?_)
          · refine q_iload_n 58 rfl rfl dX7_readLine_57 ?_
            refine q_iconst 59 rfl 1 k_i1 dX7_readLine_58 ?_
            refine q_icmp_eq 62 rfl 67 (by decide) (by omega) (by omega) dX7_readLine_59 (fun h59 => ?_) (fun h59 => ?_)
            · exfalso; omega
            · refine q_iload_n 63 rfl rfl dX7_readLine_62 ?_
              refine q_iconst 64 rfl 3 k_i3 dX7_readLine_63 ?_
              refine q_icmp_ne 67 rfl 84 (by decide) (by omega) (by omega) dX7_readLine_64 (fun h64 => ?_) (fun h64 => ?_)
              · refine q_aload_n 85 rfl rfl dX7_readLine_84 ?_
                refine q_dup 86 rfl rfl dX7_readLine_85 ?_
                refine q_getI 89 rfl fX7_137 rfl 77 t_77 dX7_readLine_86 ?_
                rw [P7_o (by decide) (by decide)]
                refine q_iconst 90 rfl 1 k_i1 dX7_readLine_89 ?_
                refine q_iload_n 91 rfl rfl dX7_readLine_90 ?_
                refine q_ishl 92 rfl (by omega) dX7_readLine_91 ?_
                refine q_ior 93 rfl dX7_readLine_92 ?_
                refine q_putI 96 rfl pX7_137 (fun q => by cases q) rfl 77 t_77 dX7_readLine_93 ?_
                rw [P7_so (by decide) (by decide)]
                rw [hN1]
                refine q_aload_n 97 rfl rfl dX7_readLine_96 ?_
                refine q_cV0v 100 rfl lX7_110 (k_step0 (N := N1) hG (by rw [e10]; exact hl) (by rw [e84]; exact ht) (by rw [e10]; exact t3)) rfl 77 t_77 rfl rfl rfl dX7_readLine_97 ?_
                refine q_aload_n 101 rfl rfl dX7_readLine_100 ?_
                refine q_getI 104 rfl fX7_76 rfl 77 t_77 dX7_readLine_101 ?_
                rw [stp_12 (hk41 h4)]
                refine q_ifN_le 107 rfl 108 (by decide) (by omega) dX7_readLine_104 (fun h104 => ?_) (fun h104 => ?_)
                · refine q_iload_n 109 rfl rfl dX7_readLine_108 ?_
                  refine q_if_ne 112 rfl 119 (by decide) (by omega) dX7_readLine_109 (fun h109 => ?_) (fun h109 => ?_)
                  · refine q_iload_n 120 rfl rfl dX7_readLine_119 ?_
                    refine q_iconst 121 rfl 2 k_i2 dX7_readLine_120 ?_
                    refine q_icmp_ne 124 rfl 131 (by decide) (by omega) (by omega) dX7_readLine_121 (fun h121 => ?_) (fun h121 => ?_)
                    · exfalso; omega
                    · refine q_aload_n 125 rfl rfl dX7_readLine_124 ?_
                      refine q_cV0q 128 rfl lX7_143 (k_readPair (N := N1) (S := tldS S wd) hG (by rw [e10]; exact hl) (by rw [e84]; exact ht) (mr1 (by omega)) wf1 mb1 (by rw [e10]; exact t3) (hk41 h4) (by rw [t00 3 (by omega) (by omega)]; omega)) rfl 77 t_77 rfl rfl rfl dX7_readLine_125 ?_
                      rintro v h hq
                      have hv := hq.1
                      subst hv
                      rw [e84, e10] at hq
                      refine q_goto 162 (by decide) dX7_readLine_128 ?_
                      exact q_loc (rl_tail (N := N) hG hl ht bel (by omega) rfl rfl (RS.fr fr1 hq)) (q_sub1 rfl q_sub0)
                  · exfalso; omega
                · exfalso; omega
              · exfalso; omega
          · exfalso; omega
      · exfalso; omega
    · exfalso; omega
  · have h3 : ¬ 3 < wd := by omega
    have cq : chkL S wd = if S 0 6 = 1 then 4 else 0 := by rw [chkL, if_neg (by omega), if_neg (by omega), if_neg (by omega)]
    have hbit : N 77 8 / 2 ^ wd % 2 = S 0 6 := by rw [hwd]; exact h86
    have c9 : S 0 6 = 1 := Classical.byContradiction fun q => by rw [if_neg q] at cq; exact hk cq
    rw [if_pos c9] at cq
    rw [if_neg h3, if_pos hk, if_neg h3, if_pos hk, cq]
    refine q_con (by decide) rfl rfl (Nat.le_of_ble_eq_true rfl) ?_
    refine q_aload_n 1 rfl rfl dX7_readLine_0 ?_
    refine q_cV0 4 rfl lX7_131 (k_wordHere hG hl ht t2 t3 hcu hlw t4) rfl 77 t_77 rfl rfl rfl dX7_readLine_1 ?_
    rw [← w9e]
    refine q_istore_n 5 rfl (by decide) dX7_readLine_4 ?_
    refine q_iload_n 6 rfl rfl dX7_readLine_5 ?_
    refine q_i2l 7 rfl dX7_readLine_6 ?_
    refine q_lconst 8 rfl 0 lN0 dX7_readLine_7 ?_
    refine q_ldc2 11 rfl (3) klX7_135 rfl dX7_readLine_8 ?_
    refine q_cS3 14 rfl lX7_68 (k_in (X := wd) (by omega) (by omega) (by omega) rfl (by omega) (by omega)) rfl rfl rfl dX7_readLine_11 ?_
    refine q_if_neD 17 rfl 23 (by decide) dX7_readLine_14 (fun h14 => ?_) (fun h14 => ?_)
    · refine q_iload_n 24 rfl rfl dX7_readLine_23 ?_
      refine q_if_ne 27 rfl 36 (by decide) (by omega) dX7_readLine_24 (fun h24 => ?_) (fun h24 => ?_)
      · refine q_iload_n 37 rfl rfl dX7_readLine_36 ?_
        refine q_iconst 38 rfl 2 k_i2 dX7_readLine_37 ?_
        refine q_icmp_ne 41 rfl 57 (by decide) (by omega) (by omega) dX7_readLine_38 (fun h38 => ?_) (fun h38 => ?_)
        · refine q_iload_n 58 rfl rfl dX7_readLine_57 ?_
          refine q_iconst 59 rfl 1 k_i1 dX7_readLine_58 ?_
          refine q_icmp_eq 62 rfl 67 (by decide) (by omega) (by omega) dX7_readLine_59 (fun h59 => ?_) (fun h59 => ?_)
          · exfalso; omega
          · refine q_iload_n 63 rfl rfl dX7_readLine_62 ?_
            refine q_iconst 64 rfl 3 k_i3 dX7_readLine_63 ?_
            refine q_icmp_ne 67 rfl 84 (by decide) (by omega) (by omega) dX7_readLine_64 (fun h64 => ?_) (fun h64 => ?_)
            · exfalso; omega
            · refine q_aload_n 68 rfl rfl dX7_readLine_67 ?_
              refine q_getI 71 rfl fX7_137 rfl 77 t_77 dX7_readLine_68 ?_
              rw [P7_o (by decide) (by decide)]
              refine q_iload_n 72 rfl rfl dX7_readLine_71 ?_
              refine q_ishr 73 rfl (by omega) (by omega) dX7_readLine_72 ?_
              refine q_iconst 74 rfl 1 k_i1 dX7_readLine_73 ?_
              refine q_iand 75 rfl dX7_readLine_74 ?_
              rw [Nat.and_one_is_mod, hbit]
              refine q_iconst 76 rfl 1 k_i1 dX7_readLine_75 ?_
              refine q_icmp_ne 79 rfl 84 (by decide) (by omega) (by omega) dX7_readLine_76 (fun h76 => ?_) (fun h76 => ?_)
              · exfalso; omega
              · refine q_aload_n 80 rfl rfl dX7_readLine_79 ?_
                refine q_iconst 81 rfl 4 k_i4 dX7_readLine_80 ?_
                refine q_cV1v 84 rfl lX7_106 (k_fails hG (by omega)) rfl 77 t_77 rfl rfl rfl dX7_readLine_81 ?_
                rw [if_pos rfl]
                refine q_aload_n 85 rfl rfl dX7_readLine_84 ?_
                refine q_dup 86 rfl rfl dX7_readLine_85 ?_
                refine q_getI 89 rfl fX7_137 rfl 77 t_77 dX7_readLine_86 ?_
                rw [P7_o (by decide) (by decide)]
                refine q_iconst 90 rfl 1 k_i1 dX7_readLine_89 ?_
                refine q_iload_n 91 rfl rfl dX7_readLine_90 ?_
                refine q_ishl 92 rfl (by omega) dX7_readLine_91 ?_
                refine q_ior 93 rfl dX7_readLine_92 ?_
                refine q_putI 96 rfl pX7_137 (fun q => by cases q) rfl 77 t_77 dX7_readLine_93 ?_
                rw [P7_so (by decide) (by decide)]
                rw [hN1]
                refine q_aload_n 97 rfl rfl dX7_readLine_96 ?_
                refine q_cV0v 100 rfl lX7_110 (k_stepB hG (by decide) (by decide)) rfl 77 t_77 rfl rfl rfl dX7_readLine_97 ?_
                refine q_aload_n 101 rfl rfl dX7_readLine_100 ?_
                refine q_getI 104 rfl fX7_76 rfl 77 t_77 dX7_readLine_101 ?_
                rw [P7_12]
                refine q_ifN_le 107 rfl 108 (by decide) (by omega) dX7_readLine_104 (fun h104 => ?_) (fun h104 => ?_)
                · exfalso; omega
                · refine q_vret rfl dX7_readLine_107 ?_
                  exact ⟨rfl, Or.inl ⟨by decide, _, _, _, _, _, rfl, fr1, mb1⟩⟩
        · exfalso; omega
      · exfalso; omega
    · exfalso; omega
  · have h3 : ¬ 3 < wd := by omega
    have cq : chkL S wd = if S 0 6 = 1 then 4 else 0 := by rw [chkL, if_neg (by omega), if_neg (by omega), if_neg (by omega)]
    have hbit : N 77 8 / 2 ^ wd % 2 = S 0 6 := by rw [hwd]; exact h86
    have c9 : ¬ S 0 6 = 1 := fun q => by rw [if_pos q] at cq; omega
    have hk0 : ¬ chkL S wd ≠ 0 := by omega
    obtain ⟨e3, k3, v3, hst⟩ := st4 h4
    obtain ⟨q1, q2⟩ := bF_4 (S := tldS S wd) (wi := wd) h4
    rw [if_neg h3, if_neg hk0, if_neg h3, if_neg hk0, q1, q2, if_pos (by decide), if_pos (by decide)]
    refine q_con (by decide) rfl rfl (Nat.le_of_ble_eq_true rfl) ?_
    refine q_aload_n 1 rfl rfl dX7_readLine_0 ?_
    refine q_cV0 4 rfl lX7_131 (k_wordHere hG hl ht t2 t3 hcu hlw t4) rfl 77 t_77 rfl rfl rfl dX7_readLine_1 ?_
    rw [← w9e]
    refine q_istore_n 5 rfl (by decide) dX7_readLine_4 ?_
    refine q_iload_n 6 rfl rfl dX7_readLine_5 ?_
    refine q_i2l 7 rfl dX7_readLine_6 ?_
    refine q_lconst 8 rfl 0 lN0 dX7_readLine_7 ?_
    refine q_ldc2 11 rfl (3) klX7_135 rfl dX7_readLine_8 ?_
    refine q_cS3 14 rfl lX7_68 (k_in (X := wd) (by omega) (by omega) (by omega) rfl (by omega) (by omega)) rfl rfl rfl dX7_readLine_11 ?_
    refine q_if_neD 17 rfl 23 (by decide) dX7_readLine_14 (fun h14 => ?_) (fun h14 => ?_)
    · refine q_iload_n 24 rfl rfl dX7_readLine_23 ?_
      refine q_if_ne 27 rfl 36 (by decide) (by omega) dX7_readLine_24 (fun h24 => ?_) (fun h24 => ?_)
      · refine q_iload_n 37 rfl rfl dX7_readLine_36 ?_
        refine q_iconst 38 rfl 2 k_i2 dX7_readLine_37 ?_
        refine q_icmp_ne 41 rfl 57 (by decide) (by omega) (by omega) dX7_readLine_38 (fun h38 => ?_) (fun h38 => ?_)
        · refine q_iload_n 58 rfl rfl dX7_readLine_57 ?_
          refine q_iconst 59 rfl 1 k_i1 dX7_readLine_58 ?_
          refine q_icmp_eq 62 rfl 67 (by decide) (by omega) (by omega) dX7_readLine_59 (fun h59 => ?_) (fun h59 => ?_)
          · exfalso; omega
          · refine q_iload_n 63 rfl rfl dX7_readLine_62 ?_
            refine q_iconst 64 rfl 3 k_i3 dX7_readLine_63 ?_
            refine q_icmp_ne 67 rfl 84 (by decide) (by omega) (by omega) dX7_readLine_64 (fun h64 => ?_) (fun h64 => ?_)
            · exfalso; omega
            · refine q_aload_n 68 rfl rfl dX7_readLine_67 ?_
              refine q_getI 71 rfl fX7_137 rfl 77 t_77 dX7_readLine_68 ?_
              rw [P7_o (by decide) (by decide)]
              refine q_iload_n 72 rfl rfl dX7_readLine_71 ?_
              refine q_ishr 73 rfl (by omega) (by omega) dX7_readLine_72 ?_
              refine q_iconst 74 rfl 1 k_i1 dX7_readLine_73 ?_
              refine q_iand 75 rfl dX7_readLine_74 ?_
              rw [Nat.and_one_is_mod, hbit]
              refine q_iconst 76 rfl 1 k_i1 dX7_readLine_75 ?_
              refine q_icmp_ne 79 rfl 84 (by decide) (by omega) (by omega) dX7_readLine_76 (fun h76 => ?_) (fun h76 => ?_)
              · refine q_aload_n 85 rfl rfl dX7_readLine_84 ?_
                refine q_dup 86 rfl rfl dX7_readLine_85 ?_
                refine q_getI 89 rfl fX7_137 rfl 77 t_77 dX7_readLine_86 ?_
                rw [P7_o (by decide) (by decide)]
                refine q_iconst 90 rfl 1 k_i1 dX7_readLine_89 ?_
                refine q_iload_n 91 rfl rfl dX7_readLine_90 ?_
                refine q_ishl 92 rfl (by omega) dX7_readLine_91 ?_
                refine q_ior 93 rfl dX7_readLine_92 ?_
                refine q_putI 96 rfl pX7_137 (fun q => by cases q) rfl 77 t_77 dX7_readLine_93 ?_
                rw [P7_so (by decide) (by decide)]
                rw [hN1]
                refine q_aload_n 97 rfl rfl dX7_readLine_96 ?_
                refine q_cV0v 100 rfl lX7_110 (k_step0 (N := N1) hG (by rw [e10]; exact hl) (by rw [e84]; exact ht) (by rw [e10]; exact t3)) rfl 77 t_77 rfl rfl rfl dX7_readLine_97 ?_
                rw [hst]
                refine q_aload_n 101 rfl rfl dX7_readLine_100 ?_
                refine q_getI 104 rfl fX7_76 rfl 77 t_77 dX7_readLine_101 ?_
                rw [P7_12]
                refine q_ifN_le 107 rfl 108 (by decide) (by omega) dX7_readLine_104 (fun h104 => ?_) (fun h104 => ?_)
                · exfalso; omega
                · refine q_vret rfl dX7_readLine_107 ?_
                  exact ⟨rfl, Or.inl ⟨by decide, _, _, _, _, _, rfl, fr1, mb1⟩⟩
              · exfalso; omega
        · exfalso; omega
      · exfalso; omega
    · exfalso; omega
  · have h3 : ¬ 3 < wd := by omega
    have cq : chkL S wd = if S 0 6 = 1 then 4 else 0 := by rw [chkL, if_neg (by omega), if_neg (by omega), if_neg (by omega)]
    have hbit : N 77 8 / 2 ^ wd % 2 = S 0 6 := by rw [hwd]; exact h86
    have c9 : ¬ S 0 6 = 1 := fun q => by rw [if_pos q] at cq; omega
    have hk0 : ¬ chkL S wd ≠ 0 := by omega
    have b1 : bF (tldS S wd) (N 84) (N 77 10) wd e = wrdf (N 84) (N 77 10) e 8 := by rw [bF, if_neg (show ¬ wd = 0 by omega), if_neg (show ¬ wd = 1 by omega), if_neg (show ¬ wd = 2 by omega)]
    have b2 : bP (tldS S wd) (N 84) (N 77 10) wd e = tkS (N 84) (N 77 10) e := by rw [bP, if_neg (show ¬ wd = 0 by omega), if_neg (show ¬ wd = 1 by omega), if_neg (show ¬ wd = 2 by omega)]
    have b4 : bE (N 84) (N 77 10) wd e = tkE (N 84) (N 77 10) e := by rw [bE, if_pos (show wd = 3 by omega)]
    rw [if_neg h3, if_neg hk0, if_neg h3, if_neg hk0, bS, if_neg (show ¬ wd = 0 by omega), if_neg (show ¬ wd = 1 by omega), if_neg (show ¬ wd = 2 by omega), b1, b2, b4]
    rw [b1] at bl
    rw [b4] at bel
    refine q_con (by decide) rfl rfl (Nat.le_of_ble_eq_true rfl) ?_
    refine q_aload_n 1 rfl rfl dX7_readLine_0 ?_
    refine q_cV0 4 rfl lX7_131 (k_wordHere hG hl ht t2 t3 hcu hlw t4) rfl 77 t_77 rfl rfl rfl dX7_readLine_1 ?_
    rw [← w9e]
    refine q_istore_n 5 rfl (by decide) dX7_readLine_4 ?_
    refine q_iload_n 6 rfl rfl dX7_readLine_5 ?_
    refine q_i2l 7 rfl dX7_readLine_6 ?_
    refine q_lconst 8 rfl 0 lN0 dX7_readLine_7 ?_
    refine q_ldc2 11 rfl (3) klX7_135 rfl dX7_readLine_8 ?_
    refine q_cS3 14 rfl lX7_68 (k_in (X := wd) (by omega) (by omega) (by omega) rfl (by omega) (by omega)) rfl rfl rfl dX7_readLine_11 ?_
    refine q_if_neD 17 rfl 23 (by decide) dX7_readLine_14 (fun h14 => ?_) (fun h14 => ?_)
    · refine q_iload_n 24 rfl rfl dX7_readLine_23 ?_
      refine q_if_ne 27 rfl 36 (by decide) (by omega) dX7_readLine_24 (fun h24 => ?_) (fun h24 => ?_)
      · refine q_iload_n 37 rfl rfl dX7_readLine_36 ?_
        refine q_iconst 38 rfl 2 k_i2 dX7_readLine_37 ?_
        refine q_icmp_ne 41 rfl 57 (by decide) (by omega) (by omega) dX7_readLine_38 (fun h38 => ?_) (fun h38 => ?_)
        · refine q_iload_n 58 rfl rfl dX7_readLine_57 ?_
          refine q_iconst 59 rfl 1 k_i1 dX7_readLine_58 ?_
          refine q_icmp_eq 62 rfl 67 (by decide) (by omega) (by omega) dX7_readLine_59 (fun h59 => ?_) (fun h59 => ?_)
          · exfalso; omega
          · refine q_iload_n 63 rfl rfl dX7_readLine_62 ?_
            refine q_iconst 64 rfl 3 k_i3 dX7_readLine_63 ?_
            refine q_icmp_ne 67 rfl 84 (by decide) (by omega) (by omega) dX7_readLine_64 (fun h64 => ?_) (fun h64 => ?_)
            · exfalso; omega
            · refine q_aload_n 68 rfl rfl dX7_readLine_67 ?_
              refine q_getI 71 rfl fX7_137 rfl 77 t_77 dX7_readLine_68 ?_
              rw [P7_o (by decide) (by decide)]
              refine q_iload_n 72 rfl rfl dX7_readLine_71 ?_
              refine q_ishr 73 rfl (by omega) (by omega) dX7_readLine_72 ?_
              refine q_iconst 74 rfl 1 k_i1 dX7_readLine_73 ?_
              refine q_iand 75 rfl dX7_readLine_74 ?_
              rw [Nat.and_one_is_mod, hbit]
              refine q_iconst 76 rfl 1 k_i1 dX7_readLine_75 ?_
              refine q_icmp_ne 79 rfl 84 (by decide) (by omega) (by omega) dX7_readLine_76 (fun h76 => ?_) (fun h76 => ?_)
              · refine q_aload_n 85 rfl rfl dX7_readLine_84 ?_
                refine q_dup 86 rfl rfl dX7_readLine_85 ?_
                refine q_getI 89 rfl fX7_137 rfl 77 t_77 dX7_readLine_86 ?_
                rw [P7_o (by decide) (by decide)]
                refine q_iconst 90 rfl 1 k_i1 dX7_readLine_89 ?_
                refine q_iload_n 91 rfl rfl dX7_readLine_90 ?_
                refine q_ishl 92 rfl (by omega) dX7_readLine_91 ?_
                refine q_ior 93 rfl dX7_readLine_92 ?_
                refine q_putI 96 rfl pX7_137 (fun q => by cases q) rfl 77 t_77 dX7_readLine_93 ?_
                rw [P7_so (by decide) (by decide)]
                rw [hN1]
                refine q_aload_n 97 rfl rfl dX7_readLine_96 ?_
                refine q_cV0v 100 rfl lX7_110 (k_step0 (N := N1) hG (by rw [e10]; exact hl) (by rw [e84]; exact ht) (by rw [e10]; exact t3)) rfl 77 t_77 rfl rfl rfl dX7_readLine_97 ?_
                refine q_aload_n 101 rfl rfl dX7_readLine_100 ?_
                refine q_getI 104 rfl fX7_76 rfl 77 t_77 dX7_readLine_101 ?_
                rw [stp_12 (hk41 h4)]
                refine q_ifN_le 107 rfl 108 (by decide) (by omega) dX7_readLine_104 (fun h104 => ?_) (fun h104 => ?_)
                · refine q_iload_n 109 rfl rfl dX7_readLine_108 ?_
                  refine q_if_ne 112 rfl 119 (by decide) (by omega) dX7_readLine_109 (fun h109 => ?_) (fun h109 => ?_)
                  · refine q_iload_n 120 rfl rfl dX7_readLine_119 ?_
                    refine q_iconst 121 rfl 2 k_i2 dX7_readLine_120 ?_
                    refine q_icmp_ne 124 rfl 131 (by decide) (by omega) (by omega) dX7_readLine_121 (fun h121 => ?_) (fun h121 => ?_)
                    · refine q_iload_n 132 rfl rfl dX7_readLine_131 ?_
                      refine q_iconst 133 rfl 1 k_i1 dX7_readLine_132 ?_
                      refine q_icmp_ne 136 rfl 143 (by decide) (by omega) (by omega) dX7_readLine_133 (fun h133 => ?_) (fun h133 => ?_)
                      · refine q_loc (rl_maid (N := N1) (S := tldS S wd) hG (by rw [e10]; exact hl) (by rw [e84]; exact ht) (mr1 (by omega)) mb1 (by rw [e10]; exact t3) (hk41 h4) ?_) (q_sub1 rfl q_sub0)
                        intro h hq
                        rw [e84, e10] at hq
                        exact q_loc (rl_tail (N := N) hG hl ht bel (by omega) rfl rfl (RS.fr fr1 hq)) (q_sub1 rfl q_sub0)
                      · exfalso; omega
                    · exfalso; omega
                  · exfalso; omega
                · exfalso; omega
              · exfalso; omega
        · exfalso; omega
      · exfalso; omega
    · exfalso; omega
end
