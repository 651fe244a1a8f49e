section
variable {Γ : q_G} {ad : Nat → Nat} {N : Nat → Nat → Nat} {L : Nat → Nat → Int} {G : Nat → Nat → Option Nat}
theorem k_readName {S : Nat → Nat → Nat} {ba p : Nat} (hG : GF ad G) (hl : N 77 10 ≤ 160) (ht : ∀ i, i < 160 → N 84 i < 128) (hR : MR S N) (hW : WFS S) (hB : MB N) (hp : p ≤ N 77 10) (hk4 : (tkn (N 84) (N 77 10) p).1 ≠ 4) (hc : S 0 0 < 9) : q_Con Γ mX7_readName 3 0 0 [.ref (ad 77)] (LT ad, stp N ba p, L, G) (RS ad L G N (adN S (N 84) (tkS (N 84) (N 77 10) p) (tkE (N 84) (N 77 10) p - tkS (N 84) (N 77 10) p) (tkV (N 84) (N 77 10) (tkE (N 84) (N 77 10) p))) ba (fName S (N 84) (N 77 10) p) (pName S (N 84) (N 77 10) p) (tkE (N 84) (N 77 10) (tkE (N 84) (N 77 10) p))) := by
  rw [stp_ok hk4]
  obtain ⟨t1, t2, t3, t4, t5, t6, t7, t8, t9⟩ := tkn_spec (t := N 84) hp
  have hc6 : N 77 6 = S 0 0 := hR.1
  have hwf : wrdf (N 84) (N 77 10) p 8 = wb 8 (tkn (N 84) (N 77 10) p).1 (tkE (N 84) (N 77 10) p - tkS (N 84) (N 77 10) p) := by rw [wrdf, if_neg hk4]
  have wok := wrdf_ok (t := N 84) (len := N 77 10) (p := p) (mx := 8)
  unfold fName pName
  rw [hwf] at wok ⊢
  obtain ⟨u1, u2, u3, u4, u5, u6, u7, u8, u9⟩ := tkn_spec (t := N 84) t3
  have nok := nmbf_ok (t := N 84) (len := N 77 10) (p := tkE (N 84) (N 77 10) p) (lo := 1) (hi := 9)
  have vle := tkV_le (t := N 84) (len := N 77 10) (p := tkE (N 84) (N 77 10) p) t3
  generalize (if (tkn (N 84) (N 77 10) p).1 = 2 then tkV (N 84) (N 77 10) p else 0) = v0 at *
  generalize (tkn (N 84) (N 77 10) p).1 = k at *
  generalize tkE (N 84) (N 77 10) p = e at *
  generalize tkS (N 84) (N 77 10) p = s at *
  have hwb : wb 8 k (e - s) ≤ 3 := by unfold wb; split <;> (try split) <;> omega
  have e84 : wrt N 82 (9 * S 0 0) (N 84) s (e - s) (e - s) 84 = N 84 := q_r_ne (by omega)
  have e10 : wrt N 82 (9 * S 0 0) (N 84) s (e - s) (e - s) 77 10 = N 77 10 := by unfold wrt; rw [q_r_ne (by omega)]
  have e6 : wrt N 82 (9 * S 0 0) (N 84) s (e - s) (e - s) 77 6 = S 0 0 := by unfold wrt; rw [q_r_ne (by omega)]; exact hc6
  have fr1 : FR N (wrt N 82 (9 * S 0 0) (N 84) s (e - s) (e - s)) := FR.wr (Or.inl rfl)
  have mb1 : k = 1 → e - s ≤ 8 → MB (wrt N 82 (9 * S 0 0) (N 84) s (e - s) (e - s)) := fun q1 q2 => hB.wrt82 hc q2 (fun i hi => (t7 q1).2 (s + i) (by omega) (by omega))
  have mr1 : ∀ v, v ≤ 9 → e - s ≤ 8 → MR (adN S (N 84) s (e - s) v) (q_s (q_s (wrt N 82 (9 * S 0 0) (N 84) s (e - s) (e - s)) 81 (S 0 0) v) 77 6 (S 0 0 + 1)) := fun v q1 q2 => hR.addN hW hc q2 q1
  have st1 : (tkn (N 84) (N 77 10) e).1 ≠ 4 → stp (wrt N 82 (9 * S 0 0) (N 84) s (e - s) (e - s)) ba e = P7 (wrt N 82 (9 * S 0 0) (N 84) s (e - s) (e - s)) 0 ba (tkE (N 84) (N 77 10) e) (tkS (N 84) (N 77 10) e) (tkn (N 84) (N 77 10) e).1 (if (tkn (N 84) (N 77 10) e).1 = 2 then tkV (N 84) (N 77 10) e else 0) := fun h => by
    have := stp_ok (N := wrt N 82 (9 * S 0 0) (N 84) s (e - s) (e - s)) (ba := ba) (sp := e) (by rw [e84, e10]; exact h)
    rw [e84, e10] at this
    exact this
  have st4 : (tkn (N 84) (N 77 10) e).1 = 4 → ∃ e2 k2 v2, stp (wrt N 82 (9 * S 0 0) (N 84) s (e - s) (e - s)) ba e = P7 (wrt N 82 (9 * S 0 0) (N 84) s (e - s) (e - s)) 1 (tkS (N 84) (N 77 10) e) e2 (tkS (N 84) (N 77 10) e) k2 v2 := fun h => by
    have := stp_bad (N := wrt N 82 (9 * S 0 0) (N 84) s (e - s) (e - s)) (ba := ba) (sp := e) (by rw [e84, e10]; exact h)
    rw [e84, e10] at this
    exact this
  generalize hN1 : wrt N 82 (9 * S 0 0) (N 84) s (e - s) (e - s) = N1 at *
  have nbe : nb 1 9 (tkn (N 84) (N 77 10) e).1 (if (tkn (N 84) (N 77 10) e).1 = 2 then tkV (N 84) (N 77 10) e else 0) = nb 1 9 (tkn (N 84) (N 77 10) e).1 (tkV (N 84) (N 77 10) e) := by
    unfold nb
    by_cases q : (tkn (N 84) (N 77 10) e).1 = 2
    · rw [if_pos q]
    · rw [if_pos q, if_pos q]
  have hnb : nb 1 9 (tkn (N 84) (N 77 10) e).1 (tkV (N 84) (N 77 10) e) ≤ 3 := by unfold nb; split <;> (try split) <;> omega
  have hvv : (if (tkn (N 84) (N 77 10) e).1 = 2 then tkV (N 84) (N 77 10) e else 0) ≤ 99 := by
    by_cases q : (tkn (N 84) (N 77 10) e).1 = 2
    · rw [if_pos q]; exact vle q
    · rw [if_neg q]; omega
  have h5 : wb 8 k (e - s) ≠ 0 ∨ (wb 8 k (e - s) = 0 ∧ newn S (N 84) s (e - s) = false) ∨ (wb 8 k (e - s) = 0 ∧ newn S (N 84) s (e - s) = true ∧ (tkn (N 84) (N 77 10) e).1 = 4) ∨ (wb 8 k (e - s) = 0 ∧ newn S (N 84) s (e - s) = true ∧ (tkn (N 84) (N 77 10) e).1 ≠ 4 ∧ nb 1 9 (tkn (N 84) (N 77 10) e).1 (tkV (N 84) (N 77 10) e) ≠ 0) ∨ (wb 8 k (e - s) = 0 ∧ newn S (N 84) s (e - s) = true ∧ (tkn (N 84) (N 77 10) e).1 ≠ 4 ∧ nb 1 9 (tkn (N 84) (N 77 10) e).1 (tkV (N 84) (N 77 10) e) = 0) := by
    cases newn S (N 84) s (e - s) <;> simp <;> omega
  rcases h5 with hw | ⟨hw, hn⟩ | ⟨hw, hn, h4⟩ | ⟨hw, hn, h4, hz⟩ | ⟨hw, hn, h4, hz⟩
  · rw [if_pos hw, if_pos hw]
    refine q_con (by decide) rfl rfl (Nat.le_of_ble_eq_true rfl) ?_
    refine q_aload_n 1 rfl rfl dX7_readName_0 ?_
    refine q_bipush 3 rfl 8 k_b8 dX7_readName_1 ?_
    refine q_cV1v 6 rfl lX7_113 (k_wordOf hG (by omega) t2 (by omega) t4) rfl 77 t_77 rfl rfl rfl dX7_readName_3 ?_
    rw [if_neg hw]
    refine q_iconst 7 rfl 0 k_i0 dX7_readName_6 ?_
    refine q_istore_n 8 rfl (by decide) dX7_readName_7 ?_
    refine q_loc (rn_b hG hw (by omega) (by omega) hc6 (by omega) ?_) (q_sub1 rfl (q_sub1 rfl q_sub0))
    refine q_aload_n 43 rfl rfl dX7_readName_42 ?_
    refine q_aload_n 44 rfl rfl dX7_readName_43 ?_
    refine q_getR 47 rfl fX7_22 rfl 77 t_77 (g_77_5 hG) dX7_readName_44 ?_
    refine q_bipush 49 rfl 9 k_b9 dX7_readName_47 ?_
    refine q_aload_n 50 rfl rfl dX7_readName_49 ?_
    refine q_getI 53 rfl fX7_116 rfl 77 t_77 dX7_readName_50 ?_
    rw [P7_o (by decide) (by decide)]
    rw [hc6]
    refine q_imul 54 rfl dX7_readName_53 ?_
    refine q_cV2v 57 rfl lX7_123 (k_writesB hG hw (by omega)) rfl 77 t_77 rfl rfl rfl dX7_readName_54 ?_
    refine q_aload_n 58 rfl rfl dX7_readName_57 ?_
    refine q_cV0v 61 rfl lX7_110 (k_stepB hG hw (by omega)) rfl 77 t_77 rfl rfl rfl dX7_readName_58 ?_
    refine q_aload_n 62 rfl rfl dX7_readName_61 ?_
    refine q_getR 65 rfl fX7_19 rfl 77 t_77 (g_77_4 hG) dX7_readName_62 ?_
    refine q_aload_n 66 rfl rfl dX7_readName_65 ?_
    refine q_getI 69 rfl fX7_116 rfl 77 t_77 dX7_readName_66 ?_
    rw [P7_o (by decide) (by decide)]
    rw [hc6]
    refine q_aload_n 70 rfl rfl dX7_readName_69 ?_
    refine q_iconst 71 rfl 1 k_i1 dX7_readName_70 ?_
    refine q_bipush 73 rfl 9 k_b9 dX7_readName_71 ?_
    refine q_cV2 76 rfl lX7_127 (k_numberB hG hw (by omega)) rfl 77 t_77 rfl rfl rfl dX7_readName_73 ?_
    refine q_iast 77 rfl 81 t_81 (by omega) (by decide) dX7_readName_76 ?_
    rw [P7_as (by decide)]
    refine q_aload_n 78 rfl rfl dX7_readName_77 ?_
    refine q_dup 79 rfl rfl dX7_readName_78 ?_
    refine q_getI 82 rfl fX7_116 rfl 77 t_77 dX7_readName_79 ?_
    rw [P7_o (by decide) (by decide), q_s_ne (by decide), hc6]
    refine q_iconst 83 rfl 1 k_i1 dX7_readName_82 ?_
    refine q_iadd 84 rfl dX7_readName_83 ?_
    refine q_putI 87 rfl pX7_116 (fun q => by cases q) rfl 77 t_77 dX7_readName_84 ?_
    rw [P7_so (by decide) (by decide)]
    refine q_vret rfl dX7_readName_87 ?_
    exact ⟨rfl, Or.inl ⟨hw, _, _, _, _, _, rfl, (FR.arr (Or.inl rfl)).tr (FR.fld (Or.inl rfl)), hB⟩⟩
  · have hw2 : ¬ wb 8 k (e - s) ≠ 0 := by omega
    have hk1 := (wok hw).1
    have hk8 := (wok hw).2
    have hn2 : ¬ newn S (N 84) s (e - s) = true := by rw [hn]; decide
    rw [if_neg hw2, if_neg hn2, if_neg hw2, if_neg hn2]
    refine q_con (by decide) rfl rfl (Nat.le_of_ble_eq_true rfl) ?_
    refine q_aload_n 1 rfl rfl dX7_readName_0 ?_
    refine q_bipush 3 rfl 8 k_b8 dX7_readName_1 ?_
    refine q_cV1v 6 rfl lX7_113 (k_wordOf hG (by omega) t2 (by omega) t4) rfl 77 t_77 rfl rfl rfl dX7_readName_3 ?_
    rw [if_pos hw]
    refine q_iconst 7 rfl 0 k_i0 dX7_readName_6 ?_
    refine q_istore_n 8 rfl (by decide) dX7_readName_7 ?_
    refine q_loc (rn_lp (N := N) (S := S) (sp := e) (he := s) hG hl ht t2 t3 (t7 hk1).2 hR hB rfl (by omega) hk8 ?_ ?_ 0 (by omega) rfl) (q_sub1 rfl (q_sub1 rfl q_sub0))
    · intro q; exfalso; have q2 : newn S (N 84) s (e - s) = true := q; rw [hn] at q2; cases q2
    intro _
    refine q_aload_n 43 rfl rfl dX7_readName_42 ?_
    refine q_aload_n 44 rfl rfl dX7_readName_43 ?_
    refine q_getR 47 rfl fX7_22 rfl 77 t_77 (g_77_5 hG) dX7_readName_44 ?_
    refine q_bipush 49 rfl 9 k_b9 dX7_readName_47 ?_
    refine q_aload_n 50 rfl rfl dX7_readName_49 ?_
    refine q_getI 53 rfl fX7_116 rfl 77 t_77 dX7_readName_50 ?_
    rw [P7_o (by decide) (by decide)]
    rw [hc6]
    refine q_imul 54 rfl dX7_readName_53 ?_
    refine q_cV2v 57 rfl lX7_123 (k_writesB hG (by decide) (by omega)) rfl 77 t_77 rfl rfl rfl dX7_readName_54 ?_
    refine q_aload_n 58 rfl rfl dX7_readName_57 ?_
    refine q_cV0v 61 rfl lX7_110 (k_stepB hG (by decide) (by omega)) rfl 77 t_77 rfl rfl rfl dX7_readName_58 ?_
    refine q_aload_n 62 rfl rfl dX7_readName_61 ?_
    refine q_getR 65 rfl fX7_19 rfl 77 t_77 (g_77_4 hG) dX7_readName_62 ?_
    refine q_aload_n 66 rfl rfl dX7_readName_65 ?_
    refine q_getI 69 rfl fX7_116 rfl 77 t_77 dX7_readName_66 ?_
    rw [P7_o (by decide) (by decide)]
    rw [hc6]
    refine q_aload_n 70 rfl rfl dX7_readName_69 ?_
    refine q_iconst 71 rfl 1 k_i1 dX7_readName_70 ?_
    refine q_bipush 73 rfl 9 k_b9 dX7_readName_71 ?_
    refine q_cV2 76 rfl lX7_127 (k_numberB hG (by decide) (by omega)) rfl 77 t_77 rfl rfl rfl dX7_readName_73 ?_
    refine q_iast 77 rfl 81 t_81 (by omega) (by decide) dX7_readName_76 ?_
    rw [P7_as (by decide)]
    refine q_aload_n 78 rfl rfl dX7_readName_77 ?_
    refine q_dup 79 rfl rfl dX7_readName_78 ?_
    refine q_getI 82 rfl fX7_116 rfl 77 t_77 dX7_readName_79 ?_
    rw [P7_o (by decide) (by decide), q_s_ne (by decide), hc6]
    refine q_iconst 83 rfl 1 k_i1 dX7_readName_82 ?_
    refine q_iadd 84 rfl dX7_readName_83 ?_
    refine q_putI 87 rfl pX7_116 (fun q => by cases q) rfl 77 t_77 dX7_readName_84 ?_
    rw [P7_so (by decide) (by decide)]
    refine q_vret rfl dX7_readName_87 ?_
    exact ⟨rfl, Or.inl ⟨by decide, _, _, _, _, _, rfl, (FR.arr (Or.inl rfl)).tr (FR.fld (Or.inl rfl)), hB⟩⟩
  · have hw2 : ¬ wb 8 k (e - s) ≠ 0 := by omega
    have hk1 := (wok hw).1
    have hk8 := (wok hw).2
    obtain ⟨e2, k2, v2, hst⟩ := st4 h4
    rw [if_neg hw2, if_pos hn, if_neg hw2, if_pos hn, nmbf, if_pos h4]
    refine q_con (by decide) rfl rfl (Nat.le_of_ble_eq_true rfl) ?_
    refine q_aload_n 1 rfl rfl dX7_readName_0 ?_
    refine q_bipush 3 rfl 8 k_b8 dX7_readName_1 ?_
    refine q_cV1v 6 rfl lX7_113 (k_wordOf hG (by omega) t2 (by omega) t4) rfl 77 t_77 rfl rfl rfl dX7_readName_3 ?_
    rw [if_pos hw]
    refine q_iconst 7 rfl 0 k_i0 dX7_readName_6 ?_
    refine q_istore_n 8 rfl (by decide) dX7_readName_7 ?_
    refine q_loc (rn_lp (N := N) (S := S) (sp := e) (he := s) hG hl ht t2 t3 (t7 hk1).2 hR hB rfl (by omega) hk8 ?_ ?_ 0 (by omega) rfl) (q_sub1 rfl (q_sub1 rfl q_sub0))
    rotate_left
    · intro q; exfalso; have q2 : newn S (N 84) s (e - s) = false := q; rw [hn] at q2; cases q2
    intro _
    refine q_aload_n 43 rfl rfl dX7_readName_42 ?_
    refine q_aload_n 44 rfl rfl dX7_readName_43 ?_
    refine q_getR 47 rfl fX7_22 rfl 77 t_77 (g_77_5 hG) dX7_readName_44 ?_
    refine q_bipush 49 rfl 9 k_b9 dX7_readName_47 ?_
    refine q_aload_n 50 rfl rfl dX7_readName_49 ?_
    refine q_getI 53 rfl fX7_116 rfl 77 t_77 dX7_readName_50 ?_
    rw [P7_o (by decide) (by decide)]
    rw [hc6]
    refine q_imul 54 rfl dX7_readName_53 ?_
    refine q_cV2v 57 rfl lX7_123 (k_writes (nl := 81) hG hl ht t2 t3 (t7 hk1).2 t_82 (by decide) (by decide) (by decide) (by omega)) rfl 77 t_77 rfl rfl rfl dX7_readName_54 ?_
    rw [hN1]
    refine q_aload_n 58 rfl rfl dX7_readName_57 ?_
    refine q_cV0v 61 rfl lX7_110 (k_step0 (N := N1) hG (by rw [e10]; exact hl) (by rw [e84]; exact ht) (by rw [e10]; exact t3)) rfl 77 t_77 rfl rfl rfl dX7_readName_58 ?_
    rw [hst]
    refine q_aload_n 62 rfl rfl dX7_readName_61 ?_
    refine q_getR 65 rfl fX7_19 rfl 77 t_77 (g_77_4 hG) dX7_readName_62 ?_
    refine q_aload_n 66 rfl rfl dX7_readName_65 ?_
    refine q_getI 69 rfl fX7_116 rfl 77 t_77 dX7_readName_66 ?_
    rw [P7_o (by decide) (by decide)]
    rw [e6]
    refine q_aload_n 70 rfl rfl dX7_readName_69 ?_
    refine q_iconst 71 rfl 1 k_i1 dX7_readName_70 ?_
    refine q_bipush 73 rfl 9 k_b9 dX7_readName_71 ?_
    refine q_cV2 76 rfl lX7_127 (k_numberB hG (by decide) (by omega)) rfl 77 t_77 rfl rfl rfl dX7_readName_73 ?_
    refine q_iast 77 rfl 81 t_81 (by omega) (by decide) dX7_readName_76 ?_
    rw [P7_as (by decide)]
    refine q_aload_n 78 rfl rfl dX7_readName_77 ?_
    refine q_dup 79 rfl rfl dX7_readName_78 ?_
    refine q_getI 82 rfl fX7_116 rfl 77 t_77 dX7_readName_79 ?_
    rw [P7_o (by decide) (by decide), q_s_ne (by decide), e6]
    refine q_iconst 83 rfl 1 k_i1 dX7_readName_82 ?_
    refine q_iadd 84 rfl dX7_readName_83 ?_
    refine q_putI 87 rfl pX7_116 (fun q => by cases q) rfl 77 t_77 dX7_readName_84 ?_
    rw [P7_so (by decide) (by decide)]
    refine q_vret rfl dX7_readName_87 ?_
    exact ⟨rfl, Or.inl ⟨by decide, _, _, _, _, _, rfl, (fr1.tr (FR.arr (Or.inl rfl))).tr (FR.fld (Or.inl rfl)), mb1 hk1 hk8⟩⟩
  · have hw2 : ¬ wb 8 k (e - s) ≠ 0 := by omega
    have hk1 := (wok hw).1
    have hk8 := (wok hw).2
    rw [if_neg hw2, if_pos hn, if_neg hw2, if_pos hn, nmbf, if_neg h4]
    refine q_con (by decide) rfl rfl (Nat.le_of_ble_eq_true rfl) ?_
    refine q_aload_n 1 rfl rfl dX7_readName_0 ?_
    refine q_bipush 3 rfl 8 k_b8 dX7_readName_1 ?_
    refine q_cV1v 6 rfl lX7_113 (k_wordOf hG (by omega) t2 (by omega) t4) rfl 77 t_77 rfl rfl rfl dX7_readName_3 ?_
    rw [if_pos hw]
    refine q_iconst 7 rfl 0 k_i0 dX7_readName_6 ?_
    refine q_istore_n 8 rfl (by decide) dX7_readName_7 ?_
    refine q_loc (rn_lp (N := N) (S := S) (sp := e) (he := s) hG hl ht t2 t3 (t7 hk1).2 hR hB rfl (by omega) hk8 ?_ ?_ 0 (by omega) rfl) (q_sub1 rfl (q_sub1 rfl q_sub0))
    rotate_left
    · intro q; exfalso; have q2 : newn S (N 84) s (e - s) = false := q; rw [hn] at q2; cases q2
    intro _
    refine q_aload_n 43 rfl rfl dX7_readName_42 ?_
    refine q_aload_n 44 rfl rfl dX7_readName_43 ?_
    refine q_getR 47 rfl fX7_22 rfl 77 t_77 (g_77_5 hG) dX7_readName_44 ?_
    refine q_bipush 49 rfl 9 k_b9 dX7_readName_47 ?_
    refine q_aload_n 50 rfl rfl dX7_readName_49 ?_
    refine q_getI 53 rfl fX7_116 rfl 77 t_77 dX7_readName_50 ?_
    rw [P7_o (by decide) (by decide)]
    rw [hc6]
    refine q_imul 54 rfl dX7_readName_53 ?_
    refine q_cV2v 57 rfl lX7_123 (k_writes (nl := 81) hG hl ht t2 t3 (t7 hk1).2 t_82 (by decide) (by decide) (by decide) (by omega)) rfl 77 t_77 rfl rfl rfl dX7_readName_54 ?_
    rw [hN1]
    refine q_aload_n 58 rfl rfl dX7_readName_57 ?_
    refine q_cV0v 61 rfl lX7_110 (k_step0 (N := N1) hG (by rw [e10]; exact hl) (by rw [e84]; exact ht) (by rw [e10]; exact t3)) rfl 77 t_77 rfl rfl rfl dX7_readName_58 ?_
    rw [st1 h4]
    refine q_aload_n 62 rfl rfl dX7_readName_61 ?_
    refine q_getR 65 rfl fX7_19 rfl 77 t_77 (g_77_4 hG) dX7_readName_62 ?_
    refine q_aload_n 66 rfl rfl dX7_readName_65 ?_
    refine q_getI 69 rfl fX7_116 rfl 77 t_77 dX7_readName_66 ?_
    rw [P7_o (by decide) (by decide)]
    rw [e6]
    refine q_aload_n 70 rfl rfl dX7_readName_69 ?_
    refine q_iconst 71 rfl 1 k_i1 dX7_readName_70 ?_
    refine q_bipush 73 rfl 9 k_b9 dX7_readName_71 ?_
    refine q_cV2 76 rfl lX7_127 (k_number (N := N1) hG (by rw [e10]; exact hl) (by rw [e84]; exact ht) (by omega) (by omega) (by rw [e10]; exact u3) (by omega) u4) rfl 77 t_77 rfl rfl rfl dX7_readName_73 ?_
    rw [nbe, if_neg hz, if_neg hz]
    refine q_iast 77 rfl 81 t_81 (by omega) (by decide) dX7_readName_76 ?_
    rw [P7_as (by decide)]
    refine q_aload_n 78 rfl rfl dX7_readName_77 ?_
    refine q_dup 79 rfl rfl dX7_readName_78 ?_
    refine q_getI 82 rfl fX7_116 rfl 77 t_77 dX7_readName_79 ?_
    rw [P7_o (by decide) (by decide), q_s_ne (by decide), e6]
    refine q_iconst 83 rfl 1 k_i1 dX7_readName_82 ?_
    refine q_iadd 84 rfl dX7_readName_83 ?_
    refine q_putI 87 rfl pX7_116 (fun q => by cases q) rfl 77 t_77 dX7_readName_84 ?_
    rw [P7_so (by decide) (by decide)]
    refine q_vret rfl dX7_readName_87 ?_
    exact ⟨rfl, Or.inl ⟨hz, _, _, _, _, _, rfl, (fr1.tr (FR.arr (Or.inl rfl))).tr (FR.fld (Or.inl rfl)), mb1 hk1 hk8⟩⟩
  · have hw2 : ¬ wb 8 k (e - s) ≠ 0 := by omega
    have hk1 := (wok hw).1
    have hk8 := (wok hw).2
    have hz2 : nmbf (N 84) (N 77 10) e 1 9 = 0 := by rw [nmbf, if_neg h4]; exact hz
    have hk2 := (nok hz2).1
    rw [if_neg hw2, if_pos hn, if_neg hw2, if_pos hn, hz2]
    refine q_con (by decide) rfl rfl (Nat.le_of_ble_eq_true rfl) ?_
    refine q_aload_n 1 rfl rfl dX7_readName_0 ?_
    refine q_bipush 3 rfl 8 k_b8 dX7_readName_1 ?_
    refine q_cV1v 6 rfl lX7_113 (k_wordOf hG (by omega) t2 (by omega) t4) rfl 77 t_77 rfl rfl rfl dX7_readName_3 ?_
    rw [if_pos hw]
    refine q_iconst 7 rfl 0 k_i0 dX7_readName_6 ?_
    refine q_istore_n 8 rfl (by decide) dX7_readName_7 ?_
    refine q_loc (rn_lp (N := N) (S := S) (sp := e) (he := s) hG hl ht t2 t3 (t7 hk1).2 hR hB rfl (by omega) hk8 ?_ ?_ 0 (by omega) rfl) (q_sub1 rfl (q_sub1 rfl q_sub0))
    rotate_left
    · intro q; exfalso; have q2 : newn S (N 84) s (e - s) = false := q; rw [hn] at q2; cases q2
    intro _
    refine q_aload_n 43 rfl rfl dX7_readName_42 ?_
    refine q_aload_n 44 rfl rfl dX7_readName_43 ?_
    refine q_getR 47 rfl fX7_22 rfl 77 t_77 (g_77_5 hG) dX7_readName_44 ?_
    refine q_bipush 49 rfl 9 k_b9 dX7_readName_47 ?_
    refine q_aload_n 50 rfl rfl dX7_readName_49 ?_
    refine q_getI 53 rfl fX7_116 rfl 77 t_77 dX7_readName_50 ?_
    rw [P7_o (by decide) (by decide)]
    rw [hc6]
    refine q_imul 54 rfl dX7_readName_53 ?_
    refine q_cV2v 57 rfl lX7_123 (k_writes (nl := 81) hG hl ht t2 t3 (t7 hk1).2 t_82 (by decide) (by decide) (by decide) (by omega)) rfl 77 t_77 rfl rfl rfl dX7_readName_54 ?_
    rw [hN1]
    refine q_aload_n 58 rfl rfl dX7_readName_57 ?_
    refine q_cV0v 61 rfl lX7_110 (k_step0 (N := N1) hG (by rw [e10]; exact hl) (by rw [e84]; exact ht) (by rw [e10]; exact t3)) rfl 77 t_77 rfl rfl rfl dX7_readName_58 ?_
    rw [st1 h4]
    refine q_aload_n 62 rfl rfl dX7_readName_61 ?_
    refine q_getR 65 rfl fX7_19 rfl 77 t_77 (g_77_4 hG) dX7_readName_62 ?_
    refine q_aload_n 66 rfl rfl dX7_readName_65 ?_
    refine q_getI 69 rfl fX7_116 rfl 77 t_77 dX7_readName_66 ?_
    rw [P7_o (by decide) (by decide)]
    rw [e6]
    refine q_aload_n 70 rfl rfl dX7_readName_69 ?_
    refine q_iconst 71 rfl 1 k_i1 dX7_readName_70 ?_
    refine q_bipush 73 rfl 9 k_b9 dX7_readName_71 ?_
    refine q_cV2 76 rfl lX7_127 (k_number (N := N1) hG (by rw [e10]; exact hl) (by rw [e84]; exact ht) (by omega) (by omega) (by rw [e10]; exact u3) (by omega) u4) rfl 77 t_77 rfl rfl rfl dX7_readName_73 ?_
    rw [nbe, if_pos hz, if_pos hz, if_pos hk2]
    refine q_iast 77 rfl 81 t_81 (by omega) (by decide) dX7_readName_76 ?_
    rw [stp_as (by decide) (by decide)]
    refine q_aload_n 78 rfl rfl dX7_readName_77 ?_
    refine q_dup 79 rfl rfl dX7_readName_78 ?_
    refine q_getI 82 rfl fX7_116 rfl 77 t_77 dX7_readName_79 ?_
    rw [stp_o (by decide) (by decide), q_s_ne (by decide), e6]
    refine q_iconst 83 rfl 1 k_i1 dX7_readName_82 ?_
    refine q_iadd 84 rfl dX7_readName_83 ?_
    refine q_putI 87 rfl pX7_116 (fun q => by cases q) rfl 77 t_77 dX7_readName_84 ?_
    rw [stp_so (by decide) (by decide)]
    refine q_vret rfl dX7_readName_87 ?_
    exact ⟨rfl, Or.inr ⟨rfl, _, rfl, (fr1.tr (FR.arr (Or.inl rfl))).tr (FR.fld (Or.inl rfl)), mb1 hk1 hk8, mr1 _ (nok hz2).2.2 hk8⟩⟩
end
