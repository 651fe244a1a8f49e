theorem sttf_le {t : Nat → Nat} {len p : Nat} : sttf t len p ≤ 2 := by unfold sttf; split <;> (try split) <;> omega
theorem fLine_le {S : Nat → Nat → Nat} {t : Nat → Nat} {len p : Nat} : fLine S t len p ≤ 5 := by
  have h1 := bF_le (S := tldS S (wrd9 t len p)) (t := t) (len := len) (wi := wrd9 t len p) (e := tkE t len p)
  have h2 := sttf_le (t := t) (len := len) (p := bE t len (wrd9 t len p) (tkE t len p))
  have h3 : chkL S (wrd9 t len p) ≤ 5 := by
    unfold chkL
    repeat' split
    all_goals omega
  unfold fLine
  repeat' split
  all_goals omega
theorem pLine_le {S : Nat → Nat → Nat} {t : Nat → Nat} {len p : Nat} (hp : p ≤ len) : pLine S t len p ≤ len := by
  obtain ⟨t1, t2, t3, _⟩ := tkn_spec (t := t) hp
  obtain ⟨u1, u2, u3, _⟩ := tkn_spec (t := t) t3
  obtain ⟨v1, v2, v3, _⟩ := tkn_spec (t := t) u3
  obtain ⟨x1, x2, x3, _⟩ := tkn_spec (t := t) (bE_le (t := t) (len := len) (wi := wrd9 t len p) t3).1
  unfold pLine bP pName pLaw pPair
  repeat' split
  all_goals omega
section
variable {Γ : q_G} {ad : Nat → Nat} {N : Nat → Nat → Nat} {L : Nat → Nat → Int} {G : Nat → Nat → Option Nat}
theorem text7_lp {mc mz : Nat} {Z : q_Zt} {ba : Nat} {r : Nat × Nat × (Nat → Nat → Nat) × Nat} (hG : GF ad G) (hl : N 77 10 ≤ 160) (ht : ∀ i, i < 160 → N 84 i < 128) (hcu : ∀ i, i < 10 → N 85 i = cu i) (hlw : ∀ i, i < 42 → N 86 i = lw i) (hxE : ∀ K sp he tk vl j, r.1 ≠ 0 → r.1 ≤ 5 → r.2.1 ≤ 160 → j ≤ 1000 → FR N K → MB K → q_R Γ mX7_text (q_room 5 mc mz) Z 0 0 78 [(0, .ref (ad 77)), (1, .int (nI j))] [] (LT ad, P7 K r.1 r.2.1 sp he tk vl, L, G)) (hxO : ∀ K sp he tk vl, r.1 = 0 → r.2.2.2 ≤ 1000 → FR N K → MB K → MR r.2.2.1 K → q_R Γ mX7_text (q_room 5 mc mz) Z 0 0 78 [(0, .ref (ad 77)), (1, .int (nI r.2.2.2))] [] (LT ad, P7 K 0 ba sp he tk vl, L, G)) : ∀ n p j (S K : Nat → Nat → Nat), p ≤ N 77 10 → N 77 10 < p + n → j ≤ p → FR N K → MB K → MR S K → WFS S → prs (N 84) (N 77 10) n S p j = r → q_R Γ mX7_text (q_room 5 mc mz) Z 0 0 54 [(0, .ref (ad 77)), (1, .int (nI j))] [] (LT ad, stp K ba p, L, G) := by
  intro n
  induction n with
  | zero => intro p j S K hp hn; omega
  | succ n ih =>
    intro p j S K hp hn hj hF hM hR hW hr
    have e84 := hF.t
    have e10 := hF.len
    rw [prs_s] at hr
    obtain ⟨t1, t2, t3, t4, t5, t6, t7, t8, t9⟩ := tkn_spec (t := N 84) hp
    by_cases h4 : (tkn (N 84) (N 77 10) p).1 = 4
    · rw [if_pos h4] at hr
      subst hr
      obtain ⟨e2, k2, v2, hst⟩ := stp_bad (N := K) (ba := ba) (sp := p) (by rw [e84, e10]; exact h4)
      rw [e84, e10] at hst
      rw [hst]
      refine q_aload_n 55 rfl rfl dX7_text_54 ?_
      refine q_getI 58 rfl fX7_76 rfl 77 t_77 dX7_text_55 ?_
      rw [P7_12]
      refine q_if_ne 61 rfl 78 (by decide) (by omega) dX7_text_58 (fun h58 => ?_) (fun h58 => ?_)
      · exact q_loc (hxE K e2 _ k2 v2 j (by show 1 ≠ 0; decide) (by show 1 ≤ 5; decide) (by show tkS (N 84) (N 77 10) p ≤ 160; omega) (by omega) hF hM) (q_sub1 rfl (q_sub1 rfl q_sub0))
      · exfalso; omega
    · rw [if_neg h4] at hr
      have hst := stp_ok (N := K) (ba := ba) (sp := p) (by rw [e84, e10]; exact h4)
      rw [e84, e10] at hst
      by_cases h0 : (tkn (N 84) (N 77 10) p).1 = 0
      · rw [if_pos h0] at hr
        subst hr
        rw [hst]
        refine q_aload_n 55 rfl rfl dX7_text_54 ?_
        refine q_getI 58 rfl fX7_76 rfl 77 t_77 dX7_text_55 ?_
        rw [P7_12]
        refine q_if_ne 61 rfl 78 (by decide) (by omega) dX7_text_58 (fun h58 => ?_) (fun h58 => ?_)
        · exfalso; omega
        · refine q_aload_n 62 rfl rfl dX7_text_61 ?_
          refine q_getI 65 rfl fX7_85 rfl 77 t_77 dX7_text_62 ?_
          rw [P7_16]
          refine q_if_eq 68 rfl 78 (by decide) (by omega) dX7_text_65 (fun h65 => ?_) (fun h65 => ?_)
          · exact q_loc (hxO K _ _ _ _ rfl (by show j ≤ 1000; omega) hF hM hR) (q_sub1 rfl (q_sub1 rfl q_sub0))
          · exfalso; omega
      · rw [if_neg h0] at hr
        have g12 : stp K ba p 77 12 = 0 := by rw [hst]; rfl
        have g16 : stp K ba p 77 16 = (tkn (N 84) (N 77 10) p).1 := by rw [hst]; rfl
        refine q_aload_n 55 rfl rfl dX7_text_54 ?_
        refine q_getI 58 rfl fX7_76 rfl 77 t_77 dX7_text_55 ?_
        rw [g12]
        refine q_if_ne 61 rfl 78 (by decide) (by omega) dX7_text_58 (fun h58 => ?_) (fun h58 => ?_)
        · exfalso; omega
        · refine q_aload_n 62 rfl rfl dX7_text_61 ?_
          refine q_getI 65 rfl fX7_85 rfl 77 t_77 dX7_text_62 ?_
          rw [g16]
          refine q_if_eq 68 rfl 78 (by decide) (by omega) dX7_text_65 (fun h65 => ?_) (fun h65 => ?_)
          · exfalso; omega
          · refine q_aload_n 69 rfl rfl dX7_text_68 ?_
            refine q_cV0q 72 rfl lX7_149 (k_readLine (N := K) (S := S) hG (by rw [e10]; exact hl) (by rw [e84]; exact ht) (by rw [hF.1 85 (by decide) (by decide) (by decide) (by decide)]; exact hcu) (by rw [hF.1 86 (by decide) (by decide) (by decide) (by decide)]; exact hlw) hR hW hM (by rw [e10]; exact hp) (by rw [e84, e10]; exact h4)) rfl 77 t_77 rfl rfl rfl dX7_text_69 ?_
            rintro v h hq
            have hv := hq.1
            subst hv
            rw [e84, e10] at hq
            obtain ⟨_, hq | hq⟩ := hq
            · obtain ⟨hf, K2, sp2, he2, tk2, vl2, rfl, hF2, hM2⟩ := hq
              rw [if_pos hf] at hr
              subst hr
              have f5 := fLine_le (S := S) (t := N 84) (len := N 77 10) (p := p)
              have p5 := pLine_le (S := S) (t := N 84) hp
              refine q_iinc1 75 rfl 1 k_i1 rfl (by decide) dX7_text_72 ?_
              refine q_goto 54 (by decide) dX7_text_75 ?_
              refine q_aload_n 55 rfl rfl dX7_text_54 ?_
              refine q_getI 58 rfl fX7_76 rfl 77 t_77 dX7_text_55 ?_
              rw [P7_12]
              refine q_if_ne 61 rfl 78 (by decide) (by omega) dX7_text_58 (fun h58 => ?_) (fun h58 => ?_)
              · exact q_loc (hxE K2 sp2 he2 tk2 vl2 (j + 1) hf f5 (by show pLine S (N 84) (N 77 10) p ≤ 160; omega) (by omega) (hF.tr hF2) hM2) (q_sub1 rfl (q_sub1 rfl q_sub0))
              · exact absurd h58 hf
            obtain ⟨hf, K2, rfl, hF2, hM2, hR2⟩ := hq
            rw [if_neg (by omega)] at hr
            obtain ⟨l1, l2, l3⟩ := line_ok (t := N 84) hW hp hf
            refine q_iinc1 75 rfl 1 k_i1 rfl (by decide) dX7_text_72 ?_
            refine q_goto 54 (by decide) dX7_text_75 ?_
            exact q_loc (ih _ (j + 1) _ K2 l3 (by omega) (by omega) (hF.tr hF2) hM2 hR2 l1 hr) (q_sub1 rfl (q_sub1 rfl q_sub0))
end
