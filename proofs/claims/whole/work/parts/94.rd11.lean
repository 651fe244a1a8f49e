theorem GF.upd {ad : Nat → Nat} {G : Nat → Nat → Option Nat} {i f : Nat} {v : Option Nat} (h : GF ad G) (hn : ∀ p ∈ GFl, ¬ (p.1 = i ∧ p.2.1 = f)) : GF ad (q_s G i f v) := by
  intro p hp
  have q := hn p hp
  by_cases h1 : p.1 = i
  · rw [h1, q_s_off (fun e => q ⟨h1, e⟩), ← h1]; exact h p hp
  · rw [q_s_ne h1]; exact h p hp
theorem nf20 : ∀ p ∈ GFl, ¬ (p.1 = 2 ∧ p.2.1 = 0) := by decide
theorem nf22 : ∀ p ∈ GFl, ¬ (p.1 = 2 ∧ p.2.1 = 2) := by decide
theorem nf23 : ∀ p ∈ GFl, ¬ (p.1 = 2 ∧ p.2.1 = 3) := by decide
theorem nf05 : ∀ p ∈ GFl, ¬ (p.1 = 0 ∧ p.2.1 = 5) := by decide
theorem nf06 : ∀ p ∈ GFl, ¬ (p.1 = 0 ∧ p.2.1 = 6) := by decide
theorem nf07 : ∀ p ∈ GFl, ¬ (p.1 = 0 ∧ p.2.1 = 7) := by decide
theorem nf08 : ∀ p ∈ GFl, ¬ (p.1 = 0 ∧ p.2.1 = 8) := by decide
/-- the Reader's references -/
def G2r (ad : Nat → Nat) (G : Nat → Nat → Option Nat) (dn dm : Nat) : Nat → Nat → Option Nat := q_s (q_s (q_s G 2 0 (some (ad 1))) 2 2 (some (ad dn))) 2 3 (some (ad dm))
theorem G2r_f {ad : Nat → Nat} {G : Nat → Nat → Option Nat} {dn dm : Nat} (h : GF ad G) : GF ad (G2r ad G dn dm) ∧ G2r ad G dn dm 2 0 = some (ad 1) ∧ G2r ad G dn dm 2 2 = some (ad dn) ∧ G2r ad G dn dm 2 3 = some (ad dm) ∧ ∀ a, a ≠ 2 → G2r ad G dn dm a = G a := by
  unfold G2r
  refine ⟨((h.upd nf20).upd nf22).upd nf23, ?_, ?_, q_s_at, fun a ha => by rw [q_s_ne ha, q_s_ne ha, q_s_ne ha]⟩
  · rw [q_s_off (by decide), q_s_off (by decide), q_s_at]
  · rw [q_s_off (by decide), q_s_at]
/-- the end of readLines() -/
def RLq (ad : Nat → Nat) (L : Nat → Nat → Int) (G : Nat → Nat → Option Nat) (N : Nat → Nat → Nat) (dn dm : Nat) (r : Nat × Nat × (Nat → Nat → Nat) × Nat) : Option Value → q_H → Prop := fun v h => ∃ K at_ tk st vl x, h = (LT ad, P2 K at_ tk st vl r.1, L, G) ∧ v = some (.int (nI x)) ∧ FC N K dn dm ∧ CB K dn dm ∧ r.1 ≤ 5 ∧ ((r.1 ≠ 0 ∧ st = r.2.1 ∧ r.2.1 ≤ 160) ∨ (r.1 = 0 ∧ x = r.2.2.2 ∧ CR r.2.2.1 K dn dm ∧ WFS r.2.2.1))
section
variable {Γ : q_G} {ad : Nat → Nat} {N : Nat → Nat → Nat} {L : Nat → Nat → Int} {G : Nat → Nat → Option Nat}
theorem rl_end {mc mz j at_ tk st vl : Nat} {K : Nat → Nat → Nat} {dn dm : Nat} {r : Nat × Nat × (Nat → Nat → Nat) × Nat} (hF : FC N K dn dm) (hB : CB K dn dm) (h5 : r.1 ≤ 5) (hq : (r.1 ≠ 0 ∧ st = r.2.1 ∧ r.2.1 ≤ 160) ∨ (r.1 = 0 ∧ j = r.2.2.2 ∧ CR r.2.2.1 K dn dm ∧ WFS r.2.2.1)) : q_R Γ mX2_readLines (q_room 8 mc mz) (q_Z Γ (RLq ad L G N dn dm r) 0 0) 0 0 80 [(0, .ref (ad 2)), (5, .int (nI j))] [] (LT ad, P2 K at_ tk st vl r.1, L, G) := by
  refine q_iload 82 rfl rfl dX2_readLines_80 ?_
  refine q_iret rfl dX2_readLines_82 ?_
  exact ⟨K, _, _, _, _, _, rfl, rfl, hF, hB, h5, hq⟩
theorem rl2_lp {mc mz : Nat} {r : Nat × Nat × (Nat → Nat → Nat) × Nat} {dn dm : Nat} (hG : GF ad G) (hr0 : G 2 0 = some (ad 1)) (hr2 : G 2 2 = some (ad dn)) (hr3 : G 2 3 = some (ad dm)) (hdn : isN dn) (hdm : isM dm) (hd : isD dn dm) (hl : N 2 1 ≤ 160) (ht : ∀ i, i < 160 → N 1 i < 128) : ∀ n p j tk st vl (S K : Nat → Nat → Nat), p ≤ N 2 1 → N 2 1 < p + n → j ≤ p → FC N K dn dm → CB K dn dm → CR S K dn dm → WFS S → prs (N 1) (N 2 1) n S p j = r → q_R Γ mX2_readLines (q_room 8 mc mz) (q_Z Γ (RLq ad L G N dn dm r) 0 0) 0 0 44 [(0, .ref (ad 2)), (5, .int (nI j))] [] (LT ad, P2 K p tk st vl 0, L, G) := by
  intro n
  induction n with
  | zero => intro p j tk st vl S K hp hn; omega
  | succ n ih =>
    intro p j tk st vl S K hp hn hj hF hB hR hW hr
    have e1 := hF.t hd
    have el := hF.len
    obtain ⟨t1, t2, t3, t4, t5, t6, t7, t8, t9⟩ := tkn_spec (t := N 1) hp
    have tkc := k_take (Γ := Γ) (L := L) (N := K) (p := p) (tk := tk) (st := st) (vl := vl) (ft := 0) hG hr0 (by rw [el]; exact hl) (by rw [e1]; exact ht) (by rw [el]; exact hp)
    rw [e1, el] at tkc
    rw [prs_s] at hr
    by_cases h4 : (tkn (N 1) (N 2 1) p).1 = 4
    · rw [if_pos h4] at hr
      subst hr
      refine q_iload 46 rfl rfl dX2_readLines_44 ?_
      refine q_aload_n 47 rfl rfl dX2_readLines_46 ?_
      refine q_getI 50 rfl fX2_15 rfl 2 t_2 dX2_readLines_47 ?_
      rw [P2_o (by decide) (by decide)]
      rw [el]
      refine q_icmp_ge 53 rfl 80 (by decide) (by omega) (by omega) dX2_readLines_50 (fun h50 => ?_) (fun h50 => ?_)
      · exfalso; omega
      · refine q_aload_n 54 rfl rfl dX2_readLines_53 ?_
        refine q_cV0 57 rfl lX2_40 (tkc) rfl 2 t_2 rfl rfl rfl dX2_readLines_54 ?_
        rw [if_pos h4, if_pos h4]
        refine q_if_eqD 60 rfl 80 (by decide) dX2_readLines_57 (fun h57 => ?_) (fun h57 => ?_)
        · exact q_loc (rl_end (r := (1, tkS (N 1) (N 2 1) p, S, j)) hF hB (by show 1 ≤ 5; decide) (Or.inl ⟨by show 1 ≠ 0; decide, rfl, by show tkS (N 1) (N 2 1) p ≤ 160; omega⟩)) (q_sub1 rfl (q_sub1 rfl q_sub0))
        · exfalso; omega
    · rw [if_neg h4] at hr
      by_cases h0 : (tkn (N 1) (N 2 1) p).1 = 0
      · rw [if_pos h0] at hr
        subst hr
        refine q_iload 46 rfl rfl dX2_readLines_44 ?_
        refine q_aload_n 47 rfl rfl dX2_readLines_46 ?_
        refine q_getI 50 rfl fX2_15 rfl 2 t_2 dX2_readLines_47 ?_
        rw [P2_o (by decide) (by decide)]
        rw [el]
        refine q_icmp_ge 53 rfl 80 (by decide) (by omega) (by omega) dX2_readLines_50 (fun h50 => ?_) (fun h50 => ?_)
        · exact q_loc (rl_end (r := (0, 0, S, j)) hF hB (by show 0 ≤ 5; decide) (Or.inr ⟨rfl, rfl, hR, hW⟩)) (q_sub1 rfl (q_sub1 rfl q_sub0))
        · refine q_aload_n 54 rfl rfl dX2_readLines_53 ?_
          refine q_cV0 57 rfl lX2_40 (tkc) rfl 2 t_2 rfl rfl rfl dX2_readLines_54 ?_
          rw [if_neg h4, if_neg h4]
          refine q_if_eqD 60 rfl 80 (by decide) dX2_readLines_57 (fun h57 => ?_) (fun h57 => ?_)
          · exfalso; omega
          · refine q_aload_n 61 rfl rfl dX2_readLines_60 ?_
            refine q_getI 64 rfl fX2_44 rfl 2 t_2 dX2_readLines_61 ?_
            rw [P2_5]
            refine q_if_eq 67 rfl 80 (by decide) (by omega) dX2_readLines_64 (fun h64 => ?_) (fun h64 => ?_)
            · exact q_loc (rl_end (r := (0, 0, S, j)) hF hB (by show 0 ≤ 5; decide) (Or.inr ⟨rfl, rfl, hR, hW⟩)) (q_sub1 rfl (q_sub1 rfl q_sub0))
            · exfalso; omega
      · rw [if_neg h0] at hr
        have tlc := k_takeLine (Γ := Γ) (L := L) (N := K) (S := S) (p := p) (vl := vl) hG hr0 hr2 hr3 hdn hdm hd (by rw [el]; exact hl) (by rw [e1]; exact ht) (by rw [el]; exact hp) hW hR hB (by rw [e1, el]; exact h4)
        rw [e1, el] at tlc
        refine q_iload 46 rfl rfl dX2_readLines_44 ?_
        refine q_aload_n 47 rfl rfl dX2_readLines_46 ?_
        refine q_getI 50 rfl fX2_15 rfl 2 t_2 dX2_readLines_47 ?_
        rw [P2_o (by decide) (by decide)]
        rw [el]
        refine q_icmp_ge 53 rfl 80 (by decide) (by omega) (by omega) dX2_readLines_50 (fun h50 => ?_) (fun h50 => ?_)
        · exfalso; omega
        · refine q_aload_n 54 rfl rfl dX2_readLines_53 ?_
          refine q_cV0 57 rfl lX2_40 (tkc) rfl 2 t_2 rfl rfl rfl dX2_readLines_54 ?_
          rw [if_neg h4, if_neg h4]
          refine q_if_eqD 60 rfl 80 (by decide) dX2_readLines_57 (fun h57 => ?_) (fun h57 => ?_)
          · exfalso; omega
          · refine q_aload_n 61 rfl rfl dX2_readLines_60 ?_
            refine q_getI 64 rfl fX2_44 rfl 2 t_2 dX2_readLines_61 ?_
            rw [P2_5]
            refine q_if_eq 67 rfl 80 (by decide) (by omega) dX2_readLines_64 (fun h64 => ?_) (fun h64 => ?_)
            · exfalso; omega
            · refine q_aload_n 68 rfl rfl dX2_readLines_67 ?_
              refine q_cV0q 71 rfl lX2_47 (tlc) rfl 2 t_2 rfl rfl rfl dX2_readLines_68 ?_
              rintro v h ⟨K2, at2, tk2, st2, vl2, rfl, hF2, hB2, hq | hq⟩
              · obtain ⟨hf, rfl, rfl⟩ := hq
                rw [if_pos hf] at hr
                subst hr
                refine q_if_eq 74 rfl 80 (by decide) (by decide) dX2_readLines_71 (fun q => ?_) (fun q => ?_)
                · exact q_loc (rl_end (r := (fLine S (N 1) (N 2 1) p, pLine S (N 1) (N 2 1) p, S, j)) (hF.tr hF2) hB2 fLine_le (Or.inl ⟨hf, rfl, by have := pLine_le (S := S) (t := N 1) hp; show pLine S (N 1) (N 2 1) p ≤ 160; omega⟩)) (q_sub1 rfl (q_sub1 rfl q_sub0))
                · exact absurd rfl q
              obtain ⟨hf, rfl, rfl, hR2⟩ := hq
              rw [if_neg (by omega)] at hr
              rw [hf]
              obtain ⟨l1, l2, l3⟩ := line_ok (t := N 1) hW hp hf
              refine q_if_eq 74 rfl 80 (by decide) (by decide) dX2_readLines_71 (fun h71 => ?_) (fun h71 => ?_)
              · exact absurd h71 (by decide)
              · refine q_iinc1 77 rfl 1 k_i1 rfl (by decide) dX2_readLines_74 ?_
                refine q_goto 44 (by decide) dX2_readLines_77 ?_
                exact q_loc (ih _ (j + 1) _ _ _ _ K2 l3 (by omega) (by omega) (hF.tr hF2) hB2 hR2 l1 hr) (q_sub1 rfl (q_sub1 rfl q_sub0))
end
