def EX6 (N R : Nat → Nat → Nat) (dn dm f : Nat) : Prop := (∀ a, a ≠ 0 → a ≠ 2 → (a < dn ∨ dn + 5 < a) → (a < dm ∨ dm + 8 < a) → R a = N a) ∧ (∀ j, j ≠ 1 → j ≠ 2 → R 0 j = N 0 j) ∧ R 0 1 = 0 ∧ R 0 2 = f ∧ CB R dn dm
def OX6 (N R S : Nat → Nat → Nat) (dn dm : Nat) : Prop := (∀ a, a ≠ 0 → a ≠ 2 → a ≠ 34 → a ≠ 36 → (a < dn ∨ dn + 5 < a) → (a < dm ∨ dm + 8 < a) → R a = N a) ∧ (∀ j, j ≠ 1 → j ≠ 2 → j ≠ 18 → R 0 j = N 0 j) ∧ R 0 1 = 0 ∧ R 0 2 = 0 ∧ R 0 18 = 0 ∧ R 34 0 = 0 ∧ R 34 1 = 0 ∧ CR S R dn dm ∧ CB R dn dm ∧ WFS S ∧ (∀ n, n < S 0 0 → R 36 n = mk (nr6 R dn (S 0 1) (S 0 2) n) (S 0 0))
def TQ6 (ad : Nat → Nat) (L : Nat → Nat → Int) (G : Nat → Nat → Option Nat) (N : Nat → Nat → Nat) (nm nw dn dm : Nat) (r : Nat × Nat × (Nat → Nat → Nat) × Nat) : Option Value → q_H → Prop := fun v h => (r.1 ≠ 0 ∧ v = some (.int (nI (4294967286 - r.2.1))) ∧ ∃ R, h = (LT ad, R, L, G2r ad G dn dm) ∧ EX6 N R dn dm r.1) ∨ (r.1 = 0 ∧ v = some (.int (nI r.2.2.2)) ∧ ∃ R, h = (LT ad, R, L, Gsw ad (G2r ad G dn dm) nm nw dn dm) ∧ OX6 N R r.2.2.1 dn dm)
/-- the draft cleared -/
def clr0 (N : Nat → Nat → Nat) (dn dm : Nat) : Nat → Nat → Nat := q_s (q_s (q_s (q_s (q_s (q_s (q_s N dn 0 0) dn 5 0) dm 1 0) dm 2 0) dm 3 0) dm 6 0) dm 9 0
theorem clr0_f {N : Nat → Nat → Nat} {dn dm : Nat} (hd : isD dn dm) (hB : CB N dn dm) : CL0 (clr0 N dn dm) dn dm ∧ CB (clr0 N dn dm) dn dm ∧ ∀ a, a ≠ dn → a ≠ dm → clr0 N dn dm a = N a := by
  have ha : ∀ a, a ≠ dn → a ≠ dm → clr0 N dn dm a = N a := fun a h1 h2 => by unfold clr0; rw [q_s_ne h2, q_s_ne h2, q_s_ne h2, q_s_ne h2, q_s_ne h2, q_s_ne h1, q_s_ne h1]
  refine ⟨⟨?_, ?_, ?_, ?_, ?_, ?_, ?_⟩, ?_, ha⟩
  · unfold clr0; rw [q_s_ne (by omega), q_s_ne (by omega), q_s_ne (by omega), q_s_ne (by omega), q_s_ne (by omega), q_s_off (by omega), q_s_at]
  · unfold clr0; rw [q_s_ne (by omega), q_s_ne (by omega), q_s_ne (by omega), q_s_ne (by omega), q_s_ne (by omega), q_s_at]
  · unfold clr0; rw [q_s_off (by omega), q_s_off (by omega), q_s_off (by omega), q_s_off (by omega), q_s_at]
  · unfold clr0; rw [q_s_off (by omega), q_s_off (by omega), q_s_off (by omega), q_s_at]
  · unfold clr0; rw [q_s_off (by omega), q_s_off (by omega), q_s_at]
  · unfold clr0; rw [q_s_off (by omega), q_s_at]
  · unfold clr0; rw [q_s_at]
  · unfold CB
    rw [ha (dn + 1) (by omega) (by omega), ha (dn + 2) (by omega) (by omega), ha (dn + 3) (by omega) (by omega), ha (dn + 4) (by omega) (by omega), ha (dn + 5) (by omega) (by omega), ha (dm + 1) (by omega) (by omega), ha (dm + 2) (by omega) (by omega), ha (dm + 3) (by omega) (by omega)]
    exact hB
theorem CR.cn {S K : Nat → Nat → Nat} {dn dm : Nat} (h : CR S K dn dm) (hB : CB K dn dm) (hW : WFS S) : CN K dn (S 0 0) := ⟨h.1, hW.1, hB.1, hB.2.1, hB.2.2.1, hB.2.2.2.1, by rw [h.2.2.2.2.2.2.1]; exact hW.2.2.2.2.2.2.1, hB.2.2.2.2.1⟩
/-- when the cells of the draft and the Reader's marks are the same -/
theorem CR.same {S K H : Nat → Nat → Nat} {dn dm : Nat} (h : CR S K dn dm) (e : ∀ a, (dn ≤ a ∧ a ≤ dn + 5) ∨ (dm ≤ a ∧ a ≤ dm + 8) → H a = K a) (e9 : H 2 9 = K 2 9) (e10 : H 2 10 = K 2 10) : CR S H dn dm := by
  unfold CR
  rw [e dn (by omega), e (dn + 1) (by omega), e (dn + 2) (by omega), e (dn + 3) (by omega), e (dn + 4) (by omega), e (dn + 5) (by omega), e dm (by omega), e (dm + 1) (by omega), e (dm + 2) (by omega), e (dm + 3) (by omega), e9, e10]
  exact h
theorem CB.same {K H : Nat → Nat → Nat} {dn dm : Nat} (h : CB K dn dm) (e : ∀ a, (dn ≤ a ∧ a ≤ dn + 5) ∨ (dm ≤ a ∧ a ≤ dm + 8) → H a = K a) : CB H dn dm := by
  unfold CB
  rw [e (dn + 1) (by omega), e (dn + 2) (by omega), e (dn + 3) (by omega), e (dn + 4) (by omega), e (dn + 5) (by omega), e (dm + 1) (by omega), e (dm + 2) (by omega), e (dm + 3) (by omega)]
  exact h
theorem ex6_ok {N K : Nat → Nat → Nat} {dn dm len f a b c d e : Nat} (hd : isD dn dm) (hB0 : CB N dn dm) (hF : FC (rl0 (clr0 N dn dm) len) K dn dm) (hB : CB K dn dm) : EX6 N (P2 (q_s (q_s K 0 1 0) 0 2 f) a b c d e) dn dm f := by
  obtain ⟨c1, c2, c3⟩ := clr0_f hd hB0
  obtain ⟨r1, r2, r3, r4⟩ := rl0_f (N := clr0 N dn dm) (len := len)
  have k0 : K 0 = N 0 := by rw [hF.1 0 (by omega) (by omega) (by omega), r1 0 (by omega), c3 0 (by omega) (by omega)]
  refine ⟨fun x h0 h2 hn hm => ?_, fun j h1 h2 => ?_, ?_, ?_, ?_⟩
  · rw [P2_ne h2, q_s_ne h0, q_s_ne h0, hF.1 x h2 hn hm, r1 x h2, c3 x (by omega) (by omega)]
  · rw [P2_ne (by omega), q_s_off h2, q_s_off h1, k0]
  · rw [P2_ne (by omega), q_s_off (by omega), q_s_at]
  · rw [P2_ne (by omega), q_s_at]
  · exact hB.same (fun x hx => by rw [P2_ne (by omega), q_s_ne (by omega), q_s_ne (by omega)])
theorem ox6_ok {N K S : Nat → Nat → Nat} {dn dm len a b c d e : Nat} (hd : isD dn dm) (hB0 : CB N dn dm) (hF : FC (rl0 (clr0 N dn dm) len) K dn dm) (hB : CB K dn dm) (hR : CR S K dn dm) (hW : WFS S) : OX6 N (tdH (P2 (q_s (q_s K 0 1 0) 0 2 0) a b c d e) dn dm (S 0 0)) S dn dm := by
  obtain ⟨c1, c2, c3⟩ := clr0_f hd hB0
  obtain ⟨r1, r2, r3, r4⟩ := rl0_f (N := clr0 N dn dm) (len := len)
  have k0 : K 0 = N 0 := by rw [hF.1 0 (by omega) (by omega) (by omega), r1 0 (by omega), c3 0 (by omega) (by omega)]
  obtain ⟨R0, hR0⟩ : ∃ R0, P2 (q_s (q_s K 0 1 0) 0 2 0) a b c d e = R0 := ⟨_, rfl⟩
  have n0 : ∀ x, x ≠ 0 → x ≠ 2 → R0 x = K x := fun x h1 h2 => by rw [← hR0, P2_ne h2, q_s_ne h1, q_s_ne h1]
  have n01 : R0 0 1 = 0 := by rw [← hR0, P2_ne (by omega), q_s_off (by omega), q_s_at]
  have n02 : R0 0 2 = 0 := by rw [← hR0, P2_ne (by omega), q_s_at]
  have n0j : ∀ j, j ≠ 1 → j ≠ 2 → R0 0 j = N 0 j := fun j h1 h2 => by rw [← hR0, P2_ne (by omega), q_s_off h2, q_s_off h1, k0]
  have n29 : R0 2 9 = K 2 9 := by rw [← hR0, P2_o (by decide) (by decide), q_s_ne (by omega), q_s_ne (by omega)]
  have n210 : R0 2 10 = K 2 10 := by rw [← hR0, P2_o (by decide) (by decide), q_s_ne (by omega), q_s_ne (by omega)]
  rw [hR0]
  have d0 : ∀ x, x ≠ 0 → x ≠ 34 → td0 R0 x = R0 x := fun x q1 q2 => by unfold td0; rw [q_s_ne q1, q_s_ne q2, q_s_ne q2]
  have dj : ∀ j, j ≠ 18 → td0 R0 0 j = R0 0 j := fun j hj => by unfold td0; rw [q_s_off hj, q_s_ne (by omega), q_s_ne (by omega)]
  have d18 : td0 R0 0 18 = 0 := q_s_at
  have d340 : td0 R0 34 0 = 0 := by unfold td0; rw [q_s_ne (by omega), q_s_off (by omega), q_s_at]
  have d341 : td0 R0 34 1 = 0 := by unfold td0; rw [q_s_ne (by omega), q_s_at]
  have hc : ∀ x, x ≠ 36 → tdH R0 dn dm (S 0 0) x = td0 R0 x := fun x hx => by unfold tdH; rw [fil_ne hx]
  have cells : ∀ x, (dn ≤ x ∧ x ≤ dn + 5) ∨ (dm ≤ x ∧ x ≤ dm + 8) → tdH R0 dn dm (S 0 0) x = K x := fun x hx => by rw [hc x (by omega), d0 x (by omega) (by omega), n0 x (by omega) (by omega)]
  refine ⟨fun x h0 h2 h34 h36 hn hm => ?_, fun j h1 h2 h18 => ?_, ?_, ?_, ?_, ?_, ?_, ?_, hB.same cells, hW, fun n hn => ?_⟩
  · rw [hc x h36, d0 x h0 h34, n0 x h0 h2, hF.1 x h2 hn hm, r1 x h2, c3 x (by omega) (by omega)]
  · rw [hc 0 (by omega), dj j h18, n0j j h1 h2]
  · rw [hc 0 (by omega), dj 1 (by omega), n01]
  · rw [hc 0 (by omega), dj 2 (by omega), n02]
  · rw [hc 0 (by omega), d18]
  · rw [hc 34 (by omega), d340]
  · rw [hc 34 (by omega), d341]
  · exact hR.same cells (by rw [hc 2 (by omega), d0 2 (by omega) (by omega), n29]) (by rw [hc 2 (by omega), d0 2 (by omega) (by omega), n210])
  · have e1 : td0 R0 dm 1 = S 0 1 := by rw [d0 dm (by omega) (by omega), n0 dm (by omega) (by omega)]; exact hR.2.2.1
    have e2 : td0 R0 dm 2 = S 0 2 := by rw [d0 dm (by omega) (by omega), n0 dm (by omega) (by omega)]; exact hR.2.2.2.1
    have e3 : nr6 (tdH R0 dn dm (S 0 0)) dn (S 0 1) (S 0 2) = nr6 (td0 R0) dn (S 0 1) (S 0 2) := nr6_eq (fun x q1 q2 => hc x (by omega))
    rw [e3]
    unfold tdH
    rw [fil_lt hn, e1, e2]
section
variable {Γ : q_G} {ad : Nat → Nat} {N : Nat → Nat → Nat} {L : Nat → Nat → Int} {G : Nat → Nat → Option Nat}
theorem k_text6 {nm nw dn dm : Nat} (hG : GF ad G) (hnm : isN nm) (hnw : isM nw) (hdn : isN dn) (hdm : isM dm) (hd : isD dn dm) (hv5 : G 0 5 = some (ad nm)) (hv6 : G 0 6 = some (ad nw)) (hv7 : G 0 7 = some (ad dn)) (hv8 : G 0 8 = some (ad dm)) (hl : N 0 1 ≤ 160) (ht : ∀ i, i < 160 → N 1 i < 128) (hB0 : CB N dn dm) : q_Con Γ mX6_text 9 0 0 [.ref (ad 0)] (LT ad, N, L, G) (TQ6 ad L G N nm nw dn dm (prs (N 1) (N 0 1) (N 0 1 + 1) S00 0 0)) := by
  obtain ⟨c1, c2, c3⟩ := clr0_f hd hB0
  obtain ⟨g1, g2, g3, g4, g5⟩ := G2r_f (dn := dn) (dm := dm) hG
  have rlc := k_readLines (Γ := Γ) (L := L) (N := clr0 N dn dm) (len := N 0 1) (p := clr0 N dn dm 2 4) (tk := clr0 N dn dm 2 5) (st := clr0 N dn dm 2 6) (vl := clr0 N dn dm 2 7) (ft := clr0 N dn dm 2 8) hG hdn hdm hd hl (by rw [c3 1 (by omega) (by omega)]; exact ht) c1 c2
  rw [P2_id, c3 1 (by omega) (by omega)] at rlc
  generalize prs (N 1) (N 0 1) (N 0 1 + 1) S00 0 0 = r at *
  refine q_con (by decide) rfl rfl (Nat.le_of_ble_eq_true rfl) ?_
  refine q_aload_n 1 rfl rfl dX6_text_0 ?_
  refine q_getR 4 rfl fX6_34 rfl 0 t_0 hv7 dX6_text_1 ?_
  refine q_cV0v 7 rfl lX6_95 (k_clear1 hG hdn) rfl dn (tN hdn) rfl rfl rfl dX6_text_4 ?_
  refine q_aload_n 8 rfl rfl dX6_text_7 ?_
  refine q_getR 11 rfl fX6_37 rfl 0 t_0 hv8 dX6_text_8 ?_
  refine q_cV0v 14 rfl lX6_98 (k_clear0 hG hdm) rfl dm (tM hdm) rfl rfl rfl dX6_text_11 ?_
  rw [show q_s (q_s (q_s (q_s (q_s (q_s (q_s N dn 0 0) dn 5 0) dm 1 0) dm 2 0) dm 3 0) dm 6 0) dm 9 0 = clr0 N dn dm from rfl]
  refine q_aload_n 15 rfl rfl dX6_text_14 ?_
  refine q_getR 18 rfl fX6_16 rfl 0 t_0 (g_0_4 hG) dX6_text_15 ?_
  refine q_aload_n 19 rfl rfl dX6_text_18 ?_
  refine q_getR 22 rfl fX6_9 rfl 0 t_0 (g_0_0 hG) dX6_text_19 ?_
  refine q_aload_n 23 rfl rfl dX6_text_22 ?_
  refine q_getI 26 rfl fX6_91 rfl 0 t_0 dX6_text_23 ?_
  rw [c3 0 (by omega) (by omega)]
  refine q_aload_n 27 rfl rfl dX6_text_26 ?_
  refine q_getR 30 rfl fX6_34 rfl 0 t_0 hv7 dX6_text_27 ?_
  refine q_aload_n 31 rfl rfl dX6_text_30 ?_
  refine q_getR 34 rfl fX6_37 rfl 0 t_0 hv8 dX6_text_31 ?_
  refine q_cV4q 37 rfl lX6_99 (rlc) rfl 2 t_2 rfl rfl rfl dX6_text_34 ?_
  rintro v h ⟨K, at_, tk2, st2, vl2, x, rfl, rfl, hF, hB, h5, hq⟩
  have hG := g1
  refine q_istore_n 38 rfl (by decide) dX6_text_37 ?_
  refine q_aload_n 39 rfl rfl dX6_text_38 ?_
  refine q_iconst 40 rfl 0 k_i0 dX6_text_39 ?_
  refine q_putI 43 rfl pX6_91 (fun q => by cases q) rfl 0 t_0 dX6_text_40 ?_
  rw [P2_as (by omega)]
  refine q_aload_n 44 rfl rfl dX6_text_43 ?_
  refine q_aload_n 45 rfl rfl dX6_text_44 ?_
  refine q_getR 48 rfl fX6_16 rfl 0 t_0 (g_0_4 hG) dX6_text_45 ?_
  refine q_getI 51 rfl fX6_103 rfl 2 t_2 dX6_text_48 ?_
  rw [P2_8]
  refine q_putI 54 rfl pX6_106 (fun q => by cases q) rfl 0 t_0 dX6_text_51 ?_
  rw [P2_as (by omega)]
  refine q_aload_n 55 rfl rfl dX6_text_54 ?_
  refine q_getI 58 rfl fX6_106 rfl 0 t_0 dX6_text_55 ?_
  rw [P2_ne (by omega), q_s_at]
  refine q_if_eq 61 rfl 72 (by decide) (by omega) dX6_text_58 (fun h58 => ?_) (fun h58 => ?_)
  · have hq := hq.resolve_left (fun z => z.1 (by assumption))
    obtain ⟨hf, hx, hR, hW⟩ := hq
    rw [hf]
    refine q_aload_n 73 rfl rfl dX6_text_72 ?_
    refine q_cV0v 76 rfl lX6_112 (k_takeDraft (nm := nm) (nw := nw) (c := r.2.2.1 0 0) hG hnm hnw hdn hdm hd (by rw [g5 0 (by decide)]; exact hv5) (by rw [g5 0 (by decide)]; exact hv6) (by rw [g5 0 (by decide)]; exact hv7) (by rw [g5 0 (by decide)]; exact hv8) ((hR.cn hB hW).eq (fun a q1 q2 => by rw [P2_ne (by omega), q_s_ne (by omega), q_s_ne (by omega)])) (by rw [P2_ne (by omega), q_s_ne (by omega), q_s_ne (by omega), hR.2.2.1]; exact hW.2.2.1) (by rw [P2_ne (by omega), q_s_ne (by omega), q_s_ne (by omega), hR.2.2.2.1]; exact hW.2.2.2.1)) rfl 0 t_0 rfl rfl rfl dX6_text_73 ?_
    refine q_iload_n 77 rfl rfl dX6_text_76 ?_
    refine q_iret rfl dX6_text_77 ?_
    refine Or.inr ⟨hf, by rw [hx], _, rfl, ox6_ok hd hB0 hF hB hR hW⟩
  · have hq := hq.resolve_right (fun z => absurd z.1 (by assumption))
    obtain ⟨hf, hs, h160⟩ := hq
    refine q_bipush 63 rfl 4294967286 k_bm10 dX6_text_61 ?_
    refine q_aload_n 64 rfl rfl dX6_text_63 ?_
    refine q_getR 67 rfl fX6_16 rfl 0 t_0 (g_0_4 hG) dX6_text_64 ?_
    refine q_getI 70 rfl fX6_109 rfl 2 t_2 dX6_text_67 ?_
    rw [P2_6]
    refine q_isub 71 rfl (by omega) dX6_text_70 ?_
    refine q_iret rfl dX6_text_71 ?_
    refine Or.inl ⟨hf, by rw [hs], _, rfl, ex6_ok hd hB0 hF hB⟩
end
