/-- weighLaws() has come to law i -/
def WL (N H : Nat → Nat → Nat) (nm c i : Nat) : Prop := (∀ a, a ≠ 37 → a ≠ 38 → a ≠ 39 → a ≠ 40 → a ≠ 48 → a ≠ 49 → H a = N a) ∧ SV H 37 ∧ H 37 0 = 0 ∧ ∀ l, l < i → H 48 l = lw6 N nm c l
theorem WL_step {N H K M : Nat → Nat → Nat} {nm c i s : Nat} {Rl : Nat → Nat → Bool} {od : Nat → Nat} (h : WL N H nm c i) (h1 : ∀ a, a ≠ 49 → K a = H a) (hl : LC K M 37 Rl c od s) : WL N (q_s M 48 i (lw6 N nm c i)) nm c (i + 1) := by
  obtain ⟨w1, w2, w3, w4⟩ := h
  obtain ⟨l1, l2, l3, l4⟩ := hl
  have e48 : M 48 = H 48 := (l1 48 (by omega) (by omega) (by omega) (by omega)).trans (h1 48 (by omega))
  refine ⟨fun a b1 b2 b3 b4 b5 b6 => ?_, l3.eq (fun a _ _ => q_s_ne (by omega)), ?_, fun l hl => ?_⟩
  · rw [q_s_ne b5, l1 a b1 b2 b3 b4, h1 a b6]; exact w1 a b1 b2 b3 b4 b5 b6
  · rw [q_s_ne (by omega), l2, h1 37 (by omega)]; exact w3
  · by_cases e : l = i
    · subst e; exact q_s_at
    · rw [q_s_off e, e48]; exact w4 l (by omega)
theorem WL.cx {ad : Nat → Nat} {G : Nat → Nat → Option Nat} {N H : Nat → Nat → Nat} {nm nw c i : Nat} {Rl : Nat → Nat → Bool} (h : WL N H nm c i) (hX : CX ad G N nm nw c Rl) : CX ad G H nm nw c Rl := hX.eq1 (fun a q1 q2 => h.1 a (by omega) (by omega) (by omega) (by omega) (by omega) (by omega))
theorem WL_end {N H : Nat → Nat → Nat} {nm c : Nat} (hnm : isN nm) (hI : MI N nm c) (h : WL N H nm c 45) : KP N (q_s H 0 18 1) ∧ MI (q_s H 0 18 1) nm c ∧ ∀ l, l < 45 → q_s H 0 18 1 48 l = lw6 N nm c l := by
  obtain ⟨w1, w2, w3, w4⟩ := h
  obtain ⟨h1, h2, h3, h4, h5, h6⟩ := hI
  have i1 : nm = 3 ∨ nm = 18 := hnm
  have el : ∀ l, lw6 (q_s H 0 18 1) nm c l = lw6 N nm c l := fun l => by
    rw [lw6, lw6, nr6_eq (fun a _ _ => (q_s_ne (by omega)).trans (w1 a (by omega) (by omega) (by omega) (by omega) (by omega) (by omega)))]
  have e48 : ∀ l, l < 45 → q_s H 0 18 1 48 l = lw6 N nm c l := fun l hl => by rw [q_s_ne (by omega)]; exact w4 l hl
  refine ⟨⟨fun a b1 b2 => ?_, fun j hj => ?_⟩, ⟨w2.eq (fun a _ _ => q_s_ne (by omega)), ?_, h3.eq (fun a _ _ => ?_), ?_, ?_, fun _ l hl => ?_⟩, e48⟩
  · rw [q_s_ne b1]; exact w1 a (by omega) (by omega) (by omega) (by omega) (by omega) (by omega)
  · rw [q_s_off hj, w1 0 (by omega) (by omega) (by omega) (by omega) (by omega) (by omega)]
  · rw [q_s_ne (by omega)]; exact w3
  · rw [q_s_ne (by omega)]; exact w1 a (by omega) (by omega) (by omega) (by omega) (by omega) (by omega)
  · rw [q_s_ne (by omega), w1 41 (by omega) (by omega) (by omega) (by omega) (by omega) (by omega)]; exact h4
  · rw [q_s_at]; omega
  · rw [el]; exact e48 l hl
section
variable {Γ : q_G} {ad : Nat → Nat} {N : Nat → Nat → Nat} {L : Nat → Nat → Int} {G : Nat → Nat → Option Nat}
theorem weigh_lp {Z : q_Zt} {mc mz : Nat} {nm nw c : Nat} {Rl : Nat → Nat → Bool} (hG : GF ad G) (hX : CX ad G N nm nw c Rl) (hx : ∀ H : Nat → Nat → Nat, WL N H nm c (45) → q_R Γ mX6_weighLaws (q_room 5 mc mz) Z 0 0 76 [(0, .ref (ad 0))] [] (LT ad, H, L, G)) : ∀ i, i ≤ 45 →  ∀ H : Nat → Nat → Nat, WL N H nm c i → q_R Γ mX6_weighLaws (q_room 5 mc mz) Z 0 0 10 [(0, .ref (ad 0)), (1, .int (nI i))] [] (LT ad, H, L, G) := by
  refine dn_loop (45) ?_ ?_
  · intro H h_H
    refine q_iload_n 11 rfl rfl dX6_weighLaws_10 ?_
    refine q_bipush 13 rfl 45 k_b45 dX6_weighLaws_11 ?_
    refine q_icmp_ge 16 rfl 76 (by decide) (by omega) (by omega) dX6_weighLaws_13 (fun h13 => ?_) (fun h13 => ?_)
    · exact q_loc (hx _ h_H) (q_sub1 rfl q_sub0)
    · exfalso; omega
  · intro i h_i ih H h_H
    have hX2 := h_H.cx hX
    obtain ⟨u1, u2, u3, u4⟩ := id h_H
    obtain ⟨hnm, hnw, hv5, hv6, hN, hM, hnr⟩ := id hX2
    have hc : H nm 0 = c := hN.1
    have hc9 : c ≤ 9 := hN.2.1
    obtain ⟨hkd, hms, hpr, hpf, hps, hg9, hgn, hga, hh6, hhp, hhl, hhi, hod, ho1⟩ := id hM
    have hw : nw = 9 ∨ nw = 24 ∨ nw = 51 ∨ nw = 60 := hnw
    have hw2 : nm = 3 ∨ nm = 18 := hnm
    have hR : nr6 H nm (i / 9) (i % 9) = nr6 N nm (i / 9) (i % 9) := nr6_eq (fun a _ _ => u1 a (by omega) (by omega) (by omega) (by omega) (by omega) (by omega))
    generalize hF : fil H 49 (fun n => mk (nr6 N nm (i / 9) (i % 9) n) c) c = F
    have hFn : ∀ a, a ≠ 49 → F a = H a := fun a ha => by rw [← hF]; exact fil_ne ha
    have hFr : ∀ g, g < c → F 49 g = mk (nr6 N nm (i / 9) (i % 9) g) c := fun g hg => by rw [← hF]; exact fil_lt hg
    have hXF : CX ad G F nm nw c Rl := hX2.eq1 (fun a q1 q2 => hFn a (by omega))
    have k37 : F 37 0 = 0 := by rw [hFn 37 (by omega)]; exact u3
    have kc : F nm 0 = c := by rw [hFn nm (by omega)]; exact hc
    have hVF : SV F 37 := u2.eq (fun a _ _ => hFn a (by omega))
    have ho9 : ∀ n, n < c → F (nw + 1) n ≤ 9 := fun n hn => by rw [hFn (nw + 1) (by omega)]; exact hod n (by omega)
    refine q_iload_n 11 rfl rfl dX6_weighLaws_10 ?_
    refine q_bipush 13 rfl 45 k_b45 dX6_weighLaws_11 ?_
    refine q_icmp_ge 16 rfl 76 (by decide) (by omega) (by omega) dX6_weighLaws_13 (fun h13 => ?_) (fun h13 => ?_)
    · exfalso; omega
    · refine q_aload_n 17 rfl rfl dX6_weighLaws_16 ?_
      refine q_getR 20 rfl fX6_23 rfl 0 t_0 hv5 dX6_weighLaws_17 ?_
      refine q_iload_n 21 rfl rfl dX6_weighLaws_20 ?_
      refine q_bipush 23 rfl 9 k_b9 dX6_weighLaws_21 ?_
      refine q_idiv 24 rfl (by omega) (by omega) (by omega) dX6_weighLaws_23 ?_
      refine q_iload_n 25 rfl rfl dX6_weighLaws_24 ?_
      refine q_bipush 27 rfl 9 k_b9 dX6_weighLaws_25 ?_
      refine q_irem 28 rfl (by omega) (by omega) (by omega) dX6_weighLaws_27 ?_
      refine q_aload_n 29 rfl rfl dX6_weighLaws_28 ?_
      refine q_getR 32 rfl fX6_80 rfl 0 t_0 (g_0_17 hG) dX6_weighLaws_29 ?_
      refine q_cV3v 35 rfl lX6_300 (k_fillNear hG hnm hN (.inr rfl) t_49 (by omega) (by omega)) rfl nm (tN hnm) rfl rfl rfl dX6_weighLaws_32 ?_
      rw [hR, hF]
      refine q_aload_n 36 rfl rfl dX6_weighLaws_35 ?_
      refine q_getR 39 rfl fX6_77 rfl 0 t_0 (g_0_16 hG) dX6_weighLaws_36 ?_
      refine q_iload_n 40 rfl rfl dX6_weighLaws_39 ?_
      refine q_aload_n 41 rfl rfl dX6_weighLaws_40 ?_
      refine q_getR 44 rfl fX6_63 rfl 0 t_0 (g_0_13 hG) dX6_weighLaws_41 ?_
      refine q_aload_n 45 rfl rfl dX6_weighLaws_44 ?_
      refine q_getR 48 rfl fX6_80 rfl 0 t_0 (g_0_17 hG) dX6_weighLaws_45 ?_
      refine q_aload_n 49 rfl rfl dX6_weighLaws_48 ?_
      refine q_getR 52 rfl fX6_30 rfl 0 t_0 hv6 dX6_weighLaws_49 ?_
      refine q_getR 55 rfl fX6_134 rfl nw (tM hnw) (gM_0 hnw hG) dX6_weighLaws_52 ?_
      refine q_aload_n 56 rfl rfl dX6_weighLaws_55 ?_
      refine q_getR 59 rfl fX6_23 rfl 0 t_0 hv5 dX6_weighLaws_56 ?_
      refine q_getI 62 rfl fX6_115 rfl nm (tN hnm) dX6_weighLaws_59 ?_
      rw [kc]
      refine q_aload_n 63 rfl rfl dX6_weighLaws_62 ?_
      refine q_cV0 66 rfl lX6_287 (k_allNames hG hXF) rfl 0 t_0 rfl rfl rfl dX6_weighLaws_63 ?_
      refine q_cV4q 69 rfl lX6_221 (k_leastCost (Rl := nr6 N nm (i / 9) (i % 9)) (r := 49) (t := nw + 1) hG (Or.inl rfl) t_49 (tM1 hnw) (by omega) hc9 (mk_lt _ _) hFr ho9 hVF) rfl 37 t_37 rfl rfl rfl dX6_weighLaws_66 ?_
      rintro v h ⟨rfl, H2, rfl, hL⟩
      rw [k37, cK_0]
      refine q_iast 70 rfl 48 t_48 (by omega) (by decide) dX6_weighLaws_69 ?_
      refine q_iinc1 73 rfl 1 k_i1 rfl (by decide) dX6_weighLaws_70 ?_
      refine q_goto 10 (by decide) dX6_weighLaws_73 ?_
      refine q_loc (ih _ ?_) (q_sub1 rfl (q_sub1 rfl q_sub0))
      · exact WL_step h_H hFn hL
theorem k_weighLaws {nm nw c : Nat} {Rl : Nat → Nat → Bool} (hG : GF ad G) (hX : CX ad G N nm nw c Rl) (hI : MI N nm c) : q_Con Γ mX6_weighLaws 5 0 0 [.ref (ad 0)] (LT ad, N, L, G) (fun v h => v = none ∧ ∃ H, h = (LT ad, H, L, G) ∧ KP N H ∧ MI H nm c ∧ ∀ l, l < 45 → H 48 l = lw6 N nm c l) := by
  obtain ⟨hnm, hnw, hv5, hv6, hN, hM, hnr⟩ := id hX
  have hc : N nm 0 = c := hN.1
  have hc9 : c ≤ 9 := hN.2.1
  obtain ⟨w1, w2, w3, w4, w5, w6⟩ := id hI
  have W0 : WL N N nm c 0 := ⟨fun _ _ _ _ _ _ _ => rfl, w1, w2, fun l hl => absurd hl (by omega)⟩
  refine q_con (by decide) rfl rfl (Nat.le_of_ble_eq_true rfl) ?_
  refine q_aload_n 1 rfl rfl dX6_weighLaws_0 ?_
  refine q_getI 4 rfl fX6_296 rfl 0 t_0 dX6_weighLaws_1 ?_
  refine q_if_eq 7 rfl 8 (by decide) (by omega) dX6_weighLaws_4 (fun h4 => ?_) (fun h4 => ?_)
  · refine q_iconst 9 rfl 0 k_i0 dX6_weighLaws_8 ?_
    refine q_istore_n 10 rfl (by decide) dX6_weighLaws_9 ?_
    refine q_loc (weigh_lp (nm := nm) (nw := nw) (c := c) (Rl := Rl) hG hX ?_ 0 (by omega) _ W0) (q_sub1 rfl (q_sub1 rfl q_sub0))
    intro H h_H
    refine q_aload_n 77 rfl rfl dX6_weighLaws_76 ?_
    refine q_iconst 78 rfl 1 k_i1 dX6_weighLaws_77 ?_
    refine q_putZ 81 rfl pX6_296 (fun q => by cases q) rfl (by omega) 0 t_0 dX6_weighLaws_78 ?_
    refine q_vret rfl dX6_weighLaws_81 ?_
    exact ⟨rfl, _, rfl, WL_end hnm hI h_H⟩
  · refine q_vret rfl dX6_weighLaws_7 ?_
    exact ⟨rfl, _, rfl, KP.rf, hI, w6 (by assumption)⟩
end
