theorem CX.eq1 {ad : Nat → Nat} {G : Nat → Nat → Option Nat} {N M : Nat → Nat → Nat} {nm nw c : Nat} {Rl : Nat → Nat → Bool} (h : CX ad G N nm nw c Rl) (e : ∀ a, a ≠ 0 → (a < 33 ∨ a = 36 ∨ (51 ≤ a ∧ a ≤ 68)) → M a = N a) : CX ad G M nm nw c Rl := by
  obtain ⟨h1, h2, h3, h4, h5, h6, h7⟩ := h
  have i1 : nm = 3 ∨ nm = 18 := h1
  have i2 : nw = 9 ∨ nw = 24 ∨ nw = 51 ∨ nw = 60 := h2
  refine ⟨h1, h2, h3, h4, h5.eq (fun a q1 q2 => e a (by omega) (by omega)), h6.eq (fun a q1 q2 => e a (by omega) (by omega)), fun g hg => ?_⟩
  rw [e 36 (by omega) (by omega)]; exact h7 g hg
/-- only the searches' own cells have changed -/
def KP (N H : Nat → Nat → Nat) : Prop := (∀ a, a ≠ 0 → (a < 37 ∨ 50 < a) → H a = N a) ∧ (∀ j, j ≠ 18 → H 0 j = N 0 j)
theorem KP.rf {N : Nat → Nat → Nat} : KP N N := ⟨fun _ _ _ => rfl, fun _ _ => rfl⟩
theorem KP.tr {N M H : Nat → Nat → Nat} (h1 : KP N M) (h2 : KP M H) : KP N H := ⟨fun a q1 q2 => (h2.1 a q1 q2).trans (h1.1 a q1 q2), fun j hj => (h2.2 j hj).trans (h1.2 j hj)⟩
theorem KP.of {N H : Nat → Nat → Nat} (h : ∀ a, (a < 37 ∨ 50 < a) → H a = N a) : KP N H := ⟨fun a _ q2 => h a q2, fun _ _ => by rw [h 0 (by omega)]⟩
theorem KP.cx {ad : Nat → Nat} {G : Nat → Nat → Option Nat} {N H : Nat → Nat → Nat} {nm nw c : Nat} {Rl : Nat → Nat → Bool} (h : KP N H) (hX : CX ad G N nm nw c Rl) : CX ad G H nm nw c Rl := hX.eq1 (fun a q1 q2 => h.1 a q1 (by omega))
theorem SV.eq {N H : Nat → Nat → Nat} {q : Nat} (h : SV N q) (e : ∀ a, q ≤ a → a ≤ q + 3 → H a = N a) : SV H q := by
  have e0 := e q (by omega) (by omega)
  have e1 := e (q + 1) (by omega) (by omega)
  have e2 := e (q + 2) (by omega) (by omega)
  have e3 := e (q + 3) (by omega) (by omega)
  have er : rl6 H q = rl6 N q := by funext g m; rw [rl6, rl6, e1]
  unfold SV
  rw [e0, e1, e2, e3, er]
  exact h
abbrev lw6 (N : Nat → Nat → Nat) (nm c l : Nat) : Nat := fw (nr6 N nm (l / 9) (l % 9)) c (mk (fun _ => true) c)
theorem lw6_le {N : Nat → Nat → Nat} {nm c l : Nat} (hc : c ≤ 9) : lw6 N nm c l ≤ 9 := fw_le hc (mk_lt _ _)
/-- what the searches' memory keeps -/
def MI (N : Nat → Nat → Nat) (nm c : Nat) : Prop := SV N 37 ∧ N 37 0 = 0 ∧ SV N 41 ∧ N 41 0 = 1 ∧ N 0 18 ≤ 1 ∧ (N 0 18 ≠ 0 → ∀ l, l < 45 → N 48 l = lw6 N nm c l)
theorem MI.eq {N H : Nat → Nat → Nat} {nm c : Nat} (h : MI N nm c) (hnm : isN nm) (e : ∀ a, a ≠ 0 → (a < 9 ∨ (18 ≤ a ∧ a ≤ 23) ∨ (37 ≤ a ∧ a ≤ 44) ∨ a = 48) → H a = N a) (e0 : H 0 18 = N 0 18) : MI H nm c := by
  obtain ⟨h1, h2, h3, h4, h5, h6⟩ := h
  have i1 : nm = 3 ∨ nm = 18 := hnm
  refine ⟨h1.eq (fun a _ _ => e a (by omega) (by omega)), ?_, h3.eq (fun a _ _ => e a (by omega) (by omega)), ?_, ?_, ?_⟩
  · rw [e 37 (by omega) (by omega)]; exact h2
  · rw [e 41 (by omega) (by omega)]; exact h4
  · rw [e0]; exact h5
  · rw [e0]
    intro h0 l hl
    rw [e 48 (by omega) (by omega), h6 h0 l hl, lw6, lw6, nr6_eq (fun a _ _ => e a (by omega) (by omega))]
theorem MI.lc {N H : Nat → Nat → Nat} {nm c q : Nat} {Rl : Nat → Nat → Bool} {k : Nat} {od : Nat → Nat} {s : Nat} (h : MI N nm c) (hnm : isN nm) (hq : isS q) (hl : LC N H q Rl k od s) : MI H nm c ∧ KP N H := by
  obtain ⟨h1, h2, h3, h4, h5, h6⟩ := id h
  obtain ⟨l1, l2, l3, l4⟩ := hl
  have i1 : nm = 3 ∨ nm = 18 := hnm
  have i2 : q = 37 ∨ q = 41 := hq
  have e48 : H 48 = N 48 := l1 48 (by omega) (by omega) (by omega) (by omega)
  have e0 : H 0 = N 0 := l1 0 (by omega) (by omega) (by omega) (by omega)
  have el : ∀ l, lw6 H nm c l = lw6 N nm c l := fun l => by rw [lw6, lw6, nr6_eq (fun a _ _ => l1 a (by omega) (by omega) (by omega) (by omega))]
  refine ⟨⟨?_, ?_, ?_, ?_, by rw [e0]; exact h5, ?_⟩, KP.of (fun a ha => l1 a (by omega) (by omega) (by omega) (by omega))⟩
  · rcases i2 with e | e
    · subst e; exact l3
    · subst e; exact h1.eq (fun a _ _ => l1 a (by omega) (by omega) (by omega) (by omega))
  · rcases i2 with e | e
    · subst e; rw [l2]; exact h2
    · subst e; rw [l1 37 (by omega) (by omega) (by omega) (by omega)]; exact h2
  · rcases i2 with e | e
    · subst e; exact h3.eq (fun a _ _ => l1 a (by omega) (by omega) (by omega) (by omega))
    · subst e; exact l3
  · rcases i2 with e | e
    · subst e; rw [l1 41 (by omega) (by omega) (by omega) (by omega)]; exact h4
    · subst e; rw [l2]; exact h4
  · rw [e0, e48]; intro h0 l hl; rw [el]; exact h6 h0 l hl
def q_m6 (ad : Nat → Nat) (N : Nat → Nat → Nat) (L : Nat → Nat → Int) (G : Nat → Nat → Option Nat) (nm c : Nat) (x : Option Value) : Option Value → q_H → Prop := fun v h => v = x ∧ ∃ H, h = (LT ad, H, L, G) ∧ KP N H ∧ MI H nm c
section
variable {Γ : q_G} {ad : Nat → Nat} {N : Nat → Nat → Nat} {L : Nat → Nat → Int} {G : Nat → Nat → Option Nat}
theorem k_sure6 {Y : Nat} {s : Nat} {nm nw c : Nat} {Rl : Nat → Nat → Bool} (hG : GF ad G) (hX : CX ad G N nm nw c Rl) (hsd : can6 N nm nw c Rl (N nw 6) = s) (hI : MI N nm c) (hYY : Y < 4294967296) : q_Con Γ mX6_sure 5 0 0 [.ref (ad 0), .int (nI Y)] (LT ad, N, L, G) (q_m6 ad N L G nm c (some (.int (nI (srv Rl c Y s))))) := by
  obtain ⟨hnm, hnw, hv5, hv6, hN, hM, hnr⟩ := id hX
  have hc : N nm 0 = c := hN.1
  have hc9 : c ≤ 9 := hN.2.1
  obtain ⟨hkd, hms, hpr, hpf, hps, hg9, hgn, hga, hh6, hhp, hhl, hhi, hod, ho1⟩ := id hM
  have hs9 : s < 512 := hsd ▸ can_lt hc9
  have hsc : s < 2 ^ c := hsd ▸ mk_lt _ c
  obtain ⟨w1, w2, w3, w4, w5, w6⟩ := id hI
  have hw : nw = 9 ∨ nw = 24 ∨ nw = 51 ∨ nw = 60 := hnw
  refine q_con (by decide) rfl rfl (Nat.le_of_ble_eq_true rfl) ?_
  refine q_iload_n 1 rfl rfl dX6_sure_0 ?_
  refine q_iconst 2 rfl 0 k_i0 dX6_sure_1 ?_
  refine q_iconst 3 rfl 1 k_i1 dX6_sure_2 ?_
  refine q_cS3 6 rfl lX6_87 (k_within hYY (by omega) (by omega)) rfl rfl rfl dX6_sure_3 ?_
  refine q_if_neD 9 rfl 11 (by decide) dX6_sure_6 (fun h6 => ?_) (fun h6 => ?_)
  · refine q_aload_n 12 rfl rfl dX6_sure_11 ?_
    refine q_cV0 15 rfl lX6_183 (k_possS hG hX hsd) rfl 0 t_0 rfl rfl rfl dX6_sure_12 ?_
    refine q_istore_n 16 rfl (by decide) dX6_sure_15 ?_
    refine q_iload_n 17 rfl rfl dX6_sure_16 ?_
    refine q_if_ne 20 rfl 23 (by decide) (by omega) dX6_sure_17 (fun h17 => ?_) (fun h17 => ?_)
    · refine q_aload_n 24 rfl rfl dX6_sure_23 ?_
      refine q_getR 27 rfl fX6_63 rfl 0 t_0 (g_0_13 hG) dX6_sure_24 ?_
      refine q_aload_n 28 rfl rfl dX6_sure_27 ?_
      refine q_getR 31 rfl fX6_54 rfl 0 t_0 (g_0_12 hG) dX6_sure_28 ?_
      refine q_aload_n 32 rfl rfl dX6_sure_31 ?_
      refine q_getR 35 rfl fX6_30 rfl 0 t_0 hv6 dX6_sure_32 ?_
      refine q_getR 38 rfl fX6_134 rfl nw (tM hnw) (gM_0 hnw hG) dX6_sure_35 ?_
      refine q_aload_n 39 rfl rfl dX6_sure_38 ?_
      refine q_getR 42 rfl fX6_23 rfl 0 t_0 hv5 dX6_sure_39 ?_
      refine q_getI 45 rfl fX6_115 rfl nm (tN hnm) dX6_sure_42 ?_
      rw [hc]
      refine q_iload_n 46 rfl rfl dX6_sure_45 ?_
      refine q_cV4q 49 rfl lX6_221 (k_leastCost (Rl := Rl) (r := 36) (t := nw + 1) hG (Or.inl rfl) t_36 (tM1 hnw) (by omega) hc9 hsc hnr (fun n hn => hod n (by omega)) w1) rfl 37 t_37 rfl rfl rfl dX6_sure_46 ?_
      rintro v h ⟨rfl, H, rfl, hL⟩
      obtain ⟨hI2, hK2⟩ := MI.lc hI hnm (Or.inl rfl) hL
      have hf : s ≠ 0 → H 37 6 = (amin (fv Rl c s) 1048576 c).2 := fun z => by rw [hL.2.2.2 z, w2, vK_0]
      rw [w2, cK_0]
      refine q_istore_n 50 rfl (by decide) dX6_sure_49 ?_
      refine q_iload_n 51 rfl rfl dX6_sure_50 ?_
      refine q_if_ne 54 rfl 58 (by decide) (by omega) dX6_sure_51 (fun h51 => ?_) (fun h51 => ?_)
      · refine q_aload_n 59 rfl rfl dX6_sure_58 ?_
        refine q_getR 62 rfl fX6_63 rfl 0 t_0 (g_0_13 hG) dX6_sure_59 ?_
        refine q_getI 65 rfl fX6_225 rfl 37 t_37 dX6_sure_62 ?_
        rw [hf (by assumption)]
        refine q_iret rfl dX6_sure_65 ?_
        first
          | (refine ⟨?_, _, rfl, KP.rf, hI⟩; rw [srv, if_neg (by omega)]; done)
          | (refine ⟨?_, _, rfl, KP.rf, hI⟩; rw [srv, if_pos (by omega), if_pos (by assumption)]; done)
          | (refine ⟨?_, _, rfl, hK2, hI2⟩; rw [srv, if_pos (by omega), if_neg (by assumption), if_pos (by assumption)]; done)
          | (refine ⟨?_, _, rfl, hK2, hI2⟩; rw [srv, if_pos (by omega), if_neg (by assumption), if_neg (by assumption)])
      · refine q_iload_n 55 rfl rfl dX6_sure_54 ?_
        refine q_goto 65 (by decide) dX6_sure_55 ?_
        refine q_iret rfl dX6_sure_65 ?_
        first
          | (refine ⟨?_, _, rfl, KP.rf, hI⟩; rw [srv, if_neg (by omega)]; done)
          | (refine ⟨?_, _, rfl, KP.rf, hI⟩; rw [srv, if_pos (by omega), if_pos (by assumption)]; done)
          | (refine ⟨?_, _, rfl, hK2, hI2⟩; rw [srv, if_pos (by omega), if_neg (by assumption), if_pos (by assumption)]; done)
          | (refine ⟨?_, _, rfl, hK2, hI2⟩; rw [srv, if_pos (by omega), if_neg (by assumption), if_neg (by assumption)])
    · refine q_bipush 22 rfl 4294967294 k_bm2 dX6_sure_20 ?_
      refine q_iret rfl dX6_sure_22 ?_
      first
        | (refine ⟨?_, _, rfl, KP.rf, hI⟩; rw [srv, if_neg (by omega)]; done)
        | (refine ⟨?_, _, rfl, KP.rf, hI⟩; rw [srv, if_pos (by omega), if_pos (by assumption)]; done)
        | (refine ⟨?_, _, rfl, hK2, hI2⟩; rw [srv, if_pos (by omega), if_neg (by assumption), if_pos (by assumption)]; done)
        | (refine ⟨?_, _, rfl, hK2, hI2⟩; rw [srv, if_pos (by omega), if_neg (by assumption), if_neg (by assumption)])
  · refine q_iconst 10 rfl 4294967295 k_im1 dX6_sure_9 ?_
    refine q_iret rfl dX6_sure_10 ?_
    first
      | (refine ⟨?_, _, rfl, KP.rf, hI⟩; rw [srv, if_neg (by omega)]; done)
      | (refine ⟨?_, _, rfl, KP.rf, hI⟩; rw [srv, if_pos (by omega), if_pos (by assumption)]; done)
      | (refine ⟨?_, _, rfl, hK2, hI2⟩; rw [srv, if_pos (by omega), if_neg (by assumption), if_pos (by assumption)]; done)
      | (refine ⟨?_, _, rfl, hK2, hI2⟩; rw [srv, if_pos (by omega), if_neg (by assumption), if_neg (by assumption)])
theorem k_mean6 {Y : Nat} {s : Nat} {nm nw c : Nat} {Rl : Nat → Nat → Bool} (hG : GF ad G) (hX : CX ad G N nm nw c Rl) (hsd : can6 N nm nw c Rl (N nw 6) = s) (hI : MI N nm c) (hYY : Y < 4294967296) : q_Con Γ mX6_mean 5 0 0 [.ref (ad 0), .int (nI Y)] (LT ad, N, L, G) (q_m6 ad N L G nm c (some (.long (lZ (mnv Rl c (N (nw + 1)) Y s))))) := by
  obtain ⟨hnm, hnw, hv5, hv6, hN, hM, hnr⟩ := id hX
  have hc : N nm 0 = c := hN.1
  have hc9 : c ≤ 9 := hN.2.1
  obtain ⟨hkd, hms, hpr, hpf, hps, hg9, hgn, hga, hh6, hhp, hhl, hhi, hod, ho1⟩ := id hM
  have hs9 : s < 512 := hsd ▸ can_lt hc9
  have hsc : s < 2 ^ c := hsd ▸ mk_lt _ c
  obtain ⟨w1, w2, w3, w4, w5, w6⟩ := id hI
  have hw : nw = 9 ∨ nw = 24 ∨ nw = 51 ∨ nw = 60 := hnw
  refine q_con (by decide) rfl rfl (Nat.le_of_ble_eq_true rfl) ?_
  refine q_iload_n 1 rfl rfl dX6_mean_0 ?_
  refine q_iconst 2 rfl 0 k_i0 dX6_mean_1 ?_
  refine q_iconst 3 rfl 2 k_i2 dX6_mean_2 ?_
  refine q_cS3 6 rfl lX6_87 (k_within hYY (by omega) (by omega)) rfl rfl rfl dX6_mean_3 ?_
  refine q_if_neD 9 rfl 13 (by decide) dX6_mean_6 (fun h6 => ?_) (fun h6 => ?_)
  · refine q_aload_n 14 rfl rfl dX6_mean_13 ?_
    refine q_cV0 17 rfl lX6_183 (k_possS hG hX hsd) rfl 0 t_0 rfl rfl rfl dX6_mean_14 ?_
    refine q_istore_n 18 rfl (by decide) dX6_mean_17 ?_
    refine q_iload_n 19 rfl rfl dX6_mean_18 ?_
    refine q_if_ne 22 rfl 26 (by decide) (by omega) dX6_mean_19 (fun h19 => ?_) (fun h19 => ?_)
    · refine q_aload_n 27 rfl rfl dX6_mean_26 ?_
      refine q_getR 30 rfl fX6_67 rfl 0 t_0 (g_0_14 hG) dX6_mean_27 ?_
      refine q_aload_n 31 rfl rfl dX6_mean_30 ?_
      refine q_getR 34 rfl fX6_54 rfl 0 t_0 (g_0_12 hG) dX6_mean_31 ?_
      refine q_aload_n 35 rfl rfl dX6_mean_34 ?_
      refine q_getR 38 rfl fX6_30 rfl 0 t_0 hv6 dX6_mean_35 ?_
      refine q_getR 41 rfl fX6_134 rfl nw (tM hnw) (gM_0 hnw hG) dX6_mean_38 ?_
      refine q_aload_n 42 rfl rfl dX6_mean_41 ?_
      refine q_getR 45 rfl fX6_23 rfl 0 t_0 hv5 dX6_mean_42 ?_
      refine q_getI 48 rfl fX6_115 rfl nm (tN hnm) dX6_mean_45 ?_
      rw [hc]
      refine q_iload_n 49 rfl rfl dX6_mean_48 ?_
      refine q_cV4q 52 rfl lX6_221 (k_leastCost (Rl := Rl) (r := 36) (t := nw + 1) hG (Or.inr rfl) t_36 (tM1 hnw) (by omega) hc9 hsc hnr (fun n hn => hod n (by omega)) w3) rfl 41 t_41 rfl rfl rfl dX6_mean_49 ?_
      rintro v h ⟨rfl, H, rfl, hL⟩
      obtain ⟨hI2, hK2⟩ := MI.lc hI hnm (Or.inr rfl) hL
      have hX2 := hK2.cx hX
      have eo : H (nw + 1) = N (nw + 1) := hK2.1 _ (by omega) (by omega)
      have hf : s ≠ 0 → H 41 6 = (amin (sv Rl c (N (nw + 1)) s) 1048576 c).2 := fun z => by rw [hL.2.2.2 z, w4, vK_1]
      have f5 := sm_le (Rl := Rl) (od := N (nw + 1)) hc9 hod hsc
      have r4 := ods_81 (s := s) (od := N (nw + 1)) hc9 hod
      have r5 := amin_which (sv Rl c (N (nw + 1)) s) 1048576 c
      rw [w4, cK_1]
      refine q_istore_n 53 rfl (by decide) dX6_mean_52 ?_
      refine q_iload_n 54 rfl rfl dX6_mean_53 ?_
      refine q_iconst 55 rfl 2 k_i2 dX6_mean_54 ?_
      refine q_icmp_ne 58 rfl 69 (by decide) (by omega) (by omega) dX6_mean_55 (fun h55 => ?_) (fun h55 => ?_)
      · refine q_iload_n 70 rfl rfl dX6_mean_69 ?_
        refine q_aload_n 71 rfl rfl dX6_mean_70 ?_
        refine q_iload_n 72 rfl rfl dX6_mean_71 ?_
        refine q_cV1 75 rfl lX6_191 (k_oddsOf (N := H) hG hX2 (by omega)) rfl 0 t_0 rfl rfl rfl dX6_mean_72 ?_
        rw [eo]
        refine q_iload_n 76 rfl rfl dX6_mean_75 ?_
        refine q_cS3 79 rfl lX6_195 (k_frac (by omega) (ods_pos (by assumption) hsc ho1) (by omega) hYY) rfl rfl rfl dX6_mean_76 ?_
        refine q_lret rfl dX6_mean_79 ?_
        first
          | (refine ⟨?_, _, rfl, KP.rf, hI⟩; rw [mnv, if_neg (by omega)]; done)
          | (refine ⟨?_, _, rfl, KP.rf, hI⟩; rw [mnv, if_pos (by omega), if_pos (by assumption)]; done)
          | (refine ⟨?_, _, rfl, hK2, hI2⟩; rw [mnv, if_pos (show Y ≤ 2 by omega), if_neg (show ¬ s = 0 by assumption), if_pos (show Y = 2 by omega)]; done)
          | (refine ⟨?_, _, rfl, hK2, hI2⟩; rw [mnv, if_pos (show Y ≤ 2 by omega), if_neg (show ¬ s = 0 by assumption), if_neg (show ¬ Y = 2 by omega)])
      · refine q_aload_n 59 rfl rfl dX6_mean_58 ?_
        refine q_getR 62 rfl fX6_67 rfl 0 t_0 (g_0_14 hG) dX6_mean_59 ?_
        refine q_getI 65 rfl fX6_225 rfl 41 t_41 dX6_mean_62 ?_
        rw [hf (by assumption)]
        refine q_i2l 66 rfl dX6_mean_65 ?_
        rw [z_s_lo (by have := r5 (sm_amin hc9 hod (by assumption) hsc).1; omega)]
        refine q_goto 79 (by decide) dX6_mean_66 ?_
        refine q_lret rfl dX6_mean_79 ?_
        first
          | (refine ⟨?_, _, rfl, KP.rf, hI⟩; rw [mnv, if_neg (by omega)]; done)
          | (refine ⟨?_, _, rfl, KP.rf, hI⟩; rw [mnv, if_pos (by omega), if_pos (by assumption)]; done)
          | (refine ⟨?_, _, rfl, hK2, hI2⟩; rw [mnv, if_pos (show Y ≤ 2 by omega), if_neg (show ¬ s = 0 by assumption), if_pos (show Y = 2 by omega)]; done)
          | (refine ⟨?_, _, rfl, hK2, hI2⟩; rw [mnv, if_pos (show Y ≤ 2 by omega), if_neg (show ¬ s = 0 by assumption), if_neg (show ¬ Y = 2 by omega)])
    · refine q_ldc2 25 rfl (-2) klX6_189 rfl dX6_mean_22 ?_
      refine q_lret rfl dX6_mean_25 ?_
      first
        | (refine ⟨?_, _, rfl, KP.rf, hI⟩; rw [mnv, if_neg (by omega)]; done)
        | (refine ⟨?_, _, rfl, KP.rf, hI⟩; rw [mnv, if_pos (by omega), if_pos (by assumption)]; done)
        | (refine ⟨?_, _, rfl, hK2, hI2⟩; rw [mnv, if_pos (show Y ≤ 2 by omega), if_neg (show ¬ s = 0 by assumption), if_pos (show Y = 2 by omega)]; done)
        | (refine ⟨?_, _, rfl, hK2, hI2⟩; rw [mnv, if_pos (show Y ≤ 2 by omega), if_neg (show ¬ s = 0 by assumption), if_neg (show ¬ Y = 2 by omega)])
  · refine q_ldc2 12 rfl (-1) klX6_187 rfl dX6_mean_9 ?_
    refine q_lret rfl dX6_mean_12 ?_
    first
      | (refine ⟨?_, _, rfl, KP.rf, hI⟩; rw [mnv, if_neg (by omega)]; done)
      | (refine ⟨?_, _, rfl, KP.rf, hI⟩; rw [mnv, if_pos (by omega), if_pos (by assumption)]; done)
      | (refine ⟨?_, _, rfl, hK2, hI2⟩; rw [mnv, if_pos (show Y ≤ 2 by omega), if_neg (show ¬ s = 0 by assumption), if_pos (show Y = 2 by omega)]; done)
      | (refine ⟨?_, _, rfl, hK2, hI2⟩; rw [mnv, if_pos (show Y ≤ 2 by omega), if_neg (show ¬ s = 0 by assumption), if_neg (show ¬ Y = 2 by omega)])
end
