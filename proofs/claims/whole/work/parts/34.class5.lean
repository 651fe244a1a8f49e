def wpc (a b : Nat) : Nat := 26 * min a b + max a b
def wpF (mx : Nat → Nat → Bool) (lt wl : Nat → Nat) : Nat → Nat
  | 0 => 0
  | k + 1 => if wpF mx lt wl k = 4294967295 then 4294967295 else if mx (lt k) (wl k) = true then wpF mx lt wl k else if wpF mx lt wl k ≠ 0 ∧ wpF mx lt wl k ≠ wpc (lt k) (wl k) then 4294967295 else wpc (lt k) (wl k)
/-- 0 if a name can be meant, else the one pair that it wants, or BAD -/
def wpv (mx : Nat → Nat → Bool) (len : Nat) (lt : Nat → Nat) (wr : Nat) (wl : Nat → Nat) : Nat := if len = wr then wpF mx lt wl wr else 4294967295
theorem wpF_bad {mx : Nat → Nat → Bool} {lt wl : Nat → Nat} {j k : Nat} (h : j ≤ k) (hb : wpF mx lt wl j = 4294967295) : wpF mx lt wl k = 4294967295 := by
  induction k with
  | zero => have : j = 0 := by omega
            subst this; exact hb
  | succ k ih =>
    by_cases e : j = k + 1
    · rw [← e]; exact hb
    · simp only [wpF]; rw [if_pos (ih (by omega))]
theorem wpc_le {a b : Nat} (ha : a < 26) (hb : b < 26) : wpc a b ≤ 675 := by unfold wpc; omega
theorem wpF_le {mx : Nat → Nat → Bool} {lt wl : Nat → Nat} (k : Nat) (h1 : ∀ i, i < k → lt i < 26) (h2 : ∀ i, i < k → wl i < 26) : wpF mx lt wl k ≤ 675 ∨ wpF mx lt wl k = 4294967295 := by
  induction k with
  | zero => exact .inl (Nat.zero_le _)
  | succ k ih =>
    have := ih (fun i hi => h1 i (by omega)) (fun i hi => h2 i (by omega))
    have hc := wpc_le (h1 k (by omega)) (h2 k (by omega))
    simp only [wpF]
    split
    · exact .inr rfl
    · split
      · exact this
      · split
        · exact .inr rfl
        · exact .inl hc
theorem anw_split {p : Nat → Bool} {c i : Nat} (hi : i < c) (h : p i = true) : anw p c = true := by
  induction c with
  | zero => omega
  | succ c ih =>
    simp only [anw]
    by_cases e : i = c
    · rw [← e, h, Bool.or_true]
    · rw [ih (by omega), Bool.true_or]
section
variable {Γ : q_G} {ad : Nat → Nat} {N : Nat → Nat → Nat} {L : Nat → Nat → Int} {G : Nat → Nat → Option Nat}
theorem taken_lp {rm : Room} {a b : Nat} {nm nw c : Nat} {Rl : Nat → Nat → Bool} (hG : GF ad G) (hX : CX ad G N nm nw c Rl) (ha : a < 26) (hb : b < 26)  : ∀ i, i ≤ N nw 3 → anw (mxp (N (nw + 2)) (N (nw + 3)) a b) i = false →  q_R Γ mX6_takenForOneAnother rm (q_Z Γ (q_is (some (.int (nI (anw (mxp (N (nw + 2)) (N (nw + 3)) a b) (N nw 3)).toNat))) (LT ad, N, L, G)) 0 0) 0 0 2 [(0, .ref (ad 0)), (1, .int (nI a)), (2, .int (nI b)), (3, .int (nI i))] [] (LT ad, N, L, G) := by
  refine dn_loop (N nw 3) ?_ ?_
  · intro h_ex 
    obtain ⟨hnm, hnw, hv5, hv6, hN, hM, hnr⟩ := id hX
    have hc : N nm 0 = c := hN.1
    have hc9 : c ≤ 9 := hN.2.1
    obtain ⟨hkd, hms, hpr, hpf, hps, hg9, hgn, hga, hh6, hhp, hhl, hhi, hod, ho1⟩ := id hM
    refine q_iload_n 3 rfl rfl dX6_takenForOneAnother_2 ?_
    refine q_aload_n 4 rfl rfl dX6_takenForOneAnother_3 ?_
    refine q_getR 7 rfl fX6_30 rfl 0 t_0 hv6 dX6_takenForOneAnother_4 ?_
    refine q_getI 10 rfl fX6_124 rfl nw (tM hnw) dX6_takenForOneAnother_7 ?_
    refine q_icmp_ge 13 rfl 67 (by decide) (by omega) (by omega) dX6_takenForOneAnother_10 (fun h10 => ?_) (fun h10 => ?_)
    · refine q_iconst 68 rfl 0 k_i0 dX6_takenForOneAnother_67 ?_
      refine q_zret rfl (by first | exact q_n0 | exact q_n1 | exact q_nb _) dX6_takenForOneAnother_68 ?_
      rw [h_ex]; exact ⟨rfl, rfl⟩
    · exfalso; omega
  · intro i h_i ih h_ex 
    obtain ⟨hnm, hnw, hv5, hv6, hN, hM, hnr⟩ := id hX
    have hc : N nm 0 = c := hN.1
    have hc9 : c ≤ 9 := hN.2.1
    obtain ⟨hkd, hms, hpr, hpf, hps, hg9, hgn, hga, hh6, hhp, hhl, hhi, hod, ho1⟩ := id hM
    have b1 := hpf i (by omega)
    have b2 := hps i (by omega)
    have el : anw (mxp (N (nw + 2)) (N (nw + 3)) a b) (i + 1) = (anw (mxp (N (nw + 2)) (N (nw + 3)) a b) i || mxp (N (nw + 2)) (N (nw + 3)) a b i) := rfl
    refine q_iload_n 3 rfl rfl dX6_takenForOneAnother_2 ?_
    refine q_aload_n 4 rfl rfl dX6_takenForOneAnother_3 ?_
    refine q_getR 7 rfl fX6_30 rfl 0 t_0 hv6 dX6_takenForOneAnother_4 ?_
    refine q_getI 10 rfl fX6_124 rfl nw (tM hnw) dX6_takenForOneAnother_7 ?_
    refine q_icmp_ge 13 rfl 67 (by decide) (by omega) (by omega) dX6_takenForOneAnother_10 (fun h10 => ?_) (fun h10 => ?_)
    · exfalso; omega
    · refine q_aload_n 14 rfl rfl dX6_takenForOneAnother_13 ?_
      refine q_getR 17 rfl fX6_30 rfl 0 t_0 hv6 dX6_takenForOneAnother_14 ?_
      refine q_getR 20 rfl fX6_147 rfl nw (tM hnw) (gM_4 hnw hG) dX6_takenForOneAnother_17 ?_
      refine q_iload_n 21 rfl rfl dX6_takenForOneAnother_20 ?_
      refine q_iald 22 rfl (nw + 2) (tM2 hnw) (by omega) (by decide) dX6_takenForOneAnother_21 ?_
      refine q_istore 24 rfl (by decide) dX6_takenForOneAnother_22 ?_
      refine q_aload_n 25 rfl rfl dX6_takenForOneAnother_24 ?_
      refine q_getR 28 rfl fX6_30 rfl 0 t_0 hv6 dX6_takenForOneAnother_25 ?_
      refine q_getR 31 rfl fX6_150 rfl nw (tM hnw) (gM_5 hnw hG) dX6_takenForOneAnother_28 ?_
      refine q_iload_n 32 rfl rfl dX6_takenForOneAnother_31 ?_
      refine q_iald 33 rfl (nw + 3) (tM3 hnw) (by omega) (by decide) dX6_takenForOneAnother_32 ?_
      refine q_istore 35 rfl (by decide) dX6_takenForOneAnother_33 ?_
      refine q_iload 37 rfl rfl dX6_takenForOneAnother_35 ?_
      refine q_iload_n 38 rfl rfl dX6_takenForOneAnother_37 ?_
      refine q_icmp_ne 41 rfl 47 (by decide) (by omega) (by omega) dX6_takenForOneAnother_38 (fun h38 => ?_) (fun h38 => ?_)
      · refine q_iload 49 rfl rfl dX6_takenForOneAnother_47 ?_
        refine q_iload_n 50 rfl rfl dX6_takenForOneAnother_49 ?_
        refine q_icmp_ne 53 rfl 61 (by decide) (by omega) (by omega) dX6_takenForOneAnother_50 (fun h50 => ?_) (fun h50 => ?_)
        · refine q_iinc1 64 rfl 1 k_i1 rfl (by decide) dX6_takenForOneAnother_61 ?_
          refine q_goto 2 (by decide) dX6_takenForOneAnother_64 ?_
          refine q_loc (ih ?_) (q_sub1 rfl (q_sub1 rfl (q_sub1 rfl (q_sub1 rfl q_sub0))))
          rw [el, h_ex, Bool.false_or]
          exact decide_eq_false (by omega)
        · refine q_iload 55 rfl rfl dX6_takenForOneAnother_53 ?_
          refine q_iload_n 56 rfl rfl dX6_takenForOneAnother_55 ?_
          refine q_icmp_ne 59 rfl 61 (by decide) (by omega) (by omega) dX6_takenForOneAnother_56 (fun h56 => ?_) (fun h56 => ?_)
          · refine q_iinc1 64 rfl 1 k_i1 rfl (by decide) dX6_takenForOneAnother_61 ?_
            refine q_goto 2 (by decide) dX6_takenForOneAnother_64 ?_
            refine q_loc (ih ?_) (q_sub1 rfl (q_sub1 rfl (q_sub1 rfl (q_sub1 rfl q_sub0))))
            rw [el, h_ex, Bool.false_or]
            exact decide_eq_false (by omega)
          · refine q_iconst 60 rfl 1 k_i1 dX6_takenForOneAnother_59 ?_
            refine q_zret rfl (by first | exact q_n0 | exact q_n1 | exact q_nb _) dX6_takenForOneAnother_60 ?_
            rw [anw_split h_i (decide_eq_true (by omega))]; exact ⟨rfl, rfl⟩
      · refine q_iload 43 rfl rfl dX6_takenForOneAnother_41 ?_
        refine q_iload_n 44 rfl rfl dX6_takenForOneAnother_43 ?_
        refine q_icmp_eq 47 rfl 59 (by decide) (by omega) (by omega) dX6_takenForOneAnother_44 (fun h44 => ?_) (fun h44 => ?_)
        · refine q_iconst 60 rfl 1 k_i1 dX6_takenForOneAnother_59 ?_
          refine q_zret rfl (by first | exact q_n0 | exact q_n1 | exact q_nb _) dX6_takenForOneAnother_60 ?_
          rw [anw_split h_i (decide_eq_true (by omega))]; exact ⟨rfl, rfl⟩
        · refine q_iload 49 rfl rfl dX6_takenForOneAnother_47 ?_
          refine q_iload_n 50 rfl rfl dX6_takenForOneAnother_49 ?_
          refine q_icmp_ne 53 rfl 61 (by decide) (by omega) (by omega) dX6_takenForOneAnother_50 (fun h50 => ?_) (fun h50 => ?_)
          · refine q_iinc1 64 rfl 1 k_i1 rfl (by decide) dX6_takenForOneAnother_61 ?_
            refine q_goto 2 (by decide) dX6_takenForOneAnother_64 ?_
            refine q_loc (ih ?_) (q_sub1 rfl (q_sub1 rfl (q_sub1 rfl (q_sub1 rfl q_sub0))))
            rw [el, h_ex, Bool.false_or]
            exact decide_eq_false (by omega)
          · refine q_iload 55 rfl rfl dX6_takenForOneAnother_53 ?_
            refine q_iload_n 56 rfl rfl dX6_takenForOneAnother_55 ?_
            refine q_icmp_ne 59 rfl 61 (by decide) (by omega) (by omega) dX6_takenForOneAnother_56 (fun h56 => ?_) (fun h56 => ?_)
            · refine q_iinc1 64 rfl 1 k_i1 rfl (by decide) dX6_takenForOneAnother_61 ?_
              refine q_goto 2 (by decide) dX6_takenForOneAnother_64 ?_
              refine q_loc (ih ?_) (q_sub1 rfl (q_sub1 rfl (q_sub1 rfl (q_sub1 rfl q_sub0))))
              rw [el, h_ex, Bool.false_or]
              exact decide_eq_false (by omega)
            · refine q_iconst 60 rfl 1 k_i1 dX6_takenForOneAnother_59 ?_
              refine q_zret rfl (by first | exact q_n0 | exact q_n1 | exact q_nb _) dX6_takenForOneAnother_60 ?_
              rw [anw_split h_i (decide_eq_true (by omega))]; exact ⟨rfl, rfl⟩
theorem k_taken {a b : Nat} {nm nw c : Nat} {Rl : Nat → Nat → Bool} (hG : GF ad G) (hX : CX ad G N nm nw c Rl) (ha : a < 26) (hb : b < 26) : q_Con Γ mX6_takenForOneAnother 0 0 0 [.ref (ad 0), .int (nI a), .int (nI b)] (LT ad, N, L, G) (q_is (some (.int (nI ((anw (mxp (N (nw + 2)) (N (nw + 3)) a b) (N nw 3)).toNat)))) (LT ad, N, L, G)) := by
  refine q_con (by decide) rfl rfl (Nat.le_of_ble_eq_true rfl) ?_
  refine q_iconst 1 rfl 0 k_i0 dX6_takenForOneAnother_0 ?_
  refine q_istore_n 2 rfl (by decide) dX6_takenForOneAnother_1 ?_
  exact q_loc (taken_lp (Rl := Rl) (nm := nm) (nw := nw) (c := c) hG hX ha hb 0 (by omega) rfl) (q_sub1 rfl (q_sub1 rfl (q_sub1 rfl (q_sub1 rfl q_sub0))))
abbrev mx6 (N : Nat → Nat → Nat) (nw a b : Nat) : Bool := mxd (N (nw + 2)) (N (nw + 3)) (N nw 3) a b
abbrev wp6 (N : Nat → Nat → Nat) (nm nw n : Nat) : Nat := wpv (mx6 N nw) (N (nm + 1) n) (lt6 N nm n) (N nm 5) (N (nm + 5))
theorem want_lp  {n mc mz : Nat} {nm nw c : Nat} {Rl : Nat → Nat → Bool} (hG : GF ad G) (hX : CX ad G N nm nw c Rl) (hn : n < 9)  : ∀ i, i ≤ N nm 5 → wpF (mx6 N nw) (lt6 N nm n) (N (nm + 5)) i ≠ 4294967295 →  ∀ w : Nat, w = wpF (mx6 N nw) (lt6 N nm n) (N (nm + 5)) i → q_R Γ mX6_wantedPair (q_room 1 mc mz) (q_Z Γ (q_is (some (.int (nI (wpF (mx6 N nw) (lt6 N nm n) (N (nm + 5)) (N nm 5))))) (LT ad, N, L, G)) 0 0) 0 0 25 [(0, .ref (ad 0)), (1, .int (nI n)), (2, .int (nI w)), (3, .int (nI i))] [] (LT ad, N, L, G) := by
  refine dn_loop (N nm 5) ?_ ?_
  · intro h_ex w h_w
    obtain ⟨hnm, hnw, hv5, hv6, hN, hM, hnr⟩ := id hX
    have hc : N nm 0 = c := hN.1
    have hc9 : c ≤ 9 := hN.2.1
    obtain ⟨-, -, hl, hb26, hls, hvw, hwr, hwl⟩ := id hN
    refine q_iload_n 26 rfl rfl dX6_wantedPair_25 ?_
    refine q_aload_n 27 rfl rfl dX6_wantedPair_26 ?_
    refine q_getR 30 rfl fX6_23 rfl 0 t_0 hv5 dX6_wantedPair_27 ?_
    refine q_getI 33 rfl fX6_127 rfl nm (tN hnm) dX6_wantedPair_30 ?_
    refine q_icmp_ge 36 rfl 116 (by decide) (by omega) (by omega) dX6_wantedPair_33 (fun h33 => ?_) (fun h33 => ?_)
    · refine q_iload_n 117 rfl rfl dX6_wantedPair_116 ?_
      refine q_iret rfl dX6_wantedPair_117 ?_
      rw [h_w]; exact ⟨rfl, rfl⟩
    · exfalso; omega
  · intro i h_i ih h_ex w h_w
    obtain ⟨hnm, hnw, hv5, hv6, hN, hM, hnr⟩ := id hX
    have hc : N nm 0 = c := hN.1
    have hc9 : c ≤ 9 := hN.2.1
    obtain ⟨-, -, hl, hb26, hls, hvw, hwr, hwl⟩ := id hN
    have b1 := hb26 (n * 8 + i) (by omega)
    have b2 := hwl i (by omega)
    have wl0 := wpF_le (mx := mx6 N nw) (lt := lt6 N nm n) (wl := N (nm + 5)) i (fun j hj => hb26 _ (by omega)) (fun j hj => hwl j (by omega))
    have wc := wpc_le b1 b2
    have el : wpF (mx6 N nw) (lt6 N nm n) (N (nm + 5)) (i + 1) = if wpF (mx6 N nw) (lt6 N nm n) (N (nm + 5)) i = 4294967295 then 4294967295 else if mx6 N nw (N (nm + 2) (n * 8 + i)) (N (nm + 5) i) = true then wpF (mx6 N nw) (lt6 N nm n) (N (nm + 5)) i else if wpF (mx6 N nw) (lt6 N nm n) (N (nm + 5)) i ≠ 0 ∧ wpF (mx6 N nw) (lt6 N nm n) (N (nm + 5)) i ≠ wpc (N (nm + 2) (n * 8 + i)) (N (nm + 5) i) then 4294967295 else wpc (N (nm + 2) (n * 8 + i)) (N (nm + 5) i) := rfl
    rw [if_neg h_ex] at el
    rw [← h_w] at el wl0
    refine q_iload_n 26 rfl rfl dX6_wantedPair_25 ?_
    refine q_aload_n 27 rfl rfl dX6_wantedPair_26 ?_
    refine q_getR 30 rfl fX6_23 rfl 0 t_0 hv5 dX6_wantedPair_27 ?_
    refine q_getI 33 rfl fX6_127 rfl nm (tN hnm) dX6_wantedPair_30 ?_
    refine q_icmp_ge 36 rfl 116 (by decide) (by omega) (by omega) dX6_wantedPair_33 (fun h33 => ?_) (fun h33 => ?_)
    · exfalso; omega
    · refine q_aload_n 37 rfl rfl dX6_wantedPair_36 ?_
      refine q_getR 40 rfl fX6_23 rfl 0 t_0 hv5 dX6_wantedPair_37 ?_
      refine q_iload_n 41 rfl rfl dX6_wantedPair_40 ?_
      refine q_iload_n 42 rfl rfl dX6_wantedPair_41 ?_
      refine q_cV2 45 rfl lX6_140 (k_letterAt hG hnm hn (by omega)) rfl nm (tN hnm) rfl rfl rfl dX6_wantedPair_42 ?_
      refine q_istore 47 rfl (by decide) dX6_wantedPair_45 ?_
      refine q_aload_n 48 rfl rfl dX6_wantedPair_47 ?_
      refine q_getR 51 rfl fX6_23 rfl 0 t_0 hv5 dX6_wantedPair_48 ?_
      refine q_getR 54 rfl fX6_144 rfl nm (tN hnm) (gN_6 hnm hG) dX6_wantedPair_51 ?_
      refine q_iload_n 55 rfl rfl dX6_wantedPair_54 ?_
      refine q_iald 56 rfl (nm + 5) (tN5 hnm) (by omega) (by decide) dX6_wantedPair_55 ?_
      refine q_istore 58 rfl (by decide) dX6_wantedPair_56 ?_
      refine q_iload 60 rfl rfl dX6_wantedPair_58 ?_
      refine q_iload 62 rfl rfl dX6_wantedPair_60 ?_
      refine q_icmp_eq 65 rfl 110 (by decide) (by omega) (by omega) dX6_wantedPair_62 (fun h62 => ?_) (fun h62 => ?_)
      · refine q_iinc1 113 rfl 1 k_i1 rfl (by decide) dX6_wantedPair_110 ?_
        refine q_goto 25 (by decide) dX6_wantedPair_113 ?_
        first
          | (have em : mx6 N nw (N (nm + 2) (n * 8 + i)) (N (nm + 5) i) = true := by
               simp only [mx6, mxd]; rw [decide_eq_true (by assumption), Bool.true_or]
             rw [em, if_pos rfl] at el
             exact q_loc (ih (by rw [el, h_w]; exact h_ex) _ el.symm) (q_sub1 rfl (q_sub1 rfl (q_sub1 rfl (q_sub1 rfl q_sub0)))))
          | (have em : mx6 N nw (N (nm + 2) (n * 8 + i)) (N (nm + 5) i) = true := by
               simp only [mx6, mxd]; rw [h73, Bool.or_true]
             rw [em, if_pos rfl] at el
             exact q_loc (ih (by rw [el, h_w]; exact h_ex) _ el.symm) (q_sub1 rfl (q_sub1 rfl (q_sub1 rfl (q_sub1 rfl q_sub0)))))
          | (have em : mx6 N nw (N (nm + 2) (n * 8 + i)) (N (nm + 5) i) = false := by
               simp only [mx6, mxd]; rw [decide_eq_false (by assumption), Bool.false_or]; exact h73
             rw [em, if_neg (by decide), if_neg (by omega)] at el
             exact q_loc (ih (by rw [el]; omega) _ el.symm) (q_sub1 rfl (q_sub1 rfl (q_sub1 rfl (q_sub1 rfl q_sub0)))))
      · refine q_aload_n 66 rfl rfl dX6_wantedPair_65 ?_
        refine q_iload 68 rfl rfl dX6_wantedPair_66 ?_
        refine q_iload 70 rfl rfl dX6_wantedPair_68 ?_
        refine q_cV2 73 rfl lX6_316 (k_taken hG hX b1 b2) rfl 0 t_0 rfl rfl rfl dX6_wantedPair_70 ?_
        refine q_if_neB 76 rfl 110 (by decide) dX6_wantedPair_73 (fun h73 => ?_) (fun h73 => ?_)
        · refine q_iinc1 113 rfl 1 k_i1 rfl (by decide) dX6_wantedPair_110 ?_
          refine q_goto 25 (by decide) dX6_wantedPair_113 ?_
          first
            | (have em : mx6 N nw (N (nm + 2) (n * 8 + i)) (N (nm + 5) i) = true := by
                 simp only [mx6, mxd]; rw [decide_eq_true (by assumption), Bool.true_or]
               rw [em, if_pos rfl] at el
               exact q_loc (ih (by rw [el, h_w]; exact h_ex) _ el.symm) (q_sub1 rfl (q_sub1 rfl (q_sub1 rfl (q_sub1 rfl q_sub0)))))
            | (have em : mx6 N nw (N (nm + 2) (n * 8 + i)) (N (nm + 5) i) = true := by
                 simp only [mx6, mxd]; rw [h73, Bool.or_true]
               rw [em, if_pos rfl] at el
               exact q_loc (ih (by rw [el, h_w]; exact h_ex) _ el.symm) (q_sub1 rfl (q_sub1 rfl (q_sub1 rfl (q_sub1 rfl q_sub0)))))
            | (have em : mx6 N nw (N (nm + 2) (n * 8 + i)) (N (nm + 5) i) = false := by
                 simp only [mx6, mxd]; rw [decide_eq_false (by assumption), Bool.false_or]; exact h73
               rw [em, if_neg (by decide), if_neg (by omega)] at el
               exact q_loc (ih (by rw [el]; omega) _ el.symm) (q_sub1 rfl (q_sub1 rfl (q_sub1 rfl (q_sub1 rfl q_sub0)))))
        · refine q_iload 78 rfl rfl dX6_wantedPair_76 ?_
          refine q_iload 80 rfl rfl dX6_wantedPair_78 ?_
          refine q_mmin 83 rfl (by omega) (by omega) lmX6_319 (by first | decide | exact Nat.le_of_ble_eq_true rfl) (Nat.le_of_ble_eq_true rfl) (by first | decide | exact Nat.zero_le _) (by first | decide | exact Nat.zero_le _) dX6_wantedPair_80 ?_
          refine q_iload 85 rfl rfl dX6_wantedPair_83 ?_
          refine q_iload 87 rfl rfl dX6_wantedPair_85 ?_
          refine q_mmax 90 rfl (by omega) (by omega) lmX6_216 (by first | decide | exact Nat.le_of_ble_eq_true rfl) (Nat.le_of_ble_eq_true rfl) (by first | decide | exact Nat.zero_le _) (by first | decide | exact Nat.zero_le _) dX6_wantedPair_87 ?_
          refine q_cS2 93 rfl lX6_153 (k_pairCode) rfl rfl rfl dX6_wantedPair_90 ?_
          rw [show 26 * min (N (nm + 2) (n * 8 + i)) (N (nm + 5) i) + max (N (nm + 2) (n * 8 + i)) (N (nm + 5) i) = wpc (N (nm + 2) (n * 8 + i)) (N (nm + 5) i) from rfl]
          refine q_istore 95 rfl (by decide) dX6_wantedPair_93 ?_
          refine q_iload_n 96 rfl rfl dX6_wantedPair_95 ?_
          refine q_if_eq 99 rfl 107 (by decide) (by omega) dX6_wantedPair_96 (fun h96 => ?_) (fun h96 => ?_)
          · refine q_iload 109 rfl rfl dX6_wantedPair_107 ?_
            refine q_istore_n 110 rfl (by decide) dX6_wantedPair_109 ?_
            refine q_iinc1 113 rfl 1 k_i1 rfl (by decide) dX6_wantedPair_110 ?_
            refine q_goto 25 (by decide) dX6_wantedPair_113 ?_
            first
              | (have em : mx6 N nw (N (nm + 2) (n * 8 + i)) (N (nm + 5) i) = true := by
                   simp only [mx6, mxd]; rw [decide_eq_true (by assumption), Bool.true_or]
                 rw [em, if_pos rfl] at el
                 exact q_loc (ih (by rw [el, h_w]; exact h_ex) _ el.symm) (q_sub1 rfl (q_sub1 rfl (q_sub1 rfl (q_sub1 rfl q_sub0)))))
              | (have em : mx6 N nw (N (nm + 2) (n * 8 + i)) (N (nm + 5) i) = true := by
                   simp only [mx6, mxd]; rw [h73, Bool.or_true]
                 rw [em, if_pos rfl] at el
                 exact q_loc (ih (by rw [el, h_w]; exact h_ex) _ el.symm) (q_sub1 rfl (q_sub1 rfl (q_sub1 rfl (q_sub1 rfl q_sub0)))))
              | (have em : mx6 N nw (N (nm + 2) (n * 8 + i)) (N (nm + 5) i) = false := by
                   simp only [mx6, mxd]; rw [decide_eq_false (by assumption), Bool.false_or]; exact h73
                 rw [em, if_neg (by decide), if_neg (by omega)] at el
                 exact q_loc (ih (by rw [el]; omega) _ el.symm) (q_sub1 rfl (q_sub1 rfl (q_sub1 rfl (q_sub1 rfl q_sub0)))))
          · refine q_iload_n 100 rfl rfl dX6_wantedPair_99 ?_
            refine q_iload 102 rfl rfl dX6_wantedPair_100 ?_
            refine q_icmp_eq 105 rfl 107 (by decide) (by omega) (by omega) dX6_wantedPair_102 (fun h102 => ?_) (fun h102 => ?_)
            · refine q_iload 109 rfl rfl dX6_wantedPair_107 ?_
              refine q_istore_n 110 rfl (by decide) dX6_wantedPair_109 ?_
              refine q_iinc1 113 rfl 1 k_i1 rfl (by decide) dX6_wantedPair_110 ?_
              refine q_goto 25 (by decide) dX6_wantedPair_113 ?_
              first
                | (have em : mx6 N nw (N (nm + 2) (n * 8 + i)) (N (nm + 5) i) = true := by
                     simp only [mx6, mxd]; rw [decide_eq_true (by assumption), Bool.true_or]
                   rw [em, if_pos rfl] at el
                   exact q_loc (ih (by rw [el, h_w]; exact h_ex) _ el.symm) (q_sub1 rfl (q_sub1 rfl (q_sub1 rfl (q_sub1 rfl q_sub0)))))
                | (have em : mx6 N nw (N (nm + 2) (n * 8 + i)) (N (nm + 5) i) = true := by
                     simp only [mx6, mxd]; rw [h73, Bool.or_true]
                   rw [em, if_pos rfl] at el
                   exact q_loc (ih (by rw [el, h_w]; exact h_ex) _ el.symm) (q_sub1 rfl (q_sub1 rfl (q_sub1 rfl (q_sub1 rfl q_sub0)))))
                | (have em : mx6 N nw (N (nm + 2) (n * 8 + i)) (N (nm + 5) i) = false := by
                     simp only [mx6, mxd]; rw [decide_eq_false (by assumption), Bool.false_or]; exact h73
                   rw [em, if_neg (by decide), if_neg (by omega)] at el
                   exact q_loc (ih (by rw [el]; omega) _ el.symm) (q_sub1 rfl (q_sub1 rfl (q_sub1 rfl (q_sub1 rfl q_sub0)))))
            · refine q_iconst 106 rfl 4294967295 k_im1 dX6_wantedPair_105 ?_
              refine q_iret rfl dX6_wantedPair_106 ?_
              have em : mx6 N nw (N (nm + 2) (n * 8 + i)) (N (nm + 5) i) = false := by
                simp only [mx6, mxd]; rw [decide_eq_false (by assumption), Bool.false_or]; exact h73
              rw [em, if_neg (by decide), if_pos ⟨by assumption, by assumption⟩] at el
              rw [wpF_bad (show i + 1 ≤ N nm 5 by omega) el]; exact ⟨rfl, rfl⟩
theorem k_wanted {n : Nat} {nm nw c : Nat} {Rl : Nat → Nat → Bool} (hG : GF ad G) (hX : CX ad G N nm nw c Rl) (hn : n < 9) : q_Con Γ mX6_wantedPair 1 0 0 [.ref (ad 0), .int (nI n)] (LT ad, N, L, G) (q_is (some (.int (nI (wp6 N nm nw n)))) (LT ad, N, L, G)) := by
  obtain ⟨hnm, hnw, hv5, hv6, hN, hM, hnr⟩ := id hX
  have hc : N nm 0 = c := hN.1
  have hc9 : c ≤ 9 := hN.2.1
  obtain ⟨-, -, hl, hb26, hls, hvw, hwr, hwl⟩ := id hN
  have hl1 := hl n hn
  refine q_con (by decide) rfl rfl (Nat.le_of_ble_eq_true rfl) ?_
  refine q_aload_n 1 rfl rfl dX6_wantedPair_0 ?_
  refine q_getR 4 rfl fX6_23 rfl 0 t_0 hv5 dX6_wantedPair_1 ?_
  refine q_getR 7 rfl fX6_137 rfl nm (tN hnm) (gN_1 hnm hG) dX6_wantedPair_4 ?_
  refine q_iload_n 8 rfl rfl dX6_wantedPair_7 ?_
  refine q_iald 9 rfl (nm + 1) (tN1 hnm) (by omega) (by decide) dX6_wantedPair_8 ?_
  refine q_aload_n 10 rfl rfl dX6_wantedPair_9 ?_
  refine q_getR 13 rfl fX6_23 rfl 0 t_0 hv5 dX6_wantedPair_10 ?_
  refine q_getI 16 rfl fX6_127 rfl nm (tN hnm) dX6_wantedPair_13 ?_
  refine q_icmp_eq 19 rfl 21 (by decide) (by omega) (by omega) dX6_wantedPair_16 (fun h16 => ?_) (fun h16 => ?_)
  · refine q_iconst 22 rfl 0 k_i0 dX6_wantedPair_21 ?_
    refine q_istore_n 23 rfl (by decide) dX6_wantedPair_22 ?_
    refine q_iconst 24 rfl 0 k_i0 dX6_wantedPair_23 ?_
    refine q_istore_n 25 rfl (by decide) dX6_wantedPair_24 ?_
    rw [wp6, wpv, if_pos (by omega)]
    exact q_loc (want_lp (Rl := Rl) (nm := nm) (nw := nw) (c := c) hG hX hn 0 (by omega) (by show (0 : Nat) ≠ _; decide) _ rfl) (q_sub1 rfl (q_sub1 rfl (q_sub1 rfl (q_sub1 rfl q_sub0))))
  · refine q_iconst 20 rfl 4294967295 k_im1 dX6_wantedPair_19 ?_
    refine q_iret rfl dX6_wantedPair_20 ?_
    rw [wp6, wpv, if_neg (by omega)]
    exact ⟨rfl, rfl⟩
end
