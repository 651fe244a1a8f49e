def cuL : List Nat := [0, 4, 8, 12, 16, 23, 28, 32, 37, 42]
def lwL : List Nat := [110, 97, 109, 101, 110, 101, 97, 114, 112, 97, 105, 114, 109, 97, 105, 100, 108, 101, 116, 116, 101, 114, 115, 115, 116, 97, 114, 116, 108, 111, 110, 103, 115, 104, 97, 114, 101, 115, 111, 117, 110, 100]
abbrev cu (i : Nat) : Nat := cuL.getD i 0
abbrev lw (i : Nat) : Nat := lwL.getD i 0
theorem cu_le : ∀ n, n < 9 → cu n ≤ cu (n + 1) ∧ cu (n + 1) ≤ 42 ∧ cu (n + 1) - cu n ≤ 7 := by decide
theorem lw_le : ∀ n, n < 42 → lw n < 128 := by decide
/-- is the word the n-th of the model's words? -/
def wis (t : Nat → Nat) (he k n : Nat) : Bool := decide (k = cu (n + 1) - cu n) && alw (fun i => decide (t (he + i) = lw (cu n + i))) k
def whf (t : Nat → Nat) (he k : Nat) : Nat → Nat → Nat
  | 0, _ => 4294967292
  | r + 1, n => if wis t he k n = true then n else whf t he k r (n + 1)
theorem tld_s {f t : Nat → Nat} {he n k i : Nat} : tld f t he n k (i + 1) = (tld f t he n k i && decide (f (9 * n + 1 + i) = t (he + i) - 97)) := by
  rw [tld, tld, alw, Bool.and_assoc]
theorem tld_no {f t : Nat → Nat} {he n k i j : Nat} (h : tld f t he n k i = false) (hij : i ≤ j) : tld f t he n k j = false := by
  rw [tld] at h ⊢
  cases h1 : decide (f (9 * n) = k) with
  | false => rfl
  | true =>
    rw [h1, Bool.true_and] at h
    rw [Bool.true_and]
    cases h2 : alw (fun i => decide (f (9 * n + 1 + i) = t (he + i) - 97)) j with
    | false => rfl
    | true => rw [alw_le hij h2] at h; cases h
section
variable {Γ : q_G} {ad : Nat → Nat} {N : Nat → Nat → Nat} {L : Nat → Nat → Int} {G : Nat → Nat → Option Nat}
theorem writes_lp {Z : q_Zt} {mc mz : Nat} {r a nl : Nat} {ba sp he tk vl : Nat} (hG : GF ad G) (hl : N 77 10 ≤ 160) (ht : ∀ i, i < 160 → N 84 i < 128) (hs : he ≤ sp) (hsp : sp ≤ N 77 10) (hwd : ∀ i, he ≤ i → i < sp → 97 ≤ N 84 i ∧ N 84 i ≤ 122) (hT : (LT ad)[r]? = some (.inl (0, nl), ad r)) (hr : r ≠ 77) (hr4 : r ≠ 84) (hnl : nl < 1000) (ha : a + (sp - he) < nl) (hx : q_R Γ mX7_writes (q_room 1 mc mz) Z 0 0 61 [] [] (LT ad, (P7 (wrt N r a (N 84) he (sp - he) (sp - he)) 0 ba sp he tk vl), L, G)) : ∀ i, i ≤ sp - he →  ∀ H : Nat → Nat → Nat, H = P7 (wrt N r a (N 84) he (sp - he) i) 0 ba sp he tk vl → q_R Γ mX7_writes (q_room 1 mc mz) Z 0 0 22 [(0, .ref (ad 77)), (1, .ref (ad r)), (2, .int (nI a)), (3, .int (nI i))] [] (LT ad, H, L, G) := by
  refine dn_loop (sp - he) ?_ ?_
  · intro H h_H
    subst h_H
    refine q_iload_n 23 rfl rfl dX7_writes_22 ?_
    refine q_aload_n 24 rfl rfl dX7_writes_23 ?_
    refine q_getI 27 rfl fX7_88 rfl 77 t_77 dX7_writes_24 ?_
    rw [P7_14]
    refine q_aload_n 28 rfl rfl dX7_writes_27 ?_
    refine q_getI 31 rfl fX7_79 rfl 77 t_77 dX7_writes_28 ?_
    rw [P7_15]
    refine q_isub 32 rfl (by omega) dX7_writes_31 ?_
    refine q_icmp_ge 35 rfl 61 (by decide) (by omega) (by omega) dX7_writes_32 (fun h32 => ?_) (fun h32 => ?_)
    · exact q_loc hx q_sub0
    · exfalso; omega
  · intro i h_i ih H h_H
    subst h_H
    have e84 : wrt N r a (N 84) he (sp - he) i 84 = N 84 := q_r_ne (fun q => hr4 q.symm)
    have e77 : wrt N r a (N 84) he (sp - he) i 77 10 = N 77 10 := by unfold wrt; rw [q_r_ne (fun q => hr q.symm)]
    have hw := hwd (he + i) (by omega) (by omega)
    refine q_iload_n 23 rfl rfl dX7_writes_22 ?_
    refine q_aload_n 24 rfl rfl dX7_writes_23 ?_
    refine q_getI 27 rfl fX7_88 rfl 77 t_77 dX7_writes_24 ?_
    rw [P7_14]
    refine q_aload_n 28 rfl rfl dX7_writes_27 ?_
    refine q_getI 31 rfl fX7_79 rfl 77 t_77 dX7_writes_28 ?_
    rw [P7_15]
    refine q_isub 32 rfl (by omega) dX7_writes_31 ?_
    refine q_icmp_ge 35 rfl 61 (by decide) (by omega) (by omega) dX7_writes_32 (fun h32 => ?_) (fun h32 => ?_)
    · exfalso; omega
    · refine q_aload_n 36 rfl rfl dX7_writes_35 ?_
      refine q_iload_n 37 rfl rfl dX7_writes_36 ?_
      refine q_iconst 38 rfl 1 k_i1 dX7_writes_37 ?_
      refine q_iadd 39 rfl dX7_writes_38 ?_
      refine q_iload_n 40 rfl rfl dX7_writes_39 ?_
      refine q_iadd 41 rfl dX7_writes_40 ?_
      refine q_aload_n 42 rfl rfl dX7_writes_41 ?_
      refine q_aload_n 43 rfl rfl dX7_writes_42 ?_
      refine q_getI 46 rfl fX7_79 rfl 77 t_77 dX7_writes_43 ?_
      rw [P7_15]
      refine q_iload_n 47 rfl rfl dX7_writes_46 ?_
      refine q_iadd 48 rfl dX7_writes_47 ?_
      refine q_cV1 51 rfl lX7_91 (k_byteAt hG (by rw [e77]; exact hl) (by omega)) rfl 77 t_77 rfl rfl rfl dX7_writes_48 ?_
      rw [e84, e77, byt, if_pos (by omega)]
      refine q_bipush 53 rfl 97 k_b97 dX7_writes_51 ?_
      refine q_isub 54 rfl (by omega) dX7_writes_53 ?_
      refine q_iast 55 rfl r hT (by omega) (by omega) dX7_writes_54 ?_
      rw [P7_as hr, wrt_s]
      refine q_iinc1 58 rfl 1 k_i1 rfl (by decide) dX7_writes_55 ?_
      refine q_goto 22 (by decide) dX7_writes_58 ?_
      refine q_loc (ih _ ?_) (q_sub1 rfl (q_sub1 rfl (q_sub1 rfl (q_sub1 rfl q_sub0))))
      · rfl
theorem k_writes {r a nl : Nat} {ba sp he tk vl : Nat} (hG : GF ad G) (hl : N 77 10 ≤ 160) (ht : ∀ i, i < 160 → N 84 i < 128) (hs : he ≤ sp) (hsp : sp ≤ N 77 10) (hwd : ∀ i, he ≤ i → i < sp → 97 ≤ N 84 i ∧ N 84 i ≤ 122) (hT : (LT ad)[r]? = some (.inl (0, nl), ad r)) (hr : r ≠ 77) (hr4 : r ≠ 84) (hnl : nl < 1000) (ha : a + (sp - he) < nl) : q_Con Γ mX7_writes 1 0 0 [.ref (ad 77), .ref (ad r), .int (nI a)] (LT ad, P7 N 0 ba sp he tk vl, L, G) (q_is none (LT ad, P7 (wrt N r a (N 84) he (sp - he) (sp - he)) 0 ba sp he tk vl, L, G)) := by
  refine q_con (by decide) rfl rfl (Nat.le_of_ble_eq_true rfl) ?_
  refine q_aload_n 1 rfl rfl dX7_writes_0 ?_
  refine q_getI 4 rfl fX7_76 rfl 77 t_77 dX7_writes_1 ?_
  rw [P7_12]
  refine q_ifN_le 7 rfl 8 (by decide) (by omega) dX7_writes_4 (fun h4 => ?_) (fun h4 => ?_)
  · refine q_aload_n 9 rfl rfl dX7_writes_8 ?_
    refine q_iload_n 10 rfl rfl dX7_writes_9 ?_
    refine q_aload_n 11 rfl rfl dX7_writes_10 ?_
    refine q_getI 14 rfl fX7_88 rfl 77 t_77 dX7_writes_11 ?_
    rw [P7_14]
    refine q_aload_n 15 rfl rfl dX7_writes_14 ?_
    refine q_getI 18 rfl fX7_79 rfl 77 t_77 dX7_writes_15 ?_
    rw [P7_15]
    refine q_isub 19 rfl (by omega) dX7_writes_18 ?_
    refine q_iast 20 rfl r hT (by omega) (by omega) dX7_writes_19 ?_
    rw [P7_as hr, wrt_0 (t := N 84) (he := he)]
    refine q_iconst 21 rfl 0 k_i0 dX7_writes_20 ?_
    refine q_istore_n 22 rfl (by decide) dX7_writes_21 ?_
    refine q_loc (writes_lp (N := N) hG hl ht hs hsp hwd hT hr hr4 hnl ha ?_ 0 (by omega) _ rfl) (q_sub1 rfl (q_sub1 rfl (q_sub1 rfl (q_sub1 rfl q_sub0))))
    refine q_vret rfl dX7_writes_61 ?_
    exact ⟨rfl, rfl⟩
  · exfalso; omega
theorem k_writesB {r a : Nat} {b ba sp he tk vl : Nat} (hG : GF ad G) (hb : b ≠ 0) (hb2 : b < 2147483648) : q_Con Γ mX7_writes 1 0 0 [.ref (ad 77), .ref (ad r), .int (nI a)] (LT ad, P7 N b ba sp he tk vl, L, G) (q_is none (LT ad, P7 N b ba sp he tk vl, L, G)) := by
  refine q_con (by decide) rfl rfl (Nat.le_of_ble_eq_true rfl) ?_
  refine q_aload_n 1 rfl rfl dX7_writes_0 ?_
  refine q_getI 4 rfl fX7_76 rfl 77 t_77 dX7_writes_1 ?_
  rw [P7_12]
  refine q_ifN_le 7 rfl 8 (by decide) (by omega) dX7_writes_4 (fun h4 => ?_) (fun h4 => ?_)
  · exfalso; omega
  · refine q_vret rfl dX7_writes_7 ?_
    exact ⟨rfl, rfl⟩
theorem told_end {n i mc mz : Nat} {ba sp he tk vl : Nat} {Q : Option Value → q_H → Prop} (hG : GF ad G) (hs : he ≤ sp) (hsp : sp ≤ 160) (hi : i ≤ 161) (hQ : Q (some (.int (nI 0))) (LT ad, P7 N 0 ba sp he tk vl, L, G)) : q_R Γ mX7_isTold (q_room 1 mc mz) (q_Z Γ Q 0 0) 0 0 29 [(0, .ref (ad 77)), (1, .int (nI n)), (2, .int (nI 0)), (3, .int (nI i))] [] (LT ad, P7 N 0 ba sp he tk vl, L, G) := by
  refine q_iload_n 30 rfl rfl dX7_isTold_29 ?_
  refine q_aload_n 31 rfl rfl dX7_isTold_30 ?_
  refine q_getI 34 rfl fX7_88 rfl 77 t_77 dX7_isTold_31 ?_
  rw [P7_14]
  refine q_aload_n 35 rfl rfl dX7_isTold_34 ?_
  refine q_getI 38 rfl fX7_79 rfl 77 t_77 dX7_isTold_35 ?_
  rw [P7_15]
  refine q_isub 39 rfl (by omega) dX7_isTold_38 ?_
  refine q_icmp_ge 42 rfl 87 (by decide) (by omega) (by omega) dX7_isTold_39 (fun h39 => ?_) (fun h39 => ?_)
  · refine q_iload_n 88 rfl rfl dX7_isTold_87 ?_
    refine q_zret rfl (by first | exact q_n0 | exact q_n1 | exact q_nb _) dX7_isTold_88 ?_
    exact hQ
  · refine q_iload_n 43 rfl rfl dX7_isTold_42 ?_
    refine q_if_eq 46 rfl 87 (by decide) (by omega) dX7_isTold_43 (fun h43 => ?_) (fun h43 => ?_)
    · refine q_iload_n 88 rfl rfl dX7_isTold_87 ?_
      refine q_zret rfl (by first | exact q_n0 | exact q_n1 | exact q_nb _) dX7_isTold_88 ?_
      exact hQ
    · exfalso; omega
theorem told_lp  {n mc mz : Nat} {ba sp he tk vl : Nat} (hG : GF ad G) (hl : N 77 10 ≤ 160) (ht : ∀ i, i < 160 → N 84 i < 128) (hs : he ≤ sp) (hsp : sp ≤ N 77 10) (hwd : ∀ i, he ≤ i → i < sp → 97 ≤ N 84 i ∧ N 84 i ≤ 122) (hn : n < 9) (hk : sp - he ≤ 8) (h82 : ∀ i, i < 81 → N 82 i < 26)  : ∀ i, i ≤ sp - he → tld (N 82) (N 84) he n (sp - he) i = true →  q_R Γ mX7_isTold (q_room 1 mc mz) (q_Z Γ (q_is (some (.int (nI (tld (N 82) (N 84) he n (sp - he) (sp - he)).toNat))) (LT ad, P7 N 0 ba sp he tk vl, L, G)) 0 0) 0 0 29 [(0, .ref (ad 77)), (1, .int (nI n)), (2, .int (nI 1)), (3, .int (nI i))] [] (LT ad, P7 N 0 ba sp he tk vl, L, G) := by
  refine dn_loop (sp - he) ?_ ?_
  · intro h_ex 
    refine q_iload_n 30 rfl rfl dX7_isTold_29 ?_
    refine q_aload_n 31 rfl rfl dX7_isTold_30 ?_
    refine q_getI 34 rfl fX7_88 rfl 77 t_77 dX7_isTold_31 ?_
    rw [P7_14]
    refine q_aload_n 35 rfl rfl dX7_isTold_34 ?_
    refine q_getI 38 rfl fX7_79 rfl 77 t_77 dX7_isTold_35 ?_
    rw [P7_15]
    refine q_isub 39 rfl (by omega) dX7_isTold_38 ?_
    refine q_icmp_ge 42 rfl 87 (by decide) (by omega) (by omega) dX7_isTold_39 (fun h39 => ?_) (fun h39 => ?_)
    · refine q_iload_n 88 rfl rfl dX7_isTold_87 ?_
      refine q_zret rfl (by first | exact q_n0 | exact q_n1 | exact q_nb _) dX7_isTold_88 ?_
      rw [h_ex]; exact ⟨rfl, rfl⟩
    · exfalso; omega
  · intro i h_i ih h_ex 
    have hw := hwd (he + i) (by omega) (by omega)
    have h2 := h82 (9 * n + 1 + i) (by omega)
    refine q_iload_n 30 rfl rfl dX7_isTold_29 ?_
    refine q_aload_n 31 rfl rfl dX7_isTold_30 ?_
    refine q_getI 34 rfl fX7_88 rfl 77 t_77 dX7_isTold_31 ?_
    rw [P7_14]
    refine q_aload_n 35 rfl rfl dX7_isTold_34 ?_
    refine q_getI 38 rfl fX7_79 rfl 77 t_77 dX7_isTold_35 ?_
    rw [P7_15]
    refine q_isub 39 rfl (by omega) dX7_isTold_38 ?_
    refine q_icmp_ge 42 rfl 87 (by decide) (by omega) (by omega) dX7_isTold_39 (fun h39 => ?_) (fun h39 => ?_)
    · exfalso; omega
    · refine q_iload_n 43 rfl rfl dX7_isTold_42 ?_
      refine q_if_eq 46 rfl 87 (by decide) (by omega) dX7_isTold_43 (fun h43 => ?_) (fun h43 => ?_)
      · exfalso; omega
      · refine q_aload_n 47 rfl rfl dX7_isTold_46 ?_
        refine q_getR 50 rfl fX7_22 rfl 77 t_77 (g_77_5 hG) dX7_isTold_47 ?_
        refine q_bipush 52 rfl 9 k_b9 dX7_isTold_50 ?_
        refine q_iload_n 53 rfl rfl dX7_isTold_52 ?_
        refine q_imul 54 rfl dX7_isTold_53 ?_
        refine q_iconst 55 rfl 1 k_i1 dX7_isTold_54 ?_
        refine q_iadd 56 rfl dX7_isTold_55 ?_
        refine q_iload_n 57 rfl rfl dX7_isTold_56 ?_
        refine q_iadd 58 rfl dX7_isTold_57 ?_
        refine q_iald 59 rfl 82 t_82 (by omega) (by decide) dX7_isTold_58 ?_
        rw [P7_ne (by decide)]
        refine q_aload_n 60 rfl rfl dX7_isTold_59 ?_
        refine q_aload_n 61 rfl rfl dX7_isTold_60 ?_
        refine q_getI 64 rfl fX7_79 rfl 77 t_77 dX7_isTold_61 ?_
        rw [P7_15]
        refine q_iload_n 65 rfl rfl dX7_isTold_64 ?_
        refine q_iadd 66 rfl dX7_isTold_65 ?_
        refine q_cV1 69 rfl lX7_91 (k_byteAt hG hl (by omega)) rfl 77 t_77 rfl rfl rfl dX7_isTold_66 ?_
        rw [byt, if_pos (by omega)]
        refine q_bipush 71 rfl 97 k_b97 dX7_isTold_69 ?_
        refine q_isub 72 rfl (by omega) dX7_isTold_71 ?_
        refine q_icmp_ne 75 rfl 79 (by decide) (by omega) (by omega) dX7_isTold_72 (fun h72 => ?_) (fun h72 => ?_)
        · refine q_iconst 80 rfl 0 k_i0 dX7_isTold_79 ?_
          refine q_istore_n 81 rfl (by decide) dX7_isTold_80 ?_
          refine q_iinc1 84 rfl 1 k_i1 rfl (by decide) dX7_isTold_81 ?_
          refine q_goto 29 (by decide) dX7_isTold_84 ?_
          exact q_loc (told_end hG hs (by omega) (by omega) ⟨by rw [tld_no (i := i + 1) (j := sp - he) (by rw [tld_s, h_ex, Bool.true_and]; exact decide_eq_false (by omega)) (by omega)]; rfl, rfl⟩) (q_sub1 rfl (q_sub1 rfl (q_sub1 rfl (q_sub1 rfl q_sub0))))
        · refine q_iconst 76 rfl 1 k_i1 dX7_isTold_75 ?_
          refine q_goto 80 (by decide) dX7_isTold_76 ?_
          refine q_istore_n 81 rfl (by decide) dX7_isTold_80 ?_
          refine q_iinc1 84 rfl 1 k_i1 rfl (by decide) dX7_isTold_81 ?_
          refine q_goto 29 (by decide) dX7_isTold_84 ?_
          refine q_loc (ih ?_) (q_sub1 rfl (q_sub1 rfl (q_sub1 rfl (q_sub1 rfl q_sub0))))
          rw [tld_s, h_ex, Bool.true_and]
          exact decide_eq_true (by omega)
theorem k_isTold {n : Nat} {ba sp he tk vl : Nat} (hG : GF ad G) (hl : N 77 10 ≤ 160) (ht : ∀ i, i < 160 → N 84 i < 128) (hs : he ≤ sp) (hsp : sp ≤ N 77 10) (hwd : ∀ i, he ≤ i → i < sp → 97 ≤ N 84 i ∧ N 84 i ≤ 122) (hn : n < 9) (hk : sp - he ≤ 8) (h82 : ∀ i, i < 81 → N 82 i < 26) : q_Con Γ mX7_isTold 1 0 0 [.ref (ad 77), .int (nI n)] (LT ad, P7 N 0 ba sp he tk vl, L, G) (q_is (some (.int (nI ((tld (N 82) (N 84) he n (sp - he) (sp - he)).toNat)))) (LT ad, P7 N 0 ba sp he tk vl, L, G)) := by
  have h2 := h82 (9 * n) (by omega)
  refine q_con (by decide) rfl rfl (Nat.le_of_ble_eq_true rfl) ?_
  refine q_aload_n 1 rfl rfl dX7_isTold_0 ?_
  refine q_getR 4 rfl fX7_22 rfl 77 t_77 (g_77_5 hG) dX7_isTold_1 ?_
  refine q_bipush 6 rfl 9 k_b9 dX7_isTold_4 ?_
  refine q_iload_n 7 rfl rfl dX7_isTold_6 ?_
  refine q_imul 8 rfl dX7_isTold_7 ?_
  refine q_iald 9 rfl 82 t_82 (by omega) (by decide) dX7_isTold_8 ?_
  rw [P7_ne (by decide)]
  refine q_aload_n 10 rfl rfl dX7_isTold_9 ?_
  refine q_getI 13 rfl fX7_88 rfl 77 t_77 dX7_isTold_10 ?_
  rw [P7_14]
  refine q_aload_n 14 rfl rfl dX7_isTold_13 ?_
  refine q_getI 17 rfl fX7_79 rfl 77 t_77 dX7_isTold_14 ?_
  rw [P7_15]
  refine q_isub 18 rfl (by omega) dX7_isTold_17 ?_
  refine q_icmp_ne 21 rfl 25 (by decide) (by omega) (by omega) dX7_isTold_18 (fun h18 => ?_) (fun h18 => ?_)
  · refine q_iconst 26 rfl 0 k_i0 dX7_isTold_25 ?_
    refine q_istore_n 27 rfl (by decide) dX7_isTold_26 ?_
    refine q_iconst 28 rfl 0 k_i0 dX7_isTold_27 ?_
    refine q_istore_n 29 rfl (by decide) dX7_isTold_28 ?_
    exact q_loc (told_end hG hs (by omega) (by omega) ⟨by rw [tld_no (i := 0) (j := sp - he) (by rw [tld, alw, Bool.and_true]; exact decide_eq_false (by omega)) (by omega)]; rfl, rfl⟩) (q_sub1 rfl (q_sub1 rfl (q_sub1 rfl (q_sub1 rfl q_sub0))))
  · refine q_iconst 22 rfl 1 k_i1 dX7_isTold_21 ?_
    refine q_goto 26 (by decide) dX7_isTold_22 ?_
    refine q_istore_n 27 rfl (by decide) dX7_isTold_26 ?_
    refine q_iconst 28 rfl 0 k_i0 dX7_isTold_27 ?_
    refine q_istore_n 29 rfl (by decide) dX7_isTold_28 ?_
    refine q_loc (told_lp (N := N) hG hl ht hs hsp hwd hn hk h82 0 (by omega) ?_) (q_sub1 rfl (q_sub1 rfl (q_sub1 rfl (q_sub1 rfl q_sub0))))
    rw [tld, alw, Bool.and_true]
    exact decide_eq_true (by omega)
end
