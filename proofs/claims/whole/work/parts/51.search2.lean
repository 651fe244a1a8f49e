abbrev asp (N : Nat → Nat → Nat) (q r t n : Nat) : Bool := decide (N r n = N (q + 1) n ∧ N t n = N (q + 2) n)
def asb (N : Nat → Nat → Nat) (q r t c s : Nat) : Bool := decide (c = N q 4 ∧ s = N q 5) && alw (asp N q r t) c
section
variable {Γ : q_G} {ad : Nat → Nat} {N : Nat → Nat → Nat} {L : Nat → Nat → Int} {G : Nat → Nat → Option Nat}
theorem asb_lp {rm : Room} {q r t c s : Nat} (hG : GF ad G) (hq : isS q) (hT : (LT ad)[r]? = some (.inl (0, 9), ad r)) (hU : (LT ad)[t]? = some (.inl (0, 9), ad t)) (hc9 : c ≤ 9) (hb : ∀ n, n < c → N r n < 4294967296 ∧ N (q + 1) n < 4294967296 ∧ N t n < 4294967296 ∧ N (q + 2) n < 4294967296)  : ∀ i, i ≤ c → alw (asp N q r t) i = true →  q_R Γ mX4_isAsBefore rm (q_Z Γ (q_is (some (.int (nI (alw (asp N q r t) c).toNat))) (LT ad, N, L, G)) 0 0) 0 0 22 [(0, .ref (ad q)), (1, .ref (ad r)), (2, .ref (ad t)), (3, .int (nI c)), (4, .int (nI s)), (5, .int (nI i))] [] (LT ad, N, L, G) := by
  refine dn_loop (c) ?_ ?_
  · intro h_ex 
    refine q_iload 24 rfl rfl dX4_isAsBefore_22 ?_
    refine q_iload_n 25 rfl rfl dX4_isAsBefore_24 ?_
    refine q_icmp_ge 28 rfl 64 (by decide) (by omega) (by omega) dX4_isAsBefore_25 (fun h25 => ?_) (fun h25 => ?_)
    · refine q_iconst 65 rfl 1 k_i1 dX4_isAsBefore_64 ?_
      refine q_zret rfl (by first | exact q_n0 | exact q_n1 | exact q_nb _) dX4_isAsBefore_65 ?_
      rw [h_ex]; exact ⟨rfl, rfl⟩
    · exfalso; omega
  · intro i h_i ih h_ex 
    have hb1 := hb i h_i
    have el : alw (asp N q r t) (i + 1) = (alw (asp N q r t) i && asp N q r t i) := rfl
    refine q_iload 24 rfl rfl dX4_isAsBefore_22 ?_
    refine q_iload_n 25 rfl rfl dX4_isAsBefore_24 ?_
    refine q_icmp_ge 28 rfl 64 (by decide) (by omega) (by omega) dX4_isAsBefore_25 (fun h25 => ?_) (fun h25 => ?_)
    · exfalso; omega
    · refine q_aload_n 29 rfl rfl dX4_isAsBefore_28 ?_
      refine q_iload 31 rfl rfl dX4_isAsBefore_29 ?_
      refine q_iald 32 rfl r hT (by omega) (by decide) dX4_isAsBefore_31 ?_
      refine q_aload_n 33 rfl rfl dX4_isAsBefore_32 ?_
      refine q_getR 36 rfl fX4_9 rfl q (tS hq) (gS_1 hq hG) dX4_isAsBefore_33 ?_
      refine q_iload 38 rfl rfl dX4_isAsBefore_36 ?_
      refine q_iald 39 rfl (q + 1) (tS1 hq) (by omega) (by decide) dX4_isAsBefore_38 ?_
      refine q_icmp_ne 42 rfl 56 (by decide) (by omega) (by omega) dX4_isAsBefore_39 (fun h39 => ?_) (fun h39 => ?_)
      · refine q_iconst 57 rfl 0 k_i0 dX4_isAsBefore_56 ?_
        refine q_zret rfl (by first | exact q_n0 | exact q_n1 | exact q_nb _) dX4_isAsBefore_57 ?_
        rw [alw_split h_i (decide_eq_false (by omega))]; exact ⟨rfl, rfl⟩
      · refine q_aload_n 43 rfl rfl dX4_isAsBefore_42 ?_
        refine q_iload 45 rfl rfl dX4_isAsBefore_43 ?_
        refine q_iald 46 rfl t hU (by omega) (by decide) dX4_isAsBefore_45 ?_
        refine q_aload_n 47 rfl rfl dX4_isAsBefore_46 ?_
        refine q_getR 50 rfl fX4_15 rfl q (tS hq) (gS_2 hq hG) dX4_isAsBefore_47 ?_
        refine q_iload 52 rfl rfl dX4_isAsBefore_50 ?_
        refine q_iald 53 rfl (q + 2) (tS2 hq) (by omega) (by decide) dX4_isAsBefore_52 ?_
        refine q_icmp_eq 56 rfl 58 (by decide) (by omega) (by omega) dX4_isAsBefore_53 (fun h53 => ?_) (fun h53 => ?_)
        · refine q_iinc1 61 rfl 1 k_i1 rfl (by decide) dX4_isAsBefore_58 ?_
          refine q_goto 22 (by decide) dX4_isAsBefore_61 ?_
          refine q_loc (ih ?_) (q_sub1 rfl (q_sub1 rfl (q_sub1 rfl (q_sub1 rfl (q_sub1 rfl (q_sub1 rfl q_sub0))))))
          rw [el, h_ex, Bool.true_and]
          exact decide_eq_true (by omega)
        · refine q_iconst 57 rfl 0 k_i0 dX4_isAsBefore_56 ?_
          refine q_zret rfl (by first | exact q_n0 | exact q_n1 | exact q_nb _) dX4_isAsBefore_57 ?_
          rw [alw_split h_i (decide_eq_false (by omega))]; exact ⟨rfl, rfl⟩
theorem k_asb {q r t c s : Nat} (hG : GF ad G) (hq : isS q) (hT : (LT ad)[r]? = some (.inl (0, 9), ad r)) (hU : (LT ad)[t]? = some (.inl (0, 9), ad t)) (hc9 : c ≤ 9) (hb : ∀ n, n < c → N r n < 4294967296 ∧ N (q + 1) n < 4294967296 ∧ N t n < 4294967296 ∧ N (q + 2) n < 4294967296) (hs : s < 4294967296) (h4 : N q 4 < 4294967296) (h5 : N q 5 < 4294967296) : q_Con Γ mX4_isAsBefore 0 0 0 [.ref (ad q), .ref (ad r), .ref (ad t), .int (nI c), .int (nI s)] (LT ad, N, L, G) (q_is (some (.int (nI ((asb N q r t c s).toNat)))) (LT ad, N, L, G)) := by
  refine q_con (by decide) rfl rfl (Nat.le_of_ble_eq_true rfl) ?_
  refine q_iload_n 1 rfl rfl dX4_isAsBefore_0 ?_
  refine q_aload_n 2 rfl rfl dX4_isAsBefore_1 ?_
  refine q_getI 5 rfl fX4_39 rfl q (tS hq) dX4_isAsBefore_2 ?_
  refine q_icmp_ne 8 rfl 17 (by decide) (by omega) (by omega) dX4_isAsBefore_5 (fun g5 => ?_) (fun g5 => ?_)
  · refine q_iconst 18 rfl 0 k_i0 dX4_isAsBefore_17 ?_
    refine q_zret rfl (by first | exact q_n0 | exact q_n1 | exact q_nb _) dX4_isAsBefore_18 ?_
    rw [asb, decide_eq_false (by omega)]; exact ⟨rfl, rfl⟩
  · refine q_iload 10 rfl rfl dX4_isAsBefore_8 ?_
    refine q_aload_n 11 rfl rfl dX4_isAsBefore_10 ?_
    refine q_getI 14 rfl fX4_43 rfl q (tS hq) dX4_isAsBefore_11 ?_
    refine q_icmp_eq 17 rfl 19 (by decide) (by omega) (by omega) dX4_isAsBefore_14 (fun h14 => ?_) (fun h14 => ?_)
    · refine q_iconst 20 rfl 0 k_i0 dX4_isAsBefore_19 ?_
      refine q_istore 22 rfl (by decide) dX4_isAsBefore_20 ?_
      rw [asb, decide_eq_true (show c = N q 4 ∧ s = N q 5 by omega), Bool.true_and]
      exact q_loc (asb_lp hG hq hT hU hc9 hb 0 (by omega) rfl) (q_sub1 rfl (q_sub1 rfl (q_sub1 rfl (q_sub1 rfl (q_sub1 rfl (q_sub1 rfl q_sub0))))))
    · refine q_iconst 18 rfl 0 k_i0 dX4_isAsBefore_17 ?_
      refine q_zret rfl (by first | exact q_n0 | exact q_n1 | exact q_nb _) dX4_isAsBefore_18 ?_
      rw [asb, decide_eq_false (by omega)]; exact ⟨rfl, rfl⟩
end
