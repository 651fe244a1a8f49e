section
variable {Γ : q_G} {ad : Nat → Nat} {N : Nat → Nat → Nat} {L : Nat → Nat → Int} {G : Nat → Nat → Option Nat}
theorem odS_lp {Z : q_Zt} {s mc mz : Nat} {q c : Nat} (hG : GF ad G) (hq : isS q) (hc : N q 4 = c) (hc9 : c ≤ 9) (hs : s < 4294967296) (hx : q_R Γ mX4_oddsOfSet (q_room 1 mc mz) Z 0 0 35 [(2, .int (nI (ods (N (q + 2)) s (c))))] [] (LT ad, N, L, G)) : ∀ i, i ≤ c →  ∀ a : Nat, a = ods (N (q + 2)) s i → q_R Γ mX4_oddsOfSet (q_room 1 mc mz) Z 0 0 4 [(0, .ref (ad q)), (1, .int (nI s)), (2, .int (nI a)), (3, .int (nI i))] [] (LT ad, N, L, G) := by
  refine dn_loop (c) ?_ ?_
  · intro a h_a
    refine q_iload_n 5 rfl rfl dX4_oddsOfSet_4 ?_
    refine q_aload_n 6 rfl rfl dX4_oddsOfSet_5 ?_
    refine q_getI 9 rfl fX4_39 rfl q (tS hq) dX4_oddsOfSet_6 ?_
    refine q_icmp_ge 12 rfl 35 (by decide) (by omega) (by omega) dX4_oddsOfSet_9 (fun h9 => ?_) (fun h9 => ?_)
    · subst h_a
      exact q_loc hx (q_sub1 rfl q_sub0)
    · exfalso; omega
  · intro i h_i ih a h_a
    refine q_iload_n 5 rfl rfl dX4_oddsOfSet_4 ?_
    refine q_aload_n 6 rfl rfl dX4_oddsOfSet_5 ?_
    refine q_getI 9 rfl fX4_39 rfl q (tS hq) dX4_oddsOfSet_6 ?_
    refine q_icmp_ge 12 rfl 35 (by decide) (by omega) (by omega) dX4_oddsOfSet_9 (fun h9 => ?_) (fun h9 => ?_)
    · exfalso; omega
    · refine q_iload_n 13 rfl rfl dX4_oddsOfSet_12 ?_
      refine q_iload_n 14 rfl rfl dX4_oddsOfSet_13 ?_
      refine q_cS2 17 rfl lX4_72 (k_has hs (by omega)) rfl rfl rfl dX4_oddsOfSet_14 ?_
      refine q_if_eqB 20 rfl 29 (by decide) dX4_oddsOfSet_17 (fun h17 => ?_) (fun h17 => ?_)
      · refine q_iinc1 32 rfl 1 k_i1 rfl (by decide) dX4_oddsOfSet_29 ?_
        refine q_goto 4 (by decide) dX4_oddsOfSet_32 ?_
        refine q_loc (ih _ ?_) (q_sub1 rfl (q_sub1 rfl (q_sub1 rfl (q_sub1 rfl q_sub0))))
        · rw [h_a]
          simp only [ods]
          rw [h17]
          first
            | rfl
            | (rw [if_pos rfl]; done)
            | (rw [if_neg (by decide)]; rfl)
      · refine q_iload_n 21 rfl rfl dX4_oddsOfSet_20 ?_
        refine q_aload_n 22 rfl rfl dX4_oddsOfSet_21 ?_
        refine q_getR 25 rfl fX4_15 rfl q (tS hq) (gS_2 hq hG) dX4_oddsOfSet_22 ?_
        refine q_iload_n 26 rfl rfl dX4_oddsOfSet_25 ?_
        refine q_iald 27 rfl (q + 2) (tS2 hq) (by omega) (by decide) dX4_oddsOfSet_26 ?_
        refine q_iadd 28 rfl dX4_oddsOfSet_27 ?_
        refine q_istore_n 29 rfl (by decide) dX4_oddsOfSet_28 ?_
        refine q_iinc1 32 rfl 1 k_i1 rfl (by decide) dX4_oddsOfSet_29 ?_
        refine q_goto 4 (by decide) dX4_oddsOfSet_32 ?_
        refine q_loc (ih _ ?_) (q_sub1 rfl (q_sub1 rfl (q_sub1 rfl (q_sub1 rfl q_sub0))))
        · rw [h_a]
          simp only [ods]
          rw [h17]
          first
            | rfl
            | (rw [if_pos rfl]; done)
            | (rw [if_neg (by decide)]; rfl)
theorem k_oddsOfSet {s : Nat} {q c : Nat} (hG : GF ad G) (hq : isS q) (hc : N q 4 = c) (hc9 : c ≤ 9) (hs : s < 4294967296) : q_Con Γ mX4_oddsOfSet 1 0 0 [.ref (ad q), .int (nI s)] (LT ad, N, L, G) (q_is (some (.int (nI (ods (N (q + 2)) s c)))) (LT ad, N, L, G)) := by
  refine q_con (by decide) rfl rfl (Nat.le_of_ble_eq_true rfl) ?_
  refine q_iconst 1 rfl 0 k_i0 dX4_oddsOfSet_0 ?_
  refine q_istore_n 2 rfl (by decide) dX4_oddsOfSet_1 ?_
  refine q_iconst 3 rfl 0 k_i0 dX4_oddsOfSet_2 ?_
  refine q_istore_n 4 rfl (by decide) dX4_oddsOfSet_3 ?_
  refine q_loc (odS_lp hG hq hc hc9 hs ?_ 0 (by omega) _ rfl) (q_sub1 rfl (q_sub1 rfl (q_sub1 rfl (q_sub1 rfl q_sub0))))
  refine q_iload_n 36 rfl rfl dX4_oddsOfSet_35 ?_
  refine q_iret rfl dX4_oddsOfSet_36 ?_
  exact ⟨rfl, rfl⟩
end
