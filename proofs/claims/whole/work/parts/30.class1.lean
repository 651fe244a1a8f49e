abbrev lt6 (N : Nat → Nat → Nat) (q n i : Nat) : Nat := N (q + 2) (n * 8 + i)
abbrev nr6 (N : Nat → Nat → Nat) (q kd ms n m : Nat) : Bool := nr kd ms (N (q + 1)) (lt6 N q) (N (q + 3)) (N (q + 4)) n m
def CN (N : Nat → Nat → Nat) (q c : Nat) : Prop := N q 0 = c ∧ c ≤ 9 ∧ (∀ n, n < 9 → N (q + 1) n ≤ 8) ∧ (∀ i, i < 72 → N (q + 2) i < 26) ∧ (∀ n, n < 9 → N (q + 3) n < 67108864) ∧ (∀ n, n < 9 → N (q + 4) n ≤ 8) ∧ N q 5 ≤ 8 ∧ (∀ i, i < 8 → N (q + 5) i < 26)
def CM (N : Nat → Nat → Nat) (q c : Nat) : Prop := N q 1 < 5 ∧ N q 2 ≤ 8 ∧ N q 3 ≤ 5 ∧ (∀ k, k < 5 → N (q + 2) k < 26) ∧ (∀ k, k < 5 → N (q + 3) k < 26) ∧ N q 6 ≤ 9 ∧ (∀ k, k < N q 6 → N (q + 4) k < c) ∧ (∀ k, k < N q 6 → N (q + 5) k ≤ 2) ∧ N q 9 ≤ 6 ∧ (∀ k, k < N q 9 → N (q + 6) k < 8) ∧ (∀ k, k < N q 9 → N (q + 7) k < 26) ∧ (∀ k, k < N q 9 → N (q + 8) k ≤ 1) ∧ (∀ n, n < 9 → N (q + 1) n ≤ 9) ∧ (∀ n, n < c → 1 ≤ N (q + 1) n)
theorem CN.eq {N M : Nat → Nat → Nat} {q c : Nat} (h : CN N q c) (e : ∀ a, q ≤ a → a ≤ q + 5 → M a = N a) : CN M q c := by
  unfold CN at h ⊢
  rw [e q (by omega) (by omega), e (q + 1) (by omega) (by omega), e (q + 2) (by omega) (by omega), e (q + 3) (by omega) (by omega), e (q + 4) (by omega) (by omega), e (q + 5) (by omega) (by omega)]
  exact h
theorem CM.eq {N M : Nat → Nat → Nat} {q c : Nat} (h : CM N q c) (e : ∀ a, q ≤ a → a ≤ q + 8 → M a = N a) : CM M q c := by
  unfold CM at h ⊢
  rw [e q (by omega) (by omega), e (q + 1) (by omega) (by omega), e (q + 2) (by omega) (by omega), e (q + 3) (by omega) (by omega), e (q + 4) (by omega) (by omega), e (q + 5) (by omega) (by omega), e (q + 6) (by omega) (by omega), e (q + 7) (by omega) (by omega), e (q + 8) (by omega) (by omega)]
  exact h
theorem nr6_eq {N M : Nat → Nat → Nat} {q kd ms : Nat} (e : ∀ a, q ≤ a → a ≤ q + 5 → M a = N a) : nr6 M q kd ms = nr6 N q kd ms := by
  funext n m
  have e2 : lt6 M q = lt6 N q := by
    funext n i
    show M (q + 2) _ = N (q + 2) _
    rw [e (q + 2) (by omega) (by omega)]
  show nr kd ms (M (q + 1)) (lt6 M q) (M (q + 3)) (M (q + 4)) n m = nr kd ms (N (q + 1)) (lt6 N q) (N (q + 3)) (N (q + 4)) n m
  rw [e2, e (q + 1) (by omega) (by omega), e (q + 3) (by omega) (by omega), e (q + 4) (by omega) (by omega)]
section
variable {Γ : q_G} {ad : Nat → Nat} {N : Nat → Nat → Nat} {L : Nat → Nat → Int} {G : Nat → Nat → Option Nat}
theorem k_has {h : q_H} {s n : Nat} (hs : s < 4294967296) (hn : n < 32) : q_Con Γ mX6_has 0 0 0 [.int (nI s), .int (nI n)] h (q_is (some (.int (nI (s.testBit n).toNat))) h) := by
  refine q_con (by decide) rfl rfl (Nat.le_of_ble_eq_true rfl) ?_
  refine q_iload_n 1 rfl rfl dX6_has_0 ?_
  refine q_iload_n 2 rfl rfl dX6_has_1 ?_
  refine q_iushr 3 rfl (by omega) (by omega) dX6_has_2 ?_
  refine q_iconst 4 rfl 1 k_i1 dX6_has_3 ?_
  refine q_iand 5 rfl dX6_has_4 ?_
  rw [div_bit]
  refine q_if_eq 8 rfl 12 (by decide) (by exact Nat.lt_of_le_of_lt (Bool.toNat_le _) (by omega)) dX6_has_5 (fun h5 => ?_) (fun h5 => ?_)
  · refine q_iconst 13 rfl 0 k_i0 dX6_has_12 ?_
    refine q_zret rfl (by first | exact q_n0 | exact q_n1 | exact q_nb _) dX6_has_13 ?_
    cases hz : s.testBit n with
    | true => rw [hz] at h5; first | exact ⟨rfl, rfl⟩ | exact absurd h5 (by decide)
    | false => rw [hz] at h5; first | exact ⟨rfl, rfl⟩ | exact absurd rfl h5
  · refine q_iconst 9 rfl 1 k_i1 dX6_has_8 ?_
    refine q_goto 13 (by decide) dX6_has_9 ?_
    refine q_zret rfl (by first | exact q_n0 | exact q_n1 | exact q_nb _) dX6_has_13 ?_
    cases hz : s.testBit n with
    | true => rw [hz] at h5; first | exact ⟨rfl, rfl⟩ | exact absurd h5 (by decide)
    | false => rw [hz] at h5; first | exact ⟨rfl, rfl⟩ | exact absurd rfl h5
theorem k_pairCode {h : q_H} {a b : Nat} : q_Con Γ mX6_pairCode 0 0 0 [.int (nI a), .int (nI b)] h (q_is (some (.int (nI (26 * a + b)))) h) := by
  refine q_con (by decide) rfl rfl (Nat.le_of_ble_eq_true rfl) ?_
  refine q_bipush 2 rfl 26 k_b26 dX6_pairCode_0 ?_
  refine q_iload_n 3 rfl rfl dX6_pairCode_2 ?_
  refine q_imul 4 rfl dX6_pairCode_3 ?_
  refine q_iload_n 5 rfl rfl dX6_pairCode_4 ?_
  refine q_iadd 6 rfl dX6_pairCode_5 ?_
  refine q_iret rfl dX6_pairCode_6 ?_
  exact ⟨rfl, rfl⟩
theorem k_isLetter6 {h : q_H} {X : Nat} (hX : X < 4294967296) : q_Con Γ mX6_isLetter 1 0 0 [.int (nI X)] h (q_is (some (.int (nI (decide (X < 26)).toNat))) h) := by
  refine q_con (by decide) rfl rfl (Nat.le_of_ble_eq_true rfl) ?_
  refine q_iload_n 1 rfl rfl dX6_isLetter_0 ?_
  refine q_iconst 2 rfl 0 k_i0 dX6_isLetter_1 ?_
  refine q_bipush 4 rfl 25 k_b25 dX6_isLetter_2 ?_
  refine q_cS3 7 rfl lX6_87 (k_within hX (by omega) (by omega)) rfl rfl rfl dX6_isLetter_4 ?_
  refine q_zret rfl (by first | exact q_n0 | exact q_n1 | exact q_nb _) dX6_isLetter_7 ?_
  rw [decide_eq_decide.mpr (by omega : (X < 26) ↔ (0 ≤ X ∧ X ≤ 25))]
  exact ⟨rfl, rfl⟩
def anS (s g n : Nat) : Nat := if g = n then 2 else (s.testBit n).toNat
theorem k_answer {h : q_H} {s g n : Nat} (hs : s < 4294967296) (hg : g < 32) (hn : n < 32) : q_Con Γ mX6_answer 1 0 0 [.int (nI s), .int (nI g), .int (nI n)] h (q_is (some (.int (nI (anS s g n)))) h) := by
  refine q_con (by decide) rfl rfl (Nat.le_of_ble_eq_true rfl) ?_
  refine q_iload_n 1 rfl rfl dX6_answer_0 ?_
  refine q_iload_n 2 rfl rfl dX6_answer_1 ?_
  refine q_icmp_ne 5 rfl 7 (by decide) (by omega) (by omega) dX6_answer_2 (fun h2 => ?_) (fun h2 => ?_)
  · refine q_iload_n 8 rfl rfl dX6_answer_7 ?_
    refine q_iload_n 9 rfl rfl dX6_answer_8 ?_
    refine q_cS2 12 rfl lX6_166 (k_has hs hn) rfl rfl rfl dX6_answer_9 ?_
    refine q_if_eqB 15 rfl 19 (by decide) dX6_answer_12 (fun h12 => ?_) (fun h12 => ?_)
    · refine q_iconst 20 rfl 0 k_i0 dX6_answer_19 ?_
      refine q_iret rfl dX6_answer_20 ?_
      first
        | (rw [anS, if_pos (by assumption)]; exact ⟨rfl, rfl⟩)
        | (rw [anS, if_neg (by assumption), h12]; exact ⟨rfl, rfl⟩)
    · refine q_iconst 16 rfl 1 k_i1 dX6_answer_15 ?_
      refine q_goto 20 (by decide) dX6_answer_16 ?_
      refine q_iret rfl dX6_answer_20 ?_
      first
        | (rw [anS, if_pos (by assumption)]; exact ⟨rfl, rfl⟩)
        | (rw [anS, if_neg (by assumption), h12]; exact ⟨rfl, rfl⟩)
  · refine q_iconst 6 rfl 2 k_i2 dX6_answer_5 ?_
    refine q_iret rfl dX6_answer_6 ?_
    first
      | (rw [anS, if_pos (by assumption)]; exact ⟨rfl, rfl⟩)
      | (rw [anS, if_neg (by assumption), h12]; exact ⟨rfl, rfl⟩)
theorem k_letterAt {q n i : Nat} (hG : GF ad G) (hq : isN q) (hn : n < 9) (hi : i < 8) : q_Con Γ mX1_letterAt 0 0 0 [.ref (ad q), .int (nI n), .int (nI i)] (LT ad, N, L, G) (q_is (some (.int (nI (N (q + 2) (n * 8 + i))))) (LT ad, N, L, G)) := by
  refine q_con (by decide) rfl rfl (Nat.le_of_ble_eq_true rfl) ?_
  refine q_aload_n 1 rfl rfl dX1_letterAt_0 ?_
  refine q_getR 4 rfl fX1_15 rfl q (tN hq) (gN_2 hq hG) dX1_letterAt_1 ?_
  refine q_iload_n 5 rfl rfl dX1_letterAt_4 ?_
  refine q_bipush 7 rfl 8 k_b8 dX1_letterAt_5 ?_
  refine q_imul 8 rfl dX1_letterAt_7 ?_
  refine q_iload_n 9 rfl rfl dX1_letterAt_8 ?_
  refine q_iadd 10 rfl dX1_letterAt_9 ?_
  refine q_iald 11 rfl (q + 2) (tN2 hq) (by omega) (by decide) dX1_letterAt_10 ?_
  refine q_iret rfl dX1_letterAt_11 ?_
  exact ⟨rfl, rfl⟩
theorem unlikeP_lp {Z : q_Zt} {n m p mc mz : Nat} {q c : Nat} (hG : GF ad G) (hq : isN q) (hN : CN N q c) (hn : n < 9) (hm : m < 9) (hp : p ≤ 8) (hx : q_R Γ mX1_unlikePlaces (q_room 1 mc mz) Z 0 0 38 [(4, .int (nI (unl (lt6 N q) n m (p))))] [] (LT ad, N, L, G)) : ∀ i, i ≤ p →  ∀ s : Nat, s = unl (lt6 N q) n m i → q_R Γ mX1_unlikePlaces (q_room 1 mc mz) Z 0 0 6 [(0, .ref (ad q)), (1, .int (nI n)), (2, .int (nI m)), (3, .int (nI p)), (4, .int (nI s)), (5, .int (nI i))] [] (LT ad, N, L, G) := by
  refine dn_loop (p) ?_ ?_
  · intro s h_s
    refine q_iload 8 rfl rfl dX1_unlikePlaces_6 ?_
    refine q_iload_n 9 rfl rfl dX1_unlikePlaces_8 ?_
    refine q_icmp_ge 12 rfl 38 (by decide) (by omega) (by omega) dX1_unlikePlaces_9 (fun h9 => ?_) (fun h9 => ?_)
    · subst h_s
      exact q_loc hx (q_sub1 rfl q_sub0)
    · exfalso; omega
  · intro i h_i ih s h_s
    have b1 := hN.2.2.2.1 (n * 8 + i) (by omega)
    have b2 := hN.2.2.2.1 (m * 8 + i) (by omega)
    have eu : unl (lt6 N q) n m (i + 1) = unl (lt6 N q) n m i + if N (q + 2) (n * 8 + i) = N (q + 2) (m * 8 + i) then 0 else 1 := rfl
    refine q_iload 8 rfl rfl dX1_unlikePlaces_6 ?_
    refine q_iload_n 9 rfl rfl dX1_unlikePlaces_8 ?_
    refine q_icmp_ge 12 rfl 38 (by decide) (by omega) (by omega) dX1_unlikePlaces_9 (fun h9 => ?_) (fun h9 => ?_)
    · exfalso; omega
    · refine q_aload_n 13 rfl rfl dX1_unlikePlaces_12 ?_
      refine q_iload_n 14 rfl rfl dX1_unlikePlaces_13 ?_
      refine q_iload 16 rfl rfl dX1_unlikePlaces_14 ?_
      refine q_cV2 19 rfl lX1_42 (k_letterAt hG hq (by omega) (by omega)) rfl q (tN hq) rfl rfl rfl dX1_unlikePlaces_16 ?_
      refine q_aload_n 20 rfl rfl dX1_unlikePlaces_19 ?_
      refine q_iload_n 21 rfl rfl dX1_unlikePlaces_20 ?_
      refine q_iload 23 rfl rfl dX1_unlikePlaces_21 ?_
      refine q_cV2 26 rfl lX1_42 (k_letterAt hG hq (by omega) (by omega)) rfl q (tN hq) rfl rfl rfl dX1_unlikePlaces_23 ?_
      refine q_icmp_eq 29 rfl 32 (by decide) (by omega) (by omega) dX1_unlikePlaces_26 (fun h26 => ?_) (fun h26 => ?_)
      · refine q_iinc1 35 rfl 1 k_i1 rfl (by decide) dX1_unlikePlaces_32 ?_
        refine q_goto 6 (by decide) dX1_unlikePlaces_35 ?_
        refine q_loc (ih _ ?_) (q_sub1 rfl (q_sub1 rfl (q_sub1 rfl (q_sub1 rfl (q_sub1 rfl (q_sub1 rfl q_sub0))))))
        · rw [eu, h_s]
          first
            | (rw [if_pos (by assumption)]; first | rfl | done)
            | (rw [if_neg (by assumption)]; first | done | rfl)
      · refine q_iinc1 32 rfl 1 k_i1 rfl (by decide) dX1_unlikePlaces_29 ?_
        refine q_iinc1 35 rfl 1 k_i1 rfl (by decide) dX1_unlikePlaces_32 ?_
        refine q_goto 6 (by decide) dX1_unlikePlaces_35 ?_
        refine q_loc (ih _ ?_) (q_sub1 rfl (q_sub1 rfl (q_sub1 rfl (q_sub1 rfl (q_sub1 rfl (q_sub1 rfl q_sub0))))))
        · rw [eu, h_s]
          first
            | (rw [if_pos (by assumption)]; first | rfl | done)
            | (rw [if_neg (by assumption)]; first | done | rfl)
theorem k_unlikeP {n m p : Nat} {q c : Nat} (hG : GF ad G) (hq : isN q) (hN : CN N q c) (hn : n < 9) (hm : m < 9) (hp : p ≤ 8) : q_Con Γ mX1_unlikePlaces 1 0 0 [.ref (ad q), .int (nI n), .int (nI m), .int (nI p)] (LT ad, N, L, G) (q_is (some (.int (nI (unl (lt6 N q) n m p)))) (LT ad, N, L, G)) := by
  refine q_con (by decide) rfl rfl (Nat.le_of_ble_eq_true rfl) ?_
  refine q_iconst 1 rfl 0 k_i0 dX1_unlikePlaces_0 ?_
  refine q_istore 3 rfl (by decide) dX1_unlikePlaces_1 ?_
  refine q_iconst 4 rfl 0 k_i0 dX1_unlikePlaces_3 ?_
  refine q_istore 6 rfl (by decide) dX1_unlikePlaces_4 ?_
  refine q_loc (unlikeP_lp hG hq hN hn hm hp ?_ 0 (by omega) _ rfl) (q_sub1 rfl (q_sub1 rfl (q_sub1 rfl (q_sub1 rfl (q_sub1 rfl (q_sub1 rfl q_sub0))))))
  refine q_iload 40 rfl rfl dX1_unlikePlaces_38 ?_
  refine q_iret rfl dX1_unlikePlaces_40 ?_
  exact ⟨rfl, rfl⟩
theorem k_areNear6 {n m kd ms : Nat} {q c : Nat} (hG : GF ad G) (hq : isN q) (hN : CN N q c) (hn : n < 9) (hm : m < 9) (hk : kd < 5) (hms : ms ≤ 8) : q_Con Γ mX1_areNear 2 0 0 [.ref (ad q), .int (nI kd), .int (nI ms), .int (nI n), .int (nI m)] (LT ad, N, L, G) (q_is (some (.int (nI ((nr6 N q kd ms n m).toNat)))) (LT ad, N, L, G)) := by
  obtain ⟨hc, hc9, hl, hb, hls, hvw, hwr, hwl⟩ := id hN
  have a1 := hl n hn
  have a2 := hl m hm
  have u1 : unl (lt6 N q) n m (N (q + 1) n) ≤ N (q + 1) n := unl_le _ _ _ _
  have u2 := unl_le (lt6 N q) n m ms
  have v1 := hvw n hn
  have v2 := hvw m hm
  have d1 : dst (N (q + 1) n) (N (q + 1) m) ≤ 8 := by simp only [dst]; split <;> omega
  have d2 : dst (N (q + 4) n) (N (q + 4) m) ≤ 8 := by simp only [dst]; split <;> omega
  have t2 : N (q + 3) n &&& N (q + 3) m < 67108864 := Nat.lt_of_le_of_lt Nat.and_le_left (hls n hn)
  have p1 := pc_le (N (q + 3) n &&& N (q + 3) m) 26
  rcases (show kd = 0 ∨ kd = 1 ∨ kd = 2 ∨ kd = 3 ∨ kd = 4 by omega) with rfl | rfl | rfl | rfl | rfl
  · refine q_con (by decide) rfl rfl (Nat.le_of_ble_eq_true rfl) ?_
    refine q_iload_n 1 rfl rfl dX1_areNear_0 ?_
    refine q_tab 36 (by decide) (by decide) (by decide) rfl (by decide) dX1_areNear_1 ?_
    refine q_aload_n 37 rfl rfl dX1_areNear_36 ?_
    refine q_getR 40 rfl fX1_9 rfl q (tN hq) (gN_1 hq hG) dX1_areNear_37 ?_
    refine q_iload_n 41 rfl rfl dX1_areNear_40 ?_
    refine q_iald 42 rfl (q + 1) (tN1 hq) (by omega) (by decide) dX1_areNear_41 ?_
    refine q_aload_n 43 rfl rfl dX1_areNear_42 ?_
    refine q_getR 46 rfl fX1_9 rfl q (tN hq) (gN_1 hq hG) dX1_areNear_43 ?_
    refine q_iload 48 rfl rfl dX1_areNear_46 ?_
    refine q_iald 49 rfl (q + 1) (tN1 hq) (by omega) (by decide) dX1_areNear_48 ?_
    refine q_icmp_ne 52 rfl 73 (by decide) (by omega) (by omega) dX1_areNear_49 (fun h49 => ?_) (fun h49 => ?_)
    · refine q_iconst 74 rfl 0 k_i0 dX1_areNear_73 ?_
      refine q_zret rfl (by first | exact q_n0 | exact q_n1 | exact q_nb _) dX1_areNear_74 ?_
      first
        | (rw [show nr6 N q 0 ms n m = true from decide_eq_true (by show N (q + 1) n = N (q + 1) m ∧ unl (lt6 N q) n m (N (q + 1) n) ≤ ms; omega)]; exact ⟨rfl, rfl⟩)
        | (rw [show nr6 N q 0 ms n m = false from decide_eq_false (by show ¬ (N (q + 1) n = N (q + 1) m ∧ unl (lt6 N q) n m (N (q + 1) n) ≤ ms); omega)]; exact ⟨rfl, rfl⟩)
    · refine q_aload_n 53 rfl rfl dX1_areNear_52 ?_
      refine q_iload_n 54 rfl rfl dX1_areNear_53 ?_
      refine q_iload 56 rfl rfl dX1_areNear_54 ?_
      refine q_aload_n 57 rfl rfl dX1_areNear_56 ?_
      refine q_getR 60 rfl fX1_9 rfl q (tN hq) (gN_1 hq hG) dX1_areNear_57 ?_
      refine q_iload_n 61 rfl rfl dX1_areNear_60 ?_
      refine q_iald 62 rfl (q + 1) (tN1 hq) (by omega) (by decide) dX1_areNear_61 ?_
      refine q_cV3 65 rfl lX1_50 (k_unlikeP hG hq hN hn hm (by omega)) rfl q (tN hq) rfl rfl rfl dX1_areNear_62 ?_
      refine q_iload_n 66 rfl rfl dX1_areNear_65 ?_
      refine q_icmp_gt 69 rfl 73 (by decide) (by omega) (by omega) dX1_areNear_66 (fun h66 => ?_) (fun h66 => ?_)
      · refine q_iconst 74 rfl 0 k_i0 dX1_areNear_73 ?_
        refine q_zret rfl (by first | exact q_n0 | exact q_n1 | exact q_nb _) dX1_areNear_74 ?_
        first
          | (rw [show nr6 N q 0 ms n m = true from decide_eq_true (by show N (q + 1) n = N (q + 1) m ∧ unl (lt6 N q) n m (N (q + 1) n) ≤ ms; omega)]; exact ⟨rfl, rfl⟩)
          | (rw [show nr6 N q 0 ms n m = false from decide_eq_false (by show ¬ (N (q + 1) n = N (q + 1) m ∧ unl (lt6 N q) n m (N (q + 1) n) ≤ ms); omega)]; exact ⟨rfl, rfl⟩)
      · refine q_iconst 70 rfl 1 k_i1 dX1_areNear_69 ?_
        refine q_goto 74 (by decide) dX1_areNear_70 ?_
        refine q_zret rfl (by first | exact q_n0 | exact q_n1 | exact q_nb _) dX1_areNear_74 ?_
        first
          | (rw [show nr6 N q 0 ms n m = true from decide_eq_true (by show N (q + 1) n = N (q + 1) m ∧ unl (lt6 N q) n m (N (q + 1) n) ≤ ms; omega)]; exact ⟨rfl, rfl⟩)
          | (rw [show nr6 N q 0 ms n m = false from decide_eq_false (by show ¬ (N (q + 1) n = N (q + 1) m ∧ unl (lt6 N q) n m (N (q + 1) n) ≤ ms); omega)]; exact ⟨rfl, rfl⟩)
  · refine q_con (by decide) rfl rfl (Nat.le_of_ble_eq_true rfl) ?_
    refine q_iload_n 1 rfl rfl dX1_areNear_0 ?_
    refine q_tab 75 (by decide) (by decide) (by decide) rfl (by decide) dX1_areNear_1 ?_
    refine q_aload_n 76 rfl rfl dX1_areNear_75 ?_
    refine q_getR 79 rfl fX1_9 rfl q (tN hq) (gN_1 hq hG) dX1_areNear_76 ?_
    refine q_iload_n 80 rfl rfl dX1_areNear_79 ?_
    refine q_iald 81 rfl (q + 1) (tN1 hq) (by omega) (by decide) dX1_areNear_80 ?_
    refine q_iload_n 82 rfl rfl dX1_areNear_81 ?_
    refine q_icmp_lt 85 rfl 111 (by decide) (by omega) (by omega) dX1_areNear_82 (fun h82 => ?_) (fun h82 => ?_)
    · refine q_iconst 112 rfl 0 k_i0 dX1_areNear_111 ?_
      refine q_zret rfl (by first | exact q_n0 | exact q_n1 | exact q_nb _) dX1_areNear_112 ?_
      first
        | (rw [show nr6 N q 1 ms n m = true from decide_eq_true (by show ms ≤ N (q + 1) n ∧ ms ≤ N (q + 1) m ∧ unl (lt6 N q) n m ms = 0; omega)]; exact ⟨rfl, rfl⟩)
        | (rw [show nr6 N q 1 ms n m = false from decide_eq_false (by show ¬ (ms ≤ N (q + 1) n ∧ ms ≤ N (q + 1) m ∧ unl (lt6 N q) n m ms = 0); omega)]; exact ⟨rfl, rfl⟩)
    · refine q_aload_n 86 rfl rfl dX1_areNear_85 ?_
      refine q_getR 89 rfl fX1_9 rfl q (tN hq) (gN_1 hq hG) dX1_areNear_86 ?_
      refine q_iload 91 rfl rfl dX1_areNear_89 ?_
      refine q_iald 92 rfl (q + 1) (tN1 hq) (by omega) (by decide) dX1_areNear_91 ?_
      refine q_iload_n 93 rfl rfl dX1_areNear_92 ?_
      refine q_icmp_lt 96 rfl 111 (by decide) (by omega) (by omega) dX1_areNear_93 (fun h93 => ?_) (fun h93 => ?_)
      · refine q_iconst 112 rfl 0 k_i0 dX1_areNear_111 ?_
        refine q_zret rfl (by first | exact q_n0 | exact q_n1 | exact q_nb _) dX1_areNear_112 ?_
        first
          | (rw [show nr6 N q 1 ms n m = true from decide_eq_true (by show ms ≤ N (q + 1) n ∧ ms ≤ N (q + 1) m ∧ unl (lt6 N q) n m ms = 0; omega)]; exact ⟨rfl, rfl⟩)
          | (rw [show nr6 N q 1 ms n m = false from decide_eq_false (by show ¬ (ms ≤ N (q + 1) n ∧ ms ≤ N (q + 1) m ∧ unl (lt6 N q) n m ms = 0); omega)]; exact ⟨rfl, rfl⟩)
      · refine q_aload_n 97 rfl rfl dX1_areNear_96 ?_
        refine q_iload_n 98 rfl rfl dX1_areNear_97 ?_
        refine q_iload 100 rfl rfl dX1_areNear_98 ?_
        refine q_iload_n 101 rfl rfl dX1_areNear_100 ?_
        refine q_cV3 104 rfl lX1_50 (k_unlikeP hG hq hN hn hm (by omega)) rfl q (tN hq) rfl rfl rfl dX1_areNear_101 ?_
        refine q_if_ne 107 rfl 111 (by decide) (by omega) dX1_areNear_104 (fun h104 => ?_) (fun h104 => ?_)
        · refine q_iconst 112 rfl 0 k_i0 dX1_areNear_111 ?_
          refine q_zret rfl (by first | exact q_n0 | exact q_n1 | exact q_nb _) dX1_areNear_112 ?_
          first
            | (rw [show nr6 N q 1 ms n m = true from decide_eq_true (by show ms ≤ N (q + 1) n ∧ ms ≤ N (q + 1) m ∧ unl (lt6 N q) n m ms = 0; omega)]; exact ⟨rfl, rfl⟩)
            | (rw [show nr6 N q 1 ms n m = false from decide_eq_false (by show ¬ (ms ≤ N (q + 1) n ∧ ms ≤ N (q + 1) m ∧ unl (lt6 N q) n m ms = 0); omega)]; exact ⟨rfl, rfl⟩)
        · refine q_iconst 108 rfl 1 k_i1 dX1_areNear_107 ?_
          refine q_goto 112 (by decide) dX1_areNear_108 ?_
          refine q_zret rfl (by first | exact q_n0 | exact q_n1 | exact q_nb _) dX1_areNear_112 ?_
          first
            | (rw [show nr6 N q 1 ms n m = true from decide_eq_true (by show ms ≤ N (q + 1) n ∧ ms ≤ N (q + 1) m ∧ unl (lt6 N q) n m ms = 0; omega)]; exact ⟨rfl, rfl⟩)
            | (rw [show nr6 N q 1 ms n m = false from decide_eq_false (by show ¬ (ms ≤ N (q + 1) n ∧ ms ≤ N (q + 1) m ∧ unl (lt6 N q) n m ms = 0); omega)]; exact ⟨rfl, rfl⟩)
  · refine q_con (by decide) rfl rfl (Nat.le_of_ble_eq_true rfl) ?_
    refine q_iload_n 1 rfl rfl dX1_areNear_0 ?_
    refine q_tab 113 (by decide) (by decide) (by decide) rfl (by decide) dX1_areNear_1 ?_
    refine q_aload_n 114 rfl rfl dX1_areNear_113 ?_
    refine q_getR 117 rfl fX1_9 rfl q (tN hq) (gN_1 hq hG) dX1_areNear_114 ?_
    refine q_iload_n 118 rfl rfl dX1_areNear_117 ?_
    refine q_iald 119 rfl (q + 1) (tN1 hq) (by omega) (by decide) dX1_areNear_118 ?_
    refine q_aload_n 120 rfl rfl dX1_areNear_119 ?_
    refine q_getR 123 rfl fX1_9 rfl q (tN hq) (gN_1 hq hG) dX1_areNear_120 ?_
    refine q_iload 125 rfl rfl dX1_areNear_123 ?_
    refine q_iald 126 rfl (q + 1) (tN1 hq) (by omega) (by decide) dX1_areNear_125 ?_
    refine q_isubG 127 rfl (by omega) dX1_areNear_126 ?_
    refine q_mabs 130 rfl (by omega) (by omega) lmX1_54 (by decide) (Nat.le_of_ble_eq_true rfl) (by decide) (by decide) dX1_areNear_127 ?_
    refine q_iload_n 131 rfl rfl dX1_areNear_130 ?_
    refine q_icmp_gt 134 rfl 138 (by decide) (by omega) (by omega) dX1_areNear_131 (fun h131 => ?_) (fun h131 => ?_)
    · refine q_iconst 139 rfl 0 k_i0 dX1_areNear_138 ?_
      refine q_zret rfl (by first | exact q_n0 | exact q_n1 | exact q_nb _) dX1_areNear_139 ?_
      first
        | (rw [show nr6 N q 2 ms n m = true from decide_eq_true (by show dst (N (q + 1) n) (N (q + 1) m) ≤ ms; omega)]; exact ⟨rfl, rfl⟩)
        | (rw [show nr6 N q 2 ms n m = false from decide_eq_false (by show ¬ (dst (N (q + 1) n) (N (q + 1) m) ≤ ms); omega)]; exact ⟨rfl, rfl⟩)
    · refine q_iconst 135 rfl 1 k_i1 dX1_areNear_134 ?_
      refine q_goto 139 (by decide) dX1_areNear_135 ?_
      refine q_zret rfl (by first | exact q_n0 | exact q_n1 | exact q_nb _) dX1_areNear_139 ?_
      first
        | (rw [show nr6 N q 2 ms n m = true from decide_eq_true (by show dst (N (q + 1) n) (N (q + 1) m) ≤ ms; omega)]; exact ⟨rfl, rfl⟩)
        | (rw [show nr6 N q 2 ms n m = false from decide_eq_false (by show ¬ (dst (N (q + 1) n) (N (q + 1) m) ≤ ms); omega)]; exact ⟨rfl, rfl⟩)
  · refine q_con (by decide) rfl rfl (Nat.le_of_ble_eq_true rfl) ?_
    refine q_iload_n 1 rfl rfl dX1_areNear_0 ?_
    refine q_tab 140 (by decide) (by decide) (by decide) rfl (by decide) dX1_areNear_1 ?_
    refine q_aload_n 141 rfl rfl dX1_areNear_140 ?_
    refine q_getR 144 rfl fX1_18 rfl q (tN hq) (gN_3 hq hG) dX1_areNear_141 ?_
    refine q_iload_n 145 rfl rfl dX1_areNear_144 ?_
    refine q_iald 146 rfl (q + 3) (tN3 hq) (by omega) (by decide) dX1_areNear_145 ?_
    refine q_aload_n 147 rfl rfl dX1_areNear_146 ?_
    refine q_getR 150 rfl fX1_18 rfl q (tN hq) (gN_3 hq hG) dX1_areNear_147 ?_
    refine q_iload 152 rfl rfl dX1_areNear_150 ?_
    refine q_iald 153 rfl (q + 3) (tN3 hq) (by omega) (by decide) dX1_areNear_152 ?_
    refine q_iand 154 rfl dX1_areNear_153 ?_
    refine q_cS1 157 rfl lX1_60 (k_bitCount t2) rfl rfl rfl dX1_areNear_154 ?_
    refine q_iload_n 158 rfl rfl dX1_areNear_157 ?_
    refine q_icmp_lt 161 rfl 165 (by decide) (by omega) (by omega) dX1_areNear_158 (fun h158 => ?_) (fun h158 => ?_)
    · refine q_iconst 166 rfl 0 k_i0 dX1_areNear_165 ?_
      refine q_zret rfl (by first | exact q_n0 | exact q_n1 | exact q_nb _) dX1_areNear_166 ?_
      first
        | (rw [show nr6 N q 3 ms n m = true from decide_eq_true (by show ms ≤ pc (N (q + 3) n &&& N (q + 3) m) 26; omega)]; exact ⟨rfl, rfl⟩)
        | (rw [show nr6 N q 3 ms n m = false from decide_eq_false (by show ¬ (ms ≤ pc (N (q + 3) n &&& N (q + 3) m) 26); omega)]; exact ⟨rfl, rfl⟩)
    · refine q_iconst 162 rfl 1 k_i1 dX1_areNear_161 ?_
      refine q_goto 166 (by decide) dX1_areNear_162 ?_
      refine q_zret rfl (by first | exact q_n0 | exact q_n1 | exact q_nb _) dX1_areNear_166 ?_
      first
        | (rw [show nr6 N q 3 ms n m = true from decide_eq_true (by show ms ≤ pc (N (q + 3) n &&& N (q + 3) m) 26; omega)]; exact ⟨rfl, rfl⟩)
        | (rw [show nr6 N q 3 ms n m = false from decide_eq_false (by show ¬ (ms ≤ pc (N (q + 3) n &&& N (q + 3) m) 26); omega)]; exact ⟨rfl, rfl⟩)
  · refine q_con (by decide) rfl rfl (Nat.le_of_ble_eq_true rfl) ?_
    refine q_iload_n 1 rfl rfl dX1_areNear_0 ?_
    refine q_tab 167 (by decide) (by decide) (by decide) rfl (by decide) dX1_areNear_1 ?_
    refine q_aload_n 168 rfl rfl dX1_areNear_167 ?_
    refine q_getR 171 rfl fX1_21 rfl q (tN hq) (gN_4 hq hG) dX1_areNear_168 ?_
    refine q_iload_n 172 rfl rfl dX1_areNear_171 ?_
    refine q_iald 173 rfl (q + 4) (tN4 hq) (by omega) (by decide) dX1_areNear_172 ?_
    refine q_aload_n 174 rfl rfl dX1_areNear_173 ?_
    refine q_getR 177 rfl fX1_21 rfl q (tN hq) (gN_4 hq hG) dX1_areNear_174 ?_
    refine q_iload 179 rfl rfl dX1_areNear_177 ?_
    refine q_iald 180 rfl (q + 4) (tN4 hq) (by omega) (by decide) dX1_areNear_179 ?_
    refine q_isubG 181 rfl (by omega) dX1_areNear_180 ?_
    refine q_mabs 184 rfl (by omega) (by omega) lmX1_54 (by decide) (Nat.le_of_ble_eq_true rfl) (by decide) (by decide) dX1_areNear_181 ?_
    refine q_iload_n 185 rfl rfl dX1_areNear_184 ?_
    refine q_icmp_gt 188 rfl 192 (by decide) (by omega) (by omega) dX1_areNear_185 (fun h185 => ?_) (fun h185 => ?_)
    · refine q_iconst 193 rfl 0 k_i0 dX1_areNear_192 ?_
      refine q_zret rfl (by first | exact q_n0 | exact q_n1 | exact q_nb _) dX1_areNear_193 ?_
      first
        | (rw [show nr6 N q 4 ms n m = true from decide_eq_true (by show dst (N (q + 4) n) (N (q + 4) m) ≤ ms; omega)]; exact ⟨rfl, rfl⟩)
        | (rw [show nr6 N q 4 ms n m = false from decide_eq_false (by show ¬ (dst (N (q + 4) n) (N (q + 4) m) ≤ ms); omega)]; exact ⟨rfl, rfl⟩)
    · refine q_iconst 189 rfl 1 k_i1 dX1_areNear_188 ?_
      refine q_goto 193 (by decide) dX1_areNear_189 ?_
      refine q_zret rfl (by first | exact q_n0 | exact q_n1 | exact q_nb _) dX1_areNear_193 ?_
      first
        | (rw [show nr6 N q 4 ms n m = true from decide_eq_true (by show dst (N (q + 4) n) (N (q + 4) m) ≤ ms; omega)]; exact ⟨rfl, rfl⟩)
        | (rw [show nr6 N q 4 ms n m = false from decide_eq_false (by show ¬ (dst (N (q + 4) n) (N (q + 4) m) ≤ ms); omega)]; exact ⟨rfl, rfl⟩)
theorem withL_lp {Z : q_Zt} {p l mc mz : Nat} {q c : Nat} (hG : GF ad G) (hq : isN q) (hN : CN N q c) (hp : p < 8) (hl26 : l < 26) (hx : q_R Γ mX1_withLetterAt (q_room 1 mc mz) Z 0 0 49 [(3, .int (nI (mk (fun n => decide (p < N (q + 1) n ∧ lt6 N q n p = l)) (c))))] [] (LT ad, N, L, G)) : ∀ i, i ≤ c →  ∀ s : Nat, s = mk (fun n => decide (p < N (q + 1) n ∧ lt6 N q n p = l)) i → q_R Γ mX1_withLetterAt (q_room 1 mc mz) Z 0 0 5 [(0, .ref (ad q)), (1, .int (nI p)), (2, .int (nI l)), (3, .int (nI s)), (4, .int (nI i))] [] (LT ad, N, L, G) := by
  refine dn_loop (c) ?_ ?_
  · intro s h_s
    obtain ⟨hc, hc9, hl, hb, hls, hvw, hwr, hwl⟩ := id hN
    refine q_iload 7 rfl rfl dX1_withLetterAt_5 ?_
    refine q_aload_n 8 rfl rfl dX1_withLetterAt_7 ?_
    refine q_getI 11 rfl fX1_27 rfl q (tN hq) dX1_withLetterAt_8 ?_
    refine q_icmp_ge 14 rfl 49 (by decide) (by omega) (by omega) dX1_withLetterAt_11 (fun h11 => ?_) (fun h11 => ?_)
    · subst h_s
      exact q_loc hx (q_sub1 rfl q_sub0)
    · exfalso; omega
  · intro i h_i ih s h_s
    obtain ⟨hc, hc9, hl, hb, hls, hvw, hwr, hwl⟩ := id hN
    have a1 := hl i (by omega)
    have b1 := hb (i * 8 + p) (by omega)
    refine q_iload 7 rfl rfl dX1_withLetterAt_5 ?_
    refine q_aload_n 8 rfl rfl dX1_withLetterAt_7 ?_
    refine q_getI 11 rfl fX1_27 rfl q (tN hq) dX1_withLetterAt_8 ?_
    refine q_icmp_ge 14 rfl 49 (by decide) (by omega) (by omega) dX1_withLetterAt_11 (fun h11 => ?_) (fun h11 => ?_)
    · exfalso; omega
    · refine q_iload_n 15 rfl rfl dX1_withLetterAt_14 ?_
      refine q_aload_n 16 rfl rfl dX1_withLetterAt_15 ?_
      refine q_getR 19 rfl fX1_9 rfl q (tN hq) (gN_1 hq hG) dX1_withLetterAt_16 ?_
      refine q_iload 21 rfl rfl dX1_withLetterAt_19 ?_
      refine q_iald 22 rfl (q + 1) (tN1 hq) (by omega) (by decide) dX1_withLetterAt_21 ?_
      refine q_icmp_ge 25 rfl 43 (by decide) (by omega) (by omega) dX1_withLetterAt_22 (fun h22 => ?_) (fun h22 => ?_)
      · refine q_iinc1 46 rfl 1 k_i1 rfl (by decide) dX1_withLetterAt_43 ?_
        refine q_goto 5 (by decide) dX1_withLetterAt_46 ?_
        refine q_loc (ih _ ?_) (q_sub1 rfl (q_sub1 rfl (q_sub1 rfl (q_sub1 rfl (q_sub1 rfl q_sub0)))))
        · rw [h_s]
          simp only [mk]
          first
            | (rw [if_pos (decide_eq_true (show p < N (q + 1) i ∧ N (q + 2) (i * 8 + p) = l by omega)), Nat.one_mul]; done)
            | (rw [if_neg (show ¬ (decide (p < N (q + 1) i ∧ N (q + 2) (i * 8 + p) = l) = true) from fun q => absurd (of_decide_eq_true q) (by omega)), Nat.or_zero]; done)
      · refine q_aload_n 26 rfl rfl dX1_withLetterAt_25 ?_
        refine q_iload 28 rfl rfl dX1_withLetterAt_26 ?_
        refine q_iload_n 29 rfl rfl dX1_withLetterAt_28 ?_
        refine q_cV2 32 rfl lX1_42 (k_letterAt hG hq (by omega) hp) rfl q (tN hq) rfl rfl rfl dX1_withLetterAt_29 ?_
        refine q_iload_n 33 rfl rfl dX1_withLetterAt_32 ?_
        refine q_icmp_ne 36 rfl 43 (by decide) (by omega) (by omega) dX1_withLetterAt_33 (fun h33 => ?_) (fun h33 => ?_)
        · refine q_iinc1 46 rfl 1 k_i1 rfl (by decide) dX1_withLetterAt_43 ?_
          refine q_goto 5 (by decide) dX1_withLetterAt_46 ?_
          refine q_loc (ih _ ?_) (q_sub1 rfl (q_sub1 rfl (q_sub1 rfl (q_sub1 rfl (q_sub1 rfl q_sub0)))))
          · rw [h_s]
            simp only [mk]
            first
              | (rw [if_pos (decide_eq_true (show p < N (q + 1) i ∧ N (q + 2) (i * 8 + p) = l by omega)), Nat.one_mul]; done)
              | (rw [if_neg (show ¬ (decide (p < N (q + 1) i ∧ N (q + 2) (i * 8 + p) = l) = true) from fun q => absurd (of_decide_eq_true q) (by omega)), Nat.or_zero]; done)
        · refine q_iload_n 37 rfl rfl dX1_withLetterAt_36 ?_
          refine q_iconst 38 rfl 1 k_i1 dX1_withLetterAt_37 ?_
          refine q_iload 40 rfl rfl dX1_withLetterAt_38 ?_
          refine q_ishl 41 rfl (by omega) dX1_withLetterAt_40 ?_
          refine q_ior 42 rfl dX1_withLetterAt_41 ?_
          refine q_istore_n 43 rfl (by decide) dX1_withLetterAt_42 ?_
          refine q_iinc1 46 rfl 1 k_i1 rfl (by decide) dX1_withLetterAt_43 ?_
          refine q_goto 5 (by decide) dX1_withLetterAt_46 ?_
          refine q_loc (ih _ ?_) (q_sub1 rfl (q_sub1 rfl (q_sub1 rfl (q_sub1 rfl (q_sub1 rfl q_sub0)))))
          · rw [h_s]
            simp only [mk]
            first
              | (rw [if_pos (decide_eq_true (show p < N (q + 1) i ∧ N (q + 2) (i * 8 + p) = l by omega)), Nat.one_mul]; done)
              | (rw [if_neg (show ¬ (decide (p < N (q + 1) i ∧ N (q + 2) (i * 8 + p) = l) = true) from fun q => absurd (of_decide_eq_true q) (by omega)), Nat.or_zero]; done)
theorem k_withL {p l : Nat} {q c : Nat} (hG : GF ad G) (hq : isN q) (hN : CN N q c) (hp : p < 8) (hl26 : l < 26) : q_Con Γ mX1_withLetterAt 1 0 0 [.ref (ad q), .int (nI p), .int (nI l)] (LT ad, N, L, G) (q_is (some (.int (nI (mk (fun n => decide (p < N (q + 1) n ∧ lt6 N q n p = l)) c)))) (LT ad, N, L, G)) := by
  refine q_con (by decide) rfl rfl (Nat.le_of_ble_eq_true rfl) ?_
  refine q_iconst 1 rfl 0 k_i0 dX1_withLetterAt_0 ?_
  refine q_istore_n 2 rfl (by decide) dX1_withLetterAt_1 ?_
  refine q_iconst 3 rfl 0 k_i0 dX1_withLetterAt_2 ?_
  refine q_istore 5 rfl (by decide) dX1_withLetterAt_3 ?_
  refine q_loc (withL_lp hG hq hN hp hl26 ?_ 0 (by omega) _ rfl) (q_sub1 rfl (q_sub1 rfl (q_sub1 rfl (q_sub1 rfl (q_sub1 rfl q_sub0)))))
  refine q_iload_n 50 rfl rfl dX1_withLetterAt_49 ?_
  refine q_iret rfl dX1_withLetterAt_50 ?_
  exact ⟨rfl, rfl⟩
theorem fillN_in {Z : q_Zt} {r n kd ms mc mz : Nat} {q c : Nat} (hG : GF ad G) (hq : isN q) (hN : CN N q c) (hn : n < 9) (hk : kd < 5) (hms : ms ≤ 8) (hx : q_R Γ mX1_fillNear (q_room 3 mc mz) Z 0 0 55 [(0, .ref (ad q)), (1, .int (nI kd)), (2, .int (nI ms)), (3, .ref (ad r)), (4, .int (nI n)), (5, .int (nI (mk (nr6 N q kd ms n) (c))))] [] (LT ad, N, L, G)) : ∀ i, i ≤ c →  ∀ s : Nat, s = mk (nr6 N q kd ms n) i → q_R Γ mX1_fillNear (q_room 3 mc mz) Z 0 0 18 [(0, .ref (ad q)), (1, .int (nI kd)), (2, .int (nI ms)), (3, .ref (ad r)), (4, .int (nI n)), (5, .int (nI s)), (6, .int (nI i))] [] (LT ad, N, L, G) := by
  refine dn_loop (c) ?_ ?_
  · intro s h_s
    obtain ⟨hc, hc9, hl, hb, hls, hvw, hwr, hwl⟩ := id hN
    refine q_iload 20 rfl rfl dX1_fillNear_18 ?_
    refine q_aload_n 21 rfl rfl dX1_fillNear_20 ?_
    refine q_getI 24 rfl fX1_27 rfl q (tN hq) dX1_fillNear_21 ?_
    refine q_icmp_ge 27 rfl 55 (by decide) (by omega) (by omega) dX1_fillNear_24 (fun h24 => ?_) (fun h24 => ?_)
    · subst h_s
      exact q_loc hx (q_sub1 rfl (q_sub1 rfl (q_sub1 rfl (q_sub1 rfl (q_sub1 rfl (q_sub1 rfl q_sub0))))))
    · exfalso; omega
  · intro i h_i ih s h_s
    obtain ⟨hc, hc9, hl, hb, hls, hvw, hwr, hwl⟩ := id hN
    refine q_iload 20 rfl rfl dX1_fillNear_18 ?_
    refine q_aload_n 21 rfl rfl dX1_fillNear_20 ?_
    refine q_getI 24 rfl fX1_27 rfl q (tN hq) dX1_fillNear_21 ?_
    refine q_icmp_ge 27 rfl 55 (by decide) (by omega) (by omega) dX1_fillNear_24 (fun h24 => ?_) (fun h24 => ?_)
    · exfalso; omega
    · refine q_aload_n 28 rfl rfl dX1_fillNear_27 ?_
      refine q_iload_n 29 rfl rfl dX1_fillNear_28 ?_
      refine q_iload_n 30 rfl rfl dX1_fillNear_29 ?_
      refine q_iload 32 rfl rfl dX1_fillNear_30 ?_
      refine q_iload 34 rfl rfl dX1_fillNear_32 ?_
      refine q_cV4 37 rfl lX1_46 (k_areNear6 hG hq hN hn (by omega) hk hms) rfl q (tN hq) rfl rfl rfl dX1_fillNear_34 ?_
      refine q_if_eqB 40 rfl 49 (by decide) dX1_fillNear_37 (fun h37 => ?_) (fun h37 => ?_)
      · refine q_iinc1 52 rfl 1 k_i1 rfl (by decide) dX1_fillNear_49 ?_
        refine q_goto 18 (by decide) dX1_fillNear_52 ?_
        refine q_loc (ih _ ?_) (q_sub1 rfl (q_sub1 rfl (q_sub1 rfl (q_sub1 rfl (q_sub1 rfl (q_sub1 rfl (q_sub1 rfl q_sub0)))))))
        · rw [h_s]
          simp only [mk]
          rw [h37]
          first
            | (rw [if_pos rfl, Nat.one_mul]; done)
            | (rw [if_neg (by decide), Nat.or_zero]; done)
      · refine q_iload 42 rfl rfl dX1_fillNear_40 ?_
        refine q_iconst 43 rfl 1 k_i1 dX1_fillNear_42 ?_
        refine q_iload 45 rfl rfl dX1_fillNear_43 ?_
        refine q_ishl 46 rfl (by omega) dX1_fillNear_45 ?_
        refine q_ior 47 rfl dX1_fillNear_46 ?_
        refine q_istore 49 rfl (by decide) dX1_fillNear_47 ?_
        refine q_iinc1 52 rfl 1 k_i1 rfl (by decide) dX1_fillNear_49 ?_
        refine q_goto 18 (by decide) dX1_fillNear_52 ?_
        refine q_loc (ih _ ?_) (q_sub1 rfl (q_sub1 rfl (q_sub1 rfl (q_sub1 rfl (q_sub1 rfl (q_sub1 rfl (q_sub1 rfl q_sub0)))))))
        · rw [h_s]
          simp only [mk]
          rw [h37]
          first
            | (rw [if_pos rfl, Nat.one_mul]; done)
            | (rw [if_neg (by decide), Nat.or_zero]; done)
theorem fillN_lp {Z : q_Zt} {r kd ms mc mz : Nat} {q c : Nat} (hG : GF ad G) (hq : isN q) (hN : CN N q c) (hr : r = 36 ∨ r = 49) (hT : (LT ad)[r]? = some (.inl (0, 9), ad r)) (hk : kd < 5) (hms : ms ≤ 8) (hx : q_R Γ mX1_fillNear (q_room 3 mc mz) Z 0 0 67 [] [] (LT ad, (fil N r (fun n => mk (nr6 N q kd ms n) c) (c)), L, G)) : ∀ i, i ≤ c →  ∀ H : Nat → Nat → Nat, H = fil N r (fun n => mk (nr6 N q kd ms n) c) i → q_R Γ mX1_fillNear (q_room 3 mc mz) Z 0 0 3 [(0, .ref (ad q)), (1, .int (nI kd)), (2, .int (nI ms)), (3, .ref (ad r)), (4, .int (nI i))] [] (LT ad, H, L, G) := by
  refine dn_loop (c) ?_ ?_
  · intro H h_H
    obtain ⟨hc, hc9, hl, hb, hls, hvw, hwr, hwl⟩ := id hN
    have eq0 : H q 0 = c := by rw [h_H, fil_ne (by omega)]; exact hc
    refine q_iload 5 rfl rfl dX1_fillNear_3 ?_
    refine q_aload_n 6 rfl rfl dX1_fillNear_5 ?_
    refine q_getI 9 rfl fX1_27 rfl q (tN hq) dX1_fillNear_6 ?_
    refine q_icmp_ge 12 rfl 67 (by decide) (by omega) (by omega) dX1_fillNear_9 (fun h9 => ?_) (fun h9 => ?_)
    · subst h_H
      exact q_loc hx q_sub0
    · exfalso; omega
  · intro i h_i ih H h_H
    obtain ⟨hc, hc9, hl, hb, hls, hvw, hwr, hwl⟩ := id hN
    have hNH : CN H q c := hN.eq (fun a h1 h2 => by rw [h_H, fil_ne (by omega)])
    have enr : nr6 H q kd ms = nr6 N q kd ms := nr6_eq (fun a h1 h2 => by rw [h_H, fil_ne (by omega)])
    have eq0 : H q 0 = c := hNH.1
    refine q_iload 5 rfl rfl dX1_fillNear_3 ?_
    refine q_aload_n 6 rfl rfl dX1_fillNear_5 ?_
    refine q_getI 9 rfl fX1_27 rfl q (tN hq) dX1_fillNear_6 ?_
    refine q_icmp_ge 12 rfl 67 (by decide) (by omega) (by omega) dX1_fillNear_9 (fun h9 => ?_) (fun h9 => ?_)
    · exfalso; omega
    · refine q_iconst 13 rfl 0 k_i0 dX1_fillNear_12 ?_
      refine q_istore 15 rfl (by decide) dX1_fillNear_13 ?_
      refine q_iconst 16 rfl 0 k_i0 dX1_fillNear_15 ?_
      refine q_istore 18 rfl (by decide) dX1_fillNear_16 ?_
      refine q_loc (fillN_in (N := H) (r := r) (n := i) hG hq hNH (by omega) hk hms ?_ 0 (by omega) _ rfl) (q_sub1 rfl (q_sub1 rfl (q_sub1 rfl (q_sub1 rfl (q_sub1 rfl (q_sub1 rfl (q_sub1 rfl q_sub0)))))))
      rw [enr]
      refine q_aload_n 56 rfl rfl dX1_fillNear_55 ?_
      refine q_iload 58 rfl rfl dX1_fillNear_56 ?_
      refine q_iload 60 rfl rfl dX1_fillNear_58 ?_
      refine q_iast 61 rfl r hT (by omega) (by decide) dX1_fillNear_60 ?_
      refine q_iinc1 64 rfl 1 k_i1 rfl (by decide) dX1_fillNear_61 ?_
      refine q_goto 3 (by decide) dX1_fillNear_64 ?_
      refine q_loc (ih _ ?_) (q_sub1 rfl (q_sub1 rfl (q_sub1 rfl (q_sub1 rfl (q_sub1 rfl q_sub0)))))
      · rw [h_H]
        exact fil_s N r (fun n => mk (nr6 N q kd ms n) c) i
theorem k_fillNear {r kd ms : Nat} {q c : Nat} (hG : GF ad G) (hq : isN q) (hN : CN N q c) (hr : r = 36 ∨ r = 49) (hT : (LT ad)[r]? = some (.inl (0, 9), ad r)) (hk : kd < 5) (hms : ms ≤ 8) : q_Con Γ mX1_fillNear 3 0 0 [.ref (ad q), .int (nI kd), .int (nI ms), .ref (ad r)] (LT ad, N, L, G) (q_is none (LT ad, fil N r (fun n => mk (nr6 N q kd ms n) c) c, L, G)) := by
  refine q_con (by decide) rfl rfl (Nat.le_of_ble_eq_true rfl) ?_
  refine q_iconst 1 rfl 0 k_i0 dX1_fillNear_0 ?_
  refine q_istore 3 rfl (by decide) dX1_fillNear_1 ?_
  refine q_loc (fillN_lp (N := N) hG hq hN hr hT hk hms ?_ 0 (by omega) _ (fil_0 _ _ _).symm) (q_sub1 rfl (q_sub1 rfl (q_sub1 rfl (q_sub1 rfl (q_sub1 rfl q_sub0)))))
  refine q_vret rfl dX1_fillNear_67 ?_
  exact ⟨rfl, rfl⟩
end
