/-- the bytes from st on are the j-th constant -/
def wsC (t : Nat → Nat) (st k j : Nat) : Bool := decide (k = q_sl.getD j 0) && alw (fun i => decide (t (st + i) = q_sn j i)) (q_sl.getD j 0)
theorem q_sn_lw : ∀ j, j < 9 → q_sl.getD j 0 = cu (j + 1) - cu j ∧ ∀ i, i < q_sl.getD j 0 → q_sn j i = lw (cu j + i) := by decide +kernel
theorem wsC_wis {t : Nat → Nat} {st k j : Nat} (hj : j < 9) : wsC t st k j = wis t st k j := by
  obtain ⟨h1, h2⟩ := q_sn_lw j hj
  rw [wsC, wis, ← h1]
  by_cases e : k = q_sl.getD j 0
  · rw [decide_eq_true e, Bool.true_and, Bool.true_and, ← e]
    rw [← e] at h2
    have key : ∀ m, m ≤ k → alw (fun i => decide (t (st + i) = q_sn j i)) m = alw (fun i => decide (t (st + i) = lw (cu j + i))) m := by
      intro m
      induction m with
      | zero => intro _; rfl
      | succ m ih => intro hm; simp only [alw]; rw [ih (by omega), h2 m (by omega)]
    exact key k (Nat.le_refl _)
  · rw [decide_eq_false e, Bool.false_and, Bool.false_and]
section
variable {Γ : q_G} {ad : Nat → Nat} {N : Nat → Nat → Nat} {L : Nat → Nat → Int} {G : Nat → Nat → Option Nat}
theorem isw_lp  {j p : Nat} {tk st vl ft : Nat} {mc mz : Nat} (hG : GF ad G) (hr0 : G 2 0 = some (ad 1)) (hl : N 2 1 ≤ 160) (ht : ∀ i, i < 160 → N 1 i < 128) (hj : j < 9) (hs : st ≤ p) (hp : p ≤ N 2 1) (hk : p - st = q_sl.getD j 0)  : ∀ i, i ≤ q_sl.getD j 0 → alw (fun i => decide (N 1 (st + i) = q_sn j i)) i = true →  q_R Γ mX2_isWord (q_room 4 mc mz) (q_Z Γ (q_is (some (.int (nI (wsC (N 1) st (p - st) j).toNat))) (LT ad, P2 N p tk st vl ft, L, G)) 0 0) 0 0 20 [(0, .ref (ad 2)), (1, .ref (q_sa Γ j)), (2, .int (nI i))] [] (LT ad, P2 N p tk st vl ft, L, G) := by
  refine dn_loop (q_sl.getD j 0) ?_ ?_
  · intro h_ex 
    have h7 := q_sl_le j hj
    refine q_iload_n 21 rfl rfl dX2_isWord_20 ?_
    refine q_aload_n 22 rfl rfl dX2_isWord_21 ?_
    refine q_cT0 25 rfl lX2_140 hj rfl (k_strLen hj) rfl rfl rfl dX2_isWord_22 ?_
    refine q_icmp_ge 28 rfl 55 (by decide) (by omega) (by omega) dX2_isWord_25 (fun h25 => ?_) (fun h25 => ?_)
    · refine q_iconst 56 rfl 1 k_i1 dX2_isWord_55 ?_
      refine q_zret rfl (by first | exact q_n0 | exact q_n1 | exact q_nb _) dX2_isWord_56 ?_
      rw [wsC, decide_eq_true hk, h_ex]; exact ⟨rfl, rfl⟩
    · exfalso; omega
  · intro i h_i ih h_ex 
    have h7 := q_sl_le j hj
    have hb := (q_sn_ok j hj i h_i).2
    have hb2 := ht (st + i) (by omega)
    refine q_iload_n 21 rfl rfl dX2_isWord_20 ?_
    refine q_aload_n 22 rfl rfl dX2_isWord_21 ?_
    refine q_cT0 25 rfl lX2_140 hj rfl (k_strLen hj) rfl rfl rfl dX2_isWord_22 ?_
    refine q_icmp_ge 28 rfl 55 (by decide) (by omega) (by omega) dX2_isWord_25 (fun h25 => ?_) (fun h25 => ?_)
    · exfalso; omega
    · refine q_aload_n 29 rfl rfl dX2_isWord_28 ?_
      refine q_getR 32 rfl fX2_9 rfl 2 t_2 hr0 dX2_isWord_29 ?_
      refine q_aload_n 33 rfl rfl dX2_isWord_32 ?_
      refine q_getI 36 rfl fX2_89 rfl 2 t_2 dX2_isWord_33 ?_
      rw [P2_6]
      refine q_iload_n 37 rfl rfl dX2_isWord_36 ?_
      refine q_iadd 38 rfl dX2_isWord_37 ?_
      refine q_bald 39 rfl 1 t_1 (by omega) (by decide) dX2_isWord_38 ?_
      rw [P2_ne (by omega)]
      refine q_aload_n 40 rfl rfl dX2_isWord_39 ?_
      refine q_iload_n 41 rfl rfl dX2_isWord_40 ?_
      refine q_cT1 44 rfl lX2_144 hj rfl (k_charAt hj (by omega)) rfl rfl rfl dX2_isWord_41 ?_
      refine q_icmp_eq 47 rfl 49 (by decide) (by omega) (by omega) dX2_isWord_44 (fun h44 => ?_) (fun h44 => ?_)
      · refine q_iinc1 52 rfl 1 k_i1 rfl (by decide) dX2_isWord_49 ?_
        refine q_goto 20 (by decide) dX2_isWord_52 ?_
        refine q_loc (ih ?_) (q_sub1 rfl (q_sub1 rfl (q_sub1 rfl q_sub0)))
        rw [show alw (fun i => decide (N 1 (st + i) = q_sn j i)) (i + 1) = (alw (fun i => decide (N 1 (st + i) = q_sn j i)) i && decide (N 1 (st + i) = q_sn j i)) from rfl, h_ex, Bool.true_and]
        exact decide_eq_true (by omega)
      · refine q_iconst 48 rfl 0 k_i0 dX2_isWord_47 ?_
        refine q_zret rfl (by first | exact q_n0 | exact q_n1 | exact q_nb _) dX2_isWord_48 ?_
        rw [wsC, alw_split h_i (decide_eq_false (by omega)), Bool.and_false]; exact ⟨rfl, rfl⟩
theorem k_isWord {j p : Nat} {tk st vl ft : Nat} (hG : GF ad G) (hr0 : G 2 0 = some (ad 1)) (hl : N 2 1 ≤ 160) (ht : ∀ i, i < 160 → N 1 i < 128) (hj : j < 9) (hs : st ≤ p) (hp : p ≤ N 2 1) : q_Con Γ mX2_isWord 4 0 0 [.ref (ad 2), .ref (q_sa Γ j)] (LT ad, P2 N p tk st vl ft, L, G) (q_is (some (.int (nI ((wis (N 1) st (p - st) j).toNat)))) (LT ad, P2 N p tk st vl ft, L, G)) := by
  rw [← wsC_wis hj]
  have h7 := q_sl_le j hj
  refine q_con (by decide) rfl rfl (Nat.le_of_ble_eq_true rfl) ?_
  refine q_aload_n 1 rfl rfl dX2_isWord_0 ?_
  refine q_getI 4 rfl fX2_27 rfl 2 t_2 dX2_isWord_1 ?_
  rw [P2_4]
  refine q_aload_n 5 rfl rfl dX2_isWord_4 ?_
  refine q_getI 8 rfl fX2_89 rfl 2 t_2 dX2_isWord_5 ?_
  rw [P2_6]
  refine q_isub 9 rfl (by omega) dX2_isWord_8 ?_
  refine q_aload_n 10 rfl rfl dX2_isWord_9 ?_
  refine q_cT0 13 rfl lX2_140 hj rfl (k_strLen hj) rfl rfl rfl dX2_isWord_10 ?_
  refine q_icmp_eq 16 rfl 18 (by decide) (by omega) (by omega) dX2_isWord_13 (fun h13 => ?_) (fun h13 => ?_)
  · refine q_iconst 19 rfl 0 k_i0 dX2_isWord_18 ?_
    refine q_istore_n 20 rfl (by decide) dX2_isWord_19 ?_
    exact q_loc (isw_lp (N := N) hG hr0 hl ht hj hs hp (by omega) 0 (by omega) rfl) (q_sub1 rfl (q_sub1 rfl (q_sub1 rfl q_sub0)))
  · refine q_iconst 17 rfl 0 k_i0 dX2_isWord_16 ?_
    refine q_zret rfl (by first | exact q_n0 | exact q_n1 | exact q_nb _) dX2_isWord_17 ?_
    rw [wsC, decide_eq_false (by omega)]; exact ⟨rfl, rfl⟩
end
/-- the kinds by their words are told apart from the lines' words -/
theorem cu_pos : ∀ j, j < 9 → 0 < cu (j + 1) - cu j := by decide
theorem wis_s {t : Nat → Nat} {st k j : Nat} (hj : j < 9) (h : wis t st k j = true) : k = cu (j + 1) - cu j ∧ t st = lw (cu j) := by
  rw [wis, Bool.and_eq_true, decide_eq_true_eq] at h
  have h9 := cu_pos j hj
  have h0 : 0 < k := by omega
  have := of_decide_eq_true (alw_at h0 h.2)
  rw [Nat.add_zero, Nat.add_zero] at this
  exact ⟨h.1, this⟩
theorem whf9 {t : Nat → Nat} {st k : Nat} : whf t st k 9 0 = if wis t st k 0 = true then 0 else if wis t st k 1 = true then 1 else if wis t st k 2 = true then 2 else if wis t st k 3 = true then 3 else if wis t st k 4 = true then 4 else if wis t st k 5 = true then 5 else if wis t st k 6 = true then 6 else if wis t st k 7 = true then 7 else if wis t st k 8 = true then 8 else 4294967292 := rfl
theorem cuw : ∀ i, i < 4 → ∀ j, j < 9 → 4 ≤ j → ¬ (cu (i + 1) - cu i = cu (j + 1) - cu j ∧ lw (cu i) = lw (cu j)) := by decide
/-- a kind's word is no line's word -/
theorem wis_x {t : Nat → Nat} {st k i j : Nat} (hi : i < 4) (hj : 4 ≤ j) (hj9 : j < 9) (h : wis t st k j = true) : wis t st k i = false := by
  cases h1 : wis t st k i with
  | false => rfl
  | true =>
    obtain ⟨a1, a2⟩ := wis_s (by omega) h
    obtain ⟨b1, b2⟩ := wis_s (by omega) h1
    exact absurd ⟨b1.symm.trans a1, b2.symm.trans a2⟩ (cuw i hi j hj9 hj)
