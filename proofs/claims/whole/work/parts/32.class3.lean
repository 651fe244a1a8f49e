def EU (g K A B i : Nat) : Prop := Nat.gcd A B = g ∧ A < 2147483648 ∧ 0 < B ∧ B < 2147483648 ∧ (i = 0 ∨ A < B) ∧ A * B * 2 ^ i ≤ 2 * K ∧ (i = 0 → A * B ≤ K)
theorem EU.step {g K A B i : Nat} (h : EU g K A B i) (hA : A ≠ 0) : EU g K (B % A) A (i + 1) := by
  obtain ⟨h1, h2, h3, h4, h5, h6, h7⟩ := h
  have hr : B % A < A := Nat.mod_lt _ (by omega)
  refine ⟨by rw [← h1, ← Nat.gcd_rec], by omega, by omega, h2, .inr hr, ?_, fun q => by omega⟩
  rcases Nat.lt_or_ge A B with q | q
  · have hd := Nat.div_add_mod B A
    have hq : 1 ≤ B / A := (Nat.one_le_div_iff (by omega)).mpr (by omega)
    have hm : A * 1 ≤ A * (B / A) := Nat.mul_le_mul_left A hq
    have h2r : B % A * 2 ≤ B := by omega
    have e : B % A * A * 2 ^ (i + 1) = (B % A * 2) * (A * 2 ^ i) := by rw [Nat.pow_succ]; ac_rfl
    have e2 : A * B * 2 ^ i = B * (A * 2 ^ i) := by ac_rfl
    rw [e]; rw [e2] at h6
    exact Nat.le_trans (Nat.mul_le_mul_right _ h2r) h6
  · have i0 : i = 0 := by omega
    subst i0
    have := h7 rfl
    have hm : B % A * A ≤ B * A := Nat.mul_le_mul_right _ (Nat.mod_le _ _)
    have e : B * A = A * B := Nat.mul_comm _ _
    show B % A * A * 2 ≤ 2 * K
    omega
theorem EU.fin {g K A B : Nat} (h : EU g K A B 64) (hK : K < 4611686018427387904) : A = 0 := by
  obtain ⟨h1, h2, h3, h4, h5, h6, h7⟩ := h
  rcases Nat.eq_zero_or_pos A with q | q
  · exact q
  · have : 1 ≤ A * B := Nat.mul_pos q h3
    have h8 : 1 * 2 ^ 64 ≤ A * B * 2 ^ 64 := Nat.mul_le_mul_right _ this
    have e : (2 : Nat) ^ 64 = 18446744073709551616 := by decide
    omega
theorem EU.zero {g K A B i : Nat} (h : EU g K A B i) (hA : A = 0) : B = g := by
  subst hA
  exact (Nat.gcd_zero_left B).symm.trans h.1
theorem clr_bits : ∀ s, s < 512 → s ≠ 0 → (∀ i, i < 9 → (s &&& (s - 1)).testBit i = (s.testBit i && decide (pc s i ≠ 0))) ∧ (∀ i, i < 10 → pc (s &&& (s - 1)) i = pc s i - 1) := by decide +kernel
theorem kth_clr {s k : Nat} (hs : s < 512) (h0 : s ≠ 0) (hk : k + 1 < pc s 9) : kth (s &&& (s - 1)) k = kth s (k + 1) := by
  obtain ⟨h1, h2, h3⟩ := kth_spec hk
  obtain ⟨c1, c2⟩ := clr_bits s hs h0
  refine kth_eq h1 ?_ ?_
  · rw [c1 _ h1, h2, h3]; simp
  · rw [c2 _ (by omega), h3]; rfl
def clrN (s : Nat) : Nat → Nat
  | 0 => s
  | i + 1 => clrN s i &&& (clrN s i - 1)
theorem clrN_le (s i : Nat) : clrN s i ≤ s := by
  induction i with
  | zero => exact Nat.le_refl _
  | succ i ih => exact Nat.le_trans Nat.and_le_left ih
theorem clrN_spec {s : Nat} (hs : s < 512) : ∀ i, i < pc s 9 → clrN s i ≠ 0 ∧ pc (clrN s i) 9 = pc s 9 - i ∧ ∀ j, i + j < pc s 9 → kth (clrN s i) j = kth s (i + j) := by
  have pz : pc 0 9 = 0 := by decide
  intro i
  induction i with
  | zero => intro h; refine ⟨fun q => ?_, rfl, fun j _ => by rw [Nat.zero_add]; rfl⟩; rw [show s = 0 from q, pz] at h; omega
  | succ i ih =>
    intro h
    obtain ⟨a1, a2, a3⟩ := ih (by omega)
    have hl := clrN_le s i
    have cb := (clr_bits (clrN s i) (by omega) a1).2 9 (by omega)
    have e : pc (clrN s (i + 1)) 9 = pc s 9 - (i + 1) := by
      show pc (clrN s i &&& (clrN s i - 1)) 9 = _
      rw [cb, a2]; omega
    refine ⟨fun q => ?_, e, fun j hj => ?_⟩
    · rw [q, pz] at e; omega
    · show kth (clrN s i &&& (clrN s i - 1)) j = _
      rw [kth_clr (by omega) a1 (by rw [a2]; omega), a3 (j + 1) (by omega)]
      rw [show i + (j + 1) = i + 1 + j by omega]
theorem and_prt {Rl : Nat → Nat → Bool} {c s g a : Nat} (hs : s < 2 ^ c) : s &&& mk (fun n => decide (aof Rl g n = a)) c = prt Rl c s g a := by
  rw [show s &&& mk (fun n => decide (aof Rl g n = a)) c = mk s.testBit c &&& mk (fun n => decide (aof Rl g n = a)) c by rw [mk_of_lt hs], mk_and]
  rfl
def nearv (c : Nat) (Rl : Nat → Nat → Bool) (X Y : Nat) : Nat := if X < c ∧ Y < c then (Rl X Y).toNat else 4294967295
section
variable {Γ : q_G} {ad : Nat → Nat} {N : Nat → Nat → Nat} {L : Nat → Nat → Int} {G : Nat → Nat → Option Nat}
theorem gcd6_lp  {rm : Room} {Z : q_Zt} {h : q_H} {u d g K : Nat} (hK : K < 4611686018427387904) (hx : q_R Γ mX6_greatestDivisor rm Z 0 0 34 [(3, .int (nI g))] [] h)  : ∀ i, i ≤ 64 →  ∀ A : Nat, A < 2147483648 → ∀ B : Nat, EU g K A B i → q_R Γ mX6_greatestDivisor rm Z 0 0 7 [(0, .int (nI u)), (1, .int (nI d)), (2, .int (nI A)), (3, .int (nI B)), (4, .int (nI i))] [] h := by
  refine dn_loop (64) ?_ ?_
  · intro A h_A B h_B
    have hz : A = 0 := h_B.fin hK
    refine q_iload 9 rfl rfl dX6_greatestDivisor_7 ?_
    refine q_bipush 11 rfl 64 k_b64 dX6_greatestDivisor_9 ?_
    refine q_icmp_ge 14 rfl 34 (by decide) (by omega) (by omega) dX6_greatestDivisor_11 (fun h11 => ?_) (fun h11 => ?_)
    · have hB := h_B.zero (by assumption)
      rw [hB]
      exact q_loc hx (q_sub1 rfl q_sub0)
    · exfalso; omega
  · intro i h_i ih A h_A B h_B
    have hBb : B < 2147483648 := h_B.2.2.2.1
    refine q_iload 9 rfl rfl dX6_greatestDivisor_7 ?_
    refine q_bipush 11 rfl 64 k_b64 dX6_greatestDivisor_9 ?_
    refine q_icmp_ge 14 rfl 34 (by decide) (by omega) (by omega) dX6_greatestDivisor_11 (fun h11 => ?_) (fun h11 => ?_)
    · exfalso; omega
    · refine q_iload_n 15 rfl rfl dX6_greatestDivisor_14 ?_
      refine q_if_eq 18 rfl 34 (by decide) (by omega) dX6_greatestDivisor_15 (fun h15 => ?_) (fun h15 => ?_)
      · have hB := h_B.zero (by assumption)
        rw [hB]
        exact q_loc hx (q_sub1 rfl q_sub0)
      · refine q_iload_n 19 rfl rfl dX6_greatestDivisor_18 ?_
        refine q_iload_n 20 rfl rfl dX6_greatestDivisor_19 ?_
        refine q_irem 21 rfl (by omega) (by omega) (by omega) dX6_greatestDivisor_20 ?_
        refine q_istore 23 rfl (by decide) dX6_greatestDivisor_21 ?_
        refine q_iload_n 24 rfl rfl dX6_greatestDivisor_23 ?_
        refine q_istore_n 25 rfl (by decide) dX6_greatestDivisor_24 ?_
        refine q_iload 27 rfl rfl dX6_greatestDivisor_25 ?_
        refine q_istore_n 28 rfl (by decide) dX6_greatestDivisor_27 ?_
        refine q_iinc1 31 rfl 1 k_i1 rfl (by decide) dX6_greatestDivisor_28 ?_
        refine q_goto 7 (by decide) dX6_greatestDivisor_31 ?_
        refine q_loc (ih _ ?_ _ ?_) (q_sub1 rfl (q_sub1 rfl (q_sub1 rfl (q_sub1 rfl (q_sub1 rfl q_sub0)))))
        · exact Nat.lt_trans (Nat.mod_lt _ (by omega)) h_A
        · exact h_B.step (by assumption)
theorem k_gcd6 {h : q_H} {u d : Nat} (hu : u < 2147483648) (h0 : 0 < d) (hd : d < 2147483648) : q_Con Γ mX6_greatestDivisor 0 0 0 [.int (nI u), .int (nI d)] h (q_is (some (.int (nI (Nat.gcd u d)))) h) := by
  have hK : u * d < 4611686018427387904 := Nat.lt_of_le_of_lt (Nat.mul_le_mul (show u ≤ 2147483647 by omega) (show d ≤ 2147483647 by omega)) (by decide)
  refine q_con (by decide) rfl rfl (Nat.le_of_ble_eq_true rfl) ?_
  refine q_iload_n 1 rfl rfl dX6_greatestDivisor_0 ?_
  refine q_istore_n 2 rfl (by decide) dX6_greatestDivisor_1 ?_
  refine q_iload_n 3 rfl rfl dX6_greatestDivisor_2 ?_
  refine q_istore_n 4 rfl (by decide) dX6_greatestDivisor_3 ?_
  refine q_iconst 5 rfl 0 k_i0 dX6_greatestDivisor_4 ?_
  refine q_istore 7 rfl (by decide) dX6_greatestDivisor_5 ?_
  refine q_loc (gcd6_lp (u := u) (d := d) (g := Nat.gcd u d) (K := u * d) hK ?_ 0 (by omega) u hu d ⟨rfl, hu, h0, hd, .inl rfl, by omega, fun _ => Nat.le_refl _⟩) (q_sub1 rfl (q_sub1 rfl (q_sub1 rfl (q_sub1 rfl (q_sub1 rfl q_sub0)))))
  refine q_iload_n 35 rfl rfl dX6_greatestDivisor_34 ?_
  refine q_iret rfl dX6_greatestDivisor_35 ?_
  exact ⟨rfl, rfl⟩
theorem k_frac {h : q_H} {u d x : Nat} (hu : u < 2147483648) (h0 : 0 < d) (hd : d < 2147483648) (hx : x < 4294967296) : q_Con Γ mX6_fraction 1 0 0 [.int (nI u), .int (nI d), .int (nI x)] h (q_is (some (.long (lZ (((if x = 0 then u else d) / Nat.gcd u d : Nat) : Int)))) h) := by
  have g0 : 0 < Nat.gcd u d := Nat.gcd_pos_of_pos_right _ h0
  have g1 : Nat.gcd u d ≤ d := Nat.gcd_le_right _ h0
  have q1 : u / Nat.gcd u d ≤ u := Nat.div_le_self _ _
  have q2 : d / Nat.gcd u d ≤ d := Nat.div_le_self _ _
  refine q_con (by decide) rfl rfl (Nat.le_of_ble_eq_true rfl) ?_
  refine q_iload_n 1 rfl rfl dX6_fraction_0 ?_
  refine q_iload_n 2 rfl rfl dX6_fraction_1 ?_
  refine q_cS2 5 rfl lX6_290 (k_gcd6 hu h0 hd) rfl rfl rfl dX6_fraction_2 ?_
  refine q_istore_n 6 rfl (by decide) dX6_fraction_5 ?_
  refine q_iload_n 7 rfl rfl dX6_fraction_6 ?_
  refine q_if_ne 10 rfl 12 (by decide) (by omega) dX6_fraction_7 (fun h7 => ?_) (fun h7 => ?_)
  · refine q_iload_n 13 rfl rfl dX6_fraction_12 ?_
    refine q_if_ne 16 rfl 23 (by decide) (by omega) dX6_fraction_13 (fun h13 => ?_) (fun h13 => ?_)
    · refine q_iload_n 24 rfl rfl dX6_fraction_23 ?_
      refine q_iload_n 25 rfl rfl dX6_fraction_24 ?_
      refine q_idiv 26 rfl (by omega) (by omega) (by omega) dX6_fraction_25 ?_
      refine q_i2l 27 rfl dX6_fraction_26 ?_
      refine q_lret rfl dX6_fraction_27 ?_
      first
        | (rw [if_pos (by assumption), z_s_lo (by omega)]; exact ⟨rfl, rfl⟩)
        | (rw [if_neg (by assumption), z_s_lo (by omega)]; exact ⟨rfl, rfl⟩)
    · refine q_iload_n 17 rfl rfl dX6_fraction_16 ?_
      refine q_iload_n 18 rfl rfl dX6_fraction_17 ?_
      refine q_idiv 19 rfl (by omega) (by omega) (by omega) dX6_fraction_18 ?_
      refine q_i2l 20 rfl dX6_fraction_19 ?_
      refine q_goto 27 (by decide) dX6_fraction_20 ?_
      refine q_lret rfl dX6_fraction_27 ?_
      first
        | (rw [if_pos (by assumption), z_s_lo (by omega)]; exact ⟨rfl, rfl⟩)
        | (rw [if_neg (by assumption), z_s_lo (by omega)]; exact ⟨rfl, rfl⟩)
  · exfalso; omega
theorem nameAt_lp {rm : Room} {Z : q_Zt} {s p z K : Nat} {h : q_H} (hs : s < 512) (hK : K < pc s 9) (hx : q_R Γ mX6_nameAt rm Z 0 0 35 [(3, .int (nI (clrN s (K))))] [] h) : ∀ i, i ≤ K →  ∀ r : Nat, r = clrN s i → q_R Γ mX6_nameAt rm Z 0 0 18 [(0, .int (nI s)), (1, .int (nI p)), (2, .int (nI z)), (3, .int (nI r)), (4, .int (nI (K - i)))] [] h := by
  refine dn_loop (K) ?_ ?_
  · intro r h_r
    have hK9 := pc_le s 9
    refine q_iload 20 rfl rfl dX6_nameAt_18 ?_
    refine q_ifN_le 23 rfl 35 (by decide) (by omega) dX6_nameAt_20 (fun h20 => ?_) (fun h20 => ?_)
    · subst h_r
      exact q_loc hx (q_sub1 rfl q_sub0)
    · exfalso; omega
  · intro i h_i ih r h_r
    have hK9 := pc_le s 9
    have r0 : r ≠ 0 := by rw [h_r]; exact (clrN_spec hs i (by omega)).1
    refine q_iload 20 rfl rfl dX6_nameAt_18 ?_
    refine q_ifN_le 23 rfl 35 (by decide) (by omega) dX6_nameAt_20 (fun h20 => ?_) (fun h20 => ?_)
    · exfalso; omega
    · refine q_iload_n 24 rfl rfl dX6_nameAt_23 ?_
      refine q_iload_n 25 rfl rfl dX6_nameAt_24 ?_
      refine q_iconst 26 rfl 1 k_i1 dX6_nameAt_25 ?_
      refine q_isub 27 rfl (by omega) dX6_nameAt_26 ?_
      refine q_iand 28 rfl dX6_nameAt_27 ?_
      refine q_istore_n 29 rfl (by decide) dX6_nameAt_28 ?_
      refine q_iinc 32 rfl (K - (i + 1)) rfl (by rw [k_im1, nI_add, ← z_mod (K - i + 4294967295), show (K - i + 4294967295) % 4294967296 = K - (i + 1) by omega]) (by decide) dX6_nameAt_29 ?_
      refine q_goto 18 (by decide) dX6_nameAt_32 ?_
      refine q_loc (ih _ ?_) (q_sub1 rfl (q_sub1 rfl (q_sub1 rfl (q_sub1 rfl (q_sub1 rfl q_sub0)))))
      · rw [h_r]; rfl
theorem k_nameAt {h : q_H} {s p : Nat} (hs : s < 512) (h0 : s ≠ 0) (hp : p < 2147483648) : q_Con Γ mX6_nameAt 1 0 0 [.int (nI s), .int (nI p)] h (q_is (some (.int (nI (kth s (p % pc s 26))))) h) := by
  have hp0 : 0 < pc s 26 := by rw [pc_26 hs]; exact pc_pos h0 hs
  have hp9 := pc_le s 26
  have hm : p % pc s 26 < pc s 9 := by rw [← pc_26 hs]; exact Nat.mod_lt _ hp0
  obtain ⟨c1, c2, c3⟩ := clrN_spec hs _ hm
  have c4 := clrN_le s (p % pc s 26)
  have c5 : kth (clrN s (p % pc s 26)) 0 = kth s (p % pc s 26) := c3 0 (by omega)
  refine q_con (by decide) rfl rfl (Nat.le_of_ble_eq_true rfl) ?_
  refine q_iload_n 1 rfl rfl dX6_nameAt_0 ?_
  refine q_cS1 4 rfl lX6_211 (k_bitCount (by omega)) rfl rfl rfl dX6_nameAt_1 ?_
  refine q_istore_n 5 rfl (by decide) dX6_nameAt_4 ?_
  refine q_iload_n 6 rfl rfl dX6_nameAt_5 ?_
  refine q_if_ne 9 rfl 11 (by decide) (by omega) dX6_nameAt_6 (fun h6 => ?_) (fun h6 => ?_)
  · refine q_iload_n 12 rfl rfl dX6_nameAt_11 ?_
    refine q_istore_n 13 rfl (by decide) dX6_nameAt_12 ?_
    refine q_iload_n 14 rfl rfl dX6_nameAt_13 ?_
    refine q_iload_n 15 rfl rfl dX6_nameAt_14 ?_
    refine q_irem 16 rfl (by omega) (by omega) (by omega) dX6_nameAt_15 ?_
    refine q_istore 18 rfl (by decide) dX6_nameAt_16 ?_
    refine q_loc (nameAt_lp (p := p) (z := pc s 26) (K := p % pc s 26) hs hm ?_ 0 (by omega) _ rfl) (q_sub1 rfl (q_sub1 rfl (q_sub1 rfl (q_sub1 rfl (q_sub1 rfl q_sub0)))))
    refine q_iload_n 36 rfl rfl dX6_nameAt_35 ?_
    refine q_cS1 39 rfl lX6_293 (k_ntz (by omega) (by omega)) rfl rfl rfl dX6_nameAt_36 ?_
    refine q_iret rfl dX6_nameAt_39 ?_
    rw [c5]
    exact ⟨rfl, rfl⟩
  · exfalso; omega
theorem k_near6 {X Y : Nat} {nm nw c : Nat} {Rl : Nat → Nat → Bool} (hG : GF ad G) (hX : CX ad G N nm nw c Rl) (hXX : X < 4294967296) (hYY : Y < 4294967296) : q_Con Γ mX6_near 2 0 0 [.ref (ad 0), .int (nI X), .int (nI Y)] (LT ad, N, L, G) (q_is (some (.int (nI (nearv c Rl X Y)))) (LT ad, N, L, G)) := by
  obtain ⟨hnm, hnw, hv5, hv6, hN, hM, hnr⟩ := id hX
  have hc : N nm 0 = c := hN.1
  have hc9 : c ≤ 9 := hN.2.1
  refine q_con (by decide) rfl rfl (Nat.le_of_ble_eq_true rfl) ?_
  refine q_aload_n 1 rfl rfl dX6_near_0 ?_
  refine q_iload_n 2 rfl rfl dX6_near_1 ?_
  refine q_cV1 5 rfl lX6_130 (k_isName hG hX (by assumption)) rfl 0 t_0 rfl rfl rfl dX6_near_2 ?_
  refine q_if_eqD 8 rfl 16 (by decide) dX6_near_5 (fun h5 => ?_) (fun h5 => ?_)
  · refine q_iconst 17 rfl 4294967295 k_im1 dX6_near_16 ?_
    refine q_iret rfl dX6_near_17 ?_
    rw [nearv, if_neg (by omega)]
    exact ⟨rfl, rfl⟩
  · refine q_aload_n 9 rfl rfl dX6_near_8 ?_
    refine q_iload_n 10 rfl rfl dX6_near_9 ?_
    refine q_cV1 13 rfl lX6_130 (k_isName hG hX (by assumption)) rfl 0 t_0 rfl rfl rfl dX6_near_10 ?_
    refine q_if_neD 16 rfl 18 (by decide) dX6_near_13 (fun h13 => ?_) (fun h13 => ?_)
    · refine q_aload_n 19 rfl rfl dX6_near_18 ?_
      refine q_getR 22 rfl fX6_54 rfl 0 t_0 (g_0_12 hG) dX6_near_19 ?_
      refine q_iload_n 23 rfl rfl dX6_near_22 ?_
      refine q_iald 24 rfl 36 t_36 (by omega) (by decide) dX6_near_23 ?_
      refine q_iload_n 25 rfl rfl dX6_near_24 ?_
      refine q_cS2 28 rfl lX6_166 (k_has (by rw [hnr X (by omega)]; exact Nat.lt_trans (mk_lt9 hc9) (by omega)) (by omega)) rfl rfl rfl dX6_near_25 ?_
      refine q_if_eqB 31 rfl 35 (by decide) dX6_near_28 (fun h28 => ?_) (fun h28 => ?_)
      · refine q_iconst 36 rfl 0 k_i0 dX6_near_35 ?_
        refine q_iret rfl dX6_near_36 ?_
        have e : (N 36 X).testBit Y = Rl X Y := by rw [hnr X (by omega), mk_bit, decide_eq_true (show Y < c by omega)]; rfl
        rw [e] at h28
        rw [nearv, if_pos ⟨by omega, by omega⟩, h28]
        exact ⟨rfl, rfl⟩
      · refine q_iconst 32 rfl 1 k_i1 dX6_near_31 ?_
        refine q_goto 36 (by decide) dX6_near_32 ?_
        refine q_iret rfl dX6_near_36 ?_
        have e : (N 36 X).testBit Y = Rl X Y := by rw [hnr X (by omega), mk_bit, decide_eq_true (show Y < c by omega)]; rfl
        rw [e] at h28
        rw [nearv, if_pos ⟨by omega, by omega⟩, h28]
        exact ⟨rfl, rfl⟩
    · refine q_iconst 17 rfl 4294967295 k_im1 dX6_near_16 ?_
      refine q_iret rfl dX6_near_17 ?_
      rw [nearv, if_neg (by omega)]
      exact ⟨rfl, rfl⟩
theorem k_possS {s : Nat} {nm nw c : Nat} {Rl : Nat → Nat → Bool} (hG : GF ad G) (hX : CX ad G N nm nw c Rl) (hsd : can6 N nm nw c Rl (N nw 6) = s) : q_Con Γ mX6_possible 3 0 0 [.ref (ad 0)] (LT ad, N, L, G) (q_is (some (.int (nI (s)))) (LT ad, N, L, G)) := by
  subst hsd; exact k_possible hG hX
theorem k_likely6 {X Y : Nat} {s : Nat} {nm nw c : Nat} {Rl : Nat → Nat → Bool} (hG : GF ad G) (hX : CX ad G N nm nw c Rl) (hsd : can6 N nm nw c Rl (N nw 6) = s) (hXX : X < 4294967296) (hYY : Y < 4294967296) : q_Con Γ mX6_likely 4 0 0 [.ref (ad 0), .int (nI X), .int (nI Y)] (LT ad, N, L, G) (q_is (some (.long (lZ (lkl c X Y s (N (nw + 1)))))) (LT ad, N, L, G)) := by
  obtain ⟨hnm, hnw, hv5, hv6, hN, hM, hnr⟩ := id hX
  have hc : N nm 0 = c := hN.1
  have hc9 : c ≤ 9 := hN.2.1
  obtain ⟨hkd, hms, hpr, hpf, hps, hg9, hgn, hga, hh6, hhp, hhl, hhi, hod, ho1⟩ := id hM
  have hs9 : s < 512 := hsd ▸ can_lt hc9
  have hsc : s < 2 ^ c := hsd ▸ mk_lt _ c
  have o81 : ods (N (nw + 1)) s c ≤ 81 := ods_81 hc9 hod
  refine q_con (by decide) rfl rfl (Nat.le_of_ble_eq_true rfl) ?_
  refine q_aload_n 1 rfl rfl dX6_likely_0 ?_
  refine q_iload_n 2 rfl rfl dX6_likely_1 ?_
  refine q_cV1 5 rfl lX6_130 (k_isName hG hX (by assumption)) rfl 0 t_0 rfl rfl rfl dX6_likely_2 ?_
  refine q_if_eqD 8 rfl 17 (by decide) dX6_likely_5 (fun h5 => ?_) (fun h5 => ?_)
  · refine q_ldc2 20 rfl (-1) klX6_187 rfl dX6_likely_17 ?_
    refine q_lret rfl dX6_likely_20 ?_
    rw [lkl, if_neg (by omega)]
    exact ⟨rfl, rfl⟩
  · refine q_iload_n 9 rfl rfl dX6_likely_8 ?_
    refine q_iconst 10 rfl 0 k_i0 dX6_likely_9 ?_
    refine q_iconst 11 rfl 1 k_i1 dX6_likely_10 ?_
    refine q_cS3 14 rfl lX6_87 (k_within hYY (by omega) (by omega)) rfl rfl rfl dX6_likely_11 ?_
    refine q_if_neD 17 rfl 21 (by decide) dX6_likely_14 (fun h14 => ?_) (fun h14 => ?_)
    · refine q_aload_n 22 rfl rfl dX6_likely_21 ?_
      refine q_cV0 25 rfl lX6_183 (k_possS hG hX hsd) rfl 0 t_0 rfl rfl rfl dX6_likely_22 ?_
      refine q_istore_n 26 rfl (by decide) dX6_likely_25 ?_
      refine q_iload_n 27 rfl rfl dX6_likely_26 ?_
      refine q_if_ne 30 rfl 34 (by decide) (by omega) dX6_likely_27 (fun h27 => ?_) (fun h27 => ?_)
      · refine q_iload_n 35 rfl rfl dX6_likely_34 ?_
        refine q_iload_n 36 rfl rfl dX6_likely_35 ?_
        refine q_cS2 39 rfl lX6_166 (k_has (by omega) (by omega)) rfl rfl rfl dX6_likely_36 ?_
        refine q_if_eqB 42 rfl 54 (by decide) dX6_likely_39 (fun h39 => ?_) (fun h39 => ?_)
        · refine q_iconst 55 rfl 0 k_i0 dX6_likely_54 ?_
          refine q_aload_n 56 rfl rfl dX6_likely_55 ?_
          refine q_iload_n 57 rfl rfl dX6_likely_56 ?_
          refine q_cV1 60 rfl lX6_191 (k_oddsOf hG hX (by omega)) rfl 0 t_0 rfl rfl rfl dX6_likely_57 ?_
          refine q_iload_n 61 rfl rfl dX6_likely_60 ?_
          refine q_cS3 64 rfl lX6_195 (k_frac (by first | omega | exact Nat.lt_of_le_of_lt (hod X (by omega)) (by omega)) (ods_pos (by assumption) hsc ho1) (by omega) hYY) rfl rfl rfl dX6_likely_61 ?_
          refine q_lret rfl dX6_likely_64 ?_
          rw [lkl, if_pos (show X < c ∧ Y ≤ 1 by omega), if_neg (show ¬ s = 0 by assumption), h39]
          exact ⟨rfl, rfl⟩
        · refine q_aload_n 43 rfl rfl dX6_likely_42 ?_
          refine q_getR 46 rfl fX6_30 rfl 0 t_0 hv6 dX6_likely_43 ?_
          refine q_getR 49 rfl fX6_134 rfl nw (tM hnw) (gM_0 hnw hG) dX6_likely_46 ?_
          refine q_iload_n 50 rfl rfl dX6_likely_49 ?_
          refine q_iald 51 rfl (nw + 1) (tM1 hnw) (by omega) (by decide) dX6_likely_50 ?_
          refine q_goto 55 (by decide) dX6_likely_51 ?_
          refine q_aload_n 56 rfl rfl dX6_likely_55 ?_
          refine q_iload_n 57 rfl rfl dX6_likely_56 ?_
          refine q_cV1 60 rfl lX6_191 (k_oddsOf hG hX (by omega)) rfl 0 t_0 rfl rfl rfl dX6_likely_57 ?_
          refine q_iload_n 61 rfl rfl dX6_likely_60 ?_
          refine q_cS3 64 rfl lX6_195 (k_frac (by first | omega | exact Nat.lt_of_le_of_lt (hod X (by omega)) (by omega)) (ods_pos (by assumption) hsc ho1) (by omega) hYY) rfl rfl rfl dX6_likely_61 ?_
          refine q_lret rfl dX6_likely_64 ?_
          rw [lkl, if_pos (show X < c ∧ Y ≤ 1 by omega), if_neg (show ¬ s = 0 by assumption), h39]
          exact ⟨rfl, rfl⟩
      · refine q_ldc2 33 rfl (-2) klX6_189 rfl dX6_likely_30 ?_
        refine q_lret rfl dX6_likely_33 ?_
        rw [lkl, if_pos ⟨by omega, by omega⟩, if_pos (by assumption)]
        exact ⟨rfl, rfl⟩
    · refine q_ldc2 20 rfl (-1) klX6_187 rfl dX6_likely_17 ?_
      refine q_lret rfl dX6_likely_20 ?_
      rw [lkl, if_neg (by omega)]
      exact ⟨rfl, rfl⟩
end
