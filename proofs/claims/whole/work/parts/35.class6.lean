theorem wpF_alw {mx : Nat → Nat → Bool} {lt wl : Nat → Nat} {Q : Nat} {sl : Nat → Bool} (hQ : Q ≠ 4294967295) (hmx : ∀ a, mx a a = true) (k : Nat) (h1 : ∀ i, i < k → lt i < 26) (h2 : ∀ i, i < k → wl i < 26) (hsl : ∀ i, i < k → sl i = (mx (lt i) (wl i) || decide (wpc (lt i) (wl i) = Q))) : alw sl k = true ↔ (wpF mx lt wl k = 0 ∨ wpF mx lt wl k = Q) := by
  induction k with
  | zero => exact ⟨fun _ => .inl rfl, fun _ => rfl⟩
  | succ k ih =>
    have ih' := ih (fun i hi => h1 i (by omega)) (fun i hi => h2 i (by omega)) (fun i hi => hsl i (by omega))
    have hc := wpc_le (h1 k (by omega)) (h2 k (by omega))
    simp only [alw, wpF, Bool.and_eq_true]
    rw [ih', hsl k (by omega)]
    by_cases hb : wpF mx lt wl k = 4294967295
    · rw [if_pos hb, hb]
      exact ⟨fun h => by omega, fun h => by omega⟩
    · rw [if_neg hb]
      cases hm : mx (lt k) (wl k) with
      | true => rw [if_pos rfl, Bool.true_or]; exact ⟨fun h => h.1, fun h => ⟨h, rfl⟩⟩
      | false =>
        have hne : lt k ≠ wl k := fun q => by rw [q, hmx] at hm; cases hm
        have hc0 : wpc (lt k) (wl k) ≠ 0 := by unfold wpc; omega
        rw [if_neg (by decide), Bool.false_or, decide_eq_true_iff]
        by_cases hq : wpF mx lt wl k ≠ 0 ∧ wpF mx lt wl k ≠ wpc (lt k) (wl k)
        · rw [if_pos hq]; exact ⟨fun h => by omega, fun h => by omega⟩
        · rw [if_neg hq]; exact ⟨fun h => by omega, fun h => by omega⟩
theorem mxd_self (pa pb : Nat → Nat) (pr a : Nat) : mxd pa pb pr a a = true := by simp [mxd]
theorem slp_wpv {pa pb : Nat → Nat} {pr len wr x y Q : Nat} {lt wl : Nat → Nat} (hwr : wr ≤ 8) (h1 : ∀ i, i < wr → lt i < 26) (h2 : ∀ i, i < wr → wl i < 26) (hQ : Q < 4294967295) (hxy : ∀ a b, a < 26 → b < 26 → a ≠ b → ((a = x ∧ b = y) ∨ (a = y ∧ b = x) ↔ wpc a b = Q)) : slp pa pb pr len lt wr wl x y ≠ 4294967292 ↔ (wpv (mxd pa pb pr) len lt wr wl = 0 ∨ wpv (mxd pa pb pr) len lt wr wl = Q) := by
  have ha := wpF_alw (mx := mxd pa pb pr) (lt := lt) (wl := wl) (Q := Q) (sl := slo pa pb pr lt wl x y) (by omega) (mxd_self pa pb pr) wr h1 h2 (fun i hi => by
    simp only [slo]
    by_cases e : lt i = wl i
    · rw [e, mxd_self, Bool.true_or, Bool.true_or]
    · rw [decide_eq_decide.mpr (hxy _ _ (h1 i hi) (h2 i hi) e)])
  have hs := slc_le lt wl wr
  unfold slp wpv
  by_cases hl : len = wr
  · rw [if_pos hl, ← ha]
    by_cases hb : alw (slo pa pb pr lt wl x y) wr = true
    · rw [if_pos ⟨hl, hb⟩]; exact ⟨fun _ => hb, fun _ => by omega⟩
    · rw [if_neg (fun q => hb q.2)]; exact ⟨fun q => absurd rfl q, fun q => absurd q hb⟩
  · rw [if_neg hl, if_neg (fun q => hl q.1)]
    exact ⟨fun q => absurd rfl q, fun q => by omega⟩
theorem xy_none (a b : Nat) (ha : a < 26) (hb : b < 26) (_ : a ≠ b) : ((a = 4294967292 ∧ b = 4294967292) ∨ (a = 4294967292 ∧ b = 4294967292) ↔ wpc a b = 1000) := by
  have := wpc_le ha hb
  exact ⟨fun h => by omega, fun h => by omega⟩
theorem xy_pair {x y : Nat} (hxy : x < y) (hy : y < 26) (a b : Nat) (ha : a < 26) (hb : b < 26) (_ : a ≠ b) : ((a = x ∧ b = y) ∨ (a = y ∧ b = x) ↔ wpc a b = 26 * x + y) := by
  unfold wpc
  exact ⟨fun h => by omega, fun h => by omega⟩
abbrev slp6 (N : Nat → Nat → Nat) (nm nw n x y : Nat) : Nat := slp (N (nw + 2)) (N (nw + 3)) (N nw 3) (N (nm + 1) n) (lt6 N nm n) (N nm 5) (N (nm + 5)) x y
abbrev mnt6 (N : Nat → Nat → Nat) (nm nw c x y : Nat) : Nat := mk (fun n => decide (slp6 N nm nw n x y ≠ 4294967292)) c
theorem wp6_le {N : Nat → Nat → Nat} {nm nw c n : Nat} (hN : CN N nm c) (hn : n < 9) : wp6 N nm nw n ≤ 675 ∨ wp6 N nm nw n = 4294967295 := by
  obtain ⟨-, -, hl, hb26, hls, hvw, hwr, hwl⟩ := hN
  unfold wp6 wpv
  split
  · exact wpF_le _ (fun j hj => hb26 _ (by omega)) (fun j hj => hwl j (by omega))
  · exact .inr rfl
theorem wp6_none {N : Nat → Nat → Nat} {nm nw c n : Nat} (hN : CN N nm c) (hn : n < 9) : slp6 N nm nw n 4294967292 4294967292 ≠ 4294967292 ↔ wp6 N nm nw n = 0 := by
  have h := wp6_le (nw := nw) hN hn
  obtain ⟨-, -, hl, hb26, hls, hvw, hwr, hwl⟩ := hN
  have := slp_wpv (pa := N (nw + 2)) (pb := N (nw + 3)) (pr := N nw 3) (len := N (nm + 1) n) (wr := N nm 5) (lt := lt6 N nm n) (wl := N (nm + 5)) (x := 4294967292) (y := 4294967292) (Q := 1000) hwr (fun j hj => hb26 _ (by omega)) (fun j hj => hwl j (by omega)) (by omega) xy_none
  rw [this]
  exact ⟨fun q => by rcases q with q | q; exact q; exfalso; have q' : wp6 N nm nw n = 1000 := q; omega, fun q => .inl q⟩
theorem wp6_pair {N : Nat → Nat → Nat} {nm nw c n x y : Nat} (hN : CN N nm c) (hn : n < 9) (hxy : x < y) (hy : y < 26) : slp6 N nm nw n x y ≠ 4294967292 ↔ (wp6 N nm nw n = 0 ∨ wp6 N nm nw n = 26 * x + y) := by
  obtain ⟨-, -, hl, hb26, hls, hvw, hwr, hwl⟩ := hN
  exact slp_wpv (pa := N (nw + 2)) (pb := N (nw + 3)) (pr := N nw 3) (len := N (nm + 1) n) (wr := N nm 5) (lt := lt6 N nm n) (wl := N (nm + 5)) (x := x) (y := y) (Q := 26 * x + y) hwr (fun j hj => hb26 _ (by omega)) (fun j hj => hwl j (by omega)) (by omega) (xy_pair hxy hy)
section
variable {Γ : q_G} {ad : Nat → Nat} {N : Nat → Nat → Nat} {L : Nat → Nat → Int} {G : Nat → Nat → Option Nat}
theorem meant6_lp {Z : q_Zt} {mc mz : Nat} {nm nw c : Nat} {Rl : Nat → Nat → Bool} (hG : GF ad G) (hX : CX ad G N nm nw c Rl) (hx : q_R Γ mX6_meant (q_room 2 mc mz) Z 0 0 35 [(1, .int (nI (mnt6 N nm nw (c) 4294967292 4294967292)))] [] (LT ad, N, L, G)) : ∀ i, i ≤ c →  ∀ a : Nat, a = mnt6 N nm nw i 4294967292 4294967292 → q_R Γ mX6_meant (q_room 2 mc mz) Z 0 0 4 [(0, .ref (ad 0)), (1, .int (nI a)), (2, .int (nI i))] [] (LT ad, N, L, G) := by
  refine dn_loop (c) ?_ ?_
  · intro a h_a
    obtain ⟨hnm, hnw, hv5, hv6, hN, hM, hnr⟩ := id hX
    have hc : N nm 0 = c := hN.1
    have hc9 : c ≤ 9 := hN.2.1
    refine q_iload_n 5 rfl rfl dX6_meant_4 ?_
    refine q_aload_n 6 rfl rfl dX6_meant_5 ?_
    refine q_getR 9 rfl fX6_23 rfl 0 t_0 hv5 dX6_meant_6 ?_
    refine q_getI 12 rfl fX6_115 rfl nm (tN hnm) dX6_meant_9 ?_
    refine q_icmp_ge 15 rfl 35 (by decide) (by omega) (by omega) dX6_meant_12 (fun h12 => ?_) (fun h12 => ?_)
    · subst h_a
      exact q_loc hx (q_sub1 rfl q_sub0)
    · exfalso; omega
  · intro i h_i ih a h_a
    obtain ⟨hnm, hnw, hv5, hv6, hN, hM, hnr⟩ := id hX
    have hc : N nm 0 = c := hN.1
    have hc9 : c ≤ 9 := hN.2.1
    have wl0 := wp6_le (nw := nw) hN (show i < 9 by omega)
    have wn := wp6_none (nw := nw) hN (show i < 9 by omega)
    refine q_iload_n 5 rfl rfl dX6_meant_4 ?_
    refine q_aload_n 6 rfl rfl dX6_meant_5 ?_
    refine q_getR 9 rfl fX6_23 rfl 0 t_0 hv5 dX6_meant_6 ?_
    refine q_getI 12 rfl fX6_115 rfl nm (tN hnm) dX6_meant_9 ?_
    refine q_icmp_ge 15 rfl 35 (by decide) (by omega) (by omega) dX6_meant_12 (fun h12 => ?_) (fun h12 => ?_)
    · exfalso; omega
    · refine q_aload_n 16 rfl rfl dX6_meant_15 ?_
      refine q_iload_n 17 rfl rfl dX6_meant_16 ?_
      refine q_cV1 20 rfl lX6_244 (k_wanted hG hX (by omega)) rfl 0 t_0 rfl rfl rfl dX6_meant_17 ?_
      refine q_if_ne 23 rfl 29 (by decide) (by omega) dX6_meant_20 (fun h20 => ?_) (fun h20 => ?_)
      · refine q_iinc1 32 rfl 1 k_i1 rfl (by decide) dX6_meant_29 ?_
        refine q_goto 4 (by decide) dX6_meant_32 ?_
        refine q_loc (ih _ ?_) (q_sub1 rfl (q_sub1 rfl (q_sub1 rfl q_sub0)))
        · rw [h_a]
          simp only [mnt6, mk]
          first
            | (rw [if_pos (decide_eq_true (wn.mpr (by assumption))), Nat.one_mul]; done)
            | (rw [if_neg (fun q => absurd (wn.mp (of_decide_eq_true q)) (by assumption)), Nat.or_zero]; done)
      · refine q_iload_n 24 rfl rfl dX6_meant_23 ?_
        refine q_iconst 25 rfl 1 k_i1 dX6_meant_24 ?_
        refine q_iload_n 26 rfl rfl dX6_meant_25 ?_
        refine q_ishl 27 rfl (by omega) dX6_meant_26 ?_
        refine q_ior 28 rfl dX6_meant_27 ?_
        refine q_istore_n 29 rfl (by decide) dX6_meant_28 ?_
        refine q_iinc1 32 rfl 1 k_i1 rfl (by decide) dX6_meant_29 ?_
        refine q_goto 4 (by decide) dX6_meant_32 ?_
        refine q_loc (ih _ ?_) (q_sub1 rfl (q_sub1 rfl (q_sub1 rfl q_sub0)))
        · rw [h_a]
          simp only [mnt6, mk]
          first
            | (rw [if_pos (decide_eq_true (wn.mpr (by assumption))), Nat.one_mul]; done)
            | (rw [if_neg (fun q => absurd (wn.mp (of_decide_eq_true q)) (by assumption)), Nat.or_zero]; done)
theorem k_meant6 {nm nw c : Nat} {Rl : Nat → Nat → Bool} (hG : GF ad G) (hX : CX ad G N nm nw c Rl) : q_Con Γ mX6_meant 2 0 0 [.ref (ad 0)] (LT ad, N, L, G) (q_is (some (.int (nI (mnt6 N nm nw c 4294967292 4294967292)))) (LT ad, N, L, G)) := by
  refine q_con (by decide) rfl rfl (Nat.le_of_ble_eq_true rfl) ?_
  refine q_iconst 1 rfl 0 k_i0 dX6_meant_0 ?_
  refine q_istore_n 2 rfl (by decide) dX6_meant_1 ?_
  refine q_iconst 3 rfl 0 k_i0 dX6_meant_2 ?_
  refine q_istore_n 4 rfl (by decide) dX6_meant_3 ?_
  refine q_loc (meant6_lp (Rl := Rl) (nm := nm) (nw := nw) (c := c) hG hX ?_ 0 (by omega) _ rfl) (q_sub1 rfl (q_sub1 rfl (q_sub1 rfl q_sub0)))
  refine q_iload_n 36 rfl rfl dX6_meant_35 ?_
  refine q_iret rfl dX6_meant_36 ?_
  exact ⟨rfl, rfl⟩
theorem slips6_lp {Z : q_Zt} {n mc mz : Nat} {nm nw c : Nat} {Rl : Nat → Nat → Bool} (hG : GF ad G) (hX : CX ad G N nm nw c Rl) (hn : n < 9) (hx : q_R Γ mX6_slips (q_room 2 mc mz) Z 0 0 66 [(2, .int (nI (slc (lt6 N nm n) (N (nm + 5)) (N nm 5))))] [] (LT ad, N, L, G)) : ∀ i, i ≤ N nm 5 →  ∀ a : Nat, a = slc (lt6 N nm n) (N (nm + 5)) i → q_R Γ mX6_slips (q_room 2 mc mz) Z 0 0 25 [(0, .ref (ad 0)), (1, .int (nI n)), (2, .int (nI a)), (3, .int (nI i))] [] (LT ad, N, L, G) := by
  refine dn_loop (N nm 5) ?_ ?_
  · intro a h_a
    obtain ⟨hnm, hnw, hv5, hv6, hN, hM, hnr⟩ := id hX
    have hc : N nm 0 = c := hN.1
    have hc9 : c ≤ 9 := hN.2.1
    have hwr : N nm 5 ≤ 8 := hN.2.2.2.2.2.2.1
    refine q_iload_n 26 rfl rfl dX6_slips_25 ?_
    refine q_aload_n 27 rfl rfl dX6_slips_26 ?_
    refine q_getR 30 rfl fX6_23 rfl 0 t_0 hv5 dX6_slips_27 ?_
    refine q_getI 33 rfl fX6_127 rfl nm (tN hnm) dX6_slips_30 ?_
    refine q_icmp_ge 36 rfl 66 (by decide) (by omega) (by omega) dX6_slips_33 (fun h33 => ?_) (fun h33 => ?_)
    · subst h_a
      exact q_loc hx (q_sub1 rfl q_sub0)
    · exfalso; omega
  · intro i h_i ih a h_a
    obtain ⟨hnm, hnw, hv5, hv6, hN, hM, hnr⟩ := id hX
    have hc : N nm 0 = c := hN.1
    have hc9 : c ≤ 9 := hN.2.1
    have hwr : N nm 5 ≤ 8 := hN.2.2.2.2.2.2.1
    have b1 := hN.2.2.2.1 (n * 8 + i) (by omega)
    have b2 := hN.2.2.2.2.2.2.2 i (by omega)
    have el : slc (lt6 N nm n) (N (nm + 5)) (i + 1) = slc (lt6 N nm n) (N (nm + 5)) i + if N (nm + 2) (n * 8 + i) = N (nm + 5) i then 0 else 1 := rfl
    refine q_iload_n 26 rfl rfl dX6_slips_25 ?_
    refine q_aload_n 27 rfl rfl dX6_slips_26 ?_
    refine q_getR 30 rfl fX6_23 rfl 0 t_0 hv5 dX6_slips_27 ?_
    refine q_getI 33 rfl fX6_127 rfl nm (tN hnm) dX6_slips_30 ?_
    refine q_icmp_ge 36 rfl 66 (by decide) (by omega) (by omega) dX6_slips_33 (fun h33 => ?_) (fun h33 => ?_)
    · exfalso; omega
    · refine q_aload_n 37 rfl rfl dX6_slips_36 ?_
      refine q_getR 40 rfl fX6_23 rfl 0 t_0 hv5 dX6_slips_37 ?_
      refine q_iload_n 41 rfl rfl dX6_slips_40 ?_
      refine q_iload_n 42 rfl rfl dX6_slips_41 ?_
      refine q_cV2 45 rfl lX6_140 (k_letterAt hG hnm hn (by omega)) rfl nm (tN hnm) rfl rfl rfl dX6_slips_42 ?_
      refine q_aload_n 46 rfl rfl dX6_slips_45 ?_
      refine q_getR 49 rfl fX6_23 rfl 0 t_0 hv5 dX6_slips_46 ?_
      refine q_getR 52 rfl fX6_144 rfl nm (tN hnm) (gN_6 hnm hG) dX6_slips_49 ?_
      refine q_iload_n 53 rfl rfl dX6_slips_52 ?_
      refine q_iald 54 rfl (nm + 5) (tN5 hnm) (by omega) (by decide) dX6_slips_53 ?_
      refine q_icmp_eq 57 rfl 60 (by decide) (by omega) (by omega) dX6_slips_54 (fun h54 => ?_) (fun h54 => ?_)
      · refine q_iinc1 63 rfl 1 k_i1 rfl (by decide) dX6_slips_60 ?_
        refine q_goto 25 (by decide) dX6_slips_63 ?_
        refine q_loc (ih _ ?_) (q_sub1 rfl (q_sub1 rfl (q_sub1 rfl (q_sub1 rfl q_sub0))))
        · rw [el, h_a]
          first
            | (rw [if_pos (by assumption)]; rfl)
            | (rw [if_neg (by assumption)]; done)
      · refine q_iinc1 60 rfl 1 k_i1 rfl (by decide) dX6_slips_57 ?_
        refine q_iinc1 63 rfl 1 k_i1 rfl (by decide) dX6_slips_60 ?_
        refine q_goto 25 (by decide) dX6_slips_63 ?_
        refine q_loc (ih _ ?_) (q_sub1 rfl (q_sub1 rfl (q_sub1 rfl (q_sub1 rfl q_sub0))))
        · rw [el, h_a]
          first
            | (rw [if_pos (by assumption)]; rfl)
            | (rw [if_neg (by assumption)]; done)
theorem k_slips6 {X : Nat} {nm nw c : Nat} {Rl : Nat → Nat → Bool} (hG : GF ad G) (hX : CX ad G N nm nw c Rl) (hXX : X < 4294967296) : q_Con Γ mX6_slips 2 0 0 [.ref (ad 0), .int (nI X)] (LT ad, N, L, G) (q_is (some (.int (nI (if X < c then slp6 N nm nw X 4294967292 4294967292 else 4294967295)))) (LT ad, N, L, G)) := by
  obtain ⟨hnm, hnw, hv5, hv6, hN, hM, hnr⟩ := id hX
  have hc : N nm 0 = c := hN.1
  have hc9 : c ≤ 9 := hN.2.1
  have wl0 : X < c → wp6 N nm nw X < 4294967296 := fun h => by have := wp6_le (nw := nw) hN (show X < 9 by omega); omega
  refine q_con (by decide) rfl rfl (Nat.le_of_ble_eq_true rfl) ?_
  refine q_aload_n 1 rfl rfl dX6_slips_0 ?_
  refine q_iload_n 2 rfl rfl dX6_slips_1 ?_
  refine q_cV1 5 rfl lX6_130 (k_isName hG hX hXX) rfl 0 t_0 rfl rfl rfl dX6_slips_2 ?_
  refine q_if_neD 8 rfl 10 (by decide) dX6_slips_5 (fun h5 => ?_) (fun h5 => ?_)
  · refine q_aload_n 11 rfl rfl dX6_slips_10 ?_
    refine q_iload_n 12 rfl rfl dX6_slips_11 ?_
    refine q_cV1 15 rfl lX6_244 (k_wanted hG hX (by omega)) rfl 0 t_0 rfl rfl rfl dX6_slips_12 ?_
    refine q_if_eq 18 rfl 21 (by decide) (by exact wl0 (by omega)) dX6_slips_15 (fun h15 => ?_) (fun h15 => ?_)
    · refine q_iconst 22 rfl 0 k_i0 dX6_slips_21 ?_
      refine q_istore_n 23 rfl (by decide) dX6_slips_22 ?_
      refine q_iconst 24 rfl 0 k_i0 dX6_slips_23 ?_
      refine q_istore_n 25 rfl (by decide) dX6_slips_24 ?_
      refine q_loc (slips6_lp (n := X) (Rl := Rl) (nm := nm) (nw := nw) (c := c) hG hX (by omega) ?_ 0 (by omega) _ rfl) (q_sub1 rfl (q_sub1 rfl (q_sub1 rfl (q_sub1 rfl q_sub0))))
      refine q_iload_n 67 rfl rfl dX6_slips_66 ?_
      refine q_iret rfl dX6_slips_67 ?_
      have hz := (wp6_none (nw := nw) hN (show X < 9 by omega)).mpr (by assumption)
      rw [if_pos (show X < c by omega)]
      simp only [slp6, slp] at hz ⊢
      split at hz
      · rename_i hq; rw [if_pos hq]; exact ⟨rfl, rfl⟩
      · exact absurd rfl hz
    · refine q_bipush 20 rfl 4294967292 k_bm4 dX6_slips_18 ?_
      refine q_iret rfl dX6_slips_20 ?_
      rw [if_pos (show X < c by omega), Decidable.not_not.mp (mt (wp6_none (nw := nw) hN (show X < 9 by omega)).mp (by assumption))]
      exact ⟨rfl, rfl⟩
  · refine q_iconst 9 rfl 4294967295 k_im1 dX6_slips_8 ?_
    refine q_iret rfl dX6_slips_9 ?_
    rw [if_neg (by omega)]
    exact ⟨rfl, rfl⟩
end
