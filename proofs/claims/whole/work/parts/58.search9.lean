def bs6 (N : Nat → Nat → Nat) (nm c Y : Nat) : Nat := if Y ≤ 1 then (if c = 0 then 4294967294 else if Y = 0 then (amin (lw6 N nm c) 1000 45).2 / 9 * 10 + (amin (lw6 N nm c) 1000 45).2 % 9 else (amin (lw6 N nm c) 1000 45).1) else 4294967295
def ls6 (N : Nat → Nat → Nat) (nm c Y : Nat) : Nat := if 1 ≤ Y ∧ Y ≤ 9 then (if c = 0 then 4294967294 else cnt (fun l => decide (lw6 N nm c l ≤ Y)) 45) else 4294967295
theorem amin_1000 {f : Nat → Nat} {k : Nat} (h : ∀ l, f l ≤ 9) (h1 : 1 ≤ k) : (amin f 1000 k).1 ≤ 9 ∧ (amin f 1000 k).2 < k ∧ f (amin f 1000 k).2 = (amin f 1000 k).1 := by
  have a1 := amin_le_at f 1000 k 0 (by omega)
  have a2 := h 0
  have a3 := amin_which f 1000 k (by omega)
  exact ⟨by omega, a3.1, a3.2.1⟩
section
variable {Γ : q_G} {ad : Nat → Nat} {N : Nat → Nat → Nat} {L : Nat → Nat → Int} {G : Nat → Nat → Option Nat}
theorem best6_lp {Z : q_Zt} {Y mc mz : Nat} {f : Nat → Nat} {H : Nat → Nat → Nat} (hG : GF ad G) (hf : ∀ l, f l ≤ 9) (h48 : ∀ l, l < 45 → H 48 l = f l) (hx : q_R Γ mX6_best (q_room 6 mc mz) Z 0 0 61 [(0, .ref (ad 0)), (1, .int (nI Y)), (2, .int (nI ((amin f 1000 (45)).2)))] [] (LT ad, H, L, G)) : ∀ i, i ≤ 45 → 1 ≤ i →  ∀ b : Nat, b = (amin f 1000 i).2 → q_R Γ mX6_best (q_room 6 mc mz) Z 0 0 32 [(0, .ref (ad 0)), (1, .int (nI Y)), (2, .int (nI b)), (3, .int (nI i))] [] (LT ad, H, L, G) := by
  refine dn_loop (45) ?_ ?_
  · intro h_ex b h_b
    obtain ⟨a1, a2, a3⟩ := amin_1000 (k := 45) hf h_ex
    refine q_iload_n 33 rfl rfl dX6_best_32 ?_
    refine q_bipush 35 rfl 45 k_b45 dX6_best_33 ?_
    refine q_icmp_ge 38 rfl 61 (by decide) (by omega) (by omega) dX6_best_35 (fun h35 => ?_) (fun h35 => ?_)
    · rw [h_b]
      exact q_loc hx (q_sub1 rfl (q_sub1 rfl (q_sub1 rfl q_sub0)))
    · exfalso; omega
  · intro i h_i ih h_ex b h_b
    obtain ⟨a1, a2, a3⟩ := amin_1000 hf h_ex
    have a4 := hf i
    have e1 := h48 i h_i
    have e2 := h48 (amin f 1000 i).2 (by omega)
    rw [a3, ← h_b] at e2
    refine q_iload_n 33 rfl rfl dX6_best_32 ?_
    refine q_bipush 35 rfl 45 k_b45 dX6_best_33 ?_
    refine q_icmp_ge 38 rfl 61 (by decide) (by omega) (by omega) dX6_best_35 (fun h35 => ?_) (fun h35 => ?_)
    · exfalso; omega
    · refine q_aload_n 39 rfl rfl dX6_best_38 ?_
      refine q_getR 42 rfl fX6_77 rfl 0 t_0 (g_0_16 hG) dX6_best_39 ?_
      refine q_iload_n 43 rfl rfl dX6_best_42 ?_
      refine q_iald 44 rfl 48 t_48 (by omega) (by decide) dX6_best_43 ?_
      refine q_aload_n 45 rfl rfl dX6_best_44 ?_
      refine q_getR 48 rfl fX6_77 rfl 0 t_0 (g_0_16 hG) dX6_best_45 ?_
      refine q_iload_n 49 rfl rfl dX6_best_48 ?_
      refine q_iald 50 rfl 48 t_48 (by omega) (by decide) dX6_best_49 ?_
      refine q_icmp_ge 53 rfl 55 (by decide) (by omega) (by omega) dX6_best_50 (fun h50 => ?_) (fun h50 => ?_)
      · refine q_iinc1 58 rfl 1 k_i1 rfl (by decide) dX6_best_55 ?_
        refine q_goto 32 (by decide) dX6_best_58 ?_
        refine q_loc (ih (by omega) _ ?_) (q_sub1 rfl (q_sub1 rfl (q_sub1 rfl (q_sub1 rfl q_sub0))))
        · simp only [amin]
          first
            | (rw [if_pos (by omega)]; done)
            | (rw [if_neg (by omega)]; exact h_b)
      · refine q_iload_n 54 rfl rfl dX6_best_53 ?_
        refine q_istore_n 55 rfl (by decide) dX6_best_54 ?_
        refine q_iinc1 58 rfl 1 k_i1 rfl (by decide) dX6_best_55 ?_
        refine q_goto 32 (by decide) dX6_best_58 ?_
        refine q_loc (ih (by omega) _ ?_) (q_sub1 rfl (q_sub1 rfl (q_sub1 rfl (q_sub1 rfl q_sub0))))
        · simp only [amin]
          first
            | (rw [if_pos (by omega)]; done)
            | (rw [if_neg (by omega)]; exact h_b)
theorem k_best6 {Y : Nat} {nm nw c : Nat} {Rl : Nat → Nat → Bool} (hG : GF ad G) (hX : CX ad G N nm nw c Rl) (hI : MI N nm c) (hYY : Y < 4294967296) : q_Con Γ mX6_best 6 0 0 [.ref (ad 0), .int (nI Y)] (LT ad, N, L, G) (q_m6 ad N L G nm c (some (.int (nI (bs6 N nm c Y))))) := by
  obtain ⟨hnm, hnw, hv5, hv6, hN, hM, hnr⟩ := id hX
  have hc : N nm 0 = c := hN.1
  have hc9 : c ≤ 9 := hN.2.1
  have w48 : ∀ l, lw6 N nm c l ≤ 9 := fun l => lw6_le hc9
  obtain ⟨a1, a2, a3⟩ := amin_1000 (k := 45) w48 (by omega)
  refine q_con (by decide) rfl rfl (Nat.le_of_ble_eq_true rfl) ?_
  refine q_iload_n 1 rfl rfl dX6_best_0 ?_
  refine q_iconst 2 rfl 0 k_i0 dX6_best_1 ?_
  refine q_iconst 3 rfl 1 k_i1 dX6_best_2 ?_
  refine q_cS3 6 rfl lX6_87 (k_within hYY (by omega) (by omega)) rfl rfl rfl dX6_best_3 ?_
  refine q_if_neD 9 rfl 11 (by decide) dX6_best_6 (fun h6 => ?_) (fun h6 => ?_)
  · refine q_aload_n 12 rfl rfl dX6_best_11 ?_
    refine q_getR 15 rfl fX6_23 rfl 0 t_0 hv5 dX6_best_12 ?_
    refine q_getI 18 rfl fX6_115 rfl nm (tN hnm) dX6_best_15 ?_
    rw [hc]
    refine q_if_ne 21 rfl 24 (by decide) (by omega) dX6_best_18 (fun h18 => ?_) (fun h18 => ?_)
    · refine q_aload_n 25 rfl rfl dX6_best_24 ?_
      refine q_cV0q 28 rfl lX6_228 (k_weighLaws hG hX hI) rfl 0 t_0 rfl rfl rfl dX6_best_25 ?_
      rintro v h ⟨rfl, H, rfl, hK2, hI2, e48⟩
      refine q_iconst 29 rfl 0 k_i0 dX6_best_28 ?_
      refine q_istore_n 30 rfl (by decide) dX6_best_29 ?_
      refine q_iconst 31 rfl 1 k_i1 dX6_best_30 ?_
      refine q_istore_n 32 rfl (by decide) dX6_best_31 ?_
      refine q_loc (best6_lp (f := lw6 N nm c) hG w48 e48 ?_ 1 (by omega) (by omega) _ ?_) (q_sub1 rfl (q_sub1 rfl (q_sub1 rfl (q_sub1 rfl q_sub0))))
      rotate_left
      · show 0 = (amin (lw6 N nm c) 1000 1).2
        rw [show amin (lw6 N nm c) 1000 1 = (lw6 N nm c 0, 0) from if_pos (by have := w48 0; show lw6 N nm c 0 < 1000; omega)]
      refine q_iload_n 62 rfl rfl dX6_best_61 ?_
      refine q_if_ne 65 rfl 80 (by decide) (by omega) dX6_best_62 (fun h62 => ?_) (fun h62 => ?_)
      · refine q_aload_n 81 rfl rfl dX6_best_80 ?_
        refine q_getR 84 rfl fX6_77 rfl 0 t_0 (g_0_16 hG) dX6_best_81 ?_
        refine q_iload_n 85 rfl rfl dX6_best_84 ?_
        refine q_iald 86 rfl 48 t_48 (by omega) (by decide) dX6_best_85 ?_
        rw [e48 _ a2, a3]
        refine q_iret rfl dX6_best_86 ?_
        first
          | (refine ⟨?_, _, rfl, KP.rf, hI⟩; rw [bs6, if_neg (by omega)]; done)
          | (refine ⟨?_, _, rfl, KP.rf, hI⟩; rw [bs6, if_pos (by omega), if_pos (by assumption)]; done)
          | (refine ⟨?_, _, rfl, hK2, hI2⟩; rw [bs6, if_pos (by omega), if_neg (by assumption), if_pos (by assumption)]; done)
          | (refine ⟨?_, _, rfl, hK2, hI2⟩; rw [bs6, if_pos (by omega), if_neg (by assumption), if_neg (by assumption)])
      · refine q_iload_n 66 rfl rfl dX6_best_65 ?_
        refine q_bipush 68 rfl 9 k_b9 dX6_best_66 ?_
        refine q_idiv 69 rfl (by omega) (by omega) (by omega) dX6_best_68 ?_
        refine q_bipush 71 rfl 10 k_b10 dX6_best_69 ?_
        refine q_imul 72 rfl dX6_best_71 ?_
        refine q_iload_n 73 rfl rfl dX6_best_72 ?_
        refine q_bipush 75 rfl 9 k_b9 dX6_best_73 ?_
        refine q_irem 76 rfl (by omega) (by omega) (by omega) dX6_best_75 ?_
        refine q_iadd 77 rfl dX6_best_76 ?_
        refine q_goto 86 (by decide) dX6_best_77 ?_
        refine q_iret rfl dX6_best_86 ?_
        first
          | (refine ⟨?_, _, rfl, KP.rf, hI⟩; rw [bs6, if_neg (by omega)]; done)
          | (refine ⟨?_, _, rfl, KP.rf, hI⟩; rw [bs6, if_pos (by omega), if_pos (by assumption)]; done)
          | (refine ⟨?_, _, rfl, hK2, hI2⟩; rw [bs6, if_pos (by omega), if_neg (by assumption), if_pos (by assumption)]; done)
          | (refine ⟨?_, _, rfl, hK2, hI2⟩; rw [bs6, if_pos (by omega), if_neg (by assumption), if_neg (by assumption)])
    · refine q_bipush 23 rfl 4294967294 k_bm2 dX6_best_21 ?_
      refine q_iret rfl dX6_best_23 ?_
      first
        | (refine ⟨?_, _, rfl, KP.rf, hI⟩; rw [bs6, if_neg (by omega)]; done)
        | (refine ⟨?_, _, rfl, KP.rf, hI⟩; rw [bs6, if_pos (by omega), if_pos (by assumption)]; done)
        | (refine ⟨?_, _, rfl, hK2, hI2⟩; rw [bs6, if_pos (by omega), if_neg (by assumption), if_pos (by assumption)]; done)
        | (refine ⟨?_, _, rfl, hK2, hI2⟩; rw [bs6, if_pos (by omega), if_neg (by assumption), if_neg (by assumption)])
  · refine q_iconst 10 rfl 4294967295 k_im1 dX6_best_9 ?_
    refine q_iret rfl dX6_best_10 ?_
    first
      | (refine ⟨?_, _, rfl, KP.rf, hI⟩; rw [bs6, if_neg (by omega)]; done)
      | (refine ⟨?_, _, rfl, KP.rf, hI⟩; rw [bs6, if_pos (by omega), if_pos (by assumption)]; done)
      | (refine ⟨?_, _, rfl, hK2, hI2⟩; rw [bs6, if_pos (by omega), if_neg (by assumption), if_pos (by assumption)]; done)
      | (refine ⟨?_, _, rfl, hK2, hI2⟩; rw [bs6, if_pos (by omega), if_neg (by assumption), if_neg (by assumption)])
theorem laws6_lp {Z : q_Zt} {Y mc mz : Nat} {f : Nat → Nat} {H : Nat → Nat → Nat} (hG : GF ad G) (hY : Y ≤ 9) (hf : ∀ l, f l ≤ 9) (h48 : ∀ l, l < 45 → H 48 l = f l) (hx : q_R Γ mX6_laws (q_room 6 mc mz) Z 0 0 58 [(2, .int (nI (cnt (fun l => decide (f l ≤ Y)) (45))))] [] (LT ad, H, L, G)) : ∀ i, i ≤ 45 →  ∀ a : Nat, a = cnt (fun l => decide (f l ≤ Y)) i → q_R Γ mX6_laws (q_room 6 mc mz) Z 0 0 33 [(0, .ref (ad 0)), (1, .int (nI Y)), (2, .int (nI a)), (3, .int (nI i))] [] (LT ad, H, L, G) := by
  refine dn_loop (45) ?_ ?_
  · intro a h_a
    refine q_iload_n 34 rfl rfl dX6_laws_33 ?_
    refine q_bipush 36 rfl 45 k_b45 dX6_laws_34 ?_
    refine q_icmp_ge 39 rfl 58 (by decide) (by omega) (by omega) dX6_laws_36 (fun h36 => ?_) (fun h36 => ?_)
    · rw [h_a]
      exact q_loc hx (q_sub1 rfl q_sub0)
    · exfalso; omega
  · intro i h_i ih a h_a
    have a4 := hf i
    have e1 := h48 i h_i
    refine q_iload_n 34 rfl rfl dX6_laws_33 ?_
    refine q_bipush 36 rfl 45 k_b45 dX6_laws_34 ?_
    refine q_icmp_ge 39 rfl 58 (by decide) (by omega) (by omega) dX6_laws_36 (fun h36 => ?_) (fun h36 => ?_)
    · exfalso; omega
    · refine q_aload_n 40 rfl rfl dX6_laws_39 ?_
      refine q_getR 43 rfl fX6_77 rfl 0 t_0 (g_0_16 hG) dX6_laws_40 ?_
      refine q_iload_n 44 rfl rfl dX6_laws_43 ?_
      refine q_iald 45 rfl 48 t_48 (by omega) (by decide) dX6_laws_44 ?_
      refine q_iload_n 46 rfl rfl dX6_laws_45 ?_
      refine q_icmp_gt 49 rfl 52 (by decide) (by omega) (by omega) dX6_laws_46 (fun h46 => ?_) (fun h46 => ?_)
      · refine q_iinc1 55 rfl 1 k_i1 rfl (by decide) dX6_laws_52 ?_
        refine q_goto 33 (by decide) dX6_laws_55 ?_
        refine q_loc (ih _ ?_) (q_sub1 rfl (q_sub1 rfl (q_sub1 rfl (q_sub1 rfl q_sub0))))
        · rw [h_a, cnt]
          first
            | (rw [decide_eq_true (by omega)]; rfl)
            | (rw [decide_eq_false (by omega)]; rfl)
      · refine q_iinc1 52 rfl 1 k_i1 rfl (by decide) dX6_laws_49 ?_
        refine q_iinc1 55 rfl 1 k_i1 rfl (by decide) dX6_laws_52 ?_
        refine q_goto 33 (by decide) dX6_laws_55 ?_
        refine q_loc (ih _ ?_) (q_sub1 rfl (q_sub1 rfl (q_sub1 rfl (q_sub1 rfl q_sub0))))
        · rw [h_a, cnt]
          first
            | (rw [decide_eq_true (by omega)]; rfl)
            | (rw [decide_eq_false (by omega)]; rfl)
theorem k_laws6 {Y : Nat} {nm nw c : Nat} {Rl : Nat → Nat → Bool} (hG : GF ad G) (hX : CX ad G N nm nw c Rl) (hI : MI N nm c) (hYY : Y < 4294967296) : q_Con Γ mX6_laws 6 0 0 [.ref (ad 0), .int (nI Y)] (LT ad, N, L, G) (q_m6 ad N L G nm c (some (.int (nI (ls6 N nm c Y))))) := by
  obtain ⟨hnm, hnw, hv5, hv6, hN, hM, hnr⟩ := id hX
  have hc : N nm 0 = c := hN.1
  have hc9 : c ≤ 9 := hN.2.1
  have w48 : ∀ l, lw6 N nm c l ≤ 9 := fun l => lw6_le hc9
  obtain ⟨a1, a2, a3⟩ := amin_1000 (k := 45) w48 (by omega)
  refine q_con (by decide) rfl rfl (Nat.le_of_ble_eq_true rfl) ?_
  refine q_iload_n 1 rfl rfl dX6_laws_0 ?_
  refine q_iconst 2 rfl 1 k_i1 dX6_laws_1 ?_
  refine q_bipush 4 rfl 9 k_b9 dX6_laws_2 ?_
  refine q_cS3 7 rfl lX6_87 (k_within hYY (by omega) (by omega)) rfl rfl rfl dX6_laws_4 ?_
  refine q_if_neD 10 rfl 12 (by decide) dX6_laws_7 (fun h7 => ?_) (fun h7 => ?_)
  · refine q_aload_n 13 rfl rfl dX6_laws_12 ?_
    refine q_getR 16 rfl fX6_23 rfl 0 t_0 hv5 dX6_laws_13 ?_
    refine q_getI 19 rfl fX6_115 rfl nm (tN hnm) dX6_laws_16 ?_
    rw [hc]
    refine q_if_ne 22 rfl 25 (by decide) (by omega) dX6_laws_19 (fun h19 => ?_) (fun h19 => ?_)
    · refine q_aload_n 26 rfl rfl dX6_laws_25 ?_
      refine q_cV0q 29 rfl lX6_228 (k_weighLaws hG hX hI) rfl 0 t_0 rfl rfl rfl dX6_laws_26 ?_
      rintro v h ⟨rfl, H, rfl, hK2, hI2, e48⟩
      refine q_iconst 30 rfl 0 k_i0 dX6_laws_29 ?_
      refine q_istore_n 31 rfl (by decide) dX6_laws_30 ?_
      refine q_iconst 32 rfl 0 k_i0 dX6_laws_31 ?_
      refine q_istore_n 33 rfl (by decide) dX6_laws_32 ?_
      refine q_loc (laws6_lp (f := lw6 N nm c) hG (by omega) w48 e48 ?_ 0 (by omega) _ rfl) (q_sub1 rfl (q_sub1 rfl (q_sub1 rfl (q_sub1 rfl q_sub0))))
      refine q_iload_n 59 rfl rfl dX6_laws_58 ?_
      refine q_iret rfl dX6_laws_59 ?_
      first
        | (refine ⟨?_, _, rfl, KP.rf, hI⟩; rw [ls6, if_neg (by omega)]; done)
        | (refine ⟨?_, _, rfl, KP.rf, hI⟩; rw [ls6, if_pos (by omega), if_pos (by assumption)]; done)
        | (refine ⟨?_, _, rfl, hK2, hI2⟩; rw [ls6, if_pos (by omega), if_neg (by assumption)])
    · refine q_bipush 24 rfl 4294967294 k_bm2 dX6_laws_22 ?_
      refine q_iret rfl dX6_laws_24 ?_
      first
        | (refine ⟨?_, _, rfl, KP.rf, hI⟩; rw [ls6, if_neg (by omega)]; done)
        | (refine ⟨?_, _, rfl, KP.rf, hI⟩; rw [ls6, if_pos (by omega), if_pos (by assumption)]; done)
        | (refine ⟨?_, _, rfl, hK2, hI2⟩; rw [ls6, if_pos (by omega), if_neg (by assumption)])
  · refine q_iconst 11 rfl 4294967295 k_im1 dX6_laws_10 ?_
    refine q_iret rfl dX6_laws_11 ?_
    first
      | (refine ⟨?_, _, rfl, KP.rf, hI⟩; rw [ls6, if_neg (by omega)]; done)
      | (refine ⟨?_, _, rfl, KP.rf, hI⟩; rw [ls6, if_pos (by omega), if_pos (by assumption)]; done)
      | (refine ⟨?_, _, rfl, hK2, hI2⟩; rw [ls6, if_pos (by omega), if_neg (by assumption)])
end
