/-- only rows that the model lays anew before it reads them -/
def Sc (N N' : Nat → Nat → Nat) : Prop := ∀ a, a ≠ 87 → a ≠ 88 → a ≠ 90 → a ≠ 91 → N' a = N a
theorem Sc.rf {N : Nat → Nat → Nat} : Sc N N := fun _ _ _ _ _ => rfl
theorem Sc.now {N : Nat → Nat → Nat} {c : Nat} : Sc N (now7 N c) := fun a h _ _ _ => now7_ne h
def q_sc (ad : Nat → Nat) (N : Nat → Nat → Nat) (G : Nat → Nat → Option Nat) (v : Value) : Option Value → q_H → Prop := fun v' h => v' = some v ∧ ∃ N' L', h = (LT ad, N', L', G) ∧ Sc N N'
theorem p2_9 {c : Nat} (h : c ≤ 9) : 2 ^ c ≤ 512 := Nat.pow_le_pow_right (n := 2) (i := c) (j := 9) (by omega) h
section
variable {Γ : q_G} {ad : Nat → Nat} {N : Nat → Nat → Nat} {L : Nat → Nat → Int} {G : Nat → Nat → Option Nat}
theorem lowest_lp {rm : Room} {Z : q_Zt} {h : q_H} {u d x g : Nat} (hx : q_R Γ mX7_lowest rm Z 0 0 31 [(0, .long (lZ (u : Nat))), (2, .long (lZ (d : Nat))), (4, .int (nI x)), (5, .long (lZ (g : Nat)))] [] h) : ∀ b a : Nat, a < 4611686018427387904 → b < 4611686018427387904 → Nat.gcd a b = g → q_R Γ mX7_lowest rm Z 0 0 6 [(0, .long (lZ (u : Nat))), (2, .long (lZ (d : Nat))), (4, .int (nI x)), (5, .long (lZ (a : Nat))), (7, .long (lZ (b : Nat)))] [] h := by
  intro b
  induction b using Nat.strongRecOn with
  | ind b ih =>
    intro a ha hb hg
    refine q_lload 8 rfl rfl dX7_lowest_6 ?_
    refine q_lconst 9 rfl 0 lN0 dX7_lowest_8 ?_
    refine q_lcmp_eq 13 10 rfl rfl 31 (by decide) (by omega) (by omega) dX7_lowest_9 dX7_lowest_10 (fun h9 => ?_) (fun h9 => ?_)
    · have e0 : b = 0 := by omega
      subst e0
      rw [Nat.gcd_zero_right] at hg
      subst hg
      exact q_loc hx (q_sub1 rfl (q_sub1 rfl (q_sub1 rfl (q_sub1 rfl q_sub0))))
    · refine q_lload 15 rfl rfl dX7_lowest_13 ?_
      refine q_lload 17 rfl rfl dX7_lowest_15 ?_
      refine q_lrem 18 rfl (by omega) (by omega) (by omega) dX7_lowest_17 ?_
      refine q_lstore 20 rfl (by decide) dX7_lowest_18 ?_
      refine q_lload 22 rfl rfl dX7_lowest_20 ?_
      refine q_lstore 24 rfl (by decide) dX7_lowest_22 ?_
      refine q_lload 26 rfl rfl dX7_lowest_24 ?_
      refine q_lstore 28 rfl (by decide) dX7_lowest_26 ?_
      refine q_goto 6 (by decide) dX7_lowest_28 ?_
      exact q_loc (ih (a % b) (Nat.mod_lt _ (by omega)) b hb (Nat.lt_trans (Nat.mod_lt _ (by omega)) hb) (by rw [Nat.gcd_comm, ← Nat.gcd_rec, Nat.gcd_comm]; exact hg)) (q_sub1 rfl (q_sub1 rfl (q_sub1 rfl (q_sub1 rfl (q_sub1 rfl q_sub0)))))
theorem k_lowest {h : q_H} {u d x : Nat} (hu : u < 4611686018427387904) (h0 : 0 < d) (hd : d < 4611686018427387904) (hx : x < 4294967296) : q_Con Γ mX7_lowest 0 0 0 [.long (lZ (u : Nat)), .long (lZ (d : Nat)), .int (nI x)] h (q_is (some (.long (lZ (((if x = 0 then u else d) / Nat.gcd u d : Nat) : Int)))) h) := by
  have hgp : 0 < Nat.gcd u d := Nat.gcd_pos_of_pos_right _ h0
  have hgl : Nat.gcd u d ≤ d := Nat.gcd_le_right _ h0
  refine q_con (by decide) rfl rfl (Nat.le_of_ble_eq_true rfl) ?_
  refine q_lload_n 1 rfl rfl dX7_lowest_0 ?_
  refine q_lstore 3 rfl (by decide) dX7_lowest_1 ?_
  refine q_lload_n 4 rfl rfl dX7_lowest_3 ?_
  refine q_lstore 6 rfl (by decide) dX7_lowest_4 ?_
  refine q_loc (lowest_lp (g := Nat.gcd u d) ?_ d u hu hd rfl) (q_sub1 rfl (q_sub1 rfl (q_sub1 rfl (q_sub1 rfl (q_sub1 rfl q_sub0)))))
  refine q_iload 33 rfl rfl dX7_lowest_31 ?_
  refine q_if_ne 36 rfl 40 (by decide) (by omega) dX7_lowest_33 (fun h33 => ?_) (fun h33 => ?_)
  · refine q_lload_n 41 rfl rfl dX7_lowest_40 ?_
    refine q_lload 43 rfl rfl dX7_lowest_41 ?_
    refine q_ldiv 44 rfl (by omega) (by omega) (by omega) dX7_lowest_43 ?_
    refine q_lret rfl dX7_lowest_44 ?_
    first
      | (rw [if_pos (by assumption)]; exact ⟨rfl, rfl⟩)
      | (rw [if_neg (by assumption)]; exact ⟨rfl, rfl⟩)
  · refine q_lload_n 37 rfl rfl dX7_lowest_36 ?_
    refine q_goto 41 (by decide) dX7_lowest_37 ?_
    refine q_lload 43 rfl rfl dX7_lowest_41 ?_
    refine q_ldiv 44 rfl (by omega) (by omega) (by omega) dX7_lowest_43 ?_
    refine q_lret rfl dX7_lowest_44 ?_
    first
      | (rw [if_pos (by assumption)]; exact ⟨rfl, rfl⟩)
      | (rw [if_neg (by assumption)]; exact ⟨rfl, rfl⟩)
theorem k_likely7 {X Y : Nat} {c : Nat} (hG : GF ad G) (hM : MS N c) (hX : X < 4294967296) (hY : Y < 4294967296) : q_Con Γ mX7_likely 6 0 0 [.ref (ad 77), .int (nI X), .int (nI Y)] (LT ad, N, L, G) (q_sc ad N G (.long (lZ (lkl c X Y (can7 N c (R7 N) (N 78 40)) (N 78))))) := by
  obtain ⟨hc, hc9, hb, hl, hs, hk, hms, hpr, hg9, hh, hgn, hga, hod, ho1⟩ := id hM
  have hcl : can7 N c (R7 N) (N 78 40) < 512 := can_lt hc9
  have hcc : can7 N c (R7 N) (N 78 40) < 2 ^ c := mk_lt _ c
  generalize hsd : can7 N c (R7 N) (N 78 40) = s at *
  have ho9 := ods_le (N 78) s c 9 (fun i hi => hod i (by omega))
  have ea : X < c → ods (N 78) (s &&& (1 * 2 ^ X)) c = if s.testBit X = true then N 78 X else 0 := fun q => ods_one _ _ _ _ q
  have oa := ods_le (N 78) (s &&& (1 * 2 ^ X)) c 9 (fun i hi => hod i (by omega))
  refine q_con (by decide) rfl rfl (Nat.le_of_ble_eq_true rfl) ?_
  refine q_aload_n 1 rfl rfl dX7_likely_0 ?_
  refine q_iload_n 2 rfl rfl dX7_likely_1 ?_
  refine q_cV1 5 rfl lX7_160 (k_isName7 hG hc hc9 hX) rfl 77 t_77 rfl rfl rfl dX7_likely_2 ?_
  refine q_if_eqD 8 rfl 18 (by decide) dX7_likely_5 (fun h5 => ?_) (fun h5 => ?_)
  · refine q_ldc2 21 rfl (-1) klX7_224 rfl dX7_likely_18 ?_
    refine q_lret rfl dX7_likely_21 ?_
    first
      | (refine ⟨?_, _, _, rfl, Sc.rf⟩; rw [lkl, if_neg (by omega)]; done)
      | (refine ⟨?_, _, _, rfl, Sc.now⟩; rw [lkl, if_pos (by omega), if_pos (by assumption)]; done)
      | (refine ⟨?_, _, _, rfl, Sc.now⟩; rw [ea (by omega), lkl, if_pos (show X < c ∧ Y ≤ 1 by omega), if_neg (show ¬ s = 0 by assumption)])
  · refine q_iload_n 9 rfl rfl dX7_likely_8 ?_
    refine q_i2l 10 rfl dX7_likely_9 ?_
    refine q_lconst 11 rfl 0 lN0 dX7_likely_10 ?_
    refine q_lconst 12 rfl 1 lN1 dX7_likely_11 ?_
    refine q_cS3 15 rfl lX7_68 (k_in hY (by omega) (by omega) rfl (by omega) (by omega)) rfl rfl rfl dX7_likely_12 ?_
    refine q_if_neD 18 rfl 22 (by decide) dX7_likely_15 (fun h15 => ?_) (fun h15 => ?_)
    · refine q_aload_n 23 rfl rfl dX7_likely_22 ?_
      refine q_cV0 26 rfl lX7_221 (by have := k_canNow (Γ := Γ) (L := L) hG hM; rw [hsd] at this; exact this) rfl 77 t_77 rfl rfl rfl dX7_likely_23 ?_
      refine q_istore_n 27 rfl (by decide) dX7_likely_26 ?_
      refine q_iload_n 28 rfl rfl dX7_likely_27 ?_
      refine q_if_ne 31 rfl 37 (by decide) (by omega) dX7_likely_28 (fun h28 => ?_) (fun h28 => ?_)
      · refine q_aload_n 38 rfl rfl dX7_likely_37 ?_
        refine q_iload_n 39 rfl rfl dX7_likely_38 ?_
        refine q_iconst 40 rfl 1 k_i1 dX7_likely_39 ?_
        refine q_iload_n 41 rfl rfl dX7_likely_40 ?_
        refine q_ishl 42 rfl (by omega) dX7_likely_41 ?_
        refine q_iand 43 rfl dX7_likely_42 ?_
        refine q_cV1 46 rfl lX7_228 (k_oddsOf7 (N := now7 N c) hG hc hc9 hs (Nat.lt_of_le_of_lt (by first | exact Nat.le_refl _ | exact Nat.and_le_left) (Nat.lt_trans hcl (by omega)))) rfl 77 t_77 rfl rfl rfl dX7_likely_43 ?_
        refine q_aload_n 47 rfl rfl dX7_likely_46 ?_
        refine q_iload_n 48 rfl rfl dX7_likely_47 ?_
        refine q_cV1 51 rfl lX7_228 (k_oddsOf7 (N := now7 N c) hG hc hc9 hs (Nat.lt_of_le_of_lt (by first | exact Nat.le_refl _ | exact Nat.and_le_left) (Nat.lt_trans hcl (by omega)))) rfl 77 t_77 rfl rfl rfl dX7_likely_48 ?_
        refine q_iload_n 52 rfl rfl dX7_likely_51 ?_
        refine q_cS3 55 rfl lX7_232 (k_lowest (u := ods (N 78) (s &&& (1 * 2 ^ X)) c) (d := ods (N 78) s c) (by omega) (ods_pos (by assumption) hcc ho1) (by omega) hY) rfl rfl rfl dX7_likely_52 ?_
        refine q_lret rfl dX7_likely_55 ?_
        first
          | (refine ⟨?_, _, _, rfl, Sc.rf⟩; rw [lkl, if_neg (by omega)]; done)
          | (refine ⟨?_, _, _, rfl, Sc.now⟩; rw [lkl, if_pos (by omega), if_pos (by assumption)]; done)
          | (refine ⟨?_, _, _, rfl, Sc.now⟩; rw [ea (by omega), lkl, if_pos (show X < c ∧ Y ≤ 1 by omega), if_neg (show ¬ s = 0 by assumption)])
      · refine q_ldc2 34 rfl (-2) klX7_226 rfl dX7_likely_31 ?_
        refine q_goto 55 (by decide) dX7_likely_34 ?_
        refine q_lret rfl dX7_likely_55 ?_
        first
          | (refine ⟨?_, _, _, rfl, Sc.rf⟩; rw [lkl, if_neg (by omega)]; done)
          | (refine ⟨?_, _, _, rfl, Sc.now⟩; rw [lkl, if_pos (by omega), if_pos (by assumption)]; done)
          | (refine ⟨?_, _, _, rfl, Sc.now⟩; rw [ea (by omega), lkl, if_pos (show X < c ∧ Y ≤ 1 by omega), if_neg (show ¬ s = 0 by assumption)])
    · refine q_ldc2 21 rfl (-1) klX7_224 rfl dX7_likely_18 ?_
      refine q_lret rfl dX7_likely_21 ?_
      first
        | (refine ⟨?_, _, _, rfl, Sc.rf⟩; rw [lkl, if_neg (by omega)]; done)
        | (refine ⟨?_, _, _, rfl, Sc.now⟩; rw [lkl, if_pos (by omega), if_pos (by assumption)]; done)
        | (refine ⟨?_, _, _, rfl, Sc.now⟩; rw [ea (by omega), lkl, if_pos (show X < c ∧ Y ≤ 1 by omega), if_neg (show ¬ s = 0 by assumption)])
theorem k_worstBy {c s n : Nat} {Rl : Nat → Nat → Bool} (hG : GF ad G) (hc9 : c ≤ 9) (hnx : ∀ g, g < c → N 87 g = mk (fun m => decide (g ≠ m) && Rl g m) c) (hn : n < c) (hs : s < 2 ^ c) : q_Con Γ mX7_worstBy 1 0 0 [.ref (ad 77), .int (nI s), .int (nI n)] (LT ad, N, L, G) (q_is (some (.int (nI (wst Rl c s n)))) (LT ad, N, L, G)) := by
  have e1 := ansW_s (f := N 87) (Rl := Rl) (g := n) (a := 1) hs (by omega) (hnx n hn) (by omega)
  have e0 := ansW_s (f := N 87) (Rl := Rl) (g := n) (a := 0) hs (by omega) (hnx n hn) (by omega)
  have p9 := p2_9 hc9
  have l1 := prt_lt (Rl := Rl) (c := c) (s := s) (g := n) (a := 1)
  have l0 := prt_lt (Rl := Rl) (c := c) (s := s) (g := n) (a := 0)
  have b1 := pc_le (prt Rl c s n 1) 26
  have b0 := pc_le (prt Rl c s n 0) 26
  refine q_con (by decide) rfl rfl (Nat.le_of_ble_eq_true rfl) ?_
  refine q_aload_n 1 rfl rfl dX7_worstBy_0 ?_
  refine q_iload_n 2 rfl rfl dX7_worstBy_1 ?_
  refine q_iload_n 3 rfl rfl dX7_worstBy_2 ?_
  refine q_iconst 4 rfl 1 k_i1 dX7_worstBy_3 ?_
  refine q_cV3 7 rfl lX7_212 (k_answering hG (by omega) (by omega)) rfl 77 t_77 rfl rfl rfl dX7_worstBy_4 ?_
  first
    | rw [e1]
    | rw [e0]
  refine q_cS1 10 rfl lX7_191 (k_bitsOf (by omega)) rfl rfl rfl dX7_worstBy_7 ?_
  refine q_istore_n 11 rfl (by decide) dX7_worstBy_10 ?_
  refine q_aload_n 12 rfl rfl dX7_worstBy_11 ?_
  refine q_iload_n 13 rfl rfl dX7_worstBy_12 ?_
  refine q_iload_n 14 rfl rfl dX7_worstBy_13 ?_
  refine q_iconst 15 rfl 0 k_i0 dX7_worstBy_14 ?_
  refine q_cV3 18 rfl lX7_212 (k_answering hG (by omega) (by omega)) rfl 77 t_77 rfl rfl rfl dX7_worstBy_15 ?_
  first
    | rw [e1]
    | rw [e0]
  refine q_cS1 21 rfl lX7_191 (k_bitsOf (by omega)) rfl rfl rfl dX7_worstBy_18 ?_
  refine q_istore 23 rfl (by decide) dX7_worstBy_21 ?_
  refine q_iload_n 24 rfl rfl dX7_worstBy_23 ?_
  refine q_iload 26 rfl rfl dX7_worstBy_24 ?_
  refine q_icmp_le 29 rfl 33 (by decide) (by omega) (by omega) dX7_worstBy_26 (fun h26 => ?_) (fun h26 => ?_)
  · refine q_iload 35 rfl rfl dX7_worstBy_33 ?_
    refine q_iret rfl dX7_worstBy_35 ?_
    first
      | (rw [wst, Nat.max_eq_left (by omega)]; exact ⟨rfl, rfl⟩)
      | (rw [wst, Nat.max_eq_right (by omega)]; exact ⟨rfl, rfl⟩)
  · refine q_iload_n 30 rfl rfl dX7_worstBy_29 ?_
    refine q_goto 35 (by decide) dX7_worstBy_30 ?_
    refine q_iret rfl dX7_worstBy_35 ?_
    first
      | (rw [wst, Nat.max_eq_left (by omega)]; exact ⟨rfl, rfl⟩)
      | (rw [wst, Nat.max_eq_right (by omega)]; exact ⟨rfl, rfl⟩)
theorem wst_le {Rl : Nat → Nat → Bool} {c s g : Nat} : wst Rl c s g ≤ 26 := Nat.max_le.mpr ⟨pc_le _ _, pc_le _ _⟩
theorem next7_lp {Z : q_Zt} {c s Y mc mz : Nat} {Rl : Nat → Nat → Bool} (hG : GF ad G) (hc : N 77 2 = c) (hc9 : c ≤ 9) (hnx : ∀ g, g < c → N 87 g = mk (fun m => decide (g ≠ m) && Rl g m) c) (hs : s < 2 ^ c) (hx : q_R Γ mX7_next (q_room 6 mc mz) Z 0 0 86 [(1, .int (nI Y)), (3, .int (nI ((amin (wst Rl c s) 1000 (c)).1))), (4, .int (nI ((amin (wst Rl c s) 1000 (c)).2)))] [] (LT ad, N, L, G)) : ∀ i, i ≤ c →  ∀ a : Nat, a = (amin (wst Rl c s) 1000 i).1 → ∀ b : Nat, b = (amin (wst Rl c s) 1000 i).2 → q_R Γ mX7_next (q_room 6 mc mz) Z 0 0 34 [(0, .ref (ad 77)), (1, .int (nI Y)), (2, .int (nI s)), (3, .int (nI a)), (4, .int (nI b)), (5, .int (nI i))] [] (LT ad, N, L, G) := by
  refine dn_loop (c) ?_ ?_
  · intro a h_a b h_b
    refine q_iload 36 rfl rfl dX7_next_34 ?_
    refine q_aload_n 37 rfl rfl dX7_next_36 ?_
    refine q_getI 40 rfl fX7_155 rfl 77 t_77 dX7_next_37 ?_
    refine q_icmp_ge 43 rfl 86 (by decide) (by omega) (by omega) dX7_next_40 (fun h40 => ?_) (fun h40 => ?_)
    · subst h_a
      subst h_b
      exact q_loc hx (q_sub1 rfl (q_sub1 rfl (q_sub1 rfl q_sub0)))
    · exfalso; omega
  · intro i h_i ih a h_a b h_b
    have w1 := wst_le (Rl := Rl) (c := c) (s := s) (g := i)
    have w2 := amin_le (wst Rl c s) 1000 i
    refine q_iload 36 rfl rfl dX7_next_34 ?_
    refine q_aload_n 37 rfl rfl dX7_next_36 ?_
    refine q_getI 40 rfl fX7_155 rfl 77 t_77 dX7_next_37 ?_
    refine q_icmp_ge 43 rfl 86 (by decide) (by omega) (by omega) dX7_next_40 (fun h40 => ?_) (fun h40 => ?_)
    · exfalso; omega
    · refine q_aload_n 44 rfl rfl dX7_next_43 ?_
      refine q_iload_n 45 rfl rfl dX7_next_44 ?_
      refine q_iload 47 rfl rfl dX7_next_45 ?_
      refine q_cV2 50 rfl lX7_236 (k_worstBy hG hc9 hnx h_i hs) rfl 77 t_77 rfl rfl rfl dX7_next_47 ?_
      refine q_istore 52 rfl (by decide) dX7_next_50 ?_
      refine q_iload 54 rfl rfl dX7_next_52 ?_
      refine q_iload_n 55 rfl rfl dX7_next_54 ?_
      refine q_icmp_ge 58 rfl 63 (by decide) (by omega) (by omega) dX7_next_55 (fun h55 => ?_) (fun h55 => ?_)
      · first
        | (exfalso; omega)
        | (refine q_iload 65 rfl rfl dX7_next_63 ?_
           refine q_istore 67 rfl (by decide) dX7_next_65 ?_
           refine q_iload 69 rfl rfl dX7_next_67 ?_
           refine q_iload_n 70 rfl rfl dX7_next_69 ?_
           refine q_icmp_ge 73 rfl 78 (by decide) (by omega) (by omega) dX7_next_70 (fun h70 => ?_) (fun h70 => ?_)
           · first
             | (exfalso; omega)
             | (refine q_iload_n 79 rfl rfl dX7_next_78 ?_
                refine q_istore_n 80 rfl (by decide) dX7_next_79 ?_
                refine q_iinc1 83 rfl 1 k_i1 rfl (by decide) dX7_next_80 ?_
                refine q_goto 34 (by decide) dX7_next_83 ?_
                refine q_loc (ih _ ?_ _ ?_) (q_sub1 rfl (q_sub1 rfl (q_sub1 rfl (q_sub1 rfl (q_sub1 rfl (q_sub1 rfl q_sub0))))))
                · simp only [amin]
                  first
                    | (rw [if_pos (by omega)]; done)
                    | (rw [if_neg (by omega)]; exact h_a)
                · simp only [amin]
                  first
                    | (rw [if_pos (by omega)]; done)
                    | (rw [if_neg (by omega)]; exact h_b))
           · first
             | (exfalso; omega)
             | (refine q_iload 75 rfl rfl dX7_next_73 ?_
                refine q_goto 79 (by decide) dX7_next_75 ?_
                refine q_istore_n 80 rfl (by decide) dX7_next_79 ?_
                refine q_iinc1 83 rfl 1 k_i1 rfl (by decide) dX7_next_80 ?_
                refine q_goto 34 (by decide) dX7_next_83 ?_
                refine q_loc (ih _ ?_ _ ?_) (q_sub1 rfl (q_sub1 rfl (q_sub1 rfl (q_sub1 rfl (q_sub1 rfl (q_sub1 rfl q_sub0))))))
                · simp only [amin]
                  first
                    | (rw [if_pos (by omega)]; done)
                    | (rw [if_neg (by omega)]; exact h_a)
                · simp only [amin]
                  first
                    | (rw [if_pos (by omega)]; done)
                    | (rw [if_neg (by omega)]; exact h_b)))
      · first
        | (exfalso; omega)
        | (refine q_iload 60 rfl rfl dX7_next_58 ?_
           refine q_goto 65 (by decide) dX7_next_60 ?_
           refine q_istore 67 rfl (by decide) dX7_next_65 ?_
           refine q_iload 69 rfl rfl dX7_next_67 ?_
           refine q_iload_n 70 rfl rfl dX7_next_69 ?_
           refine q_icmp_ge 73 rfl 78 (by decide) (by omega) (by omega) dX7_next_70 (fun h70 => ?_) (fun h70 => ?_)
           · first
             | (exfalso; omega)
             | (refine q_iload_n 79 rfl rfl dX7_next_78 ?_
                refine q_istore_n 80 rfl (by decide) dX7_next_79 ?_
                refine q_iinc1 83 rfl 1 k_i1 rfl (by decide) dX7_next_80 ?_
                refine q_goto 34 (by decide) dX7_next_83 ?_
                refine q_loc (ih _ ?_ _ ?_) (q_sub1 rfl (q_sub1 rfl (q_sub1 rfl (q_sub1 rfl (q_sub1 rfl (q_sub1 rfl q_sub0))))))
                · simp only [amin]
                  first
                    | (rw [if_pos (by omega)]; done)
                    | (rw [if_neg (by omega)]; exact h_a)
                · simp only [amin]
                  first
                    | (rw [if_pos (by omega)]; done)
                    | (rw [if_neg (by omega)]; exact h_b))
           · first
             | (exfalso; omega)
             | (refine q_iload 75 rfl rfl dX7_next_73 ?_
                refine q_goto 79 (by decide) dX7_next_75 ?_
                refine q_istore_n 80 rfl (by decide) dX7_next_79 ?_
                refine q_iinc1 83 rfl 1 k_i1 rfl (by decide) dX7_next_80 ?_
                refine q_goto 34 (by decide) dX7_next_83 ?_
                refine q_loc (ih _ ?_ _ ?_) (q_sub1 rfl (q_sub1 rfl (q_sub1 rfl (q_sub1 rfl (q_sub1 rfl (q_sub1 rfl q_sub0))))))
                · simp only [amin]
                  first
                    | (rw [if_pos (by omega)]; done)
                    | (rw [if_neg (by omega)]; exact h_a)
                · simp only [amin]
                  first
                    | (rw [if_pos (by omega)]; done)
                    | (rw [if_neg (by omega)]; exact h_b)))
theorem k_next7 {Y : Nat} {c : Nat} (hG : GF ad G) (hM : MS N c) (hY : Y < 4294967296) : q_Con Γ mX7_next 6 0 0 [.ref (ad 77), .int (nI Y)] (LT ad, N, L, G) (q_sc ad N G (.int (nI (nxt (R7 N) c Y (can7 N c (R7 N) (N 78 40)))))) := by
  obtain ⟨hc, hc9, hb, hl, hs, hk, hms, hpr, hg9, hh, hgn, hga, hod, ho1⟩ := id hM
  have hcl : can7 N c (R7 N) (N 78 40) < 512 := can_lt hc9
  have hcc : can7 N c (R7 N) (N 78 40) < 2 ^ c := mk_lt _ c
  generalize hsd : can7 N c (R7 N) (N 78 40) = s at *
  refine q_con (by decide) rfl rfl (Nat.le_of_ble_eq_true rfl) ?_
  refine q_iload_n 1 rfl rfl dX7_next_0 ?_
  refine q_i2l 2 rfl dX7_next_1 ?_
  refine q_lconst 3 rfl 0 lN0 dX7_next_2 ?_
  refine q_lconst 4 rfl 1 lN1 dX7_next_3 ?_
  refine q_cS3 7 rfl lX7_68 (k_in hY (by omega) (by omega) rfl (by omega) (by omega)) rfl rfl rfl dX7_next_4 ?_
  refine q_if_neD 10 rfl 12 (by decide) dX7_next_7 (fun h7 => ?_) (fun h7 => ?_)
  · refine q_aload_n 13 rfl rfl dX7_next_12 ?_
    refine q_cV0 16 rfl lX7_221 (by have := k_canNow (Γ := Γ) (L := L) hG hM; rw [hsd] at this; exact this) rfl 77 t_77 rfl rfl rfl dX7_next_13 ?_
    refine q_istore_n 17 rfl (by decide) dX7_next_16 ?_
    refine q_iload_n 18 rfl rfl dX7_next_17 ?_
    refine q_if_ne 21 rfl 24 (by decide) (by omega) dX7_next_18 (fun h18 => ?_) (fun h18 => ?_)
    · refine q_sipush 27 rfl 1000 k_s1000 dX7_next_24 ?_
      refine q_istore_n 28 rfl (by decide) dX7_next_27 ?_
      refine q_iconst 29 rfl 0 k_i0 dX7_next_28 ?_
      refine q_istore 31 rfl (by decide) dX7_next_29 ?_
      refine q_iconst 32 rfl 0 k_i0 dX7_next_31 ?_
      refine q_istore 34 rfl (by decide) dX7_next_32 ?_
      refine q_loc (next7_lp (N := now7 N c) (Rl := R7 N) hG hc hc9 (fun g hg => now7_87 hg) hcc ?_ 0 (by omega) _ rfl _ rfl) (q_sub1 rfl (q_sub1 rfl (q_sub1 rfl (q_sub1 rfl (q_sub1 rfl (q_sub1 rfl q_sub0))))))
      refine q_iload_n 87 rfl rfl dX7_next_86 ?_
      refine q_if_ne 90 rfl 95 (by decide) (by omega) dX7_next_87 (fun h87 => ?_) (fun h87 => ?_)
      · refine q_iload_n 96 rfl rfl dX7_next_95 ?_
        refine q_iret rfl dX7_next_96 ?_
        first
          | (refine ⟨?_, _, _, rfl, Sc.rf⟩; rw [nxt, if_neg (by omega)]; done)
          | (refine ⟨?_, _, _, rfl, Sc.now⟩; rw [nxt, if_pos (by omega), if_pos (by assumption)]; done)
          | (refine ⟨?_, _, _, rfl, Sc.now⟩; rw [nxt, if_pos (by omega), if_neg (by assumption), if_pos (by assumption)]; done)
          | (refine ⟨?_, _, _, rfl, Sc.now⟩; rw [nxt, if_pos (by omega), if_neg (by assumption), if_neg (by assumption)])
      · refine q_iload 92 rfl rfl dX7_next_90 ?_
        refine q_goto 96 (by decide) dX7_next_92 ?_
        refine q_iret rfl dX7_next_96 ?_
        first
          | (refine ⟨?_, _, _, rfl, Sc.rf⟩; rw [nxt, if_neg (by omega)]; done)
          | (refine ⟨?_, _, _, rfl, Sc.now⟩; rw [nxt, if_pos (by omega), if_pos (by assumption)]; done)
          | (refine ⟨?_, _, _, rfl, Sc.now⟩; rw [nxt, if_pos (by omega), if_neg (by assumption), if_pos (by assumption)]; done)
          | (refine ⟨?_, _, _, rfl, Sc.now⟩; rw [nxt, if_pos (by omega), if_neg (by assumption), if_neg (by assumption)])
    · refine q_bipush 23 rfl 4294967294 k_bm2 dX7_next_21 ?_
      refine q_iret rfl dX7_next_23 ?_
      first
        | (refine ⟨?_, _, _, rfl, Sc.rf⟩; rw [nxt, if_neg (by omega)]; done)
        | (refine ⟨?_, _, _, rfl, Sc.now⟩; rw [nxt, if_pos (by omega), if_pos (by assumption)]; done)
        | (refine ⟨?_, _, _, rfl, Sc.now⟩; rw [nxt, if_pos (by omega), if_neg (by assumption), if_pos (by assumption)]; done)
        | (refine ⟨?_, _, _, rfl, Sc.now⟩; rw [nxt, if_pos (by omega), if_neg (by assumption), if_neg (by assumption)])
  · refine q_iconst 11 rfl 4294967295 k_im1 dX7_next_10 ?_
    refine q_iret rfl dX7_next_11 ?_
    first
      | (refine ⟨?_, _, _, rfl, Sc.rf⟩; rw [nxt, if_neg (by omega)]; done)
      | (refine ⟨?_, _, _, rfl, Sc.now⟩; rw [nxt, if_pos (by omega), if_pos (by assumption)]; done)
      | (refine ⟨?_, _, _, rfl, Sc.now⟩; rw [nxt, if_pos (by omega), if_neg (by assumption), if_pos (by assumption)]; done)
      | (refine ⟨?_, _, _, rfl, Sc.now⟩; rw [nxt, if_pos (by omega), if_neg (by assumption), if_neg (by assumption)])
end
