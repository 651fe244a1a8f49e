theorem CM.gue {N : Nat → Nat → Nat} {q c X Y : Nat} (h : CM N q c) (hX : X < c) (hY : Y ≤ 2) (hg : N q 6 < 9) : CM (ad2 N q 6 4 5 X Y) q c := by
  obtain ⟨hkd, hms, hpr, hpf, hps, hg9, hgn, hga, hh6, hhp, hhl, hhi, hod, ho1⟩ := h
  have e0 : ∀ j, j ≠ 6 → ad2 N q 6 4 5 X Y q j = N q j := fun j hj => by rw [ad2, q_s_off hj, q_s_ne (by omega), q_s_ne (by omega)]
  have e6 : ad2 N q 6 4 5 X Y q 6 = N q 6 + 1 := q_s_at
  have e4 : ad2 N q 6 4 5 X Y (q + 4) = q_s N (q + 4) (N q 6) X (q + 4) := by rw [ad2, q_s_ne (by omega), q_s_ne (by omega)]
  have e5 : ad2 N q 6 4 5 X Y (q + 5) = q_s N (q + 5) (N q 6) Y (q + 5) := by
    rw [ad2, q_s_ne (by omega)]
    funext j
    by_cases e : j = N q 6
    · subst e; rw [q_s_at, q_s_at]
    · rw [q_s_off e, q_s_off e, q_s_ne (by omega)]
  have en : ∀ a, a ≠ q → a ≠ q + 4 → a ≠ q + 5 → ad2 N q 6 4 5 X Y a = N a := fun a h1 h2 h3 => by rw [ad2, q_s_ne h1, q_s_ne h3, q_s_ne h2]
  unfold CM
  rw [e0 1 (by omega), e0 2 (by omega), e0 3 (by omega), e0 9 (by omega), e6, e4, e5, en (q + 1) (by omega) (by omega) (by omega), en (q + 2) (by omega) (by omega) (by omega), en (q + 3) (by omega) (by omega) (by omega), en (q + 6) (by omega) (by omega) (by omega), en (q + 7) (by omega) (by omega) (by omega), en (q + 8) (by omega) (by omega) (by omega)]
  refine ⟨hkd, hms, hpr, hpf, hps, by omega, fun k hk => ?_, fun k hk => ?_, hh6, hhp, hhl, hhi, hod, ho1⟩
  · by_cases e : k = N q 6
    · subst e; rw [q_s_at]; exact hX
    · rw [q_s_off e]; exact hgn k (by omega)
  · by_cases e : k = N q 6
    · subst e; rw [q_s_at]; exact hY
    · rw [q_s_off e]; exact hga k (by omega)
theorem ad2_ne {N : Nat → Nat → Nat} {q r a b X Y x : Nat} (h1 : x ≠ q) (h2 : x ≠ q + a) (h3 : x ≠ q + b) : ad2 N q r a b X Y x = N x := by rw [ad2, q_s_ne h1, q_s_ne h3, q_s_ne h2]
/-- when only the moment nw changed -/
theorem CX.mom {ad : Nat → Nat} {G : Nat → Nat → Option Nat} {N M : Nat → Nat → Nat} {nm nw c : Nat} {Rl : Nat → Nat → Bool} (h : CX ad G N nm nw c Rl) (e : ∀ a, (a < nw ∨ nw + 8 < a) → M a = N a) (hm : CM M nw c) : CX ad G M nm nw c Rl := by
  obtain ⟨h1, h2, h3, h4, h5, h6, h7⟩ := h
  have i1 : nm = 3 ∨ nm = 18 := h1
  have i2 : nw = 9 ∨ nw = 24 ∨ nw = 51 ∨ nw = 60 := h2
  refine ⟨h1, h2, h3, h4, h5.eq (fun a q1 q2 => e a (by omega)), hm, fun g hg => ?_⟩
  rw [e 36 (by omega)]; exact h7 g hg
theorem CX.gue {ad : Nat → Nat} {G : Nat → Nat → Option Nat} {N : Nat → Nat → Nat} {nm nw c X Y : Nat} {Rl : Nat → Nat → Bool} (h : CX ad G N nm nw c Rl) (hX : X < c) (hY : Y ≤ 2) (hg : N nw 6 < 9) : CX ad G (ad2 N nw 6 4 5 X Y) nm nw c Rl :=
  h.mom (fun a ha => ad2_ne (by omega) (by omega) (by omega)) (h.2.2.2.2.2.1.gue hX hY hg)
theorem gue6_ok {H : Nat → Nat → Nat} {nw c x y : Nat} (h9 : H nw 6 ≤ 9) (h : (x < c ∧ y ≤ 2) ∧ H nw 6 ≠ 9) : gue6 H nw c x y = (H nw 6 + 1, ad2 H nw 6 4 5 x y) := by rw [gue6, if_pos h.1, if_neg (by omega)]
theorem gue6_no {H : Nat → Nat → Nat} {nw c x y : Nat} (h9 : H nw 6 ≤ 9) (h : ¬ ((x < c ∧ y ≤ 2) ∧ H nw 6 ≠ 9)) : 2147483648 ≤ (gue6 H nw c x y).1 ∧ (gue6 H nw c x y).1 < 4294967296 ∧ (gue6 H nw c x y).2 = H := by
  rw [gue6]
  by_cases h1 : x < c ∧ y ≤ 2
  · have h2 : H nw 6 = 9 := Classical.byContradiction fun q => h ⟨h1, q⟩
    rw [if_pos h1, if_pos (by omega)]
    exact ⟨by show 2147483648 ≤ 4294967293; omega, by show 4294967293 < 4294967296; omega, rfl⟩
  · rw [if_neg h1]
    exact ⟨by show 2147483648 ≤ 4294967295; omega, by show 4294967295 < 4294967296; omega, rfl⟩
/-- reading on: r guesses are left, j came -/
def rd6 (N : Nat → Nat → Nat) (q nw c l f : Nat) : Nat → Nat → (Nat → Nat → Nat) → Nat × Nat × Nat × (Nat → Nat → Nat)
  | 0, j, H => (0, j, 0, H)
  | r + 1, j, H => if ftg N q (f + 2 * j) l ≠ 0 then (0, j, ftg N q (f + 2 * j) l, H) else if (N (q + 1) (f + 2 * j) < c ∧ N (q + 1) (f + 2 * j + 1) ≤ 2) ∧ H nw 6 ≠ 9 then rd6 N q nw c l f r (j + 1) (gue6 H nw c (N (q + 1) (f + 2 * j)) (N (q + 1) (f + 2 * j + 1))).2 else (1, j, 0, H)
theorem rd6_s {N : Nat → Nat → Nat} {q nw c l f r j : Nat} {H : Nat → Nat → Nat} : rd6 N q nw c l f (r + 1) j H = if ftg N q (f + 2 * j) l ≠ 0 then (0, j, ftg N q (f + 2 * j) l, H) else if (N (q + 1) (f + 2 * j) < c ∧ N (q + 1) (f + 2 * j + 1) ≤ 2) ∧ H nw 6 ≠ 9 then rd6 N q nw c l f r (j + 1) (gue6 H nw c (N (q + 1) (f + 2 * j)) (N (q + 1) (f + 2 * j + 1))).2 else (1, j, 0, H) := rfl
def rdf6 (nw b : Nat) (x : Nat × Nat × Nat × (Nat → Nat → Nat)) : Nat × (Nat → Nat → Nat) := if x.1 = 0 then (x.2.1, q_s x.2.2.2 0 3 x.2.2.1) else (4294967276 - x.2.1, q_s x.2.2.2 nw 6 b)
def read6 (N : Nat → Nat → Nat) (nw c X Y F n : Nat) : Nat × (Nat → Nat → Nat) := if X ≤ 3 ∧ Y ≤ 2 ∧ n ≤ 20 then rdf6 nw (N nw 6) (rd6 N (69 + 2 * X) nw c Y F n 0 N) else (4294967295, N)
theorem ftg_le (N : Nat → Nat → Nat) (q i l : Nat) : ftg N q i l ≤ 3 := by
  have h1 := fta_le N q i
  have h2 := fta_le N q (i + 1)
  unfold ftg; split
  · omega
  · split <;> omega
theorem ftg_in {N : Nat → Nat → Nat} {q i l : Nat} (h : ftg N q i l = 0) : i + 1 < N q 1 := by
  unfold ftg at h
  split at h
  · cases h
  · split at h
    · rename_i h1 h2; exact absurd h h2
    · unfold fta at h; split at h
      · cases h
      · split at h
        · assumption
        · cases h
theorem ftg_eq {N H : Nat → Nat → Nat} {q i l : Nat} (h : H q = N q) : ftg H q i l = ftg N q i l := by
  unfold ftg fta; rw [h]
section
variable {Γ : q_G} {ad : Nat → Nat} {N : Nat → Nat → Nat} {L : Nat → Nat → Int} {G : Nat → Nat → Option Nat}
theorem k_ftgG {q i l : Nat} (hG : GF ad G) (hq : isH q) (hS : SH N q) (hi : i < 4294967296) (hl : l < 4294967296) : q_Con Γ mX5_faultOfGuessAt 2 0 0 [.ref (ad q), .int (nI i), .int (nI l)] (LT ad, N, L, G) (q_is (some (.int (nI (ftg N q i l)))) (LT ad, N, L, G)) := by
  obtain ⟨h0, h1⟩ := id hS
  have f1 := fta_le N q i
  have f2 := fta_le N q (i + 1)
  have f3 : fta N q i = 0 → i < 40 := fta_in hS
  refine q_con (by decide) rfl rfl (Nat.le_of_ble_eq_true rfl) ?_
  refine q_aload_n 1 rfl rfl dX5_faultOfGuessAt_0 ?_
  refine q_getI 4 rfl fX5_11 rfl q (tH hq) dX5_faultOfGuessAt_1 ?_
  refine q_iconst 5 rfl 4294967295 k_im1 dX5_faultOfGuessAt_4 ?_
  refine q_icmp_eq 8 rfl 18 (by decide) (by omega) (by omega) dX5_faultOfGuessAt_5 (fun h5 => ?_) (fun h5 => ?_)
  · refine q_aload_n 19 rfl rfl dX5_faultOfGuessAt_18 ?_
    refine q_iload_n 20 rfl rfl dX5_faultOfGuessAt_19 ?_
    refine q_cV1 23 rfl lX5_32 (k_faultAt hG hq hS (by omega)) rfl q (tH hq) rfl rfl rfl dX5_faultOfGuessAt_20 ?_
    refine q_istore_n 24 rfl (by decide) dX5_faultOfGuessAt_23 ?_
    refine q_iload_n 25 rfl rfl dX5_faultOfGuessAt_24 ?_
    refine q_if_eq 28 rfl 32 (by decide) (by omega) dX5_faultOfGuessAt_25 (fun h25 => ?_) (fun h25 => ?_)
    · refine q_aload_n 33 rfl rfl dX5_faultOfGuessAt_32 ?_
      refine q_iload_n 34 rfl rfl dX5_faultOfGuessAt_33 ?_
      refine q_iconst 35 rfl 1 k_i1 dX5_faultOfGuessAt_34 ?_
      refine q_iadd 36 rfl dX5_faultOfGuessAt_35 ?_
      refine q_cV1 39 rfl lX5_32 (k_faultAt hG hq hS (by omega)) rfl q (tH hq) rfl rfl rfl dX5_faultOfGuessAt_36 ?_
      refine q_iret rfl dX5_faultOfGuessAt_39 ?_
      first
        | (rw [ftg, if_pos (by omega)]; exact ⟨rfl, rfl⟩)
        | (rw [ftg, if_neg (by omega), if_pos (by assumption)]; exact ⟨rfl, rfl⟩)
        | (rw [ftg, if_neg (by omega), if_neg (by omega)]; exact ⟨rfl, rfl⟩)
    · refine q_iload_n 29 rfl rfl dX5_faultOfGuessAt_28 ?_
      refine q_goto 39 (by decide) dX5_faultOfGuessAt_29 ?_
      refine q_iret rfl dX5_faultOfGuessAt_39 ?_
      first
        | (rw [ftg, if_pos (by omega)]; exact ⟨rfl, rfl⟩)
        | (rw [ftg, if_neg (by omega), if_pos (by assumption)]; exact ⟨rfl, rfl⟩)
        | (rw [ftg, if_neg (by omega), if_neg (by omega)]; exact ⟨rfl, rfl⟩)
  · refine q_aload_n 9 rfl rfl dX5_faultOfGuessAt_8 ?_
    refine q_getI 12 rfl fX5_11 rfl q (tH hq) dX5_faultOfGuessAt_9 ?_
    refine q_iload_n 13 rfl rfl dX5_faultOfGuessAt_12 ?_
    refine q_icmp_eq 16 rfl 18 (by decide) (by omega) (by omega) dX5_faultOfGuessAt_13 (fun h13 => ?_) (fun h13 => ?_)
    · refine q_aload_n 19 rfl rfl dX5_faultOfGuessAt_18 ?_
      refine q_iload_n 20 rfl rfl dX5_faultOfGuessAt_19 ?_
      refine q_cV1 23 rfl lX5_32 (k_faultAt hG hq hS (by omega)) rfl q (tH hq) rfl rfl rfl dX5_faultOfGuessAt_20 ?_
      refine q_istore_n 24 rfl (by decide) dX5_faultOfGuessAt_23 ?_
      refine q_iload_n 25 rfl rfl dX5_faultOfGuessAt_24 ?_
      refine q_if_eq 28 rfl 32 (by decide) (by omega) dX5_faultOfGuessAt_25 (fun h25 => ?_) (fun h25 => ?_)
      · refine q_aload_n 33 rfl rfl dX5_faultOfGuessAt_32 ?_
        refine q_iload_n 34 rfl rfl dX5_faultOfGuessAt_33 ?_
        refine q_iconst 35 rfl 1 k_i1 dX5_faultOfGuessAt_34 ?_
        refine q_iadd 36 rfl dX5_faultOfGuessAt_35 ?_
        refine q_cV1 39 rfl lX5_32 (k_faultAt hG hq hS (by omega)) rfl q (tH hq) rfl rfl rfl dX5_faultOfGuessAt_36 ?_
        refine q_iret rfl dX5_faultOfGuessAt_39 ?_
        first
          | (rw [ftg, if_pos (by omega)]; exact ⟨rfl, rfl⟩)
          | (rw [ftg, if_neg (by omega), if_pos (by assumption)]; exact ⟨rfl, rfl⟩)
          | (rw [ftg, if_neg (by omega), if_neg (by omega)]; exact ⟨rfl, rfl⟩)
      · refine q_iload_n 29 rfl rfl dX5_faultOfGuessAt_28 ?_
        refine q_goto 39 (by decide) dX5_faultOfGuessAt_29 ?_
        refine q_iret rfl dX5_faultOfGuessAt_39 ?_
        first
          | (rw [ftg, if_pos (by omega)]; exact ⟨rfl, rfl⟩)
          | (rw [ftg, if_neg (by omega), if_pos (by assumption)]; exact ⟨rfl, rfl⟩)
          | (rw [ftg, if_neg (by omega), if_neg (by omega)]; exact ⟨rfl, rfl⟩)
    · refine q_iconst 17 rfl 3 k_i3 dX5_faultOfGuessAt_16 ?_
      refine q_iret rfl dX5_faultOfGuessAt_17 ?_
      first
        | (rw [ftg, if_pos (by omega)]; exact ⟨rfl, rfl⟩)
        | (rw [ftg, if_neg (by omega), if_pos (by assumption)]; exact ⟨rfl, rfl⟩)
        | (rw [ftg, if_neg (by omega), if_neg (by omega)]; exact ⟨rfl, rfl⟩)
theorem read6_end {X Y F n q b0 b cm i mc mz : Nat} {H : Nat → Nat → Nat} {Q : Option Value → q_H → Prop} (hG : GF ad G) (hb : b ≠ 0) (hb4 : b < 4) (hi : i ≤ 100) (hn : n ≤ 20) (hQ : Q (some (.int (nI cm))) (LT ad, q_s H 0 3 b, L, G)) : q_R Γ mX6_read (q_room 3 mc mz) (q_Z Γ Q 0 0) 0 0 57 [(0, .ref (ad 0)), (1, .int (nI X)), (2, .int (nI Y)), (3, .int (nI F)), (4, .int (nI n)), (5, .ref (ad q)), (6, .int (nI b0)), (7, .int (nI b)), (8, .int (nI cm)), (9, .int (nI (i)))] [] (LT ad, H, L, G) := by
  refine q_iload 59 rfl rfl dX6_read_57 ?_
  refine q_iload 61 rfl rfl dX6_read_59 ?_
  refine q_icmp_ge 64 rfl 141 (by decide) (by omega) (by omega) dX6_read_61 (fun h61 => ?_) (fun h61 => ?_)
  · refine q_aload_n 142 rfl rfl dX6_read_141 ?_
    refine q_iload 144 rfl rfl dX6_read_142 ?_
    refine q_putI 147 rfl pX6_280 (fun q => by cases q) rfl 0 t_0 dX6_read_144 ?_
    refine q_iload 149 rfl rfl dX6_read_147 ?_
    refine q_iret rfl dX6_read_149 ?_
    exact hQ
  · refine q_iload 66 rfl rfl dX6_read_64 ?_
    refine q_if_ne 69 rfl 141 (by decide) (by omega) dX6_read_66 (fun h66 => ?_) (fun h66 => ?_)
    · refine q_aload_n 142 rfl rfl dX6_read_141 ?_
      refine q_iload 144 rfl rfl dX6_read_142 ?_
      refine q_putI 147 rfl pX6_280 (fun q => by cases q) rfl 0 t_0 dX6_read_144 ?_
      refine q_iload 149 rfl rfl dX6_read_147 ?_
      refine q_iret rfl dX6_read_149 ?_
      exact hQ
    · exfalso; omega
theorem read6_lp {X Y F n q b0 c nm nw mc mz : Nat} {Rl : Nat → Nat → Bool} {Q : Option Value → q_H → Prop} (hG : GF ad G) (hq : isH q) (hS : SH N q) (hY : Y ≤ 2) (hF : F < 4294967296) (hn : n ≤ 20) (hcl : ∀ i, i < 40 → N (q + 1) i < 4294967296) : ∀ r j (H : Nat → Nat → Nat), j + r = n → (j = 0 ∨ F < 40) → CX ad G H nm nw c Rl → (∀ a, (a < nw ∨ nw + 8 < a) → H a = N a) → (∀ v K, (v, K) = rdf6 nw b0 (rd6 N q nw c Y F r j H) → Q (some (.int (nI v))) (LT ad, K, L, G)) → q_R Γ mX6_read (q_room 3 mc mz) (q_Z Γ Q 0 0) 0 0 57 [(0, .ref (ad 0)), (1, .int (nI X)), (2, .int (nI Y)), (3, .int (nI F)), (4, .int (nI n)), (5, .ref (ad q)), (6, .int (nI b0)), (7, .int (nI 0)), (8, .int (nI j)), (9, .int (nI (j)))] [] (LT ad, H, L, G) := by
  have iq : q = 69 ∨ q = 71 ∨ q = 73 ∨ q = 75 := hq
  intro r
  induction r with
  | zero =>
    intro j H hjr hj0 hX hH hQ
    refine q_iload 59 rfl rfl dX6_read_57 ?_
    refine q_iload 61 rfl rfl dX6_read_59 ?_
    refine q_icmp_ge 64 rfl 141 (by decide) (by omega) (by omega) dX6_read_61 (fun h61 => ?_) (fun h61 => ?_)
    · refine q_aload_n 142 rfl rfl dX6_read_141 ?_
      refine q_iload 144 rfl rfl dX6_read_142 ?_
      refine q_putI 147 rfl pX6_280 (fun q => by cases q) rfl 0 t_0 dX6_read_144 ?_
      refine q_iload 149 rfl rfl dX6_read_147 ?_
      refine q_iret rfl dX6_read_149 ?_
      exact hQ _ _ rfl
    · exfalso; omega
  | succ r ih =>
    intro j H hjr hj0 hX hH hQ
    obtain ⟨hnm, hnw, hv5, hv6, hN, hM, hnr⟩ := id hX
    have i2 : nw = 9 ∨ nw = 24 ∨ nw = 51 ∨ nw = 60 := hnw
    have eq0 : H q = N q := hH q (by omega)
    have eq1 : H (q + 1) = N (q + 1) := hH (q + 1) (by omega)
    have hg9 : H nw 6 ≤ 9 := hM.2.2.2.2.2.1
    have hSH : SH H q := by unfold SH; rw [eq0]; exact hS
    have fe : ftg H q (F + 2 * j) Y = ftg N q (F + 2 * j) Y := ftg_eq eq0
    have fl := ftg_le N q (F + 2 * j) Y
    have fi : ftg N q (F + 2 * j) Y = 0 → F + 2 * j + 1 < 40 := fun h => Nat.lt_of_lt_of_le (ftg_in h) hS.2
    have z00 : z_s 0 = 0 := rfl
    refine q_iload 59 rfl rfl dX6_read_57 ?_
    refine q_iload 61 rfl rfl dX6_read_59 ?_
    refine q_icmp_ge 64 rfl 141 (by decide) (by omega) (by omega) dX6_read_61 (fun h61 => ?_) (fun h61 => ?_)
    · exfalso; omega
    · refine q_iload 66 rfl rfl dX6_read_64 ?_
      refine q_if_ne 69 rfl 141 (by decide) (by omega) dX6_read_66 (fun h66 => ?_) (fun h66 => ?_)
      · exfalso; omega
      · refine q_iload_n 70 rfl rfl dX6_read_69 ?_
        refine q_iconst 71 rfl 2 k_i2 dX6_read_70 ?_
        refine q_iload 73 rfl rfl dX6_read_71 ?_
        refine q_imul 74 rfl dX6_read_73 ?_
        refine q_iadd 75 rfl dX6_read_74 ?_
        refine q_istore 77 rfl (by decide) dX6_read_75 ?_
        refine q_aload 79 rfl rfl dX6_read_77 ?_
        refine q_iload 81 rfl rfl dX6_read_79 ?_
        refine q_iload_n 82 rfl rfl dX6_read_81 ?_
        refine q_cV2 85 rfl lX6_271 (k_ftgG (N := H) hG hq hSH (by omega) (by omega)) rfl q (tH hq) rfl rfl rfl dX6_read_82 ?_
        refine q_istore 87 rfl (by decide) dX6_read_85 ?_
        refine q_iload 89 rfl rfl dX6_read_87 ?_
        rw [fe]
        refine q_if_ne 92 rfl 135 (by decide) (by omega) dX6_read_89 (fun h89 => ?_) (fun h89 => ?_)
        · refine q_iinc1 138 rfl 1 k_i1 rfl (by decide) dX6_read_135 ?_
          refine q_goto 57 (by decide) dX6_read_138 ?_
          first
            | (exact q_loc (read6_end hG (b := ftg N q (F + 2 * j) Y) (by assumption) (by omega) (by omega) hn (hQ _ _ (by rw [rd6_s, if_pos (by assumption)]; rfl))) (q_sub1 rfl (q_sub1 rfl (q_sub1 rfl (q_sub1 rfl (q_sub1 rfl (q_sub1 rfl (q_sub1 rfl (q_sub1 rfl (q_sub1 rfl (q_sub1 rfl q_sub0)))))))))))
            | (have ef := fi (by omega)
               refine q_loc (ih (j + 1) (ad2 H nw 6 4 5 (N (q + 1) (F + 2 * j)) (N (q + 1) (F + 2 * j + 1))) (by omega) (by omega) (hX.gue hok.1.1 hok.1.2 (by omega)) (fun a ha => (ad2_ne (by omega) (by omega) (by omega)).trans (hH a ha)) ?_) (q_sub1 rfl (q_sub1 rfl (q_sub1 rfl (q_sub1 rfl (q_sub1 rfl (q_sub1 rfl (q_sub1 rfl (q_sub1 rfl (q_sub1 rfl (q_sub1 rfl q_sub0))))))))))
               intro v K hv
               refine hQ v K ?_
               rw [rd6_s, if_neg (show ¬ ftg N q (F + 2 * j) Y ≠ 0 by omega), if_pos hok, g1b]
               exact hv)
        · have f0 : ftg N q (F + 2 * j) Y = 0 := by omega
          rw [f0]
          refine q_aload_n 93 rfl rfl dX6_read_92 ?_
          refine q_aload 95 rfl rfl dX6_read_93 ?_
          refine q_getR 98 rfl fX6_274 rfl q (tH hq) (gH_2 hq hG) dX6_read_95 ?_
          refine q_iload 100 rfl rfl dX6_read_98 ?_
          refine q_iald 101 rfl (q + 1) (tH1 hq) (by have := fi (by omega); omega) (by decide) dX6_read_100 ?_
          rw [eq1]
          refine q_aload 103 rfl rfl dX6_read_101 ?_
          refine q_getR 106 rfl fX6_274 rfl q (tH hq) (gH_2 hq hG) dX6_read_103 ?_
          refine q_iload 108 rfl rfl dX6_read_106 ?_
          refine q_iconst 109 rfl 1 k_i1 dX6_read_108 ?_
          refine q_iadd 110 rfl dX6_read_109 ?_
          refine q_iald 111 rfl (q + 1) (tH1 hq) (by have := fi (by omega); omega) (by decide) dX6_read_110 ?_
          rw [eq1]
          refine q_cV2 114 rfl lX6_277 (k_guess6 hG hX (hcl _ (by have := fi (by omega); omega)) (hcl _ (by have := fi (by omega); omega))) rfl 0 t_0 rfl rfl rfl dX6_read_111 ?_
          by_cases hok : (N (q + 1) (F + 2 * j) < c ∧ N (q + 1) (F + 2 * j + 1) ≤ 2) ∧ H nw 6 ≠ 9
          rotate_left
          · obtain ⟨g1, g2, g3⟩ := gue6_no (x := N (q + 1) (F + 2 * j)) (y := N (q + 1) (F + 2 * j + 1)) hg9 hok
            have zg := z_two _ g2
            rw [g3]
            refine q_ifS_ge 117 rfl 132 (by decide) dX6_read_114 (fun h114 => ?_) (fun h114 => ?_)
            · exfalso; omega
            · refine q_aload_n 118 rfl rfl dX6_read_117 ?_
              refine q_getR 121 rfl fX6_30 rfl 0 t_0 hv6 dX6_read_118 ?_
              refine q_iload 123 rfl rfl dX6_read_121 ?_
              refine q_putI 126 rfl pX6_170 (fun q => by cases q) rfl nw (tM hnw) dX6_read_123 ?_
              refine q_bipush 128 rfl 4294967276 k_bm20 dX6_read_126 ?_
              refine q_iload 130 rfl rfl dX6_read_128 ?_
              refine q_isub 131 rfl (by omega) dX6_read_130 ?_
              refine q_iret rfl dX6_read_131 ?_
              refine hQ _ _ ?_
              rw [rd6_s, if_neg (show ¬ ftg N q (F + 2 * j) Y ≠ 0 by omega), if_neg hok]; rfl
          have g1 := gue6_ok hg9 hok
          have g1a : (gue6 H nw c (N (q + 1) (F + 2 * j)) (N (q + 1) (F + 2 * j + 1))).1 = H nw 6 + 1 := by rw [g1]
          have g1b : (gue6 H nw c (N (q + 1) (F + 2 * j)) (N (q + 1) (F + 2 * j + 1))).2 = ad2 H nw 6 4 5 (N (q + 1) (F + 2 * j)) (N (q + 1) (F + 2 * j + 1)) := by rw [g1]
          have zg := z_two (H nw 6 + 1) (by omega)
          rw [g1a, g1b]
          refine q_ifS_ge 117 rfl 132 (by decide) dX6_read_114 (fun h114 => ?_) (fun h114 => ?_)
          · refine q_iinc1 135 rfl 1 k_i1 rfl (by decide) dX6_read_132 ?_
            refine q_iinc1 138 rfl 1 k_i1 rfl (by decide) dX6_read_135 ?_
            refine q_goto 57 (by decide) dX6_read_138 ?_
            first
              | (exact q_loc (read6_end hG (b := ftg N q (F + 2 * j) Y) (by assumption) (by omega) (by omega) hn (hQ _ _ (by rw [rd6_s, if_pos (by assumption)]; rfl))) (q_sub1 rfl (q_sub1 rfl (q_sub1 rfl (q_sub1 rfl (q_sub1 rfl (q_sub1 rfl (q_sub1 rfl (q_sub1 rfl (q_sub1 rfl (q_sub1 rfl q_sub0)))))))))))
              | (have ef := fi (by omega)
                 refine q_loc (ih (j + 1) (ad2 H nw 6 4 5 (N (q + 1) (F + 2 * j)) (N (q + 1) (F + 2 * j + 1))) (by omega) (by omega) (hX.gue hok.1.1 hok.1.2 (by omega)) (fun a ha => (ad2_ne (by omega) (by omega) (by omega)).trans (hH a ha)) ?_) (q_sub1 rfl (q_sub1 rfl (q_sub1 rfl (q_sub1 rfl (q_sub1 rfl (q_sub1 rfl (q_sub1 rfl (q_sub1 rfl (q_sub1 rfl (q_sub1 rfl q_sub0))))))))))
                 intro v K hv
                 refine hQ v K ?_
                 rw [rd6_s, if_neg (show ¬ ftg N q (F + 2 * j) Y ≠ 0 by omega), if_pos hok, g1b]
                 exact hv)
          · exfalso; omega
theorem isH_x {x : Nat} (h : x < 4) : isH (69 + 2 * x) := by
  rcases (show x = 0 ∨ x = 1 ∨ x = 2 ∨ x = 3 by omega) with rfl | rfl | rfl | rfl
  · exact .inl rfl
  · exact .inr (.inl rfl)
  · exact .inr (.inr (.inl rfl))
  · exact .inr (.inr (.inr rfl))
theorem g_35_x {ad : Nat → Nat} {G : Nat → Nat → Option Nat} (hG : GF ad G) {x : Nat} (h : x < 4) : G 35 x = some (ad (69 + 2 * x)) := by
  rcases (show x = 0 ∨ x = 1 ∨ x = 2 ∨ x = 3 by omega) with rfl | rfl | rfl | rfl
  · exact g_35_0 hG
  · exact g_35_1 hG
  · exact g_35_2 hG
  · exact g_35_3 hG
theorem k_read6 {X Y F n : Nat} {nm nw c : Nat} {Rl : Nat → Nat → Bool} (hG : GF ad G) (hX : CX ad G N nm nw c Rl) (hS : ∀ x, x < 4 → SH N (69 + 2 * x)) (hcl : ∀ x, x < 4 → ∀ i, i < 40 → N (69 + 2 * x + 1) i < 4294967296) (hXX : X < 4294967296) (hYY : Y < 4294967296) (hFF : F < 4294967296) (hnn : n < 4294967296) : q_Con Γ mX6_read 3 0 0 [.ref (ad 0), .int (nI X), .int (nI Y), .int (nI F), .int (nI n)] (LT ad, N, L, G) (q_is (some (.int (nI (read6 N nw c X Y F n).1))) (LT ad, (read6 N nw c X Y F n).2, L, G)) := by
  obtain ⟨hnm, hnw, hv5, hv6, hN, hM, hnr⟩ := id hX
  have hc : N nm 0 = c := hN.1
  have hc9 : c ≤ 9 := hN.2.1
  refine q_con (by decide) rfl rfl (Nat.le_of_ble_eq_true rfl) ?_
  refine q_iload_n 1 rfl rfl dX6_read_0 ?_
  refine q_iconst 2 rfl 0 k_i0 dX6_read_1 ?_
  refine q_iconst 3 rfl 3 k_i3 dX6_read_2 ?_
  refine q_cS3 6 rfl lX6_87 (k_within hXX (by omega) (by omega)) rfl rfl rfl dX6_read_3 ?_
  refine q_if_eqD 9 rfl 29 (by decide) dX6_read_6 (fun h6 => ?_) (fun h6 => ?_)
  · refine q_iconst 30 rfl 4294967295 k_im1 dX6_read_29 ?_
    refine q_iret rfl dX6_read_30 ?_
    rw [read6, if_neg (by omega)]
    exact ⟨rfl, rfl⟩
  · refine q_iload_n 10 rfl rfl dX6_read_9 ?_
    refine q_iconst 11 rfl 0 k_i0 dX6_read_10 ?_
    refine q_iconst 12 rfl 2 k_i2 dX6_read_11 ?_
    refine q_cS3 15 rfl lX6_87 (k_within hYY (by omega) (by omega)) rfl rfl rfl dX6_read_12 ?_
    refine q_if_eqD 18 rfl 29 (by decide) dX6_read_15 (fun h15 => ?_) (fun h15 => ?_)
    · refine q_iconst 30 rfl 4294967295 k_im1 dX6_read_29 ?_
      refine q_iret rfl dX6_read_30 ?_
      rw [read6, if_neg (by omega)]
      exact ⟨rfl, rfl⟩
    · refine q_iload 20 rfl rfl dX6_read_18 ?_
      refine q_iconst 21 rfl 0 k_i0 dX6_read_20 ?_
      refine q_bipush 23 rfl 20 k_b20 dX6_read_21 ?_
      refine q_cS3 26 rfl lX6_87 (k_within hnn (by omega) (by omega)) rfl rfl rfl dX6_read_23 ?_
      refine q_if_neD 29 rfl 31 (by decide) dX6_read_26 (fun h26 => ?_) (fun h26 => ?_)
      · have hX4 : X < 4 := by omega
        obtain ⟨q, eq⟩ : ∃ q, q = 69 + 2 * X := ⟨_, rfl⟩
        have hq : isH q := by rw [eq]; exact isH_x hX4
        have gq : G 35 X = some (ad q) := by rw [eq]; exact g_35_x hG hX4
        have hSq : SH N q := by rw [eq]; exact hS X hX4
        have hcq : ∀ i, i < 40 → N (q + 1) i < 4294967296 := by rw [eq]; exact hcl X hX4
        refine q_aload_n 32 rfl rfl dX6_read_31 ?_
        refine q_getR 35 rfl fX6_50 rfl 0 t_0 (g_0_11 hG) dX6_read_32 ?_
        refine q_iload_n 36 rfl rfl dX6_read_35 ?_
        refine q_aald5 37 rfl 35 t_35 (by omega) (by decide) gq dX6_read_36 ?_
        refine q_astore 39 rfl (by decide) dX6_read_37 ?_
        refine q_aload_n 40 rfl rfl dX6_read_39 ?_
        refine q_getR 43 rfl fX6_30 rfl 0 t_0 hv6 dX6_read_40 ?_
        refine q_getI 46 rfl fX6_170 rfl nw (tM hnw) dX6_read_43 ?_
        refine q_istore 48 rfl (by decide) dX6_read_46 ?_
        refine q_loc (l' := [(0, .ref (ad 0)), (1, .int (nI X)), (2, .int (nI Y)), (3, .int (nI F)), (4, .int (nI n)), (5, .ref (ad q)), (6, .int (nI (N nw 6)))]) ?_ (q_sub1 rfl (q_sub1 rfl (q_sub1 rfl (q_sub1 rfl (q_sub1 rfl (q_sub1 rfl (q_sub1 rfl q_sub0)))))))
        refine q_iconst 49 rfl 0 k_i0 dX6_read_48 ?_
        refine q_istore 51 rfl (by decide) dX6_read_49 ?_
        refine q_iconst 52 rfl 0 k_i0 dX6_read_51 ?_
        refine q_istore 54 rfl (by decide) dX6_read_52 ?_
        refine q_iconst 55 rfl 0 k_i0 dX6_read_54 ?_
        refine q_istore 57 rfl (by decide) dX6_read_55 ?_
        refine q_loc (read6_lp (N := N) (c := c) (nm := nm) (nw := nw) (Rl := Rl) hG hq hSq (by omega) hFF (by omega) hcq n 0 N (by omega) (Or.inl rfl) hX (fun _ _ => rfl) ?_) (q_sub1 rfl (q_sub1 rfl (q_sub1 rfl (q_sub1 rfl (q_sub1 rfl (q_sub1 rfl (q_sub1 rfl (q_sub1 rfl (q_sub1 rfl (q_sub1 rfl q_sub0))))))))))
        intro v K hv
        have ev : read6 N nw c X Y F n = (v, K) := by rw [read6, if_pos (by omega), ← eq]; exact hv.symm
        rw [ev]
        exact ⟨rfl, rfl⟩
      · refine q_iconst 30 rfl 4294967295 k_im1 dX6_read_29 ?_
        refine q_iret rfl dX6_read_30 ?_
        rw [read6, if_neg (by omega)]
        exact ⟨rfl, rfl⟩
end
