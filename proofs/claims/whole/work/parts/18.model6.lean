abbrev sm (Rl : Nat → Nat → Bool) (c : Nat) (od : Nat → Nat) (s : Nat) : Nat := cst Rl c (fun s => ods od s c) (fun a b => a + b) s
abbrev sv (Rl : Nat → Nat → Bool) (c : Nat) (od : Nat → Nat) (s g : Nat) : Nat := csv Rl c (fun s => ods od s c) (fun a b => a + b) s g
theorem ods_81 {od : Nat → Nat} {c s : Nat} (hc : c ≤ 9) (ho : ∀ n, n < 9 → od n ≤ 9) : ods od s c ≤ 81 := by
  have := ods_le od s c 9 (fun i hi => ho i (by omega))
  omega
theorem sm_le {Rl : Nat → Nat → Bool} {c : Nat} {od : Nat → Nat} {s : Nat} (hc : c ≤ 9) (ho : ∀ n, n < 9 → od n ≤ 9) (hs : s < 2 ^ c) : sm Rl c od s ≤ 729 := by
  have h1 := sum_le Rl c od s hs
  have h2 := pc_le s c
  have h3 := ods_81 (s := s) hc ho
  have h4 : pc s c * ods od s c ≤ 9 * 81 := Nat.mul_le_mul (by omega) h3
  show cst Rl c (fun s => ods od s c) (fun a b => a + b) s ≤ 729
  omega
theorem sv_or {Rl : Nat → Nat → Bool} {c : Nat} {od : Nat → Nat} {s g : Nat} (hc : c ≤ 9) (ho : ∀ n, n < 9 → od n ≤ 9) : sv Rl c od s g ≤ 1458 ∨ sv Rl c od s g = 1048576 := by
  by_cases h : prt Rl c s g 1 < s ∧ prt Rl c s g 0 < s
  · left
    have e : sv Rl c od s g = sm Rl c od (prt Rl c s g 1) + sm Rl c od (prt Rl c s g 0) := if_pos h
    have a1 := sm_le (Rl := Rl) hc ho (prt_lt (Rl := Rl) (c := c) (s := s) (g := g) (a := 1))
    have a0 := sm_le (Rl := Rl) hc ho (prt_lt (Rl := Rl) (c := c) (s := s) (g := g) (a := 0))
    omega
  · exact Or.inr (if_neg h)
def sc (Rl : Nat → Nat → Bool) (c : Nat) (od : Nat → Nat) (s g : Nat) : Int := if (amin (sv Rl c od s) 1048576 g).1 = 1048576 then -1 else (((amin (sv Rl c od s) 1048576 g).1 + ods od s c : Nat) : Int)
theorem sc_rg {Rl : Nat → Nat → Bool} {c : Nat} {od : Nat → Nat} {s g : Nat} (hc : c ≤ 9) (ho : ∀ n, n < 9 → od n ≤ 9) : -1 ≤ sc Rl c od s g ∧ sc Rl c od s g ≤ 2000 := by
  have h1 := amin_or (f := sv Rl c od s) (b := 1048576) (d := 1458) (k := g) (fun i _ => sv_or hc ho)
  have h2 := ods_81 (s := s) hc ho
  simp only [sc]
  split <;> omega
theorem sm_amin {Rl : Nat → Nat → Bool} {c : Nat} {od : Nat → Nat} {s : Nat} (hc : c ≤ 9) (ho : ∀ n, n < 9 → od n ≤ 9) (h0 : s ≠ 0) (hs : s < 2 ^ c) : (amin (sv Rl c od s) 1048576 c).1 < 1048576 ∧ sm Rl c od s = (amin (sv Rl c od s) 1048576 c).1 + ods od s c := by
  have h1 : sm Rl c od s = (amin (sv Rl c od s) 1048576 c).1 + ods od s c := cst_s h0
  have h2 := sm_le (Rl := Rl) hc ho hs
  exact ⟨by omega, h1⟩
theorem sc_c {Rl : Nat → Nat → Bool} {c : Nat} {od : Nat → Nat} {s : Nat} (hc : c ≤ 9) (ho : ∀ n, n < 9 → od n ≤ 9) (h0 : s ≠ 0) (hs : s < 2 ^ c) : sc Rl c od s c = ((sm Rl c od s : Nat) : Int) := by
  obtain ⟨h1, h2⟩ := sm_amin (Rl := Rl) hc ho h0 hs
  rw [sc, if_neg (by omega), h2]
def msm (S : Nat → Int) (od : Nat → Nat) (Rl : Nat → Nat → Bool) (c s g : Nat) : Int := if prt Rl c s g 1 = s ∨ prt Rl c s g 0 = s then -1 else ((ods od s c : Nat) : Int) + S (prt Rl c s g 1) + S (prt Rl c s g 0)
theorem msm_sv {S : Nat → Int} {od : Nat → Nat} {Rl : Nat → Nat → Bool} {c s g : Nat} (hc : c ≤ 9) (ho : ∀ n, n < 9 → od n ≤ 9) (hS : ∀ t, t < s → S t = ((sm Rl c od t : Nat) : Int)) : (sv Rl c od s g = 1048576 ∧ msm S od Rl c s g = -1) ∨ (sv Rl c od s g ≤ 1458 ∧ msm S od Rl c s g = ((sv Rl c od s g + ods od s c : Nat) : Int)) := by
  have l1 := prt_le (Rl := Rl) (c := c) (s := s) (g := g) (a := 1)
  have l0 := prt_le (Rl := Rl) (c := c) (s := s) (g := g) (a := 0)
  by_cases h : prt Rl c s g 1 < s ∧ prt Rl c s g 0 < s
  · have e : sv Rl c od s g = sm Rl c od (prt Rl c s g 1) + sm Rl c od (prt Rl c s g 0) := if_pos h
    have a1 := sm_le (Rl := Rl) hc ho (prt_lt (Rl := Rl) (c := c) (s := s) (g := g) (a := 1))
    have a0 := sm_le (Rl := Rl) hc ho (prt_lt (Rl := Rl) (c := c) (s := s) (g := g) (a := 0))
    refine Or.inr ⟨by omega, ?_⟩
    rw [msm, if_neg (by omega), hS _ h.1, hS _ h.2, e]
    omega
  · exact Or.inl ⟨if_neg h, by rw [msm, if_pos (by omega)]⟩
theorem sc_step {S : Nat → Int} {od : Nat → Nat} {Rl : Nat → Nat → Bool} {c s g : Nat} (hc : c ≤ 9) (ho : ∀ n, n < 9 → od n ≤ 9) (hS : ∀ t, t < s → S t = ((sm Rl c od t : Nat) : Int)) : (if 0 ≤ msm S od Rl c s g ∧ (sc Rl c od s g < 0 ∨ msm S od Rl c s g < sc Rl c od s g) then msm S od Rl c s g else sc Rl c od s g) = sc Rl c od s (g + 1) := by
  have h1 := msm_sv (g := g) hc ho hS
  have h2 := amin_or (f := sv Rl c od s) (b := 1048576) (d := 1458) (k := g) (fun i _ => sv_or hc ho)
  have e : (amin (sv Rl c od s) 1048576 (g + 1)).1 = if sv Rl c od s g < (amin (sv Rl c od s) 1048576 g).1 then sv Rl c od s g else (amin (sv Rl c od s) 1048576 g).1 := by
    simp only [amin]; split <;> rfl
  rw [sc, sc, e]
  generalize (amin (sv Rl c od s) 1048576 g).1 = m at *
  generalize sv Rl c od s g = b at *
  generalize msm S od Rl c s g = v at *
  generalize ods od s c = o at *
  rcases h1 with ⟨rfl, rfl⟩ | ⟨hb, rfl⟩ <;> rcases h2 with hm | rfl
  · rw [if_neg (show ¬ (0 ≤ (-1 : Int) ∧ _) by omega), if_neg (show ¬ 1048576 < m by omega)]
  · simp
  · rw [if_neg (show ¬ m = 1048576 by omega)]
    by_cases q : b < m
    · rw [if_pos (by omega), if_pos q, if_neg (by omega)]
    · rw [if_neg (by omega), if_neg q, if_neg (show ¬ m = 1048576 by omega)]
  · rw [if_pos rfl, if_pos (by omega), if_pos (show b < 1048576 by omega), if_neg (show ¬ b = 1048576 by omega)]
theorem msm_first {S : Nat → Int} {od : Nat → Nat} {Rl : Nat → Nat → Bool} {c s : Nat} (hc : c ≤ 9) (ho : ∀ n, n < 9 → od n ≤ 9) (h0 : s ≠ 0) (hs : s < 2 ^ c) (hS : ∀ t, t < s → S t = ((sm Rl c od t : Nat) : Int)) : (amin (sv Rl c od s) 1048576 c).2 < c ∧ msm S od Rl c s (amin (sv Rl c od s) 1048576 c).2 = ((sm Rl c od s : Nat) : Int) ∧ ∀ j, j < (amin (sv Rl c od s) 1048576 c).2 → msm S od Rl c s j ≠ ((sm Rl c od s : Nat) : Int) := by
  obtain ⟨h1, h2⟩ := sm_amin (Rl := Rl) hc ho h0 hs
  obtain ⟨h3, h4, h5⟩ := amin_which _ _ _ h1
  have h6 := sm_le (Rl := Rl) hc ho hs
  refine ⟨h3, ?_, fun j hj => ?_⟩
  · have := msm_sv (g := (amin (sv Rl c od s) 1048576 c).2) hc ho hS
    omega
  · have := msm_sv (g := j) hc ho hS
    have := h5 j hj
    omega
def mnv (Rl : Nat → Nat → Bool) (c : Nat) (od : Nat → Nat) (Y s : Nat) : Int := if Y ≤ 2 then (if s = 0 then -2 else if Y = 2 then (((amin (sv Rl c od s) 1048576 c).2 : Nat) : Int) else (((if Y = 0 then sm Rl c od s else ods od s c) / Nat.gcd (sm Rl c od s) (ods od s c) : Nat) : Int)) else -1
section
variable {Γ : q_G} {ad : Nat → Nat} {N : Nat → Nat → Nat} {L : Nat → Nat → Int} {G : Nat → Nat → Option Nat}
theorem k_sumBy {n : Nat} {c s : Nat} {Rl : Nat → Nat → Bool} (hG : GF ad G) (hc : N 77 2 = c) (hc9 : c ≤ 9) (hnx : ∀ g, g < c → N 87 g = mk (fun m => decide (g ≠ m) && Rl g m) c) (h78 : ∀ i, i < 240 → N 78 i < 26) (hod : ∀ n, n < 9 → N 78 n ≤ 9) (hn : n < c) (hs : s < 2 ^ c) : q_Con Γ mX7_sumBy 1 0 0 [.ref (ad 77), .int (nI s), .int (nI n)] (LT ad, N, L, G) (q_is (some (.long (lZ (msm (L 89) (N 78) Rl c s n)))) (LT ad, N, L, G)) := by
  have e1 := ansW_s (f := N 87) (Rl := Rl) (g := n) (a := 1) hs (by omega) (hnx n hn) (by omega)
  have e0 := ansW_s (f := N 87) (Rl := Rl) (g := n) (a := 0) hs (by omega) (hnx n hn) (by omega)
  have p9 := p2_9 hc9
  have l1 := prt_lt (Rl := Rl) (c := c) (s := s) (g := n) (a := 1)
  have l0 := prt_lt (Rl := Rl) (c := c) (s := s) (g := n) (a := 0)
  refine q_con (by decide) rfl rfl (Nat.le_of_ble_eq_true rfl) ?_
  refine q_aload_n 1 rfl rfl dX7_sumBy_0 ?_
  refine q_iload_n 2 rfl rfl dX7_sumBy_1 ?_
  refine q_iload_n 3 rfl rfl dX7_sumBy_2 ?_
  refine q_iconst 4 rfl 1 k_i1 dX7_sumBy_3 ?_
  refine q_cV3 7 rfl lX7_212 (k_answering hG (by omega) (by omega)) rfl 77 t_77 rfl rfl rfl dX7_sumBy_4 ?_
  first
    | rw [e1]
    | rw [e0]
  refine q_istore_n 8 rfl (by decide) dX7_sumBy_7 ?_
  refine q_aload_n 9 rfl rfl dX7_sumBy_8 ?_
  refine q_iload_n 10 rfl rfl dX7_sumBy_9 ?_
  refine q_iload_n 11 rfl rfl dX7_sumBy_10 ?_
  refine q_iconst 12 rfl 0 k_i0 dX7_sumBy_11 ?_
  refine q_cV3 15 rfl lX7_212 (k_answering hG (by omega) (by omega)) rfl 77 t_77 rfl rfl rfl dX7_sumBy_12 ?_
  first
    | rw [e1]
    | rw [e0]
  refine q_istore 17 rfl (by decide) dX7_sumBy_15 ?_
  refine q_iload_n 18 rfl rfl dX7_sumBy_17 ?_
  refine q_iload_n 19 rfl rfl dX7_sumBy_18 ?_
  refine q_icmp_eq 22 rfl 28 (by decide) (by omega) (by omega) dX7_sumBy_19 (fun h19 => ?_) (fun h19 => ?_)
  · refine q_ldc2 31 rfl (-1) klX7_224 rfl dX7_sumBy_28 ?_
    refine q_goto 54 (by decide) dX7_sumBy_31 ?_
    refine q_lret rfl dX7_sumBy_54 ?_
    first
      | (rw [msm, if_pos (by omega)]; exact ⟨rfl, rfl⟩)
      | (rw [msm, if_neg (by omega)]; exact ⟨rfl, rfl⟩)
  · refine q_iload 24 rfl rfl dX7_sumBy_22 ?_
    refine q_iload_n 25 rfl rfl dX7_sumBy_24 ?_
    refine q_icmp_ne 28 rfl 34 (by decide) (by omega) (by omega) dX7_sumBy_25 (fun h25 => ?_) (fun h25 => ?_)
    · refine q_aload_n 35 rfl rfl dX7_sumBy_34 ?_
      refine q_iload_n 36 rfl rfl dX7_sumBy_35 ?_
      refine q_cV1 39 rfl lX7_228 (k_oddsOf7 hG hc hc9 h78 (by omega)) rfl 77 t_77 rfl rfl rfl dX7_sumBy_36 ?_
      refine q_aload_n 40 rfl rfl dX7_sumBy_39 ?_
      refine q_getR 43 rfl fX7_43 rfl 77 t_77 (g_77_22 hG) dX7_sumBy_40 ?_
      refine q_iload_n 44 rfl rfl dX7_sumBy_43 ?_
      refine q_lald 45 rfl 89 t_89 (by omega) (by decide) dX7_sumBy_44 ?_
      refine q_ladd 46 rfl dX7_sumBy_45 ?_
      refine q_aload_n 47 rfl rfl dX7_sumBy_46 ?_
      refine q_getR 50 rfl fX7_43 rfl 77 t_77 (g_77_22 hG) dX7_sumBy_47 ?_
      refine q_iload 52 rfl rfl dX7_sumBy_50 ?_
      refine q_lald 53 rfl 89 t_89 (by omega) (by decide) dX7_sumBy_52 ?_
      refine q_ladd 54 rfl dX7_sumBy_53 ?_
      refine q_lret rfl dX7_sumBy_54 ?_
      first
        | (rw [msm, if_pos (by omega)]; exact ⟨rfl, rfl⟩)
        | (rw [msm, if_neg (by omega)]; exact ⟨rfl, rfl⟩)
    · refine q_ldc2 31 rfl (-1) klX7_224 rfl dX7_sumBy_28 ?_
      refine q_goto 54 (by decide) dX7_sumBy_31 ?_
      refine q_lret rfl dX7_sumBy_54 ?_
      first
        | (rw [msm, if_pos (by omega)]; exact ⟨rfl, rfl⟩)
        | (rw [msm, if_neg (by omega)]; exact ⟨rfl, rfl⟩)
theorem laySums_in {Z : q_Zt} {mc mz : Nat} {c s : Nat} {Rl : Nat → Nat → Bool} (hG : GF ad G) (hc : N 77 2 = c) (hc9 : c ≤ 9) (hnx : ∀ g, g < c → N 87 g = mk (fun m => decide (g ≠ m) && Rl g m) c) (h78 : ∀ i, i < 240 → N 78 i < 26) (hod : ∀ n, n < 9 → N 78 n ≤ 9) (hs : s < 2 ^ c) (hx : q_R Γ mX7_laySums (q_room 2 mc mz) Z 0 0 95 [(0, .ref (ad 77)), (1, .int (nI s))] [] (LT ad, N, (q_s (fil L 89 (fun j => ((sm Rl c (N 78) j : Nat) : Int)) s) 89 s (sc Rl c (N 78) s (c))), G)) : ∀ i, i ≤ c →  ∀ K : Nat → Nat → Int, K = q_s (fil L 89 (fun j => ((sm Rl c (N 78) j : Nat) : Int)) s) 89 s (sc Rl c (N 78) s i) → q_R Γ mX7_laySums (q_room 2 mc mz) Z 0 0 30 [(0, .ref (ad 77)), (1, .int (nI s)), (2, .int (nI i))] [] (LT ad, N, K, G) := by
  refine dn_loop (c) ?_ ?_
  · intro K h_K
    have p9 := p2_9 hc9
    refine q_iload_n 31 rfl rfl dX7_laySums_30 ?_
    refine q_aload_n 32 rfl rfl dX7_laySums_31 ?_
    refine q_getI 35 rfl fX7_155 rfl 77 t_77 dX7_laySums_32 ?_
    refine q_icmp_ge 38 rfl 95 (by decide) (by omega) (by omega) dX7_laySums_35 (fun h35 => ?_) (fun h35 => ?_)
    · subst h_K
      exact q_loc hx (q_sub1 rfl (q_sub1 rfl q_sub0))
    · exfalso; omega
  · intro i h_i ih K h_K
    have p9 := p2_9 hc9
    have e89 : K 89 s = sc Rl c (N 78) s i := by rw [h_K]; exact q_s_at
    have hS : ∀ t, t < s → K 89 t = ((sm Rl c (N 78) t : Nat) : Int) := fun t ht => by rw [h_K, q_s_off (by omega), fil_lt ht]
    have r1 := sc_rg (Rl := Rl) (s := s) (g := i) hc9 hod
    have r2 := msm_sv (g := i) hc9 hod hS
    have r4 := ods_81 (s := s) hc9 hod
    have hst := sc_step (g := i) hc9 hod hS
    rw [← e89] at r1 hst
    refine q_iload_n 31 rfl rfl dX7_laySums_30 ?_
    refine q_aload_n 32 rfl rfl dX7_laySums_31 ?_
    refine q_getI 35 rfl fX7_155 rfl 77 t_77 dX7_laySums_32 ?_
    refine q_icmp_ge 38 rfl 95 (by decide) (by omega) (by omega) dX7_laySums_35 (fun h35 => ?_) (fun h35 => ?_)
    · exfalso; omega
    · refine q_aload_n 39 rfl rfl dX7_laySums_38 ?_
      refine q_iload_n 40 rfl rfl dX7_laySums_39 ?_
      refine q_iload_n 41 rfl rfl dX7_laySums_40 ?_
      refine q_cV2 44 rfl lX7_242 (k_sumBy (Rl := Rl) hG hc hc9 hnx h78 hod h_i hs) rfl 77 t_77 rfl rfl rfl dX7_laySums_41 ?_
      refine q_lstore_n 45 rfl (by decide) dX7_laySums_44 ?_
      refine q_aload_n 46 rfl rfl dX7_laySums_45 ?_
      refine q_getR 49 rfl fX7_43 rfl 77 t_77 (g_77_22 hG) dX7_laySums_46 ?_
      refine q_iload_n 50 rfl rfl dX7_laySums_49 ?_
      refine q_lload_n 51 rfl rfl dX7_laySums_50 ?_
      refine q_lconst 52 rfl 0 lN0 dX7_laySums_51 ?_
      refine q_lcmp_lt 56 53 rfl rfl 82 (by decide) (by omega) (by omega) dX7_laySums_52 dX7_laySums_53 (fun h52 => ?_) (fun h52 => ?_)
      · refine q_aload_n 83 rfl rfl dX7_laySums_82 ?_
        refine q_getR 86 rfl fX7_43 rfl 77 t_77 (g_77_22 hG) dX7_laySums_83 ?_
        refine q_iload_n 87 rfl rfl dX7_laySums_86 ?_
        refine q_lald 88 rfl 89 t_89 (by omega) (by decide) dX7_laySums_87 ?_
        refine q_last 89 rfl 89 t_89 (by omega) (by decide) dX7_laySums_88 ?_
        refine q_iinc1 92 rfl 1 k_i1 rfl (by decide) dX7_laySums_89 ?_
        refine q_goto 30 (by decide) dX7_laySums_92 ?_
        refine q_loc (ih _ ?_) (q_sub1 rfl (q_sub1 rfl (q_sub1 rfl q_sub0)))
        · rw [← hst]
          first
            | (rw [if_pos (by omega), h_K, q_s_s]; done)
            | (rw [if_neg (by omega), h_K, q_s_s, q_s_at]; done)
            | (rw [if_neg (by omega)]; rw [h_K, q_s_s]; done)
      · refine q_aload_n 57 rfl rfl dX7_laySums_56 ?_
        refine q_getR 60 rfl fX7_43 rfl 77 t_77 (g_77_22 hG) dX7_laySums_57 ?_
        refine q_iload_n 61 rfl rfl dX7_laySums_60 ?_
        refine q_lald 62 rfl 89 t_89 (by omega) (by decide) dX7_laySums_61 ?_
        refine q_lconst 63 rfl 0 lN0 dX7_laySums_62 ?_
        refine q_lcmp_lt 67 64 rfl rfl 78 (by decide) (by omega) (by omega) dX7_laySums_63 dX7_laySums_64 (fun h63 => ?_) (fun h63 => ?_)
        · refine q_lload_n 79 rfl rfl dX7_laySums_78 ?_
          refine q_goto 88 (by decide) dX7_laySums_79 ?_
          refine q_last 89 rfl 89 t_89 (by omega) (by decide) dX7_laySums_88 ?_
          refine q_iinc1 92 rfl 1 k_i1 rfl (by decide) dX7_laySums_89 ?_
          refine q_goto 30 (by decide) dX7_laySums_92 ?_
          refine q_loc (ih _ ?_) (q_sub1 rfl (q_sub1 rfl (q_sub1 rfl q_sub0)))
          · rw [← hst]
            first
              | (rw [if_pos (by omega), h_K, q_s_s]; done)
              | (rw [if_neg (by omega), h_K, q_s_s, q_s_at]; done)
              | (rw [if_neg (by omega)]; rw [h_K, q_s_s]; done)
        · refine q_lload_n 68 rfl rfl dX7_laySums_67 ?_
          refine q_aload_n 69 rfl rfl dX7_laySums_68 ?_
          refine q_getR 72 rfl fX7_43 rfl 77 t_77 (g_77_22 hG) dX7_laySums_69 ?_
          refine q_iload_n 73 rfl rfl dX7_laySums_72 ?_
          refine q_lald 74 rfl 89 t_89 (by omega) (by decide) dX7_laySums_73 ?_
          refine q_lcmp_ge 78 75 rfl rfl 82 (by decide) (by omega) (by omega) dX7_laySums_74 dX7_laySums_75 (fun h74 => ?_) (fun h74 => ?_)
          · refine q_aload_n 83 rfl rfl dX7_laySums_82 ?_
            refine q_getR 86 rfl fX7_43 rfl 77 t_77 (g_77_22 hG) dX7_laySums_83 ?_
            refine q_iload_n 87 rfl rfl dX7_laySums_86 ?_
            refine q_lald 88 rfl 89 t_89 (by omega) (by decide) dX7_laySums_87 ?_
            refine q_last 89 rfl 89 t_89 (by omega) (by decide) dX7_laySums_88 ?_
            refine q_iinc1 92 rfl 1 k_i1 rfl (by decide) dX7_laySums_89 ?_
            refine q_goto 30 (by decide) dX7_laySums_92 ?_
            refine q_loc (ih _ ?_) (q_sub1 rfl (q_sub1 rfl (q_sub1 rfl q_sub0)))
            · rw [← hst]
              first
                | (rw [if_pos (by omega), h_K, q_s_s]; done)
                | (rw [if_neg (by omega), h_K, q_s_s, q_s_at]; done)
                | (rw [if_neg (by omega)]; rw [h_K, q_s_s]; done)
          · refine q_lload_n 79 rfl rfl dX7_laySums_78 ?_
            refine q_goto 88 (by decide) dX7_laySums_79 ?_
            refine q_last 89 rfl 89 t_89 (by omega) (by decide) dX7_laySums_88 ?_
            refine q_iinc1 92 rfl 1 k_i1 rfl (by decide) dX7_laySums_89 ?_
            refine q_goto 30 (by decide) dX7_laySums_92 ?_
            refine q_loc (ih _ ?_) (q_sub1 rfl (q_sub1 rfl (q_sub1 rfl q_sub0)))
            · rw [← hst]
              first
                | (rw [if_pos (by omega), h_K, q_s_s]; done)
                | (rw [if_neg (by omega), h_K, q_s_s, q_s_at]; done)
                | (rw [if_neg (by omega)]; rw [h_K, q_s_s]; done)
theorem laySums_lp {Z : q_Zt} {mc mz : Nat} {c : Nat} {Rl : Nat → Nat → Bool} (hG : GF ad G) (hc : N 77 2 = c) (hc9 : c ≤ 9) (hnx : ∀ g, g < c → N 87 g = mk (fun m => decide (g ≠ m) && Rl g m) c) (h78 : ∀ i, i < 240 → N 78 i < 26) (hod : ∀ n, n < 9 → N 78 n ≤ 9) (hx : q_R Γ mX7_laySums (q_room 2 mc mz) Z 0 0 101 [] [] (LT ad, N, (fil L 89 (fun j => ((sm Rl c (N 78) j : Nat) : Int)) (2 ^ c)), G)) : ∀ i, i ≤ 2 ^ c → 1 ≤ i →  ∀ K : Nat → Nat → Int, K = fil L 89 (fun j => ((sm Rl c (N 78) j : Nat) : Int)) i → q_R Γ mX7_laySums (q_room 2 mc mz) Z 0 0 9 [(0, .ref (ad 77)), (1, .int (nI i))] [] (LT ad, N, K, G) := by
  refine dn_loop (2 ^ c) ?_ ?_
  · intro h_ex K h_K
    have p9 := p2_9 hc9
    have p2 : 1 * 2 ^ (N 77 2) = 2 ^ c := by rw [hc, Nat.one_mul]
    refine q_iload_n 10 rfl rfl dX7_laySums_9 ?_
    refine q_iconst 11 rfl 1 k_i1 dX7_laySums_10 ?_
    refine q_aload_n 12 rfl rfl dX7_laySums_11 ?_
    refine q_getI 15 rfl fX7_155 rfl 77 t_77 dX7_laySums_12 ?_
    refine q_ishl 16 rfl (by omega) dX7_laySums_15 ?_
    rw [p2]
    refine q_icmp_ge 19 rfl 101 (by decide) (by omega) (by omega) dX7_laySums_16 (fun h16 => ?_) (fun h16 => ?_)
    · subst h_K
      exact q_loc hx q_sub0
    · exfalso; omega
  · intro i h_i ih h_ex K h_K
    have p9 := p2_9 hc9
    have p2 : 1 * 2 ^ (N 77 2) = 2 ^ c := by rw [hc, Nat.one_mul]
    refine q_iload_n 10 rfl rfl dX7_laySums_9 ?_
    refine q_iconst 11 rfl 1 k_i1 dX7_laySums_10 ?_
    refine q_aload_n 12 rfl rfl dX7_laySums_11 ?_
    refine q_getI 15 rfl fX7_155 rfl 77 t_77 dX7_laySums_12 ?_
    refine q_ishl 16 rfl (by omega) dX7_laySums_15 ?_
    rw [p2]
    refine q_icmp_ge 19 rfl 101 (by decide) (by omega) (by omega) dX7_laySums_16 (fun h16 => ?_) (fun h16 => ?_)
    · exfalso; omega
    · refine q_aload_n 20 rfl rfl dX7_laySums_19 ?_
      refine q_getR 23 rfl fX7_43 rfl 77 t_77 (g_77_22 hG) dX7_laySums_20 ?_
      refine q_iload_n 24 rfl rfl dX7_laySums_23 ?_
      refine q_ldc2 27 rfl (-1) klX7_224 rfl dX7_laySums_24 ?_
      refine q_last 28 rfl 89 t_89 (by omega) (by decide) dX7_laySums_27 ?_
      refine q_iconst 29 rfl 0 k_i0 dX7_laySums_28 ?_
      refine q_istore_n 30 rfl (by decide) dX7_laySums_29 ?_
      refine q_loc (laySums_in (L := L) (Rl := Rl) (s := i) hG hc hc9 hnx h78 hod h_i ?_ 0 (by omega) _ ?_) (q_sub1 rfl (q_sub1 rfl (q_sub1 rfl q_sub0)))
      rotate_left
      · rw [h_K]; rfl
      refine q_iinc1 98 rfl 1 k_i1 rfl (by decide) dX7_laySums_95 ?_
      refine q_goto 9 (by decide) dX7_laySums_98 ?_
      refine q_loc (ih (by omega) _ ?_) (q_sub1 rfl (q_sub1 rfl q_sub0))
      · rw [sc_c hc9 hod (by omega) h_i]
        exact fil_s L 89 (fun j => ((sm Rl c (N 78) j : Nat) : Int)) i
theorem k_laySums {c : Nat} {Rl : Nat → Nat → Bool} (hG : GF ad G) (hc : N 77 2 = c) (hc9 : c ≤ 9) (hnx : ∀ g, g < c → N 87 g = mk (fun m => decide (g ≠ m) && Rl g m) c) (h78 : ∀ i, i < 240 → N 78 i < 26) (hod : ∀ n, n < 9 → N 78 n ≤ 9) : q_Con Γ mX7_laySums 2 0 0 [.ref (ad 77)] (LT ad, N, L, G) (q_is none (LT ad, N, fil L 89 (fun j => ((sm Rl c (N 78) j : Nat) : Int)) (2 ^ c), G)) := by
  refine q_con (by decide) rfl rfl (Nat.le_of_ble_eq_true rfl) ?_
  refine q_aload_n 1 rfl rfl dX7_laySums_0 ?_
  refine q_getR 4 rfl fX7_43 rfl 77 t_77 (g_77_22 hG) dX7_laySums_1 ?_
  refine q_iconst 5 rfl 0 k_i0 dX7_laySums_4 ?_
  refine q_lconst 6 rfl 0 lN0 dX7_laySums_5 ?_
  refine q_last 7 rfl 89 t_89 (by omega) (by decide) dX7_laySums_6 ?_
  refine q_iconst 8 rfl 1 k_i1 dX7_laySums_7 ?_
  refine q_istore_n 9 rfl (by decide) dX7_laySums_8 ?_
  refine q_loc (laySums_lp (L := L) (Rl := Rl) hG hc hc9 hnx h78 hod ?_ 1 (Nat.two_pow_pos c) (by omega) _ ?_) (q_sub1 rfl (q_sub1 rfl q_sub0))
  rotate_left
  · have := fil_s L 89 (fun j => ((sm Rl c (N 78) j : Nat) : Int)) 0
    rw [fil_0] at this
    rw [show ((sm Rl c (N 78) 0 : Nat) : Int) = 0 by rw [show sm Rl c (N 78) 0 = 0 from cst_0 _ _ _ _]; rfl] at this
    exact this
  refine q_vret rfl dX7_laySums_101 ?_
  exact ⟨rfl, rfl⟩
theorem mean7_lp {Z : q_Zt} {Y mc mz : Nat} {c s : Nat} {Rl : Nat → Nat → Bool} (hG : GF ad G) (hc : N 77 2 = c) (hc9 : c ≤ 9) (hnx : ∀ g, g < c → N 87 g = mk (fun m => decide (g ≠ m) && Rl g m) c) (h78 : ∀ i, i < 240 → N 78 i < 26) (hod : ∀ n, n < 9 → N 78 n ≤ 9) (h0 : s ≠ 0) (hs : s < 2 ^ c) (hS : ∀ t, t < 2 ^ c → L 89 t = ((sm Rl c (N 78) t : Nat) : Int)) (hx : q_R Γ mX7_mean (q_room 6 mc mz) Z 0 0 57 [(0, .ref (ad 77)), (1, .int (nI Y)), (2, .int (nI s)), (3, .int (nI ((amin (sv Rl c (N 78) s) 1048576 c).2)))] [] (LT ad, N, L, G)) : ∀ i, i ≤ (amin (sv Rl c (N 78) s) 1048576 c).2 →  q_R Γ mX7_mean (q_room 6 mc mz) Z 0 0 35 [(0, .ref (ad 77)), (1, .int (nI Y)), (2, .int (nI s)), (3, .int (nI i))] [] (LT ad, N, L, G) := by
  refine dn_loop ((amin (sv Rl c (N 78) s) 1048576 c).2) ?_ ?_
  · skip
    have p9 := p2_9 hc9
    obtain ⟨f1, f2, f3⟩ := msm_first (S := L 89) (Rl := Rl) hc9 hod h0 hs (fun t ht => hS t (by omega))
    have f4 := hS s hs
    have f5 := sm_le (Rl := Rl) hc9 hod hs
    refine q_aload_n 36 rfl rfl dX7_mean_35 ?_
    refine q_iload_n 37 rfl rfl dX7_mean_36 ?_
    refine q_iload_n 38 rfl rfl dX7_mean_37 ?_
    refine q_cV2 41 rfl lX7_242 (k_sumBy (Rl := Rl) hG hc hc9 hnx h78 hod (by omega) hs) rfl 77 t_77 rfl rfl rfl dX7_mean_38 ?_
    refine q_aload_n 42 rfl rfl dX7_mean_41 ?_
    refine q_getR 45 rfl fX7_43 rfl 77 t_77 (g_77_22 hG) dX7_mean_42 ?_
    refine q_iload_n 46 rfl rfl dX7_mean_45 ?_
    refine q_lald 47 rfl 89 t_89 (by omega) (by decide) dX7_mean_46 ?_
    refine q_lcmp_eq 51 48 rfl rfl 57 (by decide) (by omega) (by omega) dX7_mean_47 dX7_mean_48 (fun h47 => ?_) (fun h47 => ?_)
    · exact q_loc hx (q_sub1 rfl (q_sub1 rfl (q_sub1 rfl (q_sub1 rfl q_sub0))))
    · exfalso; omega
  · intro i h_i ih 
    have p9 := p2_9 hc9
    obtain ⟨f1, f2, f3⟩ := msm_first (S := L 89) (Rl := Rl) hc9 hod h0 hs (fun t ht => hS t (by omega))
    have f4 := hS s hs
    have f5 := sm_le (Rl := Rl) hc9 hod hs
    have f7 := f3 i h_i
    have f8 := msm_sv (S := L 89) (Rl := Rl) (s := s) (g := i) hc9 hod (fun t ht => hS t (by omega))
    have r4 := ods_81 (s := s) hc9 hod
    refine q_aload_n 36 rfl rfl dX7_mean_35 ?_
    refine q_iload_n 37 rfl rfl dX7_mean_36 ?_
    refine q_iload_n 38 rfl rfl dX7_mean_37 ?_
    refine q_cV2 41 rfl lX7_242 (k_sumBy (Rl := Rl) hG hc hc9 hnx h78 hod (by omega) hs) rfl 77 t_77 rfl rfl rfl dX7_mean_38 ?_
    refine q_aload_n 42 rfl rfl dX7_mean_41 ?_
    refine q_getR 45 rfl fX7_43 rfl 77 t_77 (g_77_22 hG) dX7_mean_42 ?_
    refine q_iload_n 46 rfl rfl dX7_mean_45 ?_
    refine q_lald 47 rfl 89 t_89 (by omega) (by decide) dX7_mean_46 ?_
    refine q_lcmp_eq 51 48 rfl rfl 57 (by decide) (by omega) (by omega) dX7_mean_47 dX7_mean_48 (fun h47 => ?_) (fun h47 => ?_)
    · exfalso; omega
    · refine q_iinc1 54 rfl 1 k_i1 rfl (by decide) dX7_mean_51 ?_
      refine q_goto 35 (by decide) dX7_mean_54 ?_
      refine q_loc (ih) (q_sub1 rfl (q_sub1 rfl (q_sub1 rfl (q_sub1 rfl q_sub0))))
theorem k_mean7 {Y : Nat} {c : Nat} (hG : GF ad G) (hM : MS N c) (hY : Y < 4294967296) : q_Con Γ mX7_mean 6 0 0 [.ref (ad 77), .int (nI Y)] (LT ad, N, L, G) (q_sc ad N G (.long (lZ (mnv (R7 N) c (N 78) Y (can7 N c (R7 N) (N 78 40)))))) := by
  obtain ⟨hc, hc9, hb, hl, hs, hk, hms, hpr, hg9, hh, hgn, hga, hod, ho1⟩ := id hM
  have p9 := p2_9 hc9
  have hcl : can7 N c (R7 N) (N 78 40) < 512 := can_lt hc9
  have hcc : can7 N c (R7 N) (N 78 40) < 2 ^ c := mk_lt _ c
  generalize hsd : can7 N c (R7 N) (N 78 40) = s at *
  have f4 : fil L 89 (fun j => ((sm (R7 N) c (N 78) j : Nat) : Int)) (2 ^ c) 89 s = ((sm (R7 N) c (N 78) s : Nat) : Int) := fil_lt hcc
  have f5 := sm_le (Rl := R7 N) (s := s) hc9 hod hcc
  have r4 := ods_81 (s := s) hc9 hod
  have r5 := (amin_which (sv (R7 N) c (N 78) s) 1048576 c)
  refine q_con (by decide) rfl rfl (Nat.le_of_ble_eq_true rfl) ?_
  refine q_iload_n 1 rfl rfl dX7_mean_0 ?_
  refine q_i2l 2 rfl dX7_mean_1 ?_
  refine q_lconst 3 rfl 0 lN0 dX7_mean_2 ?_
  refine q_ldc2 6 rfl (2) klX7_205 rfl dX7_mean_3 ?_
  refine q_cS3 9 rfl lX7_68 (k_in hY (by omega) (by omega) rfl (by omega) (by omega)) rfl rfl rfl dX7_mean_6 ?_
  refine q_if_neD 12 rfl 16 (by decide) dX7_mean_9 (fun h9 => ?_) (fun h9 => ?_)
  · refine q_aload_n 17 rfl rfl dX7_mean_16 ?_
    refine q_cV0 20 rfl lX7_221 (by have := k_canNow (Γ := Γ) (L := L) hG hM; rw [hsd] at this; exact this) rfl 77 t_77 rfl rfl rfl dX7_mean_17 ?_
    refine q_istore_n 21 rfl (by decide) dX7_mean_20 ?_
    refine q_iload_n 22 rfl rfl dX7_mean_21 ?_
    refine q_if_ne 25 rfl 29 (by decide) (by omega) dX7_mean_22 (fun h22 => ?_) (fun h22 => ?_)
    · refine q_aload_n 30 rfl rfl dX7_mean_29 ?_
      refine q_cV0v 33 rfl lX7_249 (k_laySums (N := now7 N c) (Rl := R7 N) hG hc hc9 (fun g hg => now7_87 hg) hs hod) rfl 77 t_77 rfl rfl rfl dX7_mean_30 ?_
      refine q_iconst 34 rfl 0 k_i0 dX7_mean_33 ?_
      refine q_istore_n 35 rfl (by decide) dX7_mean_34 ?_
      refine q_loc (mean7_lp (N := now7 N c) (Rl := R7 N) hG hc hc9 (fun g hg => now7_87 hg) hs hod (by assumption) hcc (fun t ht => fil_lt ht) ?_ 0 (by omega)) (q_sub1 rfl (q_sub1 rfl (q_sub1 rfl (q_sub1 rfl q_sub0))))
      rw [show now7 N c 78 = N 78 from rfl]
      refine q_iload_n 58 rfl rfl dX7_mean_57 ?_
      refine q_iconst 59 rfl 2 k_i2 dX7_mean_58 ?_
      refine q_icmp_ne 62 rfl 67 (by decide) (by omega) (by omega) dX7_mean_59 (fun h59 => ?_) (fun h59 => ?_)
      · refine q_aload_n 68 rfl rfl dX7_mean_67 ?_
        refine q_getR 71 rfl fX7_43 rfl 77 t_77 (g_77_22 hG) dX7_mean_68 ?_
        refine q_iload_n 72 rfl rfl dX7_mean_71 ?_
        refine q_lald 73 rfl 89 t_89 (by omega) (by decide) dX7_mean_72 ?_
        rw [f4]
        refine q_aload_n 74 rfl rfl dX7_mean_73 ?_
        refine q_iload_n 75 rfl rfl dX7_mean_74 ?_
        refine q_cV1 78 rfl lX7_228 (k_oddsOf7 (N := now7 N c) hG hc hc9 hs (by omega)) rfl 77 t_77 rfl rfl rfl dX7_mean_75 ?_
        refine q_iload_n 79 rfl rfl dX7_mean_78 ?_
        refine q_cS3 82 rfl lX7_232 (k_lowest (u := sm (R7 N) c (N 78) s) (d := ods (N 78) s c) (by omega) (ods_pos (by assumption) hcc ho1) (by omega) hY) rfl rfl rfl dX7_mean_79 ?_
        refine q_lret rfl dX7_mean_82 ?_
        first
          | (refine ⟨?_, _, _, rfl, Sc.rf⟩; rw [mnv, if_neg (by omega)]; done)
          | (refine ⟨?_, _, _, rfl, Sc.now⟩; rw [mnv, if_pos (by omega), if_pos (by assumption)]; done)
          | (refine ⟨?_, _, _, rfl, Sc.now⟩; rw [mnv, if_pos (show Y ≤ 2 by omega), if_neg (show ¬ s = 0 by assumption), if_pos (show Y = 2 by omega)]; done)
          | (refine ⟨?_, _, _, rfl, Sc.now⟩; rw [mnv, if_pos (show Y ≤ 2 by omega), if_neg (show ¬ s = 0 by assumption), if_neg (show ¬ Y = 2 by omega)])
      · refine q_iload_n 63 rfl rfl dX7_mean_62 ?_
        refine q_i2l 64 rfl dX7_mean_63 ?_
        rw [z_s_lo (by have := r5 (sm_amin hc9 hod (by assumption) hcc).1; omega)]
        refine q_goto 82 (by decide) dX7_mean_64 ?_
        refine q_lret rfl dX7_mean_82 ?_
        first
          | (refine ⟨?_, _, _, rfl, Sc.rf⟩; rw [mnv, if_neg (by omega)]; done)
          | (refine ⟨?_, _, _, rfl, Sc.now⟩; rw [mnv, if_pos (by omega), if_pos (by assumption)]; done)
          | (refine ⟨?_, _, _, rfl, Sc.now⟩; rw [mnv, if_pos (show Y ≤ 2 by omega), if_neg (show ¬ s = 0 by assumption), if_pos (show Y = 2 by omega)]; done)
          | (refine ⟨?_, _, _, rfl, Sc.now⟩; rw [mnv, if_pos (show Y ≤ 2 by omega), if_neg (show ¬ s = 0 by assumption), if_neg (show ¬ Y = 2 by omega)])
    · refine q_ldc2 28 rfl (-2) klX7_226 rfl dX7_mean_25 ?_
      refine q_lret rfl dX7_mean_28 ?_
      first
        | (refine ⟨?_, _, _, rfl, Sc.rf⟩; rw [mnv, if_neg (by omega)]; done)
        | (refine ⟨?_, _, _, rfl, Sc.now⟩; rw [mnv, if_pos (by omega), if_pos (by assumption)]; done)
        | (refine ⟨?_, _, _, rfl, Sc.now⟩; rw [mnv, if_pos (show Y ≤ 2 by omega), if_neg (show ¬ s = 0 by assumption), if_pos (show Y = 2 by omega)]; done)
        | (refine ⟨?_, _, _, rfl, Sc.now⟩; rw [mnv, if_pos (show Y ≤ 2 by omega), if_neg (show ¬ s = 0 by assumption), if_neg (show ¬ Y = 2 by omega)])
  · refine q_ldc2 15 rfl (-1) klX7_224 rfl dX7_mean_12 ?_
    refine q_lret rfl dX7_mean_15 ?_
    first
      | (refine ⟨?_, _, _, rfl, Sc.rf⟩; rw [mnv, if_neg (by omega)]; done)
      | (refine ⟨?_, _, _, rfl, Sc.now⟩; rw [mnv, if_pos (by omega), if_pos (by assumption)]; done)
      | (refine ⟨?_, _, _, rfl, Sc.now⟩; rw [mnv, if_pos (show Y ≤ 2 by omega), if_neg (show ¬ s = 0 by assumption), if_pos (show Y = 2 by omega)]; done)
      | (refine ⟨?_, _, _, rfl, Sc.now⟩; rw [mnv, if_pos (show Y ≤ 2 by omega), if_neg (show ¬ s = 0 by assumption), if_neg (show ¬ Y = 2 by omega)])
end
