def fPair (t : Nat → Nat) (len p : Nat) : Nat := if wrdf t len p 1 ≠ 0 then wrdf t len p 1 else if wrdf t len (tkE t len p) 1 ≠ 0 then wrdf t len (tkE t len p) 1 else if t (tkS t len p) = t (tkS t len (tkE t len p)) then 4 else 0
def pPair (t : Nat → Nat) (len p : Nat) : Nat := if wrdf t len p 1 ≠ 0 then tkS t len p else tkS t len (tkE t len p)
def adP (S : Nat → Nat → Nat) (a b : Nat) : Nat → Nat → Nat := q_s (q_s (q_s S 4 (S 0 3) a) 5 (S 0 3) b) 0 3 (S 0 3 + 1)
theorem MR.addP {S K : Nat → Nat → Nat} {a b : Nat} (h : MR S K) (hW : WFS S) (hc : S 0 3 < 5) (ha : a < 26) (hb : b < 26) : MR (adP S a b) (q_s (q_s (q_s K 81 (11 + 2 * S 0 3) a) 81 (11 + 2 * S 0 3 + 1) b) 81 21 (S 0 3 + 1)) := by
  obtain ⟨a1, a2, a3, a4, a5, a6, a7, a8, a9, b1, b2, b3, b4, b5, b6⟩ := h
  have S0 : ∀ j, j ≠ 3 → adP S a b 0 j = S 0 j := fun j hj => by unfold adP; rw [q_s_off hj, q_s_ne (by omega), q_s_ne (by omega)]
  have S03 : adP S a b 0 3 = S 0 3 + 1 := q_s_at
  have S4 : ∀ j, adP S a b 4 j = if j = S 0 3 then a else S 4 j := fun j => by
    unfold adP; rw [q_s_ne (by omega), q_s_ne (by omega)]
    by_cases e : j = S 0 3
    · subst e; rw [if_pos rfl, q_s_at]
    · rw [if_neg e, q_s_off e]
  have S5 : ∀ j, adP S a b 5 j = if j = S 0 3 then b else S 5 j := fun j => by
    unfold adP; rw [q_s_ne (by omega)]
    by_cases e : j = S 0 3
    · subst e; rw [if_pos rfl, q_s_at]
    · rw [if_neg e, q_s_off e, q_s_ne (by omega)]
  have Sr : ∀ r, r ≠ 0 → r ≠ 4 → r ≠ 5 → adP S a b r = S r := fun r h1 h2 h3 => by unfold adP; rw [q_s_ne h1, q_s_ne h3, q_s_ne h2]
  generalize hK : q_s (q_s (q_s K 81 (11 + 2 * S 0 3) a) 81 (11 + 2 * S 0 3 + 1) b) 81 21 (S 0 3 + 1) = K2
  have kn : ∀ r, r ≠ 81 → K2 r = K r := fun r hr => by rw [← hK, q_s_ne hr, q_s_ne hr, q_s_ne hr]
  have k21 : K2 81 21 = S 0 3 + 1 := by rw [← hK, q_s_at]
  have ka : K2 81 (11 + 2 * S 0 3) = a := by rw [← hK, q_s_off (by omega), q_s_off (by omega), q_s_at]
  have kb : K2 81 (11 + 2 * S 0 3 + 1) = b := by rw [← hK, q_s_off (by omega), q_s_at]
  have ko : ∀ j, j ≠ 21 → j ≠ 11 + 2 * S 0 3 → j ≠ 11 + 2 * S 0 3 + 1 → K2 81 j = K 81 j := fun j h1 h2 h3 => by rw [← hK, q_s_off h1, q_s_off h3, q_s_off h2]
  unfold MR
  rw [S03, S0 0 (by omega), S0 1 (by omega), S0 2 (by omega), S0 4 (by omega), S0 5 (by omega), S0 6 (by omega), Sr 1 (by omega) (by omega) (by omega), Sr 2 (by omega) (by omega) (by omega), Sr 3 (by omega) (by omega) (by omega), Sr 6 (by omega) (by omega) (by omega), kn 77 (by omega), kn 82 (by omega), kn 83 (by omega)]
  refine ⟨a1, a2, fun m hm => ?_, ?_, ?_, k21, fun k hk => ?_, a8, a9, b1, b2, b3, fun i hi => ?_, ?_, ?_⟩
  · rw [ko m (by omega) (by omega) (by omega)]; exact a3 m hm
  · rw [ko 9 (by omega) (by omega) (by omega)]; exact a4
  · rw [ko 10 (by omega) (by omega) (by omega)]; exact a5
  · rw [S4, S5]
    by_cases e : k = S 0 3
    · subst e; rw [if_pos rfl, if_pos rfl]; exact ⟨ka, kb⟩
    · rw [if_neg e, if_neg e, ko _ (by omega) (by omega) (by omega), ko _ (by omega) (by omega) (by omega)]; exact a7 k (by omega)
  · by_cases h1 : i = 21
    · subst h1; rw [k21]; omega
    · by_cases h2 : i = 11 + 2 * S 0 3
      · subst h2; rw [ka]; exact ha
      · by_cases h3 : i = 11 + 2 * S 0 3 + 1
        · subst h3; rw [kb]; exact hb
        · rw [ko i h1 h2 h3]; exact b4 i hi
  · rw [ko 40 (by omega) (by omega) (by omega)]; exact b5
  · rw [ko 59 (by omega) (by omega) (by omega)]; exact b6
section
variable {Γ : q_G} {ad : Nat → Nat} {N : Nat → Nat → Nat} {L : Nat → Nat → Int} {G : Nat → Nat → Option Nat}
theorem k_readPair {S : Nat → Nat → Nat} {ba p : Nat} (hG : GF ad G) (hl : N 77 10 ≤ 160) (ht : ∀ i, i < 160 → N 84 i < 128) (hR : MR S N) (hW : WFS S) (hB : MB N) (hp : p ≤ N 77 10) (hk4 : (tkn (N 84) (N 77 10) p).1 ≠ 4) (hc : S 0 3 < 5) : q_Con Γ mX7_readPair 2 0 0 [.ref (ad 77)] (LT ad, stp N ba p, L, G) (RS ad L G N (adP S (N 84 (tkS (N 84) (N 77 10) p) - 97) (N 84 (tkS (N 84) (N 77 10) (tkE (N 84) (N 77 10) p)) - 97)) ba (fPair (N 84) (N 77 10) p) (pPair (N 84) (N 77 10) p) (tkE (N 84) (N 77 10) (tkE (N 84) (N 77 10) p))) := by
  rw [stp_ok hk4]
  obtain ⟨t1, t2, t3, t4, t5, t6, t7, t8, t9⟩ := tkn_spec (t := N 84) hp
  have hp21 : N 81 21 = S 0 3 := hR.2.2.2.2.2.1
  have hwf : wrdf (N 84) (N 77 10) p 1 = wb 1 (tkn (N 84) (N 77 10) p).1 (tkE (N 84) (N 77 10) p - tkS (N 84) (N 77 10) p) := by rw [wrdf, if_neg hk4]
  have wok := wrdf_ok (t := N 84) (len := N 77 10) (p := p) (mx := 1)
  unfold fPair pPair
  rw [hwf] at wok ⊢
  obtain ⟨u1, u2, u3, u4, u5, u6, u7, u8, u9⟩ := tkn_spec (t := N 84) t3
  have wok2 := wrdf_ok (t := N 84) (len := N 77 10) (p := tkE (N 84) (N 77 10) p) (mx := 1)
  generalize (if (tkn (N 84) (N 77 10) p).1 = 2 then tkV (N 84) (N 77 10) p else 0) = v0 at *
  generalize (tkn (N 84) (N 77 10) p).1 = k at *
  generalize tkE (N 84) (N 77 10) p = e at *
  generalize tkS (N 84) (N 77 10) p = s at *
  have hwb : wb 1 k (e - s) ≤ 3 := by unfold wb; split <;> (try split) <;> omega
  obtain ⟨N1, hN1⟩ : ∃ N1, q_s N 81 (11 + 2 * S 0 3) (N 84 s - 97) = N1 := ⟨_, rfl⟩
  have e84 : N1 84 = N 84 := by rw [← hN1]; exact q_s_ne (by omega)
  have e10 : N1 77 10 = N 77 10 := by rw [← hN1, q_s_ne (by omega)]
  have fr1 : FR N N1 := by rw [← hN1]; exact FR.arr (Or.inl rfl)
  have st1 : (tkn (N 84) (N 77 10) e).1 ≠ 4 → stp N1 ba e = P7 N1 0 ba (tkE (N 84) (N 77 10) e) (tkS (N 84) (N 77 10) e) (tkn (N 84) (N 77 10) e).1 (if (tkn (N 84) (N 77 10) e).1 = 2 then tkV (N 84) (N 77 10) e else 0) := fun h => by
    have := stp_ok (N := N1) (ba := ba) (sp := e) (by rw [e84, e10]; exact h)
    rw [e84, e10] at this
    exact this
  have st4 : (tkn (N 84) (N 77 10) e).1 = 4 → ∃ e2 k2 v2, stp N1 ba e = P7 N1 1 (tkS (N 84) (N 77 10) e) e2 (tkS (N 84) (N 77 10) e) k2 v2 := fun h => by
    have := stp_bad (N := N1) (ba := ba) (sp := e) (by rw [e84, e10]; exact h)
    rw [e84, e10] at this
    exact this
  have hwb2 : wb 1 (tkn (N 84) (N 77 10) e).1 (tkE (N 84) (N 77 10) e - tkS (N 84) (N 77 10) e) ≤ 3 := by unfold wb; split <;> (try split) <;> omega
  have mr1 : ∀ b, b < 26 → N 84 s - 97 < 26 → MR (adP S (N 84 s - 97) b) (q_s (q_s N1 81 (11 + 2 * S 0 3 + 1) b) 81 21 (S 0 3 + 1)) := fun b q1 q2 => by rw [← hN1]; exact hR.addP hW hc q2 q1
  have w2e : (tkn (N 84) (N 77 10) e).1 ≠ 4 → wrdf (N 84) (N 77 10) e 1 = wb 1 (tkn (N 84) (N 77 10) e).1 (tkE (N 84) (N 77 10) e - tkS (N 84) (N 77 10) e) := fun h => by rw [wrdf, if_neg h]
  have w24 : (tkn (N 84) (N 77 10) e).1 = 4 → wrdf (N 84) (N 77 10) e 1 = 1 := fun h => by rw [wrdf, if_pos h]
  have x21 : N1 81 21 = S 0 3 := by rw [← hN1, q_s_off (by omega)]; exact hp21
  have xat : N1 81 (11 + 2 * S 0 3) = N 84 s - 97 := by rw [← hN1]; exact q_s_at
  have mb1 : MB N1 := by rw [← hN1]; exact hB
  generalize tkE (N 84) (N 77 10) e = e2 at *
  generalize tkS (N 84) (N 77 10) e = s2 at *
  generalize (if (tkn (N 84) (N 77 10) e).1 = 2 then tkV (N 84) (N 77 10) e else 0) = v2 at *
  generalize (tkn (N 84) (N 77 10) e).1 = k2 at *
  have h5 : wb 1 k (e - s) ≠ 0 ∨ (wb 1 k (e - s) = 0 ∧ k2 = 4) ∨ (wb 1 k (e - s) = 0 ∧ k2 ≠ 4 ∧ wb 1 k2 (e2 - s2) ≠ 0) ∨ (wb 1 k (e - s) = 0 ∧ k2 ≠ 4 ∧ wb 1 k2 (e2 - s2) = 0 ∧ N 84 s = N 84 s2) ∨ (wb 1 k (e - s) = 0 ∧ k2 ≠ 4 ∧ wb 1 k2 (e2 - s2) = 0 ∧ N 84 s ≠ N 84 s2) := by omega
  rcases h5 with hw | ⟨hw, h4⟩ | ⟨hw, h4, hz⟩ | ⟨hw, h4, hz, hab⟩ | ⟨hw, h4, hz, hab⟩
  · rw [if_pos hw, if_pos hw]
    refine q_con (by decide) rfl rfl (Nat.le_of_ble_eq_true rfl) ?_
    refine q_bipush 2 rfl 11 k_b11 dX7_readPair_0 ?_
    refine q_iconst 3 rfl 2 k_i2 dX7_readPair_2 ?_
    refine q_aload_n 4 rfl rfl dX7_readPair_3 ?_
    refine q_getR 7 rfl fX7_19 rfl 77 t_77 (g_77_4 hG) dX7_readPair_4 ?_
    refine q_bipush 9 rfl 21 k_b21 dX7_readPair_7 ?_
    refine q_iald 10 rfl 81 t_81 (by omega) (by decide) dX7_readPair_9 ?_
    rw [P7_ne (by decide)]
    rw [hp21]
    refine q_imul 11 rfl dX7_readPair_10 ?_
    refine q_iadd 12 rfl dX7_readPair_11 ?_
    refine q_istore_n 13 rfl (by decide) dX7_readPair_12 ?_
    refine q_aload_n 14 rfl rfl dX7_readPair_13 ?_
    refine q_iconst 15 rfl 1 k_i1 dX7_readPair_14 ?_
    refine q_cV1v 18 rfl lX7_113 (k_wordOf hG (by omega) t2 (by omega) t4) rfl 77 t_77 rfl rfl rfl dX7_readPair_15 ?_
    rw [if_neg hw]
    refine q_aload_n 19 rfl rfl dX7_readPair_18 ?_
    refine q_getR 22 rfl fX7_19 rfl 77 t_77 (g_77_4 hG) dX7_readPair_19 ?_
    refine q_iload_n 23 rfl rfl dX7_readPair_22 ?_
    refine q_aload_n 24 rfl rfl dX7_readPair_23 ?_
    refine q_getI 27 rfl fX7_76 rfl 77 t_77 dX7_readPair_24 ?_
    rw [P7_12]
    refine q_if_ne 30 rfl 44 (by decide) (by omega) dX7_readPair_27 (fun h27 => ?_) (fun h27 => ?_)
    · refine q_iconst 45 rfl 0 k_i0 dX7_readPair_44 ?_
      refine q_iast 46 rfl 81 t_81 (by omega) (by decide) dX7_readPair_45 ?_
      rw [P7_as (by decide)]
      refine q_aload_n 47 rfl rfl dX7_readPair_46 ?_
      refine q_cV0v 50 rfl lX7_110 (k_stepB hG hw (by omega)) rfl 77 t_77 rfl rfl rfl dX7_readPair_47 ?_
      refine q_aload_n 51 rfl rfl dX7_readPair_50 ?_
      refine q_iconst 52 rfl 1 k_i1 dX7_readPair_51 ?_
      refine q_cV1v 55 rfl lX7_113 (k_wordOfB hG hw (by omega)) rfl 77 t_77 rfl rfl rfl dX7_readPair_52 ?_
      refine q_aload_n 56 rfl rfl dX7_readPair_55 ?_
      refine q_getR 59 rfl fX7_19 rfl 77 t_77 (g_77_4 hG) dX7_readPair_56 ?_
      refine q_iload_n 60 rfl rfl dX7_readPair_59 ?_
      refine q_iconst 61 rfl 1 k_i1 dX7_readPair_60 ?_
      refine q_iadd 62 rfl dX7_readPair_61 ?_
      refine q_aload_n 63 rfl rfl dX7_readPair_62 ?_
      refine q_getI 66 rfl fX7_76 rfl 77 t_77 dX7_readPair_63 ?_
      rw [P7_12]
      refine q_if_ne 69 rfl 83 (by decide) (by omega) dX7_readPair_66 (fun h66 => ?_) (fun h66 => ?_)
      · refine q_iconst 84 rfl 1 k_i1 dX7_readPair_83 ?_
        refine q_iast 85 rfl 81 t_81 (by omega) (by decide) dX7_readPair_84 ?_
        rw [P7_as (by decide)]
        refine q_aload_n 86 rfl rfl dX7_readPair_85 ?_
        refine q_getI 89 rfl fX7_76 rfl 77 t_77 dX7_readPair_86 ?_
        rw [P7_12]
        refine q_if_ne 92 rfl 114 (by decide) (by omega) dX7_readPair_89 (fun h89 => ?_) (fun h89 => ?_)
        · refine q_aload_n 115 rfl rfl dX7_readPair_114 ?_
          refine q_cV0v 118 rfl lX7_110 (k_stepB hG hw (by omega)) rfl 77 t_77 rfl rfl rfl dX7_readPair_115 ?_
          refine q_aload_n 119 rfl rfl dX7_readPair_118 ?_
          refine q_getR 122 rfl fX7_19 rfl 77 t_77 (g_77_4 hG) dX7_readPair_119 ?_
          refine q_bipush 124 rfl 21 k_b21 dX7_readPair_122 ?_
          refine q_dup2 125 rfl rfl rfl dX7_readPair_124 ?_
          refine q_iald 126 rfl 81 t_81 (by omega) (by decide) dX7_readPair_125 ?_
          rw [P7_ne (by decide)]
          refine q_iconst 127 rfl 1 k_i1 dX7_readPair_126 ?_
          refine q_iadd 128 rfl dX7_readPair_127 ?_
          refine q_iast 129 rfl 81 t_81 (by omega) (by decide) dX7_readPair_128 ?_
          rw [P7_as (by decide)]
          refine q_vret rfl dX7_readPair_129 ?_
          exact ⟨rfl, Or.inl ⟨hw, _, _, _, _, _, rfl, ((FR.arr (Or.inl rfl)).tr (FR.arr (Or.inl rfl))).tr (FR.arr (Or.inl rfl)), hB⟩⟩
        · exfalso; omega
      · exfalso; omega
    · exfalso; omega
  · have hw2 : ¬ wb 1 k (e - s) ≠ 0 := by omega
    have hk1 := (wok hw).1
    have hl1 := (t7 hk1).2 s (by omega) (by have := (t7 hk1).1; omega)
    have hs1 := (t7 hk1).1
    obtain ⟨e3, k3, v3, hst⟩ := st4 h4
    rw [if_neg hw2, if_neg hw2, w24 h4, if_pos (by decide)]
    refine q_con (by decide) rfl rfl (Nat.le_of_ble_eq_true rfl) ?_
    refine q_bipush 2 rfl 11 k_b11 dX7_readPair_0 ?_
    refine q_iconst 3 rfl 2 k_i2 dX7_readPair_2 ?_
    refine q_aload_n 4 rfl rfl dX7_readPair_3 ?_
    refine q_getR 7 rfl fX7_19 rfl 77 t_77 (g_77_4 hG) dX7_readPair_4 ?_
    refine q_bipush 9 rfl 21 k_b21 dX7_readPair_7 ?_
    refine q_iald 10 rfl 81 t_81 (by omega) (by decide) dX7_readPair_9 ?_
    rw [P7_ne (by decide)]
    rw [hp21]
    refine q_imul 11 rfl dX7_readPair_10 ?_
    refine q_iadd 12 rfl dX7_readPair_11 ?_
    refine q_istore_n 13 rfl (by decide) dX7_readPair_12 ?_
    refine q_aload_n 14 rfl rfl dX7_readPair_13 ?_
    refine q_iconst 15 rfl 1 k_i1 dX7_readPair_14 ?_
    refine q_cV1v 18 rfl lX7_113 (k_wordOf hG (by omega) t2 (by omega) t4) rfl 77 t_77 rfl rfl rfl dX7_readPair_15 ?_
    rw [if_pos hw]
    refine q_aload_n 19 rfl rfl dX7_readPair_18 ?_
    refine q_getR 22 rfl fX7_19 rfl 77 t_77 (g_77_4 hG) dX7_readPair_19 ?_
    refine q_iload_n 23 rfl rfl dX7_readPair_22 ?_
    refine q_aload_n 24 rfl rfl dX7_readPair_23 ?_
    refine q_getI 27 rfl fX7_76 rfl 77 t_77 dX7_readPair_24 ?_
    rw [P7_12]
    refine q_if_ne 30 rfl 44 (by decide) (by omega) dX7_readPair_27 (fun h27 => ?_) (fun h27 => ?_)
    · exfalso; omega
    · refine q_aload_n 31 rfl rfl dX7_readPair_30 ?_
      refine q_aload_n 32 rfl rfl dX7_readPair_31 ?_
      refine q_getI 35 rfl fX7_79 rfl 77 t_77 dX7_readPair_32 ?_
      rw [P7_15]
      refine q_cV1 38 rfl lX7_91 (k_byteAt hG hl (by omega)) rfl 77 t_77 rfl rfl rfl dX7_readPair_35 ?_
      rw [byt, if_pos (by omega)]
      refine q_bipush 40 rfl 97 k_b97 dX7_readPair_38 ?_
      refine q_isub 41 rfl (by omega) dX7_readPair_40 ?_
      refine q_goto 45 (by decide) dX7_readPair_41 ?_
      refine q_iast 46 rfl 81 t_81 (by omega) (by decide) dX7_readPair_45 ?_
      rw [P7_as (by decide)]
      rw [hN1]
      refine q_aload_n 47 rfl rfl dX7_readPair_46 ?_
      refine q_cV0v 50 rfl lX7_110 (k_step0 (N := N1) hG (by rw [e10]; exact hl) (by rw [e84]; exact ht) (by rw [e10]; exact t3)) rfl 77 t_77 rfl rfl rfl dX7_readPair_47 ?_
      rw [hst]
      refine q_aload_n 51 rfl rfl dX7_readPair_50 ?_
      refine q_iconst 52 rfl 1 k_i1 dX7_readPair_51 ?_
      refine q_cV1v 55 rfl lX7_113 (k_wordOfB hG (by decide) (by decide)) rfl 77 t_77 rfl rfl rfl dX7_readPair_52 ?_
      refine q_aload_n 56 rfl rfl dX7_readPair_55 ?_
      refine q_getR 59 rfl fX7_19 rfl 77 t_77 (g_77_4 hG) dX7_readPair_56 ?_
      refine q_iload_n 60 rfl rfl dX7_readPair_59 ?_
      refine q_iconst 61 rfl 1 k_i1 dX7_readPair_60 ?_
      refine q_iadd 62 rfl dX7_readPair_61 ?_
      refine q_aload_n 63 rfl rfl dX7_readPair_62 ?_
      refine q_getI 66 rfl fX7_76 rfl 77 t_77 dX7_readPair_63 ?_
      rw [P7_12]
      refine q_if_ne 69 rfl 83 (by decide) (by omega) dX7_readPair_66 (fun h66 => ?_) (fun h66 => ?_)
      · refine q_iconst 84 rfl 1 k_i1 dX7_readPair_83 ?_
        refine q_iast 85 rfl 81 t_81 (by omega) (by decide) dX7_readPair_84 ?_
        rw [P7_as (by decide)]
        refine q_aload_n 86 rfl rfl dX7_readPair_85 ?_
        refine q_getI 89 rfl fX7_76 rfl 77 t_77 dX7_readPair_86 ?_
        rw [P7_12]
        refine q_if_ne 92 rfl 114 (by decide) (by omega) dX7_readPair_89 (fun h89 => ?_) (fun h89 => ?_)
        · refine q_aload_n 115 rfl rfl dX7_readPair_114 ?_
          refine q_cV0v 118 rfl lX7_110 (k_stepB hG (by decide) (by decide)) rfl 77 t_77 rfl rfl rfl dX7_readPair_115 ?_
          refine q_aload_n 119 rfl rfl dX7_readPair_118 ?_
          refine q_getR 122 rfl fX7_19 rfl 77 t_77 (g_77_4 hG) dX7_readPair_119 ?_
          refine q_bipush 124 rfl 21 k_b21 dX7_readPair_122 ?_
          refine q_dup2 125 rfl rfl rfl dX7_readPair_124 ?_
          refine q_iald 126 rfl 81 t_81 (by omega) (by decide) dX7_readPair_125 ?_
          rw [P7_ne (by decide)]
          refine q_iconst 127 rfl 1 k_i1 dX7_readPair_126 ?_
          refine q_iadd 128 rfl dX7_readPair_127 ?_
          refine q_iast 129 rfl 81 t_81 (by omega) (by decide) dX7_readPair_128 ?_
          rw [P7_as (by decide)]
          refine q_vret rfl dX7_readPair_129 ?_
          exact ⟨rfl, Or.inl ⟨by decide, _, _, _, _, _, rfl, (fr1.tr (FR.arr (Or.inl rfl))).tr (FR.arr (Or.inl rfl)), mb1⟩⟩
        · exfalso; omega
      · exfalso; omega
  · have hw2 : ¬ wb 1 k (e - s) ≠ 0 := by omega
    have hk1 := (wok hw).1
    have hl1 := (t7 hk1).2 s (by omega) (by have := (t7 hk1).1; omega)
    have hs1 := (t7 hk1).1
    rw [if_neg hw2, if_neg hw2, w2e h4, if_pos hz]
    refine q_con (by decide) rfl rfl (Nat.le_of_ble_eq_true rfl) ?_
    refine q_bipush 2 rfl 11 k_b11 dX7_readPair_0 ?_
    refine q_iconst 3 rfl 2 k_i2 dX7_readPair_2 ?_
    refine q_aload_n 4 rfl rfl dX7_readPair_3 ?_
    refine q_getR 7 rfl fX7_19 rfl 77 t_77 (g_77_4 hG) dX7_readPair_4 ?_
    refine q_bipush 9 rfl 21 k_b21 dX7_readPair_7 ?_
    refine q_iald 10 rfl 81 t_81 (by omega) (by decide) dX7_readPair_9 ?_
    rw [P7_ne (by decide)]
    rw [hp21]
    refine q_imul 11 rfl dX7_readPair_10 ?_
    refine q_iadd 12 rfl dX7_readPair_11 ?_
    refine q_istore_n 13 rfl (by decide) dX7_readPair_12 ?_
    refine q_aload_n 14 rfl rfl dX7_readPair_13 ?_
    refine q_iconst 15 rfl 1 k_i1 dX7_readPair_14 ?_
    refine q_cV1v 18 rfl lX7_113 (k_wordOf hG (by omega) t2 (by omega) t4) rfl 77 t_77 rfl rfl rfl dX7_readPair_15 ?_
    rw [if_pos hw]
    refine q_aload_n 19 rfl rfl dX7_readPair_18 ?_
    refine q_getR 22 rfl fX7_19 rfl 77 t_77 (g_77_4 hG) dX7_readPair_19 ?_
    refine q_iload_n 23 rfl rfl dX7_readPair_22 ?_
    refine q_aload_n 24 rfl rfl dX7_readPair_23 ?_
    refine q_getI 27 rfl fX7_76 rfl 77 t_77 dX7_readPair_24 ?_
    rw [P7_12]
    refine q_if_ne 30 rfl 44 (by decide) (by omega) dX7_readPair_27 (fun h27 => ?_) (fun h27 => ?_)
    · exfalso; omega
    · refine q_aload_n 31 rfl rfl dX7_readPair_30 ?_
      refine q_aload_n 32 rfl rfl dX7_readPair_31 ?_
      refine q_getI 35 rfl fX7_79 rfl 77 t_77 dX7_readPair_32 ?_
      rw [P7_15]
      refine q_cV1 38 rfl lX7_91 (k_byteAt hG hl (by omega)) rfl 77 t_77 rfl rfl rfl dX7_readPair_35 ?_
      rw [byt, if_pos (by omega)]
      refine q_bipush 40 rfl 97 k_b97 dX7_readPair_38 ?_
      refine q_isub 41 rfl (by omega) dX7_readPair_40 ?_
      refine q_goto 45 (by decide) dX7_readPair_41 ?_
      refine q_iast 46 rfl 81 t_81 (by omega) (by decide) dX7_readPair_45 ?_
      rw [P7_as (by decide)]
      rw [hN1]
      refine q_aload_n 47 rfl rfl dX7_readPair_46 ?_
      refine q_cV0v 50 rfl lX7_110 (k_step0 (N := N1) hG (by rw [e10]; exact hl) (by rw [e84]; exact ht) (by rw [e10]; exact t3)) rfl 77 t_77 rfl rfl rfl dX7_readPair_47 ?_
      rw [st1 h4]
      refine q_aload_n 51 rfl rfl dX7_readPair_50 ?_
      refine q_iconst 52 rfl 1 k_i1 dX7_readPair_51 ?_
      refine q_cV1v 55 rfl lX7_113 (k_wordOf (N := N1) hG (by omega) u2 (by omega) u4) rfl 77 t_77 rfl rfl rfl dX7_readPair_52 ?_
      rw [if_neg hz]
      refine q_aload_n 56 rfl rfl dX7_readPair_55 ?_
      refine q_getR 59 rfl fX7_19 rfl 77 t_77 (g_77_4 hG) dX7_readPair_56 ?_
      refine q_iload_n 60 rfl rfl dX7_readPair_59 ?_
      refine q_iconst 61 rfl 1 k_i1 dX7_readPair_60 ?_
      refine q_iadd 62 rfl dX7_readPair_61 ?_
      refine q_aload_n 63 rfl rfl dX7_readPair_62 ?_
      refine q_getI 66 rfl fX7_76 rfl 77 t_77 dX7_readPair_63 ?_
      rw [P7_12]
      refine q_if_ne 69 rfl 83 (by decide) (by omega) dX7_readPair_66 (fun h66 => ?_) (fun h66 => ?_)
      · refine q_iconst 84 rfl 1 k_i1 dX7_readPair_83 ?_
        refine q_iast 85 rfl 81 t_81 (by omega) (by decide) dX7_readPair_84 ?_
        rw [P7_as (by decide)]
        refine q_aload_n 86 rfl rfl dX7_readPair_85 ?_
        refine q_getI 89 rfl fX7_76 rfl 77 t_77 dX7_readPair_86 ?_
        rw [P7_12]
        refine q_if_ne 92 rfl 114 (by decide) (by omega) dX7_readPair_89 (fun h89 => ?_) (fun h89 => ?_)
        · refine q_aload_n 115 rfl rfl dX7_readPair_114 ?_
          refine q_cV0v 118 rfl lX7_110 (k_stepB hG hz (by omega)) rfl 77 t_77 rfl rfl rfl dX7_readPair_115 ?_
          refine q_aload_n 119 rfl rfl dX7_readPair_118 ?_
          refine q_getR 122 rfl fX7_19 rfl 77 t_77 (g_77_4 hG) dX7_readPair_119 ?_
          refine q_bipush 124 rfl 21 k_b21 dX7_readPair_122 ?_
          refine q_dup2 125 rfl rfl rfl dX7_readPair_124 ?_
          refine q_iald 126 rfl 81 t_81 (by omega) (by decide) dX7_readPair_125 ?_
          rw [P7_ne (by decide)]
          refine q_iconst 127 rfl 1 k_i1 dX7_readPair_126 ?_
          refine q_iadd 128 rfl dX7_readPair_127 ?_
          refine q_iast 129 rfl 81 t_81 (by omega) (by decide) dX7_readPair_128 ?_
          rw [P7_as (by decide)]
          refine q_vret rfl dX7_readPair_129 ?_
          exact ⟨rfl, Or.inl ⟨hz, _, _, _, _, _, rfl, (fr1.tr (FR.arr (Or.inl rfl))).tr (FR.arr (Or.inl rfl)), mb1⟩⟩
        · exfalso; omega
      · exfalso; omega
  · have hw2 : ¬ wb 1 k (e - s) ≠ 0 := by omega
    have hk1 := (wok hw).1
    have hl1 := (t7 hk1).2 s (by omega) (by have := (t7 hk1).1; omega)
    have hs1 := (t7 hk1).1
    have hz2 : ¬ wb 1 k2 (e2 - s2) ≠ 0 := by omega
    have wk2 := wok2 (by rw [w2e h4]; exact hz)
    have hk2 := wk2.1
    have hs2 := (u7 hk2).1
    have hl2 := (u7 hk2).2 s2 (by omega) (by omega)
    rw [if_neg hw2, if_neg hw2, w2e h4, if_neg hz2, if_pos hab]
    refine q_con (by decide) rfl rfl (Nat.le_of_ble_eq_true rfl) ?_
    refine q_bipush 2 rfl 11 k_b11 dX7_readPair_0 ?_
    refine q_iconst 3 rfl 2 k_i2 dX7_readPair_2 ?_
    refine q_aload_n 4 rfl rfl dX7_readPair_3 ?_
    refine q_getR 7 rfl fX7_19 rfl 77 t_77 (g_77_4 hG) dX7_readPair_4 ?_
    refine q_bipush 9 rfl 21 k_b21 dX7_readPair_7 ?_
    refine q_iald 10 rfl 81 t_81 (by omega) (by decide) dX7_readPair_9 ?_
    rw [P7_ne (by decide)]
    rw [hp21]
    refine q_imul 11 rfl dX7_readPair_10 ?_
    refine q_iadd 12 rfl dX7_readPair_11 ?_
    refine q_istore_n 13 rfl (by decide) dX7_readPair_12 ?_
    refine q_aload_n 14 rfl rfl dX7_readPair_13 ?_
    refine q_iconst 15 rfl 1 k_i1 dX7_readPair_14 ?_
    refine q_cV1v 18 rfl lX7_113 (k_wordOf hG (by omega) t2 (by omega) t4) rfl 77 t_77 rfl rfl rfl dX7_readPair_15 ?_
    rw [if_pos hw]
    refine q_aload_n 19 rfl rfl dX7_readPair_18 ?_
    refine q_getR 22 rfl fX7_19 rfl 77 t_77 (g_77_4 hG) dX7_readPair_19 ?_
    refine q_iload_n 23 rfl rfl dX7_readPair_22 ?_
    refine q_aload_n 24 rfl rfl dX7_readPair_23 ?_
    refine q_getI 27 rfl fX7_76 rfl 77 t_77 dX7_readPair_24 ?_
    rw [P7_12]
    refine q_if_ne 30 rfl 44 (by decide) (by omega) dX7_readPair_27 (fun h27 => ?_) (fun h27 => ?_)
    · exfalso; omega
    · refine q_aload_n 31 rfl rfl dX7_readPair_30 ?_
      refine q_aload_n 32 rfl rfl dX7_readPair_31 ?_
      refine q_getI 35 rfl fX7_79 rfl 77 t_77 dX7_readPair_32 ?_
      rw [P7_15]
      refine q_cV1 38 rfl lX7_91 (k_byteAt hG hl (by omega)) rfl 77 t_77 rfl rfl rfl dX7_readPair_35 ?_
      rw [byt, if_pos (by omega)]
      refine q_bipush 40 rfl 97 k_b97 dX7_readPair_38 ?_
      refine q_isub 41 rfl (by omega) dX7_readPair_40 ?_
      refine q_goto 45 (by decide) dX7_readPair_41 ?_
      refine q_iast 46 rfl 81 t_81 (by omega) (by decide) dX7_readPair_45 ?_
      rw [P7_as (by decide)]
      rw [hN1]
      refine q_aload_n 47 rfl rfl dX7_readPair_46 ?_
      refine q_cV0v 50 rfl lX7_110 (k_step0 (N := N1) hG (by rw [e10]; exact hl) (by rw [e84]; exact ht) (by rw [e10]; exact t3)) rfl 77 t_77 rfl rfl rfl dX7_readPair_47 ?_
      rw [st1 h4]
      refine q_aload_n 51 rfl rfl dX7_readPair_50 ?_
      refine q_iconst 52 rfl 1 k_i1 dX7_readPair_51 ?_
      refine q_cV1v 55 rfl lX7_113 (k_wordOf (N := N1) hG (by omega) u2 (by omega) u4) rfl 77 t_77 rfl rfl rfl dX7_readPair_52 ?_
      rw [if_pos hz]
      refine q_aload_n 56 rfl rfl dX7_readPair_55 ?_
      refine q_getR 59 rfl fX7_19 rfl 77 t_77 (g_77_4 hG) dX7_readPair_56 ?_
      refine q_iload_n 60 rfl rfl dX7_readPair_59 ?_
      refine q_iconst 61 rfl 1 k_i1 dX7_readPair_60 ?_
      refine q_iadd 62 rfl dX7_readPair_61 ?_
      refine q_aload_n 63 rfl rfl dX7_readPair_62 ?_
      refine q_getI 66 rfl fX7_76 rfl 77 t_77 dX7_readPair_63 ?_
      rw [P7_12]
      refine q_if_ne 69 rfl 83 (by decide) (by omega) dX7_readPair_66 (fun h66 => ?_) (fun h66 => ?_)
      · exfalso; omega
      · refine q_aload_n 70 rfl rfl dX7_readPair_69 ?_
        refine q_aload_n 71 rfl rfl dX7_readPair_70 ?_
        refine q_getI 74 rfl fX7_79 rfl 77 t_77 dX7_readPair_71 ?_
        rw [P7_15]
        refine q_cV1 77 rfl lX7_91 (k_byteAt (N := N1) hG (by rw [e10]; exact hl) (by omega)) rfl 77 t_77 rfl rfl rfl dX7_readPair_74 ?_
        rw [e84, e10, byt, if_pos (by omega)]
        refine q_bipush 79 rfl 97 k_b97 dX7_readPair_77 ?_
        refine q_isub 80 rfl (by omega) dX7_readPair_79 ?_
        refine q_goto 84 (by decide) dX7_readPair_80 ?_
        refine q_iast 85 rfl 81 t_81 (by omega) (by decide) dX7_readPair_84 ?_
        rw [P7_as (by decide)]
        refine q_aload_n 86 rfl rfl dX7_readPair_85 ?_
        refine q_getI 89 rfl fX7_76 rfl 77 t_77 dX7_readPair_86 ?_
        rw [P7_12]
        refine q_if_ne 92 rfl 114 (by decide) (by omega) dX7_readPair_89 (fun h89 => ?_) (fun h89 => ?_)
        · exfalso; omega
        · refine q_aload_n 93 rfl rfl dX7_readPair_92 ?_
          refine q_getR 96 rfl fX7_19 rfl 77 t_77 (g_77_4 hG) dX7_readPair_93 ?_
          refine q_iload_n 97 rfl rfl dX7_readPair_96 ?_
          refine q_iald 98 rfl 81 t_81 (by omega) (by decide) dX7_readPair_97 ?_
          rw [P7_ne (by decide), q_s_off (by omega), xat]
          refine q_aload_n 99 rfl rfl dX7_readPair_98 ?_
          refine q_getR 102 rfl fX7_19 rfl 77 t_77 (g_77_4 hG) dX7_readPair_99 ?_
          refine q_iload_n 103 rfl rfl dX7_readPair_102 ?_
          refine q_iconst 104 rfl 1 k_i1 dX7_readPair_103 ?_
          refine q_iadd 105 rfl dX7_readPair_104 ?_
          refine q_iald 106 rfl 81 t_81 (by omega) (by decide) dX7_readPair_105 ?_
          rw [P7_ne (by decide), q_s_at]
          refine q_icmp_ne 109 rfl 114 (by decide) (by omega) (by omega) dX7_readPair_106 (fun h106 => ?_) (fun h106 => ?_)
          · exfalso; omega
          · refine q_aload_n 110 rfl rfl dX7_readPair_109 ?_
            refine q_iconst 111 rfl 4 k_i4 dX7_readPair_110 ?_
            refine q_cV1v 114 rfl lX7_106 (k_fails hG (by omega)) rfl 77 t_77 rfl rfl rfl dX7_readPair_111 ?_
            rw [if_pos rfl]
            refine q_aload_n 115 rfl rfl dX7_readPair_114 ?_
            refine q_cV0v 118 rfl lX7_110 (k_stepB hG (by decide) (by decide)) rfl 77 t_77 rfl rfl rfl dX7_readPair_115 ?_
            refine q_aload_n 119 rfl rfl dX7_readPair_118 ?_
            refine q_getR 122 rfl fX7_19 rfl 77 t_77 (g_77_4 hG) dX7_readPair_119 ?_
            refine q_bipush 124 rfl 21 k_b21 dX7_readPair_122 ?_
            refine q_dup2 125 rfl rfl rfl dX7_readPair_124 ?_
            refine q_iald 126 rfl 81 t_81 (by omega) (by decide) dX7_readPair_125 ?_
            rw [P7_ne (by decide)]
            refine q_iconst 127 rfl 1 k_i1 dX7_readPair_126 ?_
            refine q_iadd 128 rfl dX7_readPair_127 ?_
            refine q_iast 129 rfl 81 t_81 (by omega) (by decide) dX7_readPair_128 ?_
            rw [P7_as (by decide)]
            refine q_vret rfl dX7_readPair_129 ?_
            exact ⟨rfl, Or.inl ⟨by decide, _, _, _, _, _, rfl, (fr1.tr (FR.arr (Or.inl rfl))).tr (FR.arr (Or.inl rfl)), mb1⟩⟩
  · have hw2 : ¬ wb 1 k (e - s) ≠ 0 := by omega
    have hk1 := (wok hw).1
    have hl1 := (t7 hk1).2 s (by omega) (by have := (t7 hk1).1; omega)
    have hs1 := (t7 hk1).1
    have hz2 : ¬ wb 1 k2 (e2 - s2) ≠ 0 := by omega
    have wk2 := wok2 (by rw [w2e h4]; exact hz)
    have hk2 := wk2.1
    have hs2 := (u7 hk2).1
    have hl2 := (u7 hk2).2 s2 (by omega) (by omega)
    rw [if_neg hw2, if_neg hw2, w2e h4, if_neg hz2, if_neg hab]
    refine q_con (by decide) rfl rfl (Nat.le_of_ble_eq_true rfl) ?_
    refine q_bipush 2 rfl 11 k_b11 dX7_readPair_0 ?_
    refine q_iconst 3 rfl 2 k_i2 dX7_readPair_2 ?_
    refine q_aload_n 4 rfl rfl dX7_readPair_3 ?_
    refine q_getR 7 rfl fX7_19 rfl 77 t_77 (g_77_4 hG) dX7_readPair_4 ?_
    refine q_bipush 9 rfl 21 k_b21 dX7_readPair_7 ?_
    refine q_iald 10 rfl 81 t_81 (by omega) (by decide) dX7_readPair_9 ?_
    rw [P7_ne (by decide)]
    rw [hp21]
    refine q_imul 11 rfl dX7_readPair_10 ?_
    refine q_iadd 12 rfl dX7_readPair_11 ?_
    refine q_istore_n 13 rfl (by decide) dX7_readPair_12 ?_
    refine q_aload_n 14 rfl rfl dX7_readPair_13 ?_
    refine q_iconst 15 rfl 1 k_i1 dX7_readPair_14 ?_
    refine q_cV1v 18 rfl lX7_113 (k_wordOf hG (by omega) t2 (by omega) t4) rfl 77 t_77 rfl rfl rfl dX7_readPair_15 ?_
    rw [if_pos hw]
    refine q_aload_n 19 rfl rfl dX7_readPair_18 ?_
    refine q_getR 22 rfl fX7_19 rfl 77 t_77 (g_77_4 hG) dX7_readPair_19 ?_
    refine q_iload_n 23 rfl rfl dX7_readPair_22 ?_
    refine q_aload_n 24 rfl rfl dX7_readPair_23 ?_
    refine q_getI 27 rfl fX7_76 rfl 77 t_77 dX7_readPair_24 ?_
    rw [P7_12]
    refine q_if_ne 30 rfl 44 (by decide) (by omega) dX7_readPair_27 (fun h27 => ?_) (fun h27 => ?_)
    · exfalso; omega
    · refine q_aload_n 31 rfl rfl dX7_readPair_30 ?_
      refine q_aload_n 32 rfl rfl dX7_readPair_31 ?_
      refine q_getI 35 rfl fX7_79 rfl 77 t_77 dX7_readPair_32 ?_
      rw [P7_15]
      refine q_cV1 38 rfl lX7_91 (k_byteAt hG hl (by omega)) rfl 77 t_77 rfl rfl rfl dX7_readPair_35 ?_
      rw [byt, if_pos (by omega)]
      refine q_bipush 40 rfl 97 k_b97 dX7_readPair_38 ?_
      refine q_isub 41 rfl (by omega) dX7_readPair_40 ?_
      refine q_goto 45 (by decide) dX7_readPair_41 ?_
      refine q_iast 46 rfl 81 t_81 (by omega) (by decide) dX7_readPair_45 ?_
      rw [P7_as (by decide)]
      rw [hN1]
      refine q_aload_n 47 rfl rfl dX7_readPair_46 ?_
      refine q_cV0v 50 rfl lX7_110 (k_step0 (N := N1) hG (by rw [e10]; exact hl) (by rw [e84]; exact ht) (by rw [e10]; exact t3)) rfl 77 t_77 rfl rfl rfl dX7_readPair_47 ?_
      rw [st1 h4]
      refine q_aload_n 51 rfl rfl dX7_readPair_50 ?_
      refine q_iconst 52 rfl 1 k_i1 dX7_readPair_51 ?_
      refine q_cV1v 55 rfl lX7_113 (k_wordOf (N := N1) hG (by omega) u2 (by omega) u4) rfl 77 t_77 rfl rfl rfl dX7_readPair_52 ?_
      rw [if_pos hz]
      refine q_aload_n 56 rfl rfl dX7_readPair_55 ?_
      refine q_getR 59 rfl fX7_19 rfl 77 t_77 (g_77_4 hG) dX7_readPair_56 ?_
      refine q_iload_n 60 rfl rfl dX7_readPair_59 ?_
      refine q_iconst 61 rfl 1 k_i1 dX7_readPair_60 ?_
      refine q_iadd 62 rfl dX7_readPair_61 ?_
      refine q_aload_n 63 rfl rfl dX7_readPair_62 ?_
      refine q_getI 66 rfl fX7_76 rfl 77 t_77 dX7_readPair_63 ?_
      rw [P7_12]
      refine q_if_ne 69 rfl 83 (by decide) (by omega) dX7_readPair_66 (fun h66 => ?_) (fun h66 => ?_)
      · exfalso; omega
      · refine q_aload_n 70 rfl rfl dX7_readPair_69 ?_
        refine q_aload_n 71 rfl rfl dX7_readPair_70 ?_
        refine q_getI 74 rfl fX7_79 rfl 77 t_77 dX7_readPair_71 ?_
        rw [P7_15]
        refine q_cV1 77 rfl lX7_91 (k_byteAt (N := N1) hG (by rw [e10]; exact hl) (by omega)) rfl 77 t_77 rfl rfl rfl dX7_readPair_74 ?_
        rw [e84, e10, byt, if_pos (by omega)]
        refine q_bipush 79 rfl 97 k_b97 dX7_readPair_77 ?_
        refine q_isub 80 rfl (by omega) dX7_readPair_79 ?_
        refine q_goto 84 (by decide) dX7_readPair_80 ?_
        refine q_iast 85 rfl 81 t_81 (by omega) (by decide) dX7_readPair_84 ?_
        rw [P7_as (by decide)]
        refine q_aload_n 86 rfl rfl dX7_readPair_85 ?_
        refine q_getI 89 rfl fX7_76 rfl 77 t_77 dX7_readPair_86 ?_
        rw [P7_12]
        refine q_if_ne 92 rfl 114 (by decide) (by omega) dX7_readPair_89 (fun h89 => ?_) (fun h89 => ?_)
        · exfalso; omega
        · refine q_aload_n 93 rfl rfl dX7_readPair_92 ?_
          refine q_getR 96 rfl fX7_19 rfl 77 t_77 (g_77_4 hG) dX7_readPair_93 ?_
          refine q_iload_n 97 rfl rfl dX7_readPair_96 ?_
          refine q_iald 98 rfl 81 t_81 (by omega) (by decide) dX7_readPair_97 ?_
          rw [P7_ne (by decide), q_s_off (by omega), xat]
          refine q_aload_n 99 rfl rfl dX7_readPair_98 ?_
          refine q_getR 102 rfl fX7_19 rfl 77 t_77 (g_77_4 hG) dX7_readPair_99 ?_
          refine q_iload_n 103 rfl rfl dX7_readPair_102 ?_
          refine q_iconst 104 rfl 1 k_i1 dX7_readPair_103 ?_
          refine q_iadd 105 rfl dX7_readPair_104 ?_
          refine q_iald 106 rfl 81 t_81 (by omega) (by decide) dX7_readPair_105 ?_
          rw [P7_ne (by decide), q_s_at]
          refine q_icmp_ne 109 rfl 114 (by decide) (by omega) (by omega) dX7_readPair_106 (fun h106 => ?_) (fun h106 => ?_)
          · refine q_aload_n 115 rfl rfl dX7_readPair_114 ?_
            refine q_cV0v 118 rfl lX7_110 (k_step0 (N := q_s N1 81 (11 + 2 * S 0 3 + 1) (N 84 s2 - 97)) hG (by rw [q_s_ne (by decide), e10]; exact hl) (by rw [q_s_ne (by decide), e84]; exact ht) (by rw [q_s_ne (by decide), e10]; exact u3)) rfl 77 t_77 rfl rfl rfl dX7_readPair_115 ?_
            refine q_aload_n 119 rfl rfl dX7_readPair_118 ?_
            refine q_getR 122 rfl fX7_19 rfl 77 t_77 (g_77_4 hG) dX7_readPair_119 ?_
            refine q_bipush 124 rfl 21 k_b21 dX7_readPair_122 ?_
            refine q_dup2 125 rfl rfl rfl dX7_readPair_124 ?_
            refine q_iald 126 rfl 81 t_81 (by omega) (by decide) dX7_readPair_125 ?_
            rw [stp_ne (by decide), q_s_off (by omega), x21]
            refine q_iconst 127 rfl 1 k_i1 dX7_readPair_126 ?_
            refine q_iadd 128 rfl dX7_readPair_127 ?_
            refine q_iast 129 rfl 81 t_81 (by omega) (by decide) dX7_readPair_128 ?_
            rw [stp_as (by decide) (by decide)]
            refine q_vret rfl dX7_readPair_129 ?_
            exact ⟨rfl, Or.inr ⟨rfl, _, rfl, (fr1.tr (FR.arr (Or.inl rfl))).tr (FR.arr (Or.inl rfl)), mb1, mr1 _ (by omega) (by omega)⟩⟩
          · exfalso; omega
end
