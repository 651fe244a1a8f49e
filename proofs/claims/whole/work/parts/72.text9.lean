/-- which of the words a token is -/
def wrd9 (t : Nat → Nat) (len p : Nat) : Nat := if (tkn t len p).1 = 1 then whf t (tkS t len p) (tkE t len p - tkS t len p) 9 0 else 4294967292
theorem wrd9_rg {t : Nat → Nat} {len p : Nat} : wrd9 t len p < 9 ∨ wrd9 t len p = 4294967292 := by
  unfold wrd9
  split
  · exact whf_rg 9 0 rfl
  · exact Or.inr rfl
def fLaw (t : Nat → Nat) (len p : Nat) : Nat := if (tkn t len p).1 = 4 then 1 else if 4 ≤ wrd9 t len p ∧ wrd9 t len p < 9 then nmbf t len (tkE t len p) 0 8 else 2
def pLaw (t : Nat → Nat) (len p : Nat) : Nat := if (tkn t len p).1 = 4 then tkS t len p else if 4 ≤ wrd9 t len p ∧ wrd9 t len p < 9 then tkS t len (tkE t len p) else tkS t len p
def adL (S : Nat → Nat → Nat) (a b : Nat) : Nat → Nat → Nat := q_s (q_s S 0 1 a) 0 2 b
theorem MR.addL {S K : Nat → Nat → Nat} {a b : Nat} (h : MR S K) (ha : a < 26) (hb : b < 26) : MR (adL S a b) (q_s (q_s K 81 9 a) 81 10 b) := by
  obtain ⟨a1, a2, a3, a4, a5, a6, a7, a8, a9, b1, b2, b3, b4, b5, b6⟩ := h
  have S0 : ∀ j, j ≠ 1 → j ≠ 2 → adL S a b 0 j = S 0 j := fun j h1 h2 => by unfold adL; rw [q_s_off h2, q_s_off h1]
  have S01 : adL S a b 0 1 = a := by unfold adL; rw [q_s_off (by omega), q_s_at]
  have S02 : adL S a b 0 2 = b := q_s_at
  have Sr : ∀ r, r ≠ 0 → adL S a b r = S r := fun r h1 => by unfold adL; rw [q_s_ne h1, q_s_ne h1]
  generalize hK : q_s (q_s K 81 9 a) 81 10 b = K2
  have kn : ∀ r, r ≠ 81 → K2 r = K r := fun r hr => by rw [← hK, q_s_ne hr, q_s_ne hr]
  have k9 : K2 81 9 = a := by rw [← hK, q_s_off (by omega), q_s_at]
  have k10 : K2 81 10 = b := by rw [← hK, q_s_at]
  have ko : ∀ j, j ≠ 9 → j ≠ 10 → K2 81 j = K 81 j := fun j h1 h2 => by rw [← hK, q_s_off h2, q_s_off h1]
  unfold MR
  rw [S01, S02, S0 0 (by omega) (by omega), S0 3 (by omega) (by omega), S0 4 (by omega) (by omega), S0 5 (by omega) (by omega), S0 6 (by omega) (by omega), Sr 1 (by omega), Sr 2 (by omega), Sr 3 (by omega), Sr 4 (by omega), Sr 5 (by omega), Sr 6 (by omega), kn 77 (by omega), kn 82 (by omega), kn 83 (by omega)]
  refine ⟨a1, a2, fun m hm => ?_, k9, k10, ?_, fun k hk => ?_, a8, a9, b1, b2, b3, fun i hi => ?_, ?_, ?_⟩
  · rw [ko m (by omega) (by omega)]; exact a3 m hm
  · rw [ko 21 (by omega) (by omega)]; exact a6
  · rw [ko _ (by omega) (by omega), ko _ (by omega) (by omega)]; exact a7 k hk
  · by_cases h1 : i = 9
    · subst h1; rw [k9]; exact ha
    · by_cases h2 : i = 10
      · subst h2; rw [k10]; exact hb
      · rw [ko i h1 h2]; exact b4 i hi
  · rw [ko 40 (by omega) (by omega)]; exact b5
  · rw [ko 59 (by omega) (by omega)]; exact b6
theorem nb_if {lo hi k v : Nat} : nb lo hi k (if k = 2 then v else 0) = nb lo hi k v := by
  unfold nb
  by_cases q : k = 2
  · rw [if_pos q]
  · rw [if_pos q, if_pos q]
theorem nb_le {lo hi k v : Nat} : nb lo hi k v ≤ 3 := by unfold nb; split <;> (try split) <;> omega
section
variable {Γ : q_G} {ad : Nat → Nat} {N : Nat → Nat → Nat} {L : Nat → Nat → Int} {G : Nat → Nat → Option Nat}
theorem k_readLaw {S : Nat → Nat → Nat} {ba p : Nat} (hG : GF ad G) (hl : N 77 10 ≤ 160) (ht : ∀ i, i < 160 → N 84 i < 128) (hcu : ∀ i, i < 10 → N 85 i = cu i) (hlw : ∀ i, i < 42 → N 86 i = lw i) (hR : MR S N) (hB : MB N) (hp : p ≤ N 77 10) (hk4 : (tkn (N 84) (N 77 10) p).1 ≠ 4) : q_Con Γ mX7_readLaw 3 0 0 [.ref (ad 77)] (LT ad, stp N ba p, L, G) (RS ad L G N (adL S (wrd9 (N 84) (N 77 10) p - 4) (tkV (N 84) (N 77 10) (tkE (N 84) (N 77 10) p))) ba (fLaw (N 84) (N 77 10) p) (pLaw (N 84) (N 77 10) p) (tkE (N 84) (N 77 10) (tkE (N 84) (N 77 10) p))) := by
  rw [stp_ok hk4]
  obtain ⟨t1, t2, t3, t4, t5, t6, t7, t8, t9⟩ := tkn_spec (t := N 84) hp
  have w9 := wrd9_rg (t := N 84) (len := N 77 10) (p := p)
  have w9e : wrd9 (N 84) (N 77 10) p = if (tkn (N 84) (N 77 10) p).1 = 1 then whf (N 84) (tkS (N 84) (N 77 10) p) (tkE (N 84) (N 77 10) p - tkS (N 84) (N 77 10) p) 9 0 else 4294967292 := rfl
  unfold fLaw pLaw
  rw [if_neg hk4, if_neg hk4]
  obtain ⟨u1, u2, u3, u4, u5, u6, u7, u8, u9⟩ := tkn_spec (t := N 84) t3
  have nok := nmbf_ok (t := N 84) (len := N 77 10) (p := tkE (N 84) (N 77 10) p) (lo := 0) (hi := 8)
  have vle := tkV_le (t := N 84) (len := N 77 10) (p := tkE (N 84) (N 77 10) p) t3
  generalize (if (tkn (N 84) (N 77 10) p).1 = 2 then tkV (N 84) (N 77 10) p else 0) = v0 at *
  generalize (tkn (N 84) (N 77 10) p).1 = k at *
  generalize tkE (N 84) (N 77 10) p = e at *
  generalize tkS (N 84) (N 77 10) p = s at *
  generalize wrd9 (N 84) (N 77 10) p = wd at *
  obtain ⟨N1, hN1⟩ : ∃ N1, q_s N 81 9 (wd - 4) = N1 := ⟨_, rfl⟩
  have e84 : N1 84 = N 84 := by rw [← hN1]; exact q_s_ne (by omega)
  have e10 : N1 77 10 = N 77 10 := by rw [← hN1, q_s_ne (by omega)]
  have fr1 : FR N N1 := by rw [← hN1]; exact FR.arr (Or.inl rfl)
  have mb1 : MB N1 := by rw [← hN1]; exact hB
  have st1 : (tkn (N 84) (N 77 10) e).1 ≠ 4 → stp N1 ba e = P7 N1 0 ba (tkE (N 84) (N 77 10) e) (tkS (N 84) (N 77 10) e) (tkn (N 84) (N 77 10) e).1 (if (tkn (N 84) (N 77 10) e).1 = 2 then tkV (N 84) (N 77 10) e else 0) := fun h => by
    have := stp_ok (N := N1) (ba := ba) (sp := e) (by rw [e84, e10]; exact h)
    rw [e84, e10] at this
    exact this
  have st4 : (tkn (N 84) (N 77 10) e).1 = 4 → ∃ e2 k2 v2, stp N1 ba e = P7 N1 1 (tkS (N 84) (N 77 10) e) e2 (tkS (N 84) (N 77 10) e) k2 v2 := fun h => by
    have := stp_bad (N := N1) (ba := ba) (sp := e) (by rw [e84, e10]; exact h)
    rw [e84, e10] at this
    exact this
  have mr1 : ∀ b, b < 26 → wd - 4 < 26 → MR (adL S (wd - 4) b) (q_s N1 81 10 b) := fun b q1 q2 => by rw [← hN1]; exact hR.addL q2 q1
  have hvv : (if (tkn (N 84) (N 77 10) e).1 = 2 then tkV (N 84) (N 77 10) e else 0) ≤ 99 := by
    by_cases q : (tkn (N 84) (N 77 10) e).1 = 2
    · rw [if_pos q]; exact vle q
    · rw [if_neg q]; omega
  have nl := nb_le (lo := 0) (hi := 8) (k := (tkn (N 84) (N 77 10) e).1) (v := tkV (N 84) (N 77 10) e)
  have h5 : ¬ (4 ≤ wd ∧ wd < 9) ∨ ((4 ≤ wd ∧ wd < 9) ∧ (tkn (N 84) (N 77 10) e).1 = 4) ∨ ((4 ≤ wd ∧ wd < 9) ∧ (tkn (N 84) (N 77 10) e).1 ≠ 4 ∧ nb 0 8 (tkn (N 84) (N 77 10) e).1 (tkV (N 84) (N 77 10) e) ≠ 0) ∨ ((4 ≤ wd ∧ wd < 9) ∧ (tkn (N 84) (N 77 10) e).1 ≠ 4 ∧ nb 0 8 (tkn (N 84) (N 77 10) e).1 (tkV (N 84) (N 77 10) e) = 0) := by omega
  rcases h5 with hw | ⟨hw, h4⟩ | ⟨hw, h4, hz⟩ | ⟨hw, h4, hz⟩
  · rw [if_neg hw, if_neg hw]
    obtain ⟨x, hx⟩ : ∃ x, wd + 4294967296 - 4 = x := ⟨_, rfl⟩
    have zz : z_s x < 0 := by
      rcases w9 with q | q
      · rw [z_s_hi (by omega) (by omega)]; omega
      · have e1 : x % 4294967296 = 4294967288 := by omega
        have e2 : z_s x = z_s 4294967288 := by
          show (nI x).toInt = (nI 4294967288).toInt
          rw [← z_mod x, e1]
        rw [e2, z_s_hi (by omega) (by omega)]; omega
    refine q_con (by decide) rfl rfl (Nat.le_of_ble_eq_true rfl) ?_
    refine q_aload_n 1 rfl rfl dX7_readLaw_0 ?_
    refine q_cV0 4 rfl lX7_131 (k_wordHere hG hl ht t2 t3 hcu hlw t4) rfl 77 t_77 rfl rfl rfl dX7_readLaw_1 ?_
    rw [← w9e]
    refine q_iconst 5 rfl 4 k_i4 dX7_readLaw_4 ?_
    refine q_isubG 6 rfl (by omega) dX7_readLaw_5 ?_
    rw [hx]
    refine q_istore_n 7 rfl (by decide) dX7_readLaw_6 ?_
    refine q_aload_n 8 rfl rfl dX7_readLaw_7 ?_
    refine q_getI 11 rfl fX7_76 rfl 77 t_77 dX7_readLaw_8 ?_
    rw [P7_12]
    refine q_if_ne 14 rfl 23 (by decide) (by omega) dX7_readLaw_11 (fun h11 => ?_) (fun h11 => ?_)
    · exfalso; omega
    · refine q_iload_n 15 rfl rfl dX7_readLaw_14 ?_
      have z00 : z_s 0 = 0 := rfl
      refine q_ifS_ge 18 rfl 23 (by decide) dX7_readLaw_15 (fun h15 => ?_) (fun h15 => ?_)
      · exfalso; omega
      · refine q_aload_n 19 rfl rfl dX7_readLaw_18 ?_
        refine q_iconst 20 rfl 2 k_i2 dX7_readLaw_19 ?_
        refine q_cV1v 23 rfl lX7_106 (k_fails hG (by omega)) rfl 77 t_77 rfl rfl rfl dX7_readLaw_20 ?_
        rw [if_pos rfl]
        refine q_aload_n 24 rfl rfl dX7_readLaw_23 ?_
        refine q_getR 27 rfl fX7_19 rfl 77 t_77 (g_77_4 hG) dX7_readLaw_24 ?_
        refine q_bipush 29 rfl 9 k_b9 dX7_readLaw_27 ?_
        refine q_iload_n 30 rfl rfl dX7_readLaw_29 ?_
        refine q_iast 31 rfl 81 t_81 (by omega) (by decide) dX7_readLaw_30 ?_
        rw [P7_as (by decide)]
        refine q_aload_n 32 rfl rfl dX7_readLaw_31 ?_
        refine q_cV0v 35 rfl lX7_110 (k_stepB hG (by decide) (by decide)) rfl 77 t_77 rfl rfl rfl dX7_readLaw_32 ?_
        refine q_aload_n 36 rfl rfl dX7_readLaw_35 ?_
        refine q_getR 39 rfl fX7_19 rfl 77 t_77 (g_77_4 hG) dX7_readLaw_36 ?_
        refine q_bipush 41 rfl 10 k_b10 dX7_readLaw_39 ?_
        refine q_aload_n 42 rfl rfl dX7_readLaw_41 ?_
        refine q_iconst 43 rfl 0 k_i0 dX7_readLaw_42 ?_
        refine q_bipush 45 rfl 8 k_b8 dX7_readLaw_43 ?_
        refine q_cV2 48 rfl lX7_127 (k_numberB hG (by decide) (by decide)) rfl 77 t_77 rfl rfl rfl dX7_readLaw_45 ?_
        refine q_iast 49 rfl 81 t_81 (by omega) (by decide) dX7_readLaw_48 ?_
        rw [P7_as (by decide)]
        refine q_vret rfl dX7_readLaw_49 ?_
        exact ⟨rfl, Or.inl ⟨by decide, _, _, _, _, _, rfl, (FR.arr (Or.inl rfl)).tr (FR.arr (Or.inl rfl)), hB⟩⟩
  · obtain ⟨e3, k3, v3, hst⟩ := st4 h4
    rw [if_pos hw, if_pos hw, nmbf, if_pos h4]
    refine q_con (by decide) rfl rfl (Nat.le_of_ble_eq_true rfl) ?_
    refine q_aload_n 1 rfl rfl dX7_readLaw_0 ?_
    refine q_cV0 4 rfl lX7_131 (k_wordHere hG hl ht t2 t3 hcu hlw t4) rfl 77 t_77 rfl rfl rfl dX7_readLaw_1 ?_
    rw [← w9e]
    refine q_iconst 5 rfl 4 k_i4 dX7_readLaw_4 ?_
    refine q_isub 6 rfl (by omega) dX7_readLaw_5 ?_
    refine q_istore_n 7 rfl (by decide) dX7_readLaw_6 ?_
    refine q_aload_n 8 rfl rfl dX7_readLaw_7 ?_
    refine q_getI 11 rfl fX7_76 rfl 77 t_77 dX7_readLaw_8 ?_
    rw [P7_12]
    refine q_if_ne 14 rfl 23 (by decide) (by omega) dX7_readLaw_11 (fun h11 => ?_) (fun h11 => ?_)
    · exfalso; omega
    · refine q_iload_n 15 rfl rfl dX7_readLaw_14 ?_
      refine q_ifN_ge 18 rfl 23 (by decide) (by omega) dX7_readLaw_15 (fun h15 => ?_) (fun h15 => ?_)
      · refine q_aload_n 24 rfl rfl dX7_readLaw_23 ?_
        refine q_getR 27 rfl fX7_19 rfl 77 t_77 (g_77_4 hG) dX7_readLaw_24 ?_
        refine q_bipush 29 rfl 9 k_b9 dX7_readLaw_27 ?_
        refine q_iload_n 30 rfl rfl dX7_readLaw_29 ?_
        refine q_iast 31 rfl 81 t_81 (by omega) (by decide) dX7_readLaw_30 ?_
        rw [P7_as (by decide)]
        rw [hN1]
        refine q_aload_n 32 rfl rfl dX7_readLaw_31 ?_
        refine q_cV0v 35 rfl lX7_110 (k_step0 (N := N1) hG (by rw [e10]; exact hl) (by rw [e84]; exact ht) (by rw [e10]; exact t3)) rfl 77 t_77 rfl rfl rfl dX7_readLaw_32 ?_
        rw [hst]
        refine q_aload_n 36 rfl rfl dX7_readLaw_35 ?_
        refine q_getR 39 rfl fX7_19 rfl 77 t_77 (g_77_4 hG) dX7_readLaw_36 ?_
        refine q_bipush 41 rfl 10 k_b10 dX7_readLaw_39 ?_
        refine q_aload_n 42 rfl rfl dX7_readLaw_41 ?_
        refine q_iconst 43 rfl 0 k_i0 dX7_readLaw_42 ?_
        refine q_bipush 45 rfl 8 k_b8 dX7_readLaw_43 ?_
        refine q_cV2 48 rfl lX7_127 (k_numberB hG (by decide) (by decide)) rfl 77 t_77 rfl rfl rfl dX7_readLaw_45 ?_
        refine q_iast 49 rfl 81 t_81 (by omega) (by decide) dX7_readLaw_48 ?_
        rw [P7_as (by decide)]
        refine q_vret rfl dX7_readLaw_49 ?_
        exact ⟨rfl, Or.inl ⟨by decide, _, _, _, _, _, rfl, fr1.tr (FR.arr (Or.inl rfl)), mb1⟩⟩
      · exfalso; omega
  · rw [if_pos hw, if_pos hw, nmbf, if_neg h4]
    refine q_con (by decide) rfl rfl (Nat.le_of_ble_eq_true rfl) ?_
    refine q_aload_n 1 rfl rfl dX7_readLaw_0 ?_
    refine q_cV0 4 rfl lX7_131 (k_wordHere hG hl ht t2 t3 hcu hlw t4) rfl 77 t_77 rfl rfl rfl dX7_readLaw_1 ?_
    rw [← w9e]
    refine q_iconst 5 rfl 4 k_i4 dX7_readLaw_4 ?_
    refine q_isub 6 rfl (by omega) dX7_readLaw_5 ?_
    refine q_istore_n 7 rfl (by decide) dX7_readLaw_6 ?_
    refine q_aload_n 8 rfl rfl dX7_readLaw_7 ?_
    refine q_getI 11 rfl fX7_76 rfl 77 t_77 dX7_readLaw_8 ?_
    rw [P7_12]
    refine q_if_ne 14 rfl 23 (by decide) (by omega) dX7_readLaw_11 (fun h11 => ?_) (fun h11 => ?_)
    · exfalso; omega
    · refine q_iload_n 15 rfl rfl dX7_readLaw_14 ?_
      refine q_ifN_ge 18 rfl 23 (by decide) (by omega) dX7_readLaw_15 (fun h15 => ?_) (fun h15 => ?_)
      · refine q_aload_n 24 rfl rfl dX7_readLaw_23 ?_
        refine q_getR 27 rfl fX7_19 rfl 77 t_77 (g_77_4 hG) dX7_readLaw_24 ?_
        refine q_bipush 29 rfl 9 k_b9 dX7_readLaw_27 ?_
        refine q_iload_n 30 rfl rfl dX7_readLaw_29 ?_
        refine q_iast 31 rfl 81 t_81 (by omega) (by decide) dX7_readLaw_30 ?_
        rw [P7_as (by decide)]
        rw [hN1]
        refine q_aload_n 32 rfl rfl dX7_readLaw_31 ?_
        refine q_cV0v 35 rfl lX7_110 (k_step0 (N := N1) hG (by rw [e10]; exact hl) (by rw [e84]; exact ht) (by rw [e10]; exact t3)) rfl 77 t_77 rfl rfl rfl dX7_readLaw_32 ?_
        rw [st1 h4]
        refine q_aload_n 36 rfl rfl dX7_readLaw_35 ?_
        refine q_getR 39 rfl fX7_19 rfl 77 t_77 (g_77_4 hG) dX7_readLaw_36 ?_
        refine q_bipush 41 rfl 10 k_b10 dX7_readLaw_39 ?_
        refine q_aload_n 42 rfl rfl dX7_readLaw_41 ?_
        refine q_iconst 43 rfl 0 k_i0 dX7_readLaw_42 ?_
        refine q_bipush 45 rfl 8 k_b8 dX7_readLaw_43 ?_
        refine q_cV2 48 rfl lX7_127 (k_number (N := N1) hG (by rw [e10]; exact hl) (by rw [e84]; exact ht) (by omega) (by omega) (by rw [e10]; exact u3) (by omega) u4) rfl 77 t_77 rfl rfl rfl dX7_readLaw_45 ?_
        rw [nb_if, if_neg hz, if_neg hz]
        refine q_iast 49 rfl 81 t_81 (by omega) (by decide) dX7_readLaw_48 ?_
        rw [P7_as (by decide)]
        refine q_vret rfl dX7_readLaw_49 ?_
        exact ⟨rfl, Or.inl ⟨hz, _, _, _, _, _, rfl, fr1.tr (FR.arr (Or.inl rfl)), mb1⟩⟩
      · exfalso; omega
  · have hz2 : nmbf (N 84) (N 77 10) e 0 8 = 0 := by rw [nmbf, if_neg h4]; exact hz
    have hk2 := (nok hz2).1
    rw [if_pos hw, if_pos hw, hz2]
    refine q_con (by decide) rfl rfl (Nat.le_of_ble_eq_true rfl) ?_
    refine q_aload_n 1 rfl rfl dX7_readLaw_0 ?_
    refine q_cV0 4 rfl lX7_131 (k_wordHere hG hl ht t2 t3 hcu hlw t4) rfl 77 t_77 rfl rfl rfl dX7_readLaw_1 ?_
    rw [← w9e]
    refine q_iconst 5 rfl 4 k_i4 dX7_readLaw_4 ?_
    refine q_isub 6 rfl (by omega) dX7_readLaw_5 ?_
    refine q_istore_n 7 rfl (by decide) dX7_readLaw_6 ?_
    refine q_aload_n 8 rfl rfl dX7_readLaw_7 ?_
    refine q_getI 11 rfl fX7_76 rfl 77 t_77 dX7_readLaw_8 ?_
    rw [P7_12]
    refine q_if_ne 14 rfl 23 (by decide) (by omega) dX7_readLaw_11 (fun h11 => ?_) (fun h11 => ?_)
    · exfalso; omega
    · refine q_iload_n 15 rfl rfl dX7_readLaw_14 ?_
      refine q_ifN_ge 18 rfl 23 (by decide) (by omega) dX7_readLaw_15 (fun h15 => ?_) (fun h15 => ?_)
      · refine q_aload_n 24 rfl rfl dX7_readLaw_23 ?_
        refine q_getR 27 rfl fX7_19 rfl 77 t_77 (g_77_4 hG) dX7_readLaw_24 ?_
        refine q_bipush 29 rfl 9 k_b9 dX7_readLaw_27 ?_
        refine q_iload_n 30 rfl rfl dX7_readLaw_29 ?_
        refine q_iast 31 rfl 81 t_81 (by omega) (by decide) dX7_readLaw_30 ?_
        rw [P7_as (by decide)]
        rw [hN1]
        refine q_aload_n 32 rfl rfl dX7_readLaw_31 ?_
        refine q_cV0v 35 rfl lX7_110 (k_step0 (N := N1) hG (by rw [e10]; exact hl) (by rw [e84]; exact ht) (by rw [e10]; exact t3)) rfl 77 t_77 rfl rfl rfl dX7_readLaw_32 ?_
        rw [st1 h4]
        refine q_aload_n 36 rfl rfl dX7_readLaw_35 ?_
        refine q_getR 39 rfl fX7_19 rfl 77 t_77 (g_77_4 hG) dX7_readLaw_36 ?_
        refine q_bipush 41 rfl 10 k_b10 dX7_readLaw_39 ?_
        refine q_aload_n 42 rfl rfl dX7_readLaw_41 ?_
        refine q_iconst 43 rfl 0 k_i0 dX7_readLaw_42 ?_
        refine q_bipush 45 rfl 8 k_b8 dX7_readLaw_43 ?_
        refine q_cV2 48 rfl lX7_127 (k_number (N := N1) hG (by rw [e10]; exact hl) (by rw [e84]; exact ht) (by omega) (by omega) (by rw [e10]; exact u3) (by omega) u4) rfl 77 t_77 rfl rfl rfl dX7_readLaw_45 ?_
        rw [nb_if, if_pos hz, if_pos hz, if_pos hk2]
        refine q_iast 49 rfl 81 t_81 (by omega) (by decide) dX7_readLaw_48 ?_
        rw [stp_as (by decide) (by decide)]
        refine q_vret rfl dX7_readLaw_49 ?_
        exact ⟨rfl, Or.inr ⟨rfl, _, rfl, fr1.tr (FR.arr (Or.inl rfl)), mb1, mr1 _ (by have := (nok hz2).2.2; omega) (by omega)⟩⟩
      · exfalso; omega
end
