def rl6 (N : Nat → Nat → Nat) (q g m : Nat) : Bool := (N (q + 1) g).testBit m
/-- what a Search keeps -/
def SV (N : Nat → Nat → Nat) (q : Nat) : Prop := N q 0 ≤ 1 ∧ N q 4 ≤ 9 ∧ N q 5 < 2 ^ N q 4 ∧ (∀ n, n < N q 4 → N (q + 1) n < 2 ^ N q 4 ∧ N (q + 2) n ≤ 9) ∧ (∀ n, n < 9 → N (q + 1) n < 4294967296 ∧ N (q + 2) n < 4294967296) ∧ (∀ u, u &&& N q 5 = u → N (q + 3) u = cK (rl6 N q) (N q 4) (N (q + 2)) (N q 0) u) ∧ (N q 5 ≠ 0 → N q 6 = (amin (vK (rl6 N q) (N q 4) (N (q + 2)) (N q 0) (N q 5)) 1048576 (N q 4)).2)
def LC (N H : Nat → Nat → Nat) (q : Nat) (Rl : Nat → Nat → Bool) (c : Nat) (od : Nat → Nat) (s : Nat) : Prop := (∀ a, a ≠ q → a ≠ q + 1 → a ≠ q + 2 → a ≠ q + 3 → H a = N a) ∧ H q 0 = N q 0 ∧ SV H q ∧ (s ≠ 0 → H q 6 = (amin (vK Rl c od (N q 0) s) 1048576 c).2)
theorem lc_new {N M H : Nat → Nat → Nat} {q c s : Nat} {Rl : Nat → Nat → Bool} {od : Nat → Nat} (hc9 : c ≤ 9) (hb : N q 0 ≤ 1) (n0 : M q 0 = N q 0) (n4 : M q 4 = c) (n5 : M q 5 = s) (nr : ∀ g, g < c → M (q + 1) g = mk (Rl g) c) (no : ∀ n, n < c → M (q + 2) n = od n) (ho : ∀ n, n < c → od n ≤ 9) (nb : ∀ n, n < 9 → M (q + 1) n < 4294967296 ∧ M (q + 2) n < 4294967296) (na : ∀ a, a ≠ q → a ≠ q + 1 → a ≠ q + 2 → a ≠ q + 3 → M a = N a) (hs : s < 2 ^ c) (h : ST M H q s c Rl s) : H (q + 3) s = cK Rl c od (N q 0) s ∧ LC N H q Rl c od s := by
  obtain ⟨s1, s2, s3, s4⟩ := h
  have e0 : H q 0 = N q 0 := (s2 0 (by omega)).trans n0
  have e4 : H q 4 = c := (s2 4 (by omega)).trans n4
  have e5 : H q 5 = s := (s2 5 (by omega)).trans n5
  have e1 : H (q + 1) = M (q + 1) := s1 _ (by omega) (by omega)
  have e2 : H (q + 2) = M (q + 2) := s1 _ (by omega) (by omega)
  have er : ∀ g n, g < c → n < c → rl6 H q g n = Rl g n := fun g n hg hn => by rw [rl6, e1, nr g hg, mk_bit, decide_eq_true hn, Bool.true_and]
  have eo : ∀ n, n < c → H (q + 2) n = od n := fun n hn => by rw [e2]; exact no n hn
  have k1 : ∀ u, u &&& s = u → H (q + 3) u = cK Rl c od (N q 0) u := fun u hu => by
    rw [s3 u (sb_le hu) hu, n0]; exact cK_congr (fun _ _ _ _ => rfl) no
  refine ⟨k1 s (Nat.and_self s), fun a h1 h2 h3 h4 => ?_, e0, ⟨?_, ?_, ?_, ?_, ?_, ?_, ?_⟩, fun h0 => ?_⟩
  · rw [s1 a h1 h4, na a h1 h2 h3 h4]
  · rw [e0]; exact hb
  · rw [e4]; exact hc9
  · rw [e5, e4]; exact hs
  · rw [e4]
    intro n hn
    rw [e1, nr n hn, eo n hn]
    exact ⟨mk_lt _ _, ho n hn⟩
  · rw [e1, e2]; exact nb
  · rw [e5, e4, e0]
    intro u hu
    exact (k1 u hu).trans (cK_congr (fun g n a b => (er g n a b).symm) (fun n hn => (eo n hn).symm))
  · rw [e5, e4, e0]
    intro h0
    rw [s4 h0, n0]
    exact congrArg Prod.snd (vK_congr (fun g n a b => (er g n a b).symm) (fun n hn => (no n hn).trans (eo n hn).symm))
  · rw [s4 h0, n0]
    exact congrArg Prod.snd (vK_congr (fun _ _ _ _ => rfl) no)
theorem lc_old {N : Nat → Nat → Nat} {q r t c s : Nat} {Rl : Nat → Nat → Bool} (hV : SV N q) (hr : ∀ g, g < c → N r g = mk (Rl g) c) (h : asb N q r t c s = true) : N (q + 3) s = cK Rl c (N t) (N q 0) s ∧ LC N N q Rl c (N t) s := by
  obtain ⟨v0, v4, v5, v1, vb, v3, v6⟩ := id hV
  rw [asb, Bool.and_eq_true, decide_eq_true_eq] at h
  obtain ⟨⟨e4, e5⟩, ha⟩ := h
  have hp : ∀ n, n < c → N r n = N (q + 1) n ∧ N t n = N (q + 2) n := fun n hn => of_decide_eq_true (alw_at hn ha)
  have er : ∀ g n, g < c → n < c → rl6 N q g n = Rl g n := fun g n hg hn => by rw [rl6, ← (hp g hg).1, hr g hg, mk_bit, decide_eq_true hn, Bool.true_and]
  have eo : ∀ n, n < c → N (q + 2) n = N t n := fun n hn => (hp n hn).2.symm
  rw [← e4, ← e5] at v3 v6
  refine ⟨?_, fun _ _ _ _ _ => rfl, rfl, hV, fun h0 => ?_⟩
  · rw [v3 s (Nat.and_self s)]; exact cK_congr er eo
  · rw [v6 h0]; exact congrArg Prod.snd (vK_congr er eo)
def lcM (N : Nat → Nat → Nat) (q r t c s : Nat) : Nat → Nat → Nat := q_s (q_s (q_r (q_r N (q + 1) (va_cpy (N r) (N (q + 1)) 0 0 c)) (q + 2) (va_cpy (q_r N (q + 1) (va_cpy (N r) (N (q + 1)) 0 0 c) t) (q_r N (q + 1) (va_cpy (N r) (N (q + 1)) 0 0 c) (q + 2)) 0 0 c)) q 4 c) q 5 s
theorem lcM_f {N : Nat → Nat → Nat} {q r t c s : Nat} (ht : t < q ∨ q + 3 < t) : lcM N q r t c s q 0 = N q 0 ∧ lcM N q r t c s q 4 = c ∧ lcM N q r t c s q 5 = s ∧ lcM N q r t c s (q + 3) = N (q + 3) ∧ (∀ g, lcM N q r t c s (q + 1) g = if g < c then N r g else N (q + 1) g) ∧ (∀ g, lcM N q r t c s (q + 2) g = if g < c then N t g else N (q + 2) g) ∧ (∀ a, a ≠ q → a ≠ q + 1 → a ≠ q + 2 → a ≠ q + 3 → lcM N q r t c s a = N a) := by
  unfold lcM
  have cp : ∀ (f g : Nat → Nat) (j : Nat), va_cpy f g 0 0 c j = if j < c then f j else g j := fun f g j => by
    rw [va_cpy]
    by_cases h : j < c
    · rw [if_pos (by omega), if_pos h]; congr 1; omega
    · rw [if_neg (by omega), if_neg h]
  refine ⟨?_, ?_, ?_, ?_, fun g => ?_, fun g => ?_, fun a h1 h2 h3 h4 => ?_⟩
  · rw [q_s_off (by omega), q_s_off (by omega), q_r_ne (by omega), q_r_ne (by omega)]
  · rw [q_s_off (by omega), q_s_at]
  · rw [q_s_at]
  · rw [q_s_ne (by omega), q_s_ne (by omega), q_r_ne (by omega), q_r_ne (by omega)]
  · rw [q_s_ne (by omega), q_s_ne (by omega), q_r_ne (by omega), q_r_at, cp]
  · rw [q_s_ne (by omega), q_s_ne (by omega), q_r_at, cp, q_r_ne (by omega), q_r_ne (by omega)]
  · rw [q_s_ne h1, q_s_ne h1, q_r_ne h3, q_r_ne h2]
section
variable {Γ : q_G} {ad : Nat → Nat} {N : Nat → Nat → Nat} {L : Nat → Nat → Int} {G : Nat → Nat → Option Nat}
theorem k_leastCost {q r t c s : Nat} {Rl : Nat → Nat → Bool} (hG : GF ad G) (hq : isS q) (hT : (LT ad)[r]? = some (.inl (0, 9), ad r)) (hU : (LT ad)[t]? = some (.inl (0, 9), ad t)) (htq : t < q ∨ q + 3 < t) (hc9 : c ≤ 9) (hs : s < 2 ^ c) (hr : ∀ g, g < c → N r g = mk (Rl g) c) (ho : ∀ n, n < c → N t n ≤ 9) (hV : SV N q) : q_Con Γ mX4_leastCost 4 0 0 [.ref (ad q), .ref (ad r), .ref (ad t), .int (nI c), .int (nI s)] (LT ad, N, L, G) (fun v h => v = some (.int (nI (cK Rl c (N t) (N q 0) s))) ∧ ∃ H, h = (LT ad, H, L, G) ∧ LC N H q Rl c (N t) s) := by
  have p9 := p2_9 hc9
  have pp := Nat.two_pow_pos c
  obtain ⟨v0, v4, v5, v1, vb, v3, v6⟩ := id hV
  have v4p := p2_9 v4
  obtain ⟨m0, m4, m5, m3, m1, m2, ma⟩ := lcM_f (N := N) (q := q) (r := r) (t := t) (c := c) (s := s) htq
  have nr : ∀ g, g < c → lcM N q r t c s (q + 1) g = mk (Rl g) c := fun g hg => by rw [m1 g, if_pos hg]; exact hr g hg
  have no : ∀ n, n < c → lcM N q r t c s (q + 2) n = N t n := fun n hn => by rw [m2 n, if_pos hn]
  have hb : ∀ n, n < c → N r n < 4294967296 ∧ N (q + 1) n < 4294967296 ∧ N t n < 4294967296 ∧ N (q + 2) n < 4294967296 := fun n hn => by
    have a1 := vb n (by omega)
    have a2 := ho n hn
    have a3 := mk_lt (Rl n) c
    rw [← hr n hn] at a3
    exact ⟨by omega, a1.1, by omega, a1.2⟩
  have nb : ∀ n, n < 9 → lcM N q r t c s (q + 1) n < 4294967296 ∧ lcM N q r t c s (q + 2) n < 4294967296 := fun n hn => by
    rw [m1 n, m2 n]
    by_cases h : n < c
    · rw [if_pos h, if_pos h]; exact ⟨(hb n h).1, (hb n h).2.2.1⟩
    · rw [if_neg h, if_neg h]; exact vb n hn
  have h30 : N (q + 3) 0 = 0 := by rw [v3 0 (Nat.zero_and _)]; exact cst_0 _ _ _ _
  refine q_con (by decide) rfl rfl (Nat.le_of_ble_eq_true rfl) ?_
  refine q_iload_n 1 rfl rfl dX4_leastCost_0 ?_
  refine q_iconst 2 rfl 0 k_i0 dX4_leastCost_1 ?_
  refine q_bipush 4 rfl 9 k_b9 dX4_leastCost_2 ?_
  refine q_cS3 7 rfl lX4_25 (k_within (by omega) (by omega) (by omega)) rfl rfl rfl dX4_leastCost_4 ?_
  refine q_if_eqD 10 rfl 24 (by decide) dX4_leastCost_7 (fun h7 => ?_) (fun h7 => ?_)
  · exfalso; omega
  · refine q_iload 12 rfl rfl dX4_leastCost_10 ?_
    refine q_iconst 13 rfl 0 k_i0 dX4_leastCost_12 ?_
    refine q_iconst 14 rfl 1 k_i1 dX4_leastCost_13 ?_
    refine q_iload_n 15 rfl rfl dX4_leastCost_14 ?_
    refine q_ishl 16 rfl (by omega) dX4_leastCost_15 ?_
    rw [Nat.one_mul]
    refine q_iconst 17 rfl 1 k_i1 dX4_leastCost_16 ?_
    refine q_isub 18 rfl (by omega) dX4_leastCost_17 ?_
    refine q_cS3 21 rfl lX4_25 (k_within (by omega) (by omega) (by omega)) rfl rfl rfl dX4_leastCost_18 ?_
    refine q_if_neD 24 rfl 26 (by decide) dX4_leastCost_21 (fun h21 => ?_) (fun h21 => ?_)
    · refine q_aload_n 27 rfl rfl dX4_leastCost_26 ?_
      refine q_aload_n 28 rfl rfl dX4_leastCost_27 ?_
      refine q_aload_n 29 rfl rfl dX4_leastCost_28 ?_
      refine q_iload_n 30 rfl rfl dX4_leastCost_29 ?_
      refine q_iload 32 rfl rfl dX4_leastCost_30 ?_
      refine q_cV4 35 rfl lX4_29 (k_asb hG hq hT hU hc9 hb (by omega) (by omega) (by omega)) rfl q (tS hq) rfl rfl rfl dX4_leastCost_32 ?_
      refine q_if_neB 38 rfl 75 (by decide) dX4_leastCost_35 (fun h35 => ?_) (fun h35 => ?_)
      · refine q_aload_n 76 rfl rfl dX4_leastCost_75 ?_
        refine q_getR 79 rfl fX4_18 rfl q (tS hq) (gS_3 hq hG) dX4_leastCost_76 ?_
        refine q_iload 81 rfl rfl dX4_leastCost_79 ?_
        refine q_iald 82 rfl (q + 3) (tS3 hq) (by omega) (by decide) dX4_leastCost_81 ?_
        refine q_iret rfl dX4_leastCost_82 ?_
        first
          | exact ⟨by rw [k1], _, rfl, k2⟩
          | exact ⟨by rw [(lc_old hV hr h35).1], _, rfl, (lc_old hV hr h35).2⟩
      · refine q_aload_n 39 rfl rfl dX4_leastCost_38 ?_
        refine q_iconst 40 rfl 0 k_i0 dX4_leastCost_39 ?_
        refine q_aload_n 41 rfl rfl dX4_leastCost_40 ?_
        refine q_getR 44 rfl fX4_9 rfl q (tS hq) (gS_1 hq hG) dX4_leastCost_41 ?_
        refine q_iconst 45 rfl 0 k_i0 dX4_leastCost_44 ?_
        refine q_iload_n 46 rfl rfl dX4_leastCost_45 ?_
        refine q_copy 49 rfl r (q + 1) hT (tS1 hq) (by omega) (by omega) (by decide) (by decide) laX4_33 la_nat la_sta la_ini (by decide) (by decide) dX4_leastCost_46 ?_
        refine q_aload_n 50 rfl rfl dX4_leastCost_49 ?_
        refine q_iconst 51 rfl 0 k_i0 dX4_leastCost_50 ?_
        refine q_aload_n 52 rfl rfl dX4_leastCost_51 ?_
        refine q_getR 55 rfl fX4_15 rfl q (tS hq) (gS_2 hq hG) dX4_leastCost_52 ?_
        refine q_iconst 56 rfl 0 k_i0 dX4_leastCost_55 ?_
        refine q_iload_n 57 rfl rfl dX4_leastCost_56 ?_
        refine q_copy 60 rfl t (q + 2) hU (tS2 hq) (by omega) (by omega) (by decide) (by decide) laX4_33 la_nat la_sta la_ini (by decide) (by decide) dX4_leastCost_57 ?_
        refine q_aload_n 61 rfl rfl dX4_leastCost_60 ?_
        refine q_iload_n 62 rfl rfl dX4_leastCost_61 ?_
        refine q_putI 65 rfl pX4_39 (fun q => by cases q) rfl q (tS hq) dX4_leastCost_62 ?_
        refine q_aload_n 66 rfl rfl dX4_leastCost_65 ?_
        refine q_iload 68 rfl rfl dX4_leastCost_66 ?_
        refine q_putI 71 rfl pX4_43 (fun q => by cases q) rfl q (tS hq) dX4_leastCost_68 ?_
        refine q_aload_n 72 rfl rfl dX4_leastCost_71 ?_
        refine q_cV0q 75 rfl lX4_46 (k_settleAll (N := lcM N q r t c s) (Rl := Rl) hG hq m4 hc9 (by omega) nr (fun n hn => by rw [no n hn]; exact ho n hn) m5 hs (by rw [m3]; exact h30)) rfl q (tS hq) rfl rfl rfl dX4_leastCost_72 ?_
        rintro v h ⟨rfl, H, rfl, hST⟩
        obtain ⟨k1, k2⟩ := lc_new (N := N) (od := N t) hc9 v0 m0 m4 m5 nr no ho nb ma hs hST
        refine q_aload_n 76 rfl rfl dX4_leastCost_75 ?_
        refine q_getR 79 rfl fX4_18 rfl q (tS hq) (gS_3 hq hG) dX4_leastCost_76 ?_
        refine q_iload 81 rfl rfl dX4_leastCost_79 ?_
        refine q_iald 82 rfl (q + 3) (tS3 hq) (by omega) (by decide) dX4_leastCost_81 ?_
        refine q_iret rfl dX4_leastCost_82 ?_
        first
          | exact ⟨by rw [k1], _, rfl, k2⟩
          | exact ⟨by rw [(lc_old hV hr h35).1], _, rfl, (lc_old hV hr h35).2⟩
    · exfalso; omega
end
