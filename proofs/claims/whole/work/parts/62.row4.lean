/-- three guesses as a row; its number -/
def tri (x y z k : Nat) : Nat := if k = 0 then x else if k = 1 then y else z
def num (c n x y z : Nat) : Nat := if n = 1 then x else if n = 2 then x * c + y else (x * c + y) * c + z
/-- three guesses of which a shorter row repeats its last -/
def rep (c n x y z : Nat) : Prop := x < c ∧ y < c ∧ z < c ∧ (n ≤ 1 → y = x) ∧ (n ≤ 2 → z = y)
theorem num_spec {c n x y z : Nat} (hn : 1 ≤ n) (hn3 : n ≤ 3) (h : rep c n x y z) : num c n x y z < c ^ n ∧ ∀ k, k < n → dig c n (num c n x y z) k = tri x y z k := by
  obtain ⟨hx, hy, hz, h1, h2⟩ := h
  have hc : 0 < c := by omega
  rcases (show n = 1 ∨ n = 2 ∨ n = 3 by omega) with rfl | rfl | rfl
  · refine ⟨by show x < c ^ 1; rw [Nat.pow_one]; exact hx, fun k hk => ?_⟩
    have e : k = 0 := by omega
    subst e
    show x / c ^ 0 % c = x
    rw [Nat.pow_zero, Nat.div_one, Nat.mod_eq_of_lt hx]
  · have e0 : (x * c + y) / c = x := by rw [Nat.add_comm, Nat.add_mul_div_right _ _ hc, Nat.div_eq_of_lt hy, Nat.zero_add]
    have e1 : (x * c + y) % c = y := by rw [Nat.add_comm, Nat.add_mul_mod_self_right, Nat.mod_eq_of_lt hy]
    refine ⟨?_, fun k hk => ?_⟩
    · show x * c + y < c ^ 2
      have : (x + 1) * c ≤ c * c := Nat.mul_le_mul_right c hx
      rw [Nat.succ_mul] at this
      rw [Nat.pow_two]; omega
    · rcases (show k = 0 ∨ k = 1 by omega) with rfl | rfl
      · show (x * c + y) / c ^ 1 % c = x
        rw [Nat.pow_one, e0, Nat.mod_eq_of_lt hx]
      · show (x * c + y) / c ^ 0 % c = y
        rw [Nat.pow_zero, Nat.div_one, e1]
  · have e0 : (x * c + y) / c = x := by rw [Nat.add_comm, Nat.add_mul_div_right _ _ hc, Nat.div_eq_of_lt hy, Nat.zero_add]
    have e1 : (x * c + y) % c = y := by rw [Nat.add_comm, Nat.add_mul_mod_self_right, Nat.mod_eq_of_lt hy]
    have e2 : ((x * c + y) * c + z) / c = x * c + y := by rw [Nat.add_comm, Nat.add_mul_div_right _ _ hc, Nat.div_eq_of_lt hz, Nat.zero_add]
    have e3 : ((x * c + y) * c + z) % c = z := by rw [Nat.add_comm, Nat.add_mul_mod_self_right, Nat.mod_eq_of_lt hz]
    refine ⟨?_, fun k hk => ?_⟩
    · show (x * c + y) * c + z < c ^ 3
      have a1 : (x + 1) * c ≤ c * c := Nat.mul_le_mul_right c hx
      rw [Nat.succ_mul] at a1
      have a2 : (x * c + y + 1) * c ≤ c * c * c := Nat.mul_le_mul_right c (by omega)
      rw [Nat.succ_mul] at a2
      rw [show c ^ 3 = c * c * c by rw [Nat.pow_succ, Nat.pow_two]]; omega
    · rcases (show k = 0 ∨ k = 1 ∨ k = 2 by omega) with rfl | rfl | rfl
      · show ((x * c + y) * c + z) / c ^ 2 % c = x
        rw [Nat.pow_two, ← Nat.div_div_eq_div_mul, e2, e0, Nat.mod_eq_of_lt hx]
      · show ((x * c + y) * c + z) / c ^ 1 % c = y
        rw [Nat.pow_one, e2, e1]
      · show ((x * c + y) * c + z) / c ^ 0 % c = z
        rw [Nat.pow_zero, Nat.div_one, e3]
theorem num_onto {c n w : Nat} (hn : 1 ≤ n) (hn3 : n ≤ 3) (hw : w < c ^ n) : ∃ x y z, rep c n x y z ∧ w = num c n x y z := by
  have hc : 0 < c := by
    rcases Nat.eq_zero_or_pos c with h | h
    · subst h; rw [Nat.zero_pow hn] at hw; omega
    · exact h
  rcases (show n = 1 ∨ n = 2 ∨ n = 3 by omega) with rfl | rfl | rfl
  · rw [Nat.pow_one] at hw
    exact ⟨w, w, w, ⟨hw, hw, hw, fun _ => rfl, fun _ => rfl⟩, rfl⟩
  · rw [Nat.pow_two] at hw
    have m := Nat.mod_lt w hc
    exact ⟨w / c, w % c, w % c, ⟨Nat.div_lt_of_lt_mul hw, m, m, fun q => absurd q (by omega), fun _ => rfl⟩, (by show w = w / c * c + w % c; rw [Nat.mul_comm, Nat.div_add_mod])⟩
  · have hw2 : w < c * (c * c) := by rw [show c ^ 3 = c * (c * c) by rw [Nat.pow_succ, Nat.pow_two, Nat.mul_assoc]] at hw; exact hw
    have m := Nat.mod_lt w hc
    have m2 := Nat.mod_lt (w / c) hc
    exact ⟨w / c / c, w / c % c, w % c, ⟨Nat.div_lt_of_lt_mul (Nat.div_lt_of_lt_mul hw2), m2, m, fun q => absurd q (by omega), fun q => absurd q (by omega)⟩, (by show w = (w / c / c * c + w / c % c) * c + w % c; rw [Nat.mul_comm (w / c / c), Nat.div_add_mod, Nat.mul_comm, Nat.div_add_mod])⟩
/-- numbers of rows go as their rows do -/
theorem num_lt {c n x y z p q r : Nat} (hc : c ≤ 9) (hn : 1 ≤ n) (hn3 : n ≤ 3) (h : rep c n x y z) (h2 : rep c n p q r) (hl : 81 * x + 9 * y + z < 81 * p + 9 * q + r) : num c n x y z < num c n p q r := by
  unfold rep at h h2
  have hc0 : 0 < c := by omega
  have cs : x < p ∨ (x = p ∧ y < q) ∨ (x = p ∧ y = q ∧ z < r) := by omega
  have big : ∀ u v t : Nat, u < v → t < c → u * c + t < v * c := fun u v t h1 h2 => by
    have : (u + 1) * c ≤ v * c := Nat.mul_le_mul_right c h1
    rw [Nat.succ_mul] at this
    omega
  rcases (show n = 1 ∨ n = 2 ∨ n = 3 by omega) with rfl | rfl | rfl
  · show x < p; omega
  · show x * c + y < p * c + q
    rcases cs with h3 | ⟨h3, h4⟩ | ⟨h3, h4, h5⟩
    · have := big x p y h3 (by omega); omega
    · subst h3; omega
    · omega
  · show (x * c + y) * c + z < (p * c + q) * c + r
    rcases cs with h3 | ⟨h3, h4⟩ | ⟨h3, h4, h5⟩
    · have a1 := big x p y h3 (by omega)
      have := big (x * c + y) (p * c + q) z (by omega) (by omega); omega
    · subst h3
      have := big (x * c + y) (x * c + q) z (by omega) (by omega); omega
    · subst h3; subst h4; omega
theorem gw_G3 {Rl : Nat → Nat → Bool} {c s n x y z : Nat} (hc : c ≤ 9) (hs : s < 2 ^ c) (hn : 1 ≤ n) (hn3 : n ≤ 3) (h : rep c n x y z) : gw Rl c s n (num c n x y z) = G3 Rl c s x y z := by
  obtain ⟨h1, h2⟩ := num_spec hn hn3 h
  rw [gw, grt_congr h2, grt_gm hc hs hn3, G3]
  refine gm_congr (fun a b _ _ => ?_)
  obtain ⟨hx, hy, hz, e1, e2⟩ := h
  rw [cde_eq]
  rcases (show n = 1 ∨ n = 2 ∨ n = 3 by omega) with rfl | rfl | rfl
  · have f1 := (e1 (by omega)).symm
    have f2 := (e2 (by omega)).symm
    subst f2; subst f1
    rw [← cde_eq]
    show (true && decide (aof Rl x a = aof Rl x b)) = _
    rw [Bool.true_and]
    exact decide_eq_decide.mpr (by rw [trv_eq]; exact ⟨fun q => ⟨q, q, q⟩, fun q => q.1⟩)
  · have f2 := (e2 (by omega)).symm
    subst f2
    rw [← cde_eq]
    show ((true && decide (aof Rl x a = aof Rl x b)) && decide (aof Rl y a = aof Rl y b)) = _
    rw [Bool.true_and, ← Bool.decide_and]
    exact decide_eq_decide.mpr (by rw [trv_eq]; exact ⟨fun q => ⟨q.1, q.2, q.2⟩, fun q => ⟨q.1, q.2.1⟩⟩)
  · rw [← cde_eq]
    show (((true && decide (aof Rl x a = aof Rl x b)) && decide (aof Rl y a = aof Rl y b)) && decide (aof Rl z a = aof Rl z b)) = _
    rw [Bool.true_and, ← Bool.decide_and, ← Bool.decide_and]
    exact decide_eq_decide.mpr (by rw [trv_eq]; exact ⟨fun q => ⟨q.1.1, q.1.2, q.2⟩, fun q => ⟨⟨q.1, q.2.1⟩, q.2.2⟩⟩)
/-- a row has its like that goes upwards, and comes no later -/
theorem srt {Rl : Nat → Nat → Bool} {c s n x y z : Nat} (hc : c ≤ 9) (h : rep c n x y z) : ∃ p q r, al c n p q r ∧ 81 * p + 9 * q + r ≤ 81 * x + 9 * y + z ∧ G3 Rl c s p q r = G3 Rl c s x y z := by
  obtain ⟨hx, hy, hz, e1, e2⟩ := h
  unfold al
  by_cases hn1 : n ≤ 1
  · exact ⟨x, y, z, by omega, by omega, rfl⟩
  · by_cases hn2 : n ≤ 2
    · have f2 := (e2 hn2).symm
      subst f2
      by_cases hxy : x ≤ y
      · exact ⟨x, y, y, by omega, by omega, rfl⟩
      · exact ⟨y, x, x, by omega, by omega, G3_perm (fun _ _ => ⟨fun q => ⟨q.2.1, q.1, q.1⟩, fun q => ⟨q.2.1, q.1, q.1⟩⟩)⟩
    · rcases (show (x ≤ y ∧ y ≤ z) ∨ (x ≤ z ∧ z < y) ∨ (y < x ∧ x ≤ z) ∨ (y ≤ z ∧ z < x) ∨ (z < x ∧ x ≤ y) ∨ (z < y ∧ y < x) by omega) with k | k | k | k | k | k
      · exact ⟨x, y, z, by omega, by omega, rfl⟩
      · exact ⟨x, z, y, by omega, by omega, G3_perm (fun _ _ => ⟨fun q => ⟨q.1, q.2.2, q.2.1⟩, fun q => ⟨q.1, q.2.2, q.2.1⟩⟩)⟩
      · exact ⟨y, x, z, by omega, by omega, G3_perm (fun _ _ => ⟨fun q => ⟨q.2.1, q.1, q.2.2⟩, fun q => ⟨q.2.1, q.1, q.2.2⟩⟩)⟩
      · exact ⟨y, z, x, by omega, by omega, G3_perm (fun _ _ => ⟨fun q => ⟨q.2.2, q.1, q.2.1⟩, fun q => ⟨q.2.1, q.2.2, q.1⟩⟩)⟩
      · exact ⟨z, x, y, by omega, by omega, G3_perm (fun _ _ => ⟨fun q => ⟨q.2.1, q.2.2, q.1⟩, fun q => ⟨q.2.2, q.1, q.2.1⟩⟩)⟩
      · exact ⟨z, y, x, by omega, by omega, G3_perm (fun _ _ => ⟨fun q => ⟨q.2.2, q.2.1, q.1⟩, fun q => ⟨q.2.2, q.2.1, q.1⟩⟩)⟩
theorem al_rep {c n x y z : Nat} (h : al c n x y z) : rep c n x y z := by unfold al at h; unfold rep; omega
theorem row_fin {N H : Nat → Nat → Nat} {Rl : Nat → Nat → Bool} {c s n : Nat} (hc : c ≤ 9) (h0 : 0 < c) (hs : s < 2 ^ c) (hn : 1 ≤ n) (hn3 : n ≤ 3) (h : RW N H Rl c s n (91 * c)) : H 45 2 = (amin (gw Rl c s n) 1000 (c ^ n)).1 ∧ ∀ k, k < n → H 46 k = dig c n (amin (gw Rl c s n) 1000 (c ^ n)).2 k := by
  obtain ⟨h1, h2, h3, h4⟩ := h
  have hp : 0 < c ^ n := Nat.pow_pos h0
  have g0 : ∀ w, gw Rl c s n w ≤ 26 := fun w => grt_le
  have a1 := amin_le_at (gw Rl c s n) 1000 (c ^ n) 0 hp
  have a2 := g0 0
  obtain ⟨b1, b2, b3⟩ := amin_which (gw Rl c s n) 1000 (c ^ n) (by omega)
  have b4 := amin_le_at (gw Rl c s n) 1000 (c ^ n)
  generalize (amin (gw Rl c s n) 1000 (c ^ n)).1 = m at *
  generalize (amin (gw Rl c s n) 1000 (c ^ n)).2 = w0 at *
  obtain ⟨x, y, z, hr, hw⟩ := num_onto hn hn3 b1
  obtain ⟨p, q, r, s1, s2, s3⟩ := srt (Rl := Rl) (s := s) hc hr
  have gx := gw_G3 (Rl := Rl) hc hs hn hn3 hr
  have gp := gw_G3 (Rl := Rl) hc hs hn hn3 (al_rep s1)
  rw [← hw] at gx
  have same : 81 * p + 9 * q + r = 81 * x + 9 * y + z := by
    rcases Nat.lt_or_eq_of_le s2 with k | k
    · have l1 := num_lt hc hn hn3 (al_rep s1) hr k
      rw [← hw] at l1
      have := b3 _ l1
      omega
    · exact k
  have exyz : p = x ∧ q = y ∧ r = z := by unfold al at s1; unfold rep at hr; omega
  obtain ⟨rfl, rfl, rfl⟩ := exyz
  have l1 := h3 p q r s1 (by unfold al at s1; omega)
  have l2 := G3_le (Rl := Rl) (c := c) (s := s) (a := p) (b := q) (d := r)
  obtain ⟨c1, c2, c3⟩ := h4 (by omega)
  have gb := gw_G3 (Rl := Rl) hc hs hn hn3 (al_rep c1)
  obtain ⟨n1, n2⟩ := num_spec hn hn3 (al_rep c1)
  have l3 := b4 _ n1
  have em : H 45 2 = m := by omega
  have nb : ¬ 81 * p + 9 * q + r < 81 * H 46 0 + 9 * H 46 1 + H 46 2 := fun k => by have := c3 p q r s1 k; omega
  have na : ¬ 81 * H 46 0 + 9 * H 46 1 + H 46 2 < 81 * p + 9 * q + r := fun k => by
    have l4 := num_lt hc hn hn3 (al_rep c1) hr k
    rw [← hw] at l4
    have := b3 _ l4
    omega
  have eb : H 46 0 = p ∧ H 46 1 = q ∧ H 46 2 = r := by unfold al at s1 c1; omega
  obtain ⟨k0, k1, k2⟩ := eb
  refine ⟨em, fun k hk => ?_⟩
  obtain ⟨_, m2⟩ := num_spec hn hn3 hr
  rw [hw, m2 k hk]
  unfold tri
  rcases (show k = 0 ∨ k = 1 ∨ k = 2 by omega) with rfl | rfl | rfl
  · exact k0
  · exact k1
  · exact k2
section
variable {Γ : q_G} {ad : Nat → Nat} {N : Nat → Nat → Nat} {L : Nat → Nat → Int} {G : Nat → Nat → Option Nat}
theorem k_row6 {X Y : Nat} {s : Nat} {nm nw c : Nat} {Rl : Nat → Nat → Bool} (hG : GF ad G) (hX : CX ad G N nm nw c Rl) (hsd : can6 N nm nw c Rl (N nw 6) = s) (hI : MI N nm c) (hXX : X < 4294967296) (hYY : Y < 4294967296) : q_Con Γ mX6_row 4 0 0 [.ref (ad 0), .int (nI X), .int (nI Y)] (LT ad, N, L, G) (q_m6 ad N L G nm c (some (.int (nI (rwv Rl c X Y s))))) := by
  obtain ⟨hnm, hnw, hv5, hv6, hN, hM, hnr⟩ := id hX
  have hc : N nm 0 = c := hN.1
  have hc9 : c ≤ 9 := hN.2.1
  obtain ⟨hkd, hms, hpr, hpf, hps, hg9, hgn, hga, hh6, hhp, hhl, hhi, hod, ho1⟩ := id hM
  have hs9 : s < 512 := hsd ▸ can_lt hc9
  have hsc : s < 2 ^ c := hsd ▸ mk_lt _ c
  have hw : nw = 9 ∨ nw = 24 ∨ nw = 51 ∨ nw = 60 := hnw
  have pp : s ≠ 0 → 0 < c := fun q => by
    rcases Nat.eq_zero_or_pos c with e | e
    · rw [e] at hsc; simp at hsc; exact absurd hsc q
    · exact e
  refine q_con (by decide) rfl rfl (Nat.le_of_ble_eq_true rfl) ?_
  refine q_iload_n 1 rfl rfl dX6_row_0 ?_
  refine q_iconst 2 rfl 1 k_i1 dX6_row_1 ?_
  refine q_iconst 3 rfl 3 k_i3 dX6_row_2 ?_
  refine q_cS3 6 rfl lX6_87 (k_within hXX (by omega) (by omega)) rfl rfl rfl dX6_row_3 ?_
  refine q_if_eqD 9 rfl 28 (by decide) dX6_row_6 (fun h6 => ?_) (fun h6 => ?_)
  · refine q_iconst 29 rfl 4294967295 k_im1 dX6_row_28 ?_
    refine q_iret rfl dX6_row_29 ?_
    first
      | (refine ⟨?_, _, rfl, KP.rf, hI⟩; rw [rwv, if_neg (by omega)]; done)
      | (refine ⟨?_, _, rfl, KP.rf, hI⟩; rw [rwv, if_pos (by omega), if_pos (by assumption)]; done)
      | (refine ⟨?_, _, rfl, hK2, hI2⟩; rw [rwv, if_pos (by omega), if_neg (by assumption), if_pos (by assumption)]; done)
      | (refine ⟨?_, _, rfl, hK2, hI2⟩; rw [rwv, if_pos (by omega), if_neg (by assumption), if_neg (by assumption)])
  · refine q_iload_n 10 rfl rfl dX6_row_9 ?_
    refine q_if_eq 13 rfl 30 (by decide) (by omega) dX6_row_10 (fun h10 => ?_) (fun h10 => ?_)
    · refine q_aload_n 31 rfl rfl dX6_row_30 ?_
      refine q_cV0 34 rfl lX6_183 (k_possS hG hX hsd) rfl 0 t_0 rfl rfl rfl dX6_row_31 ?_
      refine q_istore_n 35 rfl (by decide) dX6_row_34 ?_
      refine q_iload_n 36 rfl rfl dX6_row_35 ?_
      refine q_if_ne 39 rfl 42 (by decide) (by omega) dX6_row_36 (fun h36 => ?_) (fun h36 => ?_)
      · refine q_aload_n 43 rfl rfl dX6_row_42 ?_
        refine q_getR 46 rfl fX6_73 rfl 0 t_0 (g_0_15 hG) dX6_row_43 ?_
        refine q_aload_n 47 rfl rfl dX6_row_46 ?_
        refine q_getR 50 rfl fX6_54 rfl 0 t_0 (g_0_12 hG) dX6_row_47 ?_
        refine q_aload_n 51 rfl rfl dX6_row_50 ?_
        refine q_getR 54 rfl fX6_23 rfl 0 t_0 hv5 dX6_row_51 ?_
        refine q_getI 57 rfl fX6_115 rfl nm (tN hnm) dX6_row_54 ?_
        rw [hc]
        refine q_iload_n 58 rfl rfl dX6_row_57 ?_
        refine q_iload_n 59 rfl rfl dX6_row_58 ?_
        refine q_cV4q 62 rfl lX6_231 (k_find (Rl := Rl) hG hc9 hsc hnr (by omega)) rfl 45 t_45 rfl rfl rfl dX6_row_59 ?_
        rintro v h ⟨rfl, H, rfl, hR⟩
        obtain ⟨k1, k2⟩ := row_fin hc9 (pp (by assumption)) hsc (by omega) (by omega) hR
        have hK2 : KP N H := KP.of (fun a ha => hR.1 a (by omega) (by omega) (by omega))
        have hI2 : MI H nm c := hI.eq hnm (fun a q1 q2 => hR.1 a (by omega) (by omega) (by omega)) (by rw [hR.1 0 (by omega) (by omega) (by omega)])
        refine q_iload_n 63 rfl rfl dX6_row_62 ?_
        refine q_if_ne 66 rfl 76 (by decide) (by omega) dX6_row_63 (fun h63 => ?_) (fun h63 => ?_)
        · refine q_aload_n 77 rfl rfl dX6_row_76 ?_
          refine q_getR 80 rfl fX6_73 rfl 0 t_0 (g_0_15 hG) dX6_row_77 ?_
          refine q_getR 83 rfl fX6_238 rfl 45 t_45 (g_45_0 hG) dX6_row_80 ?_
          refine q_iload_n 84 rfl rfl dX6_row_83 ?_
          refine q_bipush 86 rfl 10 k_b10 dX6_row_84 ?_
          refine q_isub 87 rfl (by omega) dX6_row_86 ?_
          refine q_iald 88 rfl 46 t_46 (by omega) (by decide) dX6_row_87 ?_
          rw [k2 _ (by omega)]
          refine q_iret rfl dX6_row_88 ?_
          first
            | (refine ⟨?_, _, rfl, KP.rf, hI⟩; rw [rwv, if_neg (by omega)]; done)
            | (refine ⟨?_, _, rfl, KP.rf, hI⟩; rw [rwv, if_pos (by omega), if_pos (by assumption)]; done)
            | (refine ⟨?_, _, rfl, hK2, hI2⟩; rw [rwv, if_pos (by omega), if_neg (by assumption), if_pos (by assumption)]; done)
            | (refine ⟨?_, _, rfl, hK2, hI2⟩; rw [rwv, if_pos (by omega), if_neg (by assumption), if_neg (by assumption)])
        · refine q_aload_n 67 rfl rfl dX6_row_66 ?_
          refine q_getR 70 rfl fX6_73 rfl 0 t_0 (g_0_15 hG) dX6_row_67 ?_
          refine q_getI 73 rfl fX6_235 rfl 45 t_45 dX6_row_70 ?_
          rw [k1]
          refine q_goto 88 (by decide) dX6_row_73 ?_
          refine q_iret rfl dX6_row_88 ?_
          first
            | (refine ⟨?_, _, rfl, KP.rf, hI⟩; rw [rwv, if_neg (by omega)]; done)
            | (refine ⟨?_, _, rfl, KP.rf, hI⟩; rw [rwv, if_pos (by omega), if_pos (by assumption)]; done)
            | (refine ⟨?_, _, rfl, hK2, hI2⟩; rw [rwv, if_pos (by omega), if_neg (by assumption), if_pos (by assumption)]; done)
            | (refine ⟨?_, _, rfl, hK2, hI2⟩; rw [rwv, if_pos (by omega), if_neg (by assumption), if_neg (by assumption)])
      · refine q_bipush 41 rfl 4294967294 k_bm2 dX6_row_39 ?_
        refine q_iret rfl dX6_row_41 ?_
        first
          | (refine ⟨?_, _, rfl, KP.rf, hI⟩; rw [rwv, if_neg (by omega)]; done)
          | (refine ⟨?_, _, rfl, KP.rf, hI⟩; rw [rwv, if_pos (by omega), if_pos (by assumption)]; done)
          | (refine ⟨?_, _, rfl, hK2, hI2⟩; rw [rwv, if_pos (by omega), if_neg (by assumption), if_pos (by assumption)]; done)
          | (refine ⟨?_, _, rfl, hK2, hI2⟩; rw [rwv, if_pos (by omega), if_neg (by assumption), if_neg (by assumption)])
    · refine q_iload_n 14 rfl rfl dX6_row_13 ?_
      refine q_bipush 16 rfl 10 k_b10 dX6_row_14 ?_
      refine q_bipush 18 rfl 10 k_b10 dX6_row_16 ?_
      refine q_iload_n 19 rfl rfl dX6_row_18 ?_
      refine q_iadd 20 rfl dX6_row_19 ?_
      refine q_iconst 21 rfl 1 k_i1 dX6_row_20 ?_
      refine q_isub 22 rfl (by omega) dX6_row_21 ?_
      refine q_cS3 25 rfl lX6_87 (k_within hYY (by omega) (by omega)) rfl rfl rfl dX6_row_22 ?_
      refine q_if_neD 28 rfl 30 (by decide) dX6_row_25 (fun h25 => ?_) (fun h25 => ?_)
      · refine q_aload_n 31 rfl rfl dX6_row_30 ?_
        refine q_cV0 34 rfl lX6_183 (k_possS hG hX hsd) rfl 0 t_0 rfl rfl rfl dX6_row_31 ?_
        refine q_istore_n 35 rfl (by decide) dX6_row_34 ?_
        refine q_iload_n 36 rfl rfl dX6_row_35 ?_
        refine q_if_ne 39 rfl 42 (by decide) (by omega) dX6_row_36 (fun h36 => ?_) (fun h36 => ?_)
        · refine q_aload_n 43 rfl rfl dX6_row_42 ?_
          refine q_getR 46 rfl fX6_73 rfl 0 t_0 (g_0_15 hG) dX6_row_43 ?_
          refine q_aload_n 47 rfl rfl dX6_row_46 ?_
          refine q_getR 50 rfl fX6_54 rfl 0 t_0 (g_0_12 hG) dX6_row_47 ?_
          refine q_aload_n 51 rfl rfl dX6_row_50 ?_
          refine q_getR 54 rfl fX6_23 rfl 0 t_0 hv5 dX6_row_51 ?_
          refine q_getI 57 rfl fX6_115 rfl nm (tN hnm) dX6_row_54 ?_
          rw [hc]
          refine q_iload_n 58 rfl rfl dX6_row_57 ?_
          refine q_iload_n 59 rfl rfl dX6_row_58 ?_
          refine q_cV4q 62 rfl lX6_231 (k_find (Rl := Rl) hG hc9 hsc hnr (by omega)) rfl 45 t_45 rfl rfl rfl dX6_row_59 ?_
          rintro v h ⟨rfl, H, rfl, hR⟩
          obtain ⟨k1, k2⟩ := row_fin hc9 (pp (by assumption)) hsc (by omega) (by omega) hR
          have hK2 : KP N H := KP.of (fun a ha => hR.1 a (by omega) (by omega) (by omega))
          have hI2 : MI H nm c := hI.eq hnm (fun a q1 q2 => hR.1 a (by omega) (by omega) (by omega)) (by rw [hR.1 0 (by omega) (by omega) (by omega)])
          refine q_iload_n 63 rfl rfl dX6_row_62 ?_
          refine q_if_ne 66 rfl 76 (by decide) (by omega) dX6_row_63 (fun h63 => ?_) (fun h63 => ?_)
          · refine q_aload_n 77 rfl rfl dX6_row_76 ?_
            refine q_getR 80 rfl fX6_73 rfl 0 t_0 (g_0_15 hG) dX6_row_77 ?_
            refine q_getR 83 rfl fX6_238 rfl 45 t_45 (g_45_0 hG) dX6_row_80 ?_
            refine q_iload_n 84 rfl rfl dX6_row_83 ?_
            refine q_bipush 86 rfl 10 k_b10 dX6_row_84 ?_
            refine q_isub 87 rfl (by omega) dX6_row_86 ?_
            refine q_iald 88 rfl 46 t_46 (by omega) (by decide) dX6_row_87 ?_
            rw [k2 _ (by omega)]
            refine q_iret rfl dX6_row_88 ?_
            first
              | (refine ⟨?_, _, rfl, KP.rf, hI⟩; rw [rwv, if_neg (by omega)]; done)
              | (refine ⟨?_, _, rfl, KP.rf, hI⟩; rw [rwv, if_pos (by omega), if_pos (by assumption)]; done)
              | (refine ⟨?_, _, rfl, hK2, hI2⟩; rw [rwv, if_pos (by omega), if_neg (by assumption), if_pos (by assumption)]; done)
              | (refine ⟨?_, _, rfl, hK2, hI2⟩; rw [rwv, if_pos (by omega), if_neg (by assumption), if_neg (by assumption)])
          · refine q_aload_n 67 rfl rfl dX6_row_66 ?_
            refine q_getR 70 rfl fX6_73 rfl 0 t_0 (g_0_15 hG) dX6_row_67 ?_
            refine q_getI 73 rfl fX6_235 rfl 45 t_45 dX6_row_70 ?_
            rw [k1]
            refine q_goto 88 (by decide) dX6_row_73 ?_
            refine q_iret rfl dX6_row_88 ?_
            first
              | (refine ⟨?_, _, rfl, KP.rf, hI⟩; rw [rwv, if_neg (by omega)]; done)
              | (refine ⟨?_, _, rfl, KP.rf, hI⟩; rw [rwv, if_pos (by omega), if_pos (by assumption)]; done)
              | (refine ⟨?_, _, rfl, hK2, hI2⟩; rw [rwv, if_pos (by omega), if_neg (by assumption), if_pos (by assumption)]; done)
              | (refine ⟨?_, _, rfl, hK2, hI2⟩; rw [rwv, if_pos (by omega), if_neg (by assumption), if_neg (by assumption)])
        · refine q_bipush 41 rfl 4294967294 k_bm2 dX6_row_39 ?_
          refine q_iret rfl dX6_row_41 ?_
          first
            | (refine ⟨?_, _, rfl, KP.rf, hI⟩; rw [rwv, if_neg (by omega)]; done)
            | (refine ⟨?_, _, rfl, KP.rf, hI⟩; rw [rwv, if_pos (by omega), if_pos (by assumption)]; done)
            | (refine ⟨?_, _, rfl, hK2, hI2⟩; rw [rwv, if_pos (by omega), if_neg (by assumption), if_pos (by assumption)]; done)
            | (refine ⟨?_, _, rfl, hK2, hI2⟩; rw [rwv, if_pos (by omega), if_neg (by assumption), if_neg (by assumption)])
      · refine q_iconst 29 rfl 4294967295 k_im1 dX6_row_28 ?_
        refine q_iret rfl dX6_row_29 ?_
        first
          | (refine ⟨?_, _, rfl, KP.rf, hI⟩; rw [rwv, if_neg (by omega)]; done)
          | (refine ⟨?_, _, rfl, KP.rf, hI⟩; rw [rwv, if_pos (by omega), if_pos (by assumption)]; done)
          | (refine ⟨?_, _, rfl, hK2, hI2⟩; rw [rwv, if_pos (by omega), if_neg (by assumption), if_pos (by assumption)]; done)
          | (refine ⟨?_, _, rfl, hK2, hI2⟩; rw [rwv, if_pos (by omega), if_neg (by assumption), if_neg (by assumption)])
end
