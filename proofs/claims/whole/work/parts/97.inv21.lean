/-- when only the model's page kept aside has changed -/
theorem IV.aside {ad : Nat → Nat} {G : Nat → Nat → Option Nat} {N M : Nat → Nat → Nat} {nm nw dn dm c : Nat} (h : IV ad G N nm nw dn dm c) (e : ∀ a, a ≠ 78 → M a = N a) (e78 : ∀ i, i < 180 → M 78 i = N 78 i) (hb : ∀ i, i < 240 → M 78 i < 26) : IV ad G M nm nw dn dm c := by
  obtain ⟨hG, ⟨c1, c2, c3, c4, c5⟩, ⟨t1, t2, t3, t4, t5, t6, t7, t8⟩, ⟨m1, m2, m3, m4⟩, ⟨n1, n2, n3⟩, hI, hS⟩ := h
  obtain ⟨g1, g2, g3, g4, g5, _⟩ := id hG
  have g21 := g2.1
  have g22 := g2.2
  have hc9 : c ≤ 9 := c1.2.1
  have e79 := e 79 (by omega)
  have r7 : R7 M = R7 N := R7_eq (e78 9 (by omega)) (e78 10 (by omega)) e79
  obtain ⟨mc, mcc, mb, ml, ms, mk_, mms, mpr, mg9, mh, mgn, mga, mod_, mo1⟩ := id m1
  obtain ⟨hkd, hms, hpr, hpf, hps, hg9, hgn, hga, hh6, hhp, hhl, hhi, hod, ho1⟩ := id c2
  have pv : ∀ p q, p ≤ 120 → q + 8 < 78 → CM N q c → PV N p q c → PV M p q c := fun p q hp hq hC hP => by
    obtain ⟨p1, p2, p3, p4, p5, p6, p7, p8, p9⟩ := hP
    obtain ⟨_, _, u3, _, _, u6, _, _, u9, _⟩ := hC
    unfold PV
    rw [e q (by omega), e (q + 1) (by omega), e (q + 2) (by omega), e (q + 3) (by omega), e (q + 4) (by omega), e (q + 5) (by omega), e (q + 6) (by omega), e (q + 7) (by omega), e (q + 8) (by omega)]
    exact ⟨fun n hn => by rw [e78 _ (by omega)]; exact p1 n hn, by rw [e78 _ (by omega)]; exact p2, by rw [e78 _ (by omega)]; exact p3, by rw [e78 _ (by omega)]; exact p4, fun k hk => by rw [e78 _ (by omega), e78 _ (by omega)]; exact p5 k hk, by rw [e78 _ (by omega)]; exact p6, fun k hk => by rw [e78 _ (by omega), e78 _ (by omega)]; exact p7 k hk, by rw [e78 _ (by omega)]; exact p8, fun k hk => by rw [e78 _ (by omega), e78 _ (by omega), e78 _ (by omega)]; exact p9 k hk⟩
  refine ⟨hG, ⟨c1.eq (fun a _ _ => e a (by omega)), c2.eq (fun a _ _ => e a (by omega)), ?_, c4.same (fun a _ => e a (by omega)), c5.eq g2.1 (fun a _ _ => e a (by omega)) (by rw [e 0 (by omega)])⟩, ⟨?_, ?_, ?_, ?_, ?_, ?_, ?_, ?_⟩, ⟨?_, m2.eq (e 82 (by omega)) (e 83 (by omega)), ?_, ?_⟩, ⟨n1.eq e79 (fun a _ _ => e a (by omega)), n2.eq (e 80 (by omega)) (fun a _ _ => e a (by omega)), pv 0 nw (by omega) (by omega) c2 n3⟩, ?_, ?_⟩
  · rw [e 36 (by omega), r7]; exact c3
  · rw [e 0 (by omega)]; exact t1
  · rw [e 1 (by omega)]; exact t2
  · rw [e 77 (by omega), e 0 (by omega)]; exact t3
  · rw [e 84 (by omega), e 1 (by omega)]; exact t4
  · rw [e 77 (by omega), e 0 (by omega)]; exact t5
  · rw [e 0 (by omega)]; exact t6
  · rw [e 77 (by omega), e 0 (by omega)]; exact t7
  · rw [e 0 (by omega)]; exact t8
  · unfold MS
    rw [e 77 (by omega), e79, e78 9 (by omega), e78 10 (by omega), e78 21 (by omega), e78 40 (by omega), e78 59 (by omega)]
    exact ⟨mc, mcc, mb, ml, hb, mk_, mms, mpr, mg9, mh, fun k hk => by rw [e78 _ (by omega)]; exact mgn k hk, fun k hk => by rw [e78 _ (by omega)]; exact mga k hk, fun n hn => by rw [e78 _ (by omega)]; exact mod_ n hn, fun n hn => by rw [e78 _ (by omega)]; exact mo1 n hn⟩
  · rw [e 85 (by omega)]; exact m3
  · rw [e 86 (by omega)]; exact m4
  · intro i hi
    obtain ⟨i1, i2, i3⟩ := hI i hi
    rw [e 34 (by omega), e 92 (by omega)]
    exact ⟨⟨i1.1, fun n hn => by rw [e78 _ (by omega)]; exact i1.2 n hn⟩, i2, fun q => ⟨(i3 q).1.eq (fun a _ _ => e a (by omega)), pv _ _ (by omega) (by omega) (i3 q).1 (i3 q).2⟩⟩
  · intro x hx
    obtain ⟨s1, s2, s3, s4⟩ := hS x hx
    rw [e 93 (by omega), e 94 (by omega), e 95 (by omega), e (69 + 2 * x) (by omega), e (69 + 2 * x + 1) (by omega)]
    exact ⟨s1.eq (e (69 + 2 * x) (by omega)), s2, s3, s4⟩
/-- what guesses read so far leave as it was -/
def FRD (N K0 : Nat → Nat → Nat) (nw : Nat) (H K : Nat → Nat → Nat) : Prop := (∀ a, a ≠ nw → a ≠ nw + 4 → a ≠ nw + 5 → H a = N a) ∧ (∀ i, i ≠ 6 → H nw i = N nw i) ∧ N nw 6 ≤ H nw 6 ∧ (∀ k, k < N nw 6 → H (nw + 4) k = N (nw + 4) k ∧ H (nw + 5) k = N (nw + 5) k) ∧ (∀ i, 60 ≤ i → K 78 i = K0 78 i) ∧ (∀ a, a ≠ 78 → K a = K0 a)
theorem ad2_r {H : Nat → Nat → Nat} {f : Nat → Nat} {nw x y a : Nat} (hn : nw + 5 < 78) (ha : a ≠ 78) : ad2 (q_r H 78 f) nw 6 4 5 x y a = ad2 H nw 6 4 5 x y a := by
  unfold ad2
  rw [q_r_ne (show nw ≠ 78 by omega)]
  by_cases h1 : a = nw
  · subst h1
    funext j
    by_cases hj : j = 6
    · subst hj; rw [q_s_at, q_s_at]
    · rw [q_s_off hj, q_s_off hj, q_s_ne (by omega), q_s_ne (by omega), q_s_ne (by omega), q_s_ne (by omega), q_r_ne ha]
  · rw [q_s_ne h1, q_s_ne h1]
    by_cases h5 : a = nw + 5
    · subst h5
      funext j
      by_cases hj : j = H nw 6
      · subst hj; rw [q_s_at, q_s_at]
      · rw [q_s_off hj, q_s_off hj, q_s_ne (by omega), q_s_ne (by omega), q_r_ne ha]
    · rw [q_s_ne h5, q_s_ne h5]
      by_cases h4 : a = nw + 4
      · subst h4
        funext j
        by_cases hj : j = H nw 6
        · subst hj; rw [q_s_at, q_s_at]
        · rw [q_s_off hj, q_s_off hj, q_r_ne ha]
      · rw [q_s_ne h4, q_s_ne h4, q_r_ne ha]
theorem gue7_78 {M K : Nat → Nat → Nat} {c x y : Nat} (h : M 78 = K 78) : (gue7 M c x y).2 78 = (gue7 K c x y).2 78 := by
  unfold gue7
  rw [h]
  by_cases h1 : x < c ∧ y ≤ 2
  · rw [if_pos h1, if_pos h1]
    by_cases h2 : K 78 40 = 9
    · rw [if_pos h2, if_pos h2]; exact h
    · rw [if_neg h2, if_neg h2]
      funext j
      show q_s (q_s (q_s M 78 (22 + 2 * K 78 40) x) 78 (22 + 2 * K 78 40 + 1) y) 78 40 (K 78 40 + 1) 78 j = q_s (q_s (q_s K 78 (22 + 2 * K 78 40) x) 78 (22 + 2 * K 78 40 + 1) y) 78 40 (K 78 40 + 1) 78 j
      by_cases j1 : j = 40
      · subst j1; rw [q_s_at, q_s_at]
      · rw [q_s_off j1, q_s_off j1]
        by_cases j2 : j = 22 + 2 * K 78 40 + 1
        · subst j2; rw [q_s_at, q_s_at]
        · rw [q_s_off j2, q_s_off j2]
          by_cases j3 : j = 22 + 2 * K 78 40
          · subst j3; rw [q_s_at, q_s_at]
          · rw [q_s_off j3, q_s_off j3, h]
  · rw [if_neg h1, if_neg h1]; exact h
theorem gue7_60 {K : Nat → Nat → Nat} {c x y i : Nat} (h9 : K 78 40 ≤ 9) (hi : 60 ≤ i) : (gue7 K c x y).2 78 i = K 78 i := by
  unfold gue7
  by_cases h1 : x < c ∧ y ≤ 2
  · rw [if_pos h1]
    by_cases h2 : K 78 40 = 9
    · rw [if_pos h2]
    · rw [if_neg h2]
      show q_s (q_s (q_s K 78 (22 + 2 * K 78 40) x) 78 (22 + 2 * K 78 40 + 1) y) 78 40 (K 78 40 + 1) 78 i = K 78 i
      rw [q_s_off (by omega), q_s_off (by omega), q_s_off (by omega)]
  · rw [if_neg h1]
/-- one more guess for both -/
theorem rd_step {ad : Nat → Nat} {G : Nat → Nat → Option Nat} {N K0 H K : Nat → Nat → Nat} {nm nw dn dm c x y : Nat} (h : IV ad G (q_r H 78 (K 78)) nm nw dn dm c) (hF : FRD N K0 nw H K) (hx : (x < c ∧ y ≤ 2) ∧ H nw 6 ≠ 9) : IV ad G (q_r (gue6 H nw c x y).2 78 ((gue7 K c x y).2 78)) nm nw dn dm c ∧ FRD N K0 nw (gue6 H nw c x y).2 (gue7 K c x y).2 := by
  obtain ⟨⟨g1, g2, g3, _⟩, ⟨c1, c2, _⟩, _, _, ⟨_, _, n3⟩, _⟩ := id h
  have g22 := g2.2
  have hnw : nw + 8 < 78 := by omega
  have hH6 : H nw 6 ≤ 9 := by
    have := c2.2.2.2.2.2.1
    rw [q_r_ne (show nw ≠ 78 by omega)] at this
    exact this
  have hK : K 78 40 = H nw 6 := by
    have := n3.2.2.2.2.2.1
    rw [q_r_at, q_r_ne (show nw ≠ 78 by omega)] at this
    exact this
  have e6 : (gue6 H nw c x y).2 = ad2 H nw 6 4 5 x y := by rw [gue6_ok hH6 hx]
  obtain ⟨f1, f2, f3, f4, f5, f6⟩ := hF
  refine ⟨?_, ?_⟩
  · have q := (h.gue (X := x) (Y := y)).2
    have eJ : (gue6 (q_r H 78 (K 78)) nw c x y).2 = ad2 (q_r H 78 (K 78)) nw 6 4 5 x y := by
      rw [gue6_ok (by rw [q_r_ne (show nw ≠ 78 by omega)]; exact hH6) (by rw [q_r_ne (show nw ≠ 78 by omega)]; exact hx)]
    have e : (gue7 (gue6 (q_r H 78 (K 78)) nw c x y).2 c x y).2 = q_r (gue6 H nw c x y).2 78 ((gue7 K c x y).2 78) := by
      rw [eJ, e6]
      funext a
      by_cases ha : a = 78
      · subst ha
        rw [q_r_at]
        exact gue7_78 (by rw [ad2_ne (by omega) (by omega) (by omega), q_r_at])
      · rw [gue7_ne ha, q_r_ne ha]
        exact ad2_r (by omega) ha
    rw [e] at q
    exact q
  · rw [e6]
    refine ⟨fun a q1 q2 q3 => by rw [ad2_ne q1 q2 q3]; exact f1 a q1 q2 q3, fun i hi => ?_, ?_, fun k hk => ⟨?_, ?_⟩, fun i hi => by rw [gue7_60 (by omega) hi]; exact f5 i hi, fun a ha => by rw [gue7_ne ha]; exact f6 a ha⟩
    · rw [ad2, q_s_off hi, q_s_ne (by omega), q_s_ne (by omega)]; exact f2 i hi
    · rw [ad2, q_s_at]; omega
    · rw [ad2, q_s_ne (by omega), q_s_ne (by omega), q_s_off (by omega)]; exact (f4 k hk).1
    · rw [ad2, q_s_ne (by omega), q_s_off (by omega), q_s_ne (by omega)]; exact (f4 k hk).2
theorem ft_same {N : Nat → Nat → Nat} {X l f j : Nat} (h : IS N) (hX : X ≤ 3) (hl : l ≤ 2) : ftj (N 93 X) l f (N 94 X) j = ftg N (69 + 2 * X) (f + 2 * j) l := by
  obtain ⟨s1, s2, s3, s4⟩ := h X (by omega)
  obtain ⟨s5, s6⟩ := s1
  unfold ftj ftg fta
  rw [s3, s4]
  generalize N (69 + 2 * X) 0 = a at *
  generalize N (69 + 2 * X) 1 = b at *
  clear h s2 s3 s4
  by_cases ha : a = 4294967295
  · rw [if_pos ha]; repeat' split
    all_goals first | rfl | omega
  · rw [if_neg ha]; repeat' split
    all_goals first | rfl | omega
theorem rd_same {ad : Nat → Nat} {G : Nat → Nat → Option Nat} {N K0 : Nat → Nat → Nat} {nm nw dn dm c X l f : Nat} (hS : IS N) (hX : X ≤ 3) (hl : l ≤ 2) : ∀ r j (H K : Nat → Nat → Nat), IV ad G (q_r H 78 (K 78)) nm nw dn dm c → FRD N K0 nw H K → ∃ u j' b H' K', rd6 N (69 + 2 * X) nw c l f r j H = (u, j', b, H') ∧ rdm c (N 93 X) l f (N 94 X) (fun j => N 95 (40 * X + f + 2 * j)) (fun j => N 95 (40 * X + f + (2 * j + 1))) r j K = (u, j', b, K') ∧ b ≤ 3 ∧ IV ad G (q_r H' 78 (K' 78)) nm nw dn dm c ∧ FRD N K0 nw H' K' := by
  intro r
  induction r with
  | zero => intro j H K h hF; exact ⟨0, j, 0, H, K, rfl, rfl, by omega, h, hF⟩
  | succ r ih =>
    intro j H K h hF
    rw [rd6_s, rdm_s, ft_same hS hX hl]
    by_cases h1 : ftg N (69 + 2 * X) (f + 2 * j) l ≠ 0
    · rw [if_pos h1, if_pos h1]
      exact ⟨0, j, _, H, K, rfl, rfl, ftg_le _ _ _ _, h, hF⟩
    · rw [if_neg h1, if_neg h1]
      have hin := ftg_in (show ftg N (69 + 2 * X) (f + 2 * j) l = 0 by omega)
      obtain ⟨⟨g1, g2, g3, _⟩, ⟨c1, c2, _⟩, _, _, ⟨_, _, n3⟩, _⟩ := id h
      have g22 := g2.2
      have hK : K 78 40 = H nw 6 := by
        have := n3.2.2.2.2.2.1
        rw [q_r_at, q_r_ne (show nw ≠ 78 by omega)] at this
        exact this
      obtain ⟨s1, s2, s3, s4⟩ := hS X (by omega)
      have s6 := s1.2
      have ex : N 95 (40 * X + f + 2 * j) = N (69 + 2 * X + 1) (f + 2 * j) := by rw [Nat.add_assoc]; exact (s2 (f + 2 * j) (by omega)).2
      have ey : N 95 (40 * X + f + (2 * j + 1)) = N (69 + 2 * X + 1) (f + 2 * j + 1) := by rw [show 40 * X + f + (2 * j + 1) = 40 * X + (f + 2 * j + 1) by omega]; exact (s2 (f + 2 * j + 1) (by omega)).2
      show ∃ u j' b H' K', _ ∧ (if (N 95 (40 * X + f + 2 * j) < c ∧ N 95 (40 * X + f + (2 * j + 1)) ≤ 2) ∧ K 78 40 ≠ 9 then rdm c (N 93 X) l f (N 94 X) (fun j => N 95 (40 * X + f + 2 * j)) (fun j => N 95 (40 * X + f + (2 * j + 1))) r (j + 1) (gue7 K c (N 95 (40 * X + f + 2 * j)) (N 95 (40 * X + f + (2 * j + 1)))).2 else (1, j, 0, K)) = _ ∧ _
      rw [ex, ey, hK]
      by_cases h2 : (N (69 + 2 * X + 1) (f + 2 * j) < c ∧ N (69 + 2 * X + 1) (f + 2 * j + 1) ≤ 2) ∧ H nw 6 ≠ 9
      · rw [if_pos h2, if_pos h2]
        obtain ⟨k1, k2⟩ := rd_step h hF h2
        exact ih (j + 1) _ _ k1 k2
      · rw [if_neg h2, if_neg h2]
        exact ⟨1, j, 0, H, K, rfl, rfl, by omega, h, hF⟩
theorem IV.read {ad : Nat → Nat} {G : Nat → Nat → Option Nat} {N : Nat → Nat → Nat} {nm nw dn dm c X Y F n : Nat} (h : IV ad G N nm nw dn dm c) : (read6 N nw c X Y F n).1 = (read7 (read6 N nw c X Y F n).2 c X Y F n).1 ∧ IV ad G (read7 (read6 N nw c X Y F n).2 c X Y F n).2 nm nw dn dm c := by
  by_cases hX : X ≤ 3 ∧ Y ≤ 2 ∧ n ≤ 20
  · obtain ⟨⟨g1, g2, g3, _⟩, ⟨c1, c2, c3, c4, c5⟩, ht, ⟨m1, m2, m3, m4⟩, ⟨n1, n2, n3⟩, hI, hS⟩ := id h
    have g22 := g2.2
    obtain ⟨mc, mcc, mb, ml, ms, mk_, mms, mpr, mg9, mh, mgn, mga, mod_, mo1⟩ := id m1
    have aL : ∀ i, i < 180 → va_cpy (N 78) (N 78) 0 180 60 i = N 78 i := fun i hi => by rw [va_cpy, if_neg (by omega)]
    have aH : ∀ i, 180 ≤ i → i < 240 → va_cpy (N 78) (N 78) 0 180 60 i = N 78 (i - 180) := fun i h1 h2 => by rw [va_cpy, if_pos (by omega), Nat.zero_add]
    have h0 : IV ad G (q_r N 78 (asd N 78)) nm nw dn dm c := h.aside (fun a ha => q_r_ne ha) (fun i hi => by rw [q_r_at, asd, q_r_at]; exact aL i hi) (fun i hi => by
      rw [q_r_at, asd, q_r_at]
      by_cases q : i < 180
      · rw [aL i q]; exact ms i hi
      · rw [aH i (by omega) hi]; exact ms _ (by omega))
    unfold read6
    rw [if_pos hX]
    obtain ⟨u, j', b, H', K', e6, e7, hb, hJ, hF⟩ := rd_same (f := F) hS hX.1 hX.2.1 n 0 N (asd N) h0 ⟨fun a _ _ _ => rfl, fun i _ => rfl, Nat.le_refl _, fun k _ => ⟨rfl, rfl⟩, fun i _ => rfl, fun a _ => rfl⟩
    rw [e6]
    obtain ⟨f1, f2, f3, f4, f5, f6⟩ := hF
    have rdm_r : ∀ (R : Nat → Nat → Nat) r j (K L : Nat → Nat → Nat), L 78 = K 78 → (rdm c (N 93 X) Y F (N 94 X) (fun j => N 95 (40 * X + F + 2 * j)) (fun j => N 95 (40 * X + F + (2 * j + 1))) r j L).1 = (rdm c (N 93 X) Y F (N 94 X) (fun j => N 95 (40 * X + F + 2 * j)) (fun j => N 95 (40 * X + F + (2 * j + 1))) r j K).1 ∧ (rdm c (N 93 X) Y F (N 94 X) (fun j => N 95 (40 * X + F + 2 * j)) (fun j => N 95 (40 * X + F + (2 * j + 1))) r j L).2.1 = (rdm c (N 93 X) Y F (N 94 X) (fun j => N 95 (40 * X + F + 2 * j)) (fun j => N 95 (40 * X + F + (2 * j + 1))) r j K).2.1 ∧ (rdm c (N 93 X) Y F (N 94 X) (fun j => N 95 (40 * X + F + 2 * j)) (fun j => N 95 (40 * X + F + (2 * j + 1))) r j L).2.2.1 = (rdm c (N 93 X) Y F (N 94 X) (fun j => N 95 (40 * X + F + 2 * j)) (fun j => N 95 (40 * X + F + (2 * j + 1))) r j K).2.2.1 ∧ (rdm c (N 93 X) Y F (N 94 X) (fun j => N 95 (40 * X + F + 2 * j)) (fun j => N 95 (40 * X + F + (2 * j + 1))) r j L).2.2.2 = q_r L 78 ((rdm c (N 93 X) Y F (N 94 X) (fun j => N 95 (40 * X + F + 2 * j)) (fun j => N 95 (40 * X + F + (2 * j + 1))) r j K).2.2.2 78) := by
      intro R r
      induction r with
      | zero => intro j K L e; exact ⟨rfl, rfl, rfl, by
        funext a
        by_cases q : a = 78
        · subst q; rw [q_r_at]; exact e
        · rw [q_r_ne q]; rfl⟩
      | succ r ih =>
        intro j K L e
        rw [rdm_s, rdm_s, e]
        have eL : L = q_r L 78 (K 78) := by
          funext a
          by_cases q : a = 78
          · subst q; rw [q_r_at]; exact e
          · rw [q_r_ne q]
        by_cases h1 : ftj (N 93 X) Y F (N 94 X) j ≠ 0
        · rw [if_pos h1, if_pos h1]; exact ⟨rfl, rfl, rfl, eL⟩
        · rw [if_neg h1, if_neg h1]
          by_cases h2 : (N 95 (40 * X + F + 2 * j) < c ∧ N 95 (40 * X + F + (2 * j + 1)) ≤ 2) ∧ K 78 40 ≠ 9
          · rw [if_pos h2, if_pos h2]
            obtain ⟨w1, w2, w3, w4⟩ := ih (j + 1) (gue7 K c (N 95 (40 * X + F + 2 * j)) (N 95 (40 * X + F + (2 * j + 1)))).2 (gue7 L c (N 95 (40 * X + F + 2 * j)) (N 95 (40 * X + F + (2 * j + 1)))).2 (gue7_78 e)
            refine ⟨w1, w2, w3, ?_⟩
            rw [w4]
            funext a
            by_cases q : a = 78
            · subst q; rw [q_r_at, q_r_at]
            · rw [q_r_ne q, q_r_ne q, gue7_ne q]
          · rw [if_neg h2, if_neg h2]; exact ⟨rfl, rfl, rfl, eL⟩
    have key : ∀ R : Nat → Nat → Nat, R 78 = N 78 → R 93 = N 93 → R 94 = N 94 → R 95 = N 95 → read7 R c X Y F n = rdf (u, j', b, q_r R 78 (K' 78)) := fun R r78 r93 r94 r95 => by
      unfold read7
      rw [if_pos ⟨⟨hX.1, hX.2.1⟩, hX.2.2⟩, r93, r94, r95]
      obtain ⟨w1, w2, w3, w4⟩ := rdm_r R n 0 (asd N) (asd R) (by rw [asd, q_r_at, asd, q_r_at, r78])
      rw [e7] at w1 w2 w3 w4
      congr 1
      refine Prod.ext w1 (Prod.ext w2 (Prod.ext w3 ?_))
      rw [w4]
      funext a
      show q_r (asd R) 78 (K' 78) a = q_r R 78 (K' 78) a
      by_cases q : a = 78
      · subst q; rw [q_r_at, q_r_at]
      · rw [q_r_ne q, q_r_ne q, asd, q_r_ne q]
    have hH78 : ∀ a, 36 ≤ a → H' a = N a := fun a ha => f1 a (by omega) (by omega) (by omega)
    by_cases hu : u = 0
    · subst hu
      show j' = (read7 (q_s H' 0 3 b) c X Y F n).1 ∧ IV ad G (read7 (q_s H' 0 3 b) c X Y F n).2 nm nw dn dm c
      rw [key _ (by rw [q_s_ne (by omega)]; exact hH78 78 (by omega)) (by rw [q_s_ne (by omega)]; exact hH78 93 (by omega)) (by rw [q_s_ne (by omega)]; exact hH78 94 (by omega)) (by rw [q_s_ne (by omega)]; exact hH78 95 (by omega))]
      refine ⟨rfl, ?_⟩
      show IV ad G (q_s (q_r (q_s H' 0 3 b) 78 (K' 78)) 77 29 b) nm nw dn dm c
      have z : ∀ a, a ≠ 0 → a ≠ 77 → q_s (q_r (q_s H' 0 3 b) 78 (K' 78)) 77 29 b a = q_r H' 78 (K' 78) a := fun a q1 q2 => by
        rw [q_s_ne q2]
        by_cases q : a = 78
        · subst q; rw [q_r_at, q_r_at]
        · rw [q_r_ne q, q_r_ne q, q_s_ne q1]
      have z0 : ∀ i, i ≠ 3 → q_s (q_r (q_s H' 0 3 b) 78 (K' 78)) 77 29 b 0 i = q_r H' 78 (K' 78) 0 i := fun i hi => by rw [q_s_ne (by omega), q_r_ne (by omega), q_s_off hi, q_r_ne (by omega)]
      have z03 : q_s (q_r (q_s H' 0 3 b) 78 (K' 78)) 77 29 b 0 3 = b := by rw [q_s_ne (by omega), q_r_ne (by omega), q_s_at]
      have z7 : ∀ i, i ≠ 29 → q_s (q_r (q_s H' 0 3 b) 78 (K' 78)) 77 29 b 77 i = q_r H' 78 (K' 78) 77 i := fun i hi => by rw [q_s_off hi, q_r_ne (by omega), q_s_ne (by omega), q_r_ne (by omega)]
      have z79 : q_s (q_r (q_s H' 0 3 b) 78 (K' 78)) 77 29 b 77 29 = b := q_s_at
      obtain ⟨_, _, ⟨t1, t2, t3, t4, t5, t6, t7, t8⟩, _⟩ := id hJ
      refine hJ.tape (fun a q1 q2 q3 q4 => z a q1 q3) (z0 18 (by omega)) (z7 2 (by omega)) ⟨?_, ?_, ?_, ?_, ?_, ?_, ?_, ?_⟩
      · rw [z0 1 (by omega)]; exact t1
      · rw [z 1 (by omega) (by omega)]; exact t2
      · rw [z7 10 (by omega), z0 1 (by omega)]; exact t3
      · rw [z 84 (by omega) (by omega), z 1 (by omega) (by omega)]; exact t4
      · rw [z7 11 (by omega), z0 2 (by omega)]; exact t5
      · rw [z0 2 (by omega)]; exact t6
      · rw [z79, z03]
      · rw [z03]; exact hb
    · have e1 : rdf6 nw (N nw 6) (u, j', b, H') = (4294967276 - j', q_s H' nw 6 (N nw 6)) := by rw [rdf6, if_neg hu]
      rw [e1]
      show 4294967276 - j' = (read7 (q_s H' nw 6 (N nw 6)) c X Y F n).1 ∧ IV ad G (read7 (q_s H' nw 6 (N nw 6)) c X Y F n).2 nm nw dn dm c
      have e2 : ∀ R, rdf (u, j', b, q_r R 78 (K' 78)) = (4294967276 - j', q_r (q_r R 78 (K' 78)) 78 (va_cpy (q_r R 78 (K' 78) 78) (q_r R 78 (K' 78) 78) 180 0 60)) := fun R => by rw [rdf, if_neg hu]
      rw [key _ (by rw [q_s_ne (by omega)]; exact hH78 78 (by omega)) (by rw [q_s_ne (by omega)]; exact hH78 93 (by omega)) (by rw [q_s_ne (by omega)]; exact hH78 94 (by omega)) (by rw [q_s_ne (by omega)]; exact hH78 95 (by omega)), e2]
      refine ⟨rfl, ?_⟩
      show IV ad G (q_r (q_r (q_s H' nw 6 (N nw 6)) 78 (K' 78)) 78 (va_cpy (q_r (q_s H' nw 6 (N nw 6)) 78 (K' 78) 78) (q_r (q_s H' nw 6 (N nw 6)) 78 (K' 78) 78) 180 0 60)) nm nw dn dm c
      rw [q_r_at]
      have w78 : ∀ i, i < 240 → va_cpy (K' 78) (K' 78) 180 0 60 i = asd N 78 i := fun i hi => by
        by_cases q : i < 60
        · rw [va_cpy, if_pos (by omega), f5 _ (by omega), asd, q_r_at, aH _ (by omega) (by omega), aL i (by omega)]
          exact congrArg (N 78) (by omega)
        · rw [va_cpy, if_neg (by omega), f5 _ (by omega)]
      have z : ∀ a, a ≠ nw → a ≠ nw + 4 → a ≠ nw + 5 → a ≠ 78 → q_r (q_r (q_s H' nw 6 (N nw 6)) 78 (K' 78)) 78 (va_cpy (K' 78) (K' 78) 180 0 60) a = N a := fun a q1 q2 q3 q4 => by rw [q_r_ne q4, q_r_ne q4, q_s_ne q1]; exact f1 a q1 q2 q3
      have zn : q_r (q_r (q_s H' nw 6 (N nw 6)) 78 (K' 78)) 78 (va_cpy (K' 78) (K' 78) 180 0 60) nw = N nw := by
        rw [q_r_ne (by omega), q_r_ne (by omega)]
        funext i
        by_cases q : i = 6
        · subst q; rw [q_s_at]
        · rw [q_s_off q]; exact f2 i q
      have z4 : ∀ k, k < N nw 6 → q_r (q_r (q_s H' nw 6 (N nw 6)) 78 (K' 78)) 78 (va_cpy (K' 78) (K' 78) 180 0 60) (nw + 4) k = N (nw + 4) k := fun k hk => by rw [q_r_ne (by omega), q_r_ne (by omega), q_s_ne (by omega)]; exact (f4 k hk).1
      have z5 : ∀ k, k < N nw 6 → q_r (q_r (q_s H' nw 6 (N nw 6)) 78 (K' 78)) 78 (va_cpy (K' 78) (K' 78) 180 0 60) (nw + 5) k = N (nw + 5) k := fun k hk => by rw [q_r_ne (by omega), q_r_ne (by omega), q_s_ne (by omega)]; exact (f4 k hk).2
      have zp : q_r (q_r (q_s H' nw 6 (N nw 6)) 78 (K' 78)) 78 (va_cpy (K' 78) (K' 78) 180 0 60) 78 = va_cpy (K' 78) (K' 78) 180 0 60 := q_r_at
      have hA : IV ad G (q_r N 78 (va_cpy (K' 78) (K' 78) 180 0 60)) nm nw dn dm c := h.aside (fun a ha => q_r_ne ha) (fun i hi => by rw [q_r_at, w78 i (by omega), asd, q_r_at]; exact aL i hi) (fun i hi => by
        rw [q_r_at, w78 i hi, asd, q_r_at]
        by_cases q : i < 180
        · rw [aL i q]; exact ms i hi
        · rw [aH i (by omega) hi]; exact ms _ (by omega))
      generalize va_cpy (K' 78) (K' 78) 180 0 60 = V at *
      generalize q_r (q_r (q_s H' nw 6 (N nw 6)) 78 (K' 78)) 78 V = M at *
      have a78 : q_r N 78 V 78 = V := q_r_at
      have an : ∀ a, a ≠ 78 → q_r N 78 V a = N a := fun a ha => q_r_ne ha
      generalize q_r N 78 V = A at *
      obtain ⟨_, ⟨_, d2, _⟩, _, ⟨o1, _⟩, ⟨_, _, v3⟩, _⟩ := id hA
      refine hA.page (fun a q1 q2 => by rw [z a (by omega) (by omega) (by omega) q2, an a q2]) (fun i _ => by rw [zp, a78]) (by rw [zp, a78]) (by rw [zp, a78]) ?_ (o1.eq (by rw [z 77 (by omega) (by omega) (by omega) (by omega), an 77 (by omega)]) (by rw [zp, a78]) (by rw [z 79 (by omega) (by omega) (by omega) (by omega), an 79 (by omega)])) ?_
      · obtain ⟨u1, u2, u3, u4, u5, u6, u7, u8, u9, u10, u11, u12, u13, u14⟩ := id c2
        unfold CM
        rw [zn, z (nw + 1) (by omega) (by omega) (by omega) (by omega), z (nw + 2) (by omega) (by omega) (by omega) (by omega), z (nw + 3) (by omega) (by omega) (by omega) (by omega), z (nw + 6) (by omega) (by omega) (by omega) (by omega), z (nw + 7) (by omega) (by omega) (by omega) (by omega), z (nw + 8) (by omega) (by omega) (by omega) (by omega)]
        exact ⟨u1, u2, u3, u4, u5, u6, fun k hk => by rw [z4 k hk]; exact u7 k hk, fun k hk => by rw [z5 k hk]; exact u8 k hk, u9, u10, u11, u12, u13, u14⟩
      · obtain ⟨p1, p2, p3, p4, p5, p6, p7, p8, p9⟩ := v3
        rw [an nw (by omega), an (nw + 4) (by omega), an (nw + 5) (by omega), a78] at p7
        rw [an (nw + 1) (by omega), a78] at p1
        rw [an nw (by omega), a78] at p2 p3 p4 p6 p8
        rw [an nw (by omega), an (nw + 2) (by omega), an (nw + 3) (by omega), a78] at p5
        rw [an nw (by omega), an (nw + 6) (by omega), an (nw + 7) (by omega), an (nw + 8) (by omega), a78] at p9
        unfold PV
        rw [zn, zp, z (nw + 1) (by omega) (by omega) (by omega) (by omega), z (nw + 2) (by omega) (by omega) (by omega) (by omega), z (nw + 3) (by omega) (by omega) (by omega) (by omega), z (nw + 6) (by omega) (by omega) (by omega) (by omega), z (nw + 7) (by omega) (by omega) (by omega) (by omega), z (nw + 8) (by omega) (by omega) (by omega) (by omega)]
        exact ⟨p1, p2, p3, p4, p5, p6, fun k hk => by rw [z4 k hk, z5 k hk]; exact p7 k hk, p8, p9⟩
  · unfold read6
    rw [if_neg hX]
    show 4294967295 = (read7 N c X Y F n).1 ∧ IV ad G (read7 N c X Y F n).2 nm nw dn dm c
    unfold read7
    rw [if_neg (fun q => hX ⟨q.1.1, q.1.2, q.2⟩)]
    exact ⟨rfl, h⟩
