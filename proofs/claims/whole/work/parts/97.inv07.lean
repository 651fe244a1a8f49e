theorem PV.img {N M : Nat → Nat → Nat} {p q c : Nat} (h : PV N p q c) (hc : c ≤ 9) (hp : 60 ≤ p) (e78 : ∀ i, 60 ≤ i → M 78 i = N 78 i) (e : ∀ a, q ≤ a → a ≤ q + 8 → M a = N a) : PV M p q c := by
  obtain ⟨p1, p2, p3, p4, p5, p6, p7, p8, p9⟩ := h
  unfold PV
  rw [e q (by omega) (by omega), e (q + 1) (by omega) (by omega), e (q + 2) (by omega) (by omega), e (q + 3) (by omega) (by omega), e (q + 4) (by omega) (by omega), e (q + 5) (by omega) (by omega), e (q + 6) (by omega) (by omega), e (q + 7) (by omega) (by omega), e (q + 8) (by omega) (by omega)]
  refine ⟨fun n hn => by rw [e78 _ (by omega)]; exact p1 n hn, by rw [e78 _ (by omega)]; exact p2, by rw [e78 _ (by omega)]; exact p3, by rw [e78 _ (by omega)]; exact p4, fun k hk => by rw [e78 _ (by omega), e78 _ (by omega)]; exact p5 k hk, by rw [e78 _ (by omega)]; exact p6, fun k hk => by rw [e78 _ (by omega), e78 _ (by omega)]; exact p7 k hk, by rw [e78 _ (by omega)]; exact p8, fun k hk => by rw [e78 _ (by omega), e78 _ (by omega), e78 _ (by omega)]; exact p9 k hk⟩
/-- when only the moment and the model's first page have changed, but no law -/
theorem IV.page {ad : Nat → Nat} {G : Nat → Nat → Option Nat} {N M : Nat → Nat → Nat} {nm nw dn dm c : Nat} (h : IV ad G N nm nw dn dm c) (e : ∀ a, (a < nw ∨ nw + 8 < a) → a ≠ 78 → M a = N a) (e78 : ∀ i, 60 ≤ i → M 78 i = N 78 i) (e9 : M 78 9 = N 78 9) (e10 : M 78 10 = N 78 10) (hCM : CM M nw c) (hMS : MS M c) (hPV : PV M 0 nw c) : IV ad G M nm nw dn dm c := by
  obtain ⟨hG, ⟨c1, c2, c3, c4, c5⟩, ⟨t1, t2, t3, t4, t5, t6, t7, t8⟩, ⟨m1, m2, m3, m4⟩, ⟨n1, n2, n3⟩, hI, hS⟩ := h
  obtain ⟨g1, g2, g3, g4, g5, _⟩ := id hG
  have hc9 : c ≤ 9 := c1.2.1
  have e79 := e 79 (by omega) (by omega)
  have r7 : R7 M = R7 N := R7_eq e9 e10 e79
  refine ⟨hG, ⟨c1.eq (fun a _ _ => e a (by omega) (by omega)), hCM, ?_, c4.same (fun a _ => e a (by omega) (by omega)), c5.eq g2.1 (fun a _ _ => e a (by omega) (by omega)) (by rw [e 0 (by omega) (by omega)])⟩, ⟨?_, ?_, ?_, ?_, ?_, ?_, ?_, ?_⟩, ⟨hMS, m2.eq (e 82 (by omega) (by omega)) (e 83 (by omega) (by omega)), ?_, ?_⟩, ⟨n1.eq e79 (fun a _ _ => e a (by omega) (by omega)), n2.eq (e 80 (by omega) (by omega)) (fun a _ _ => e a (by omega) (by omega)), hPV⟩, ?_, ?_⟩
  · rw [e 36 (by omega) (by omega), r7]; exact c3
  · rw [e 0 (by omega) (by omega)]; exact t1
  · rw [e 1 (by omega) (by omega)]; exact t2
  · rw [e 77 (by omega) (by omega), e 0 (by omega) (by omega)]; exact t3
  · rw [e 84 (by omega) (by omega), e 1 (by omega) (by omega)]; exact t4
  · rw [e 77 (by omega) (by omega), e 0 (by omega) (by omega)]; exact t5
  · rw [e 0 (by omega) (by omega)]; exact t6
  · rw [e 77 (by omega) (by omega), e 0 (by omega) (by omega)]; exact t7
  · rw [e 0 (by omega) (by omega)]; exact t8
  · rw [e 85 (by omega) (by omega)]; exact m3
  · rw [e 86 (by omega) (by omega)]; exact m4
  · intro i hi
    obtain ⟨i1, i2, i3⟩ := hI i hi
    rw [e 34 (by omega) (by omega), e 92 (by omega) (by omega)]
    exact ⟨⟨i1.1, fun n hn => by rw [e78 _ (by omega)]; exact i1.2 n hn⟩, i2, fun q => ⟨(i3 q).1.eq (fun a _ _ => e a (by omega) (by omega)), (i3 q).2.img hc9 (by omega) e78 (fun a _ _ => e a (by omega) (by omega))⟩⟩
  · intro x hx
    obtain ⟨s1, s2, s3, s4⟩ := hS x hx
    rw [e 93 (by omega) (by omega), e 94 (by omega) (by omega), e 95 (by omega) (by omega), e (69 + 2 * x) (by omega) (by omega), e (69 + 2 * x + 1) (by omega) (by omega)]
    exact ⟨s1.eq (e (69 + 2 * x) (by omega) (by omega)), s2, s3, s4⟩
theorem IV.odd {ad : Nat → Nat} {G : Nat → Nat → Option Nat} {N : Nat → Nat → Nat} {nm nw dn dm c X Y : Nat} (h : IV ad G N nm nw dn dm c) : (odd6 N nw c X Y).1 = (odd7 (odd6 N nw c X Y).2 c X Y).1 ∧ IV ad G (odd7 (odd6 N nw c X Y).2 c X Y).2 nm nw dn dm c := by
  obtain ⟨⟨g1, g2, g3, _⟩, ⟨c1, c2, c3, c4, c5⟩, _, ⟨m1, m2, m3, m4⟩, ⟨n1, n2, n3⟩, _⟩ := id h
  have hc9 : c ≤ 9 := c1.2.1
  unfold odd6
  by_cases hX : X < c ∧ (1 ≤ Y ∧ Y ≤ 9)
  · rw [if_pos hX]
    show N (nw + 1) X = (odd7 (q_s N (nw + 1) X Y) c X Y).1 ∧ IV ad G (odd7 (q_s N (nw + 1) X Y) c X Y).2 nm nw dn dm c
    unfold odd7
    rw [if_pos hX]
    obtain ⟨p1, p2, p3, p4, p5, p6, p7, p8, p9⟩ := id n3
    refine ⟨?_, ?_⟩
    · show N (nw + 1) X = q_s N (nw + 1) X Y 78 X
      rw [q_s_ne (by omega), ← p1 X hX.1, Nat.zero_add]
    · show IV ad G (q_s (q_s N (nw + 1) X Y) 78 X Y) nm nw dn dm c
      have ec : ∀ a, a ≠ nw + 1 → a ≠ 78 → q_s (q_s N (nw + 1) X Y) 78 X Y a = N a := fun a q1 q2 => by rw [q_s_ne q2, q_s_ne q1]
      have eo : ∀ j, q_s (q_s N (nw + 1) X Y) 78 X Y (nw + 1) j = if j = X then Y else N (nw + 1) j := fun j => by
        rw [q_s_ne (by omega)]
        by_cases q : j = X
        · subst q; rw [q_s_at, if_pos rfl]
        · rw [q_s_off q, if_neg q]
      have ep : ∀ j, q_s (q_s N (nw + 1) X Y) 78 X Y 78 j = if j = X then Y else N 78 j := fun j => by
        by_cases q : j = X
        · subst q; rw [q_s_at, if_pos rfl]
        · rw [q_s_off q, if_neg q, q_s_ne (by omega)]
      generalize q_s (q_s N (nw + 1) X Y) 78 X Y = M at *
      have eP : ∀ j, 9 ≤ j → M 78 j = N 78 j := fun j hj => by rw [ep, if_neg (by omega)]
      refine h.page (fun a q1 q2 => ec a (by omega) q2) (fun i hi => eP i (by omega)) (eP 9 (by omega)) (eP 10 (by omega)) ?_ ?_ ?_
      · obtain ⟨hkd, hms, hpr, hpf, hps, hg9, hgn, hga, hh6, hhp, hhl, hhi, hod, ho1⟩ := c2
        unfold CM
        rw [ec nw (by omega) (by omega), ec (nw + 2) (by omega) (by omega), ec (nw + 3) (by omega) (by omega), ec (nw + 4) (by omega) (by omega), ec (nw + 5) (by omega) (by omega), ec (nw + 6) (by omega) (by omega), ec (nw + 7) (by omega) (by omega), ec (nw + 8) (by omega) (by omega)]
        refine ⟨hkd, hms, hpr, hpf, hps, hg9, hgn, hga, hh6, hhp, hhl, hhi, fun n hn => ?_, fun n hn => ?_⟩
        · rw [eo]; split
          · omega
          · exact hod n hn
        · rw [eo]; split
          · omega
          · exact ho1 n hn
      · obtain ⟨hc, hcc, hb, hl, hs, hk, hms, hpr, hg9, hh, hgn, hga, hod, ho1⟩ := m1
        unfold MS
        rw [ec 77 (by omega) (by omega), ec 79 (by omega) (by omega), eP 9 (by omega), eP 10 (by omega), eP 21 (by omega), eP 40 (by omega), eP 59 (by omega)]
        refine ⟨hc, hcc, hb, hl, fun i hi => ?_, hk, hms, hpr, hg9, hh, fun k hk => by rw [eP _ (by omega)]; exact hgn k hk, fun k hk => by rw [eP _ (by omega)]; exact hga k hk, fun n hn => ?_, fun n hn => ?_⟩
        · rw [ep]; split
          · omega
          · exact hs i hi
        · rw [ep]; split
          · omega
          · exact hod n hn
        · rw [ep]; split
          · omega
          · exact ho1 n hn
      · unfold PV
        rw [ec nw (by omega) (by omega), ec (nw + 2) (by omega) (by omega), ec (nw + 3) (by omega) (by omega), ec (nw + 4) (by omega) (by omega), ec (nw + 5) (by omega) (by omega), ec (nw + 6) (by omega) (by omega), ec (nw + 7) (by omega) (by omega), ec (nw + 8) (by omega) (by omega)]
        refine ⟨fun n hn => ?_, by rw [eP _ (by omega)]; exact p2, by rw [eP _ (by omega)]; exact p3, by rw [eP _ (by omega)]; exact p4, fun k hk => by rw [eP _ (by omega), eP _ (by omega)]; exact p5 k hk, by rw [eP _ (by omega)]; exact p6, fun k hk => by rw [eP _ (by omega), eP _ (by omega)]; exact p7 k hk, by rw [eP _ (by omega)]; exact p8, fun k hk => by rw [eP _ (by omega), eP _ (by omega), eP _ (by omega)]; exact p9 k hk⟩
        rw [ep, eo, Nat.zero_add]
        split
        · rfl
        · have := p1 n hn; rw [Nat.zero_add] at this; exact this
  · rw [if_neg hX]
    show 4294967295 = (odd7 N c X Y).1 ∧ IV ad G (odd7 N c X Y).2 nm nw dn dm c
    unfold odd7
    rw [if_neg hX]
    exact ⟨rfl, h⟩
