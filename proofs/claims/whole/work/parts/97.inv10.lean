/-- when only the moment, the near names and the model's first page have changed -/
theorem IV.page2 {ad : Nat → Nat} {G : Nat → Nat → Option Nat} {N M : Nat → Nat → Nat} {nm nw dn dm c : Nat} (h : IV ad G N nm nw dn dm c) (e : ∀ a, (a < nw ∨ nw + 8 < a) → a ≠ 36 → a ≠ 78 → M a = N a) (e78 : ∀ i, 60 ≤ i → M 78 i = N 78 i) (h36 : ∀ g, g < c → M 36 g = mk (R7 M g) c) (hCM : CM M nw c) (hMS : MS M c) (hPV : PV M 0 nw c) : IV ad G M nm nw dn dm c := by
  obtain ⟨hG, ⟨c1, c2, c3, c4, c5⟩, ⟨t1, t2, t3, t4, t5, t6, t7, t8⟩, ⟨m1, m2, m3, m4⟩, ⟨n1, n2, n3⟩, hI, hS⟩ := h
  obtain ⟨g1, g2, g3, g4, g5, _⟩ := id hG
  have hc9 : c ≤ 9 := c1.2.1
  have e79 := e 79 (by omega) (by omega) (by omega)
  refine ⟨hG, ⟨c1.eq (fun a _ _ => e a (by omega) (by omega) (by omega)), hCM, h36, c4.same (fun a _ => e a (by omega) (by omega) (by omega)), c5.eq g2.1 (fun a _ _ => e a (by omega) (by omega) (by omega)) (by rw [e 0 (by omega) (by omega) (by omega)])⟩, ⟨?_, ?_, ?_, ?_, ?_, ?_, ?_, ?_⟩, ⟨hMS, m2.eq (e 82 (by omega) (by omega) (by omega)) (e 83 (by omega) (by omega) (by omega)), ?_, ?_⟩, ⟨n1.eq e79 (fun a _ _ => e a (by omega) (by omega) (by omega)), n2.eq (e 80 (by omega) (by omega) (by omega)) (fun a _ _ => e a (by omega) (by omega) (by omega)), hPV⟩, ?_, ?_⟩
  · rw [e 0 (by omega) (by omega) (by omega)]; exact t1
  · rw [e 1 (by omega) (by omega) (by omega)]; exact t2
  · rw [e 77 (by omega) (by omega) (by omega), e 0 (by omega) (by omega) (by omega)]; exact t3
  · rw [e 84 (by omega) (by omega) (by omega), e 1 (by omega) (by omega) (by omega)]; exact t4
  · rw [e 77 (by omega) (by omega) (by omega), e 0 (by omega) (by omega) (by omega)]; exact t5
  · rw [e 0 (by omega) (by omega) (by omega)]; exact t6
  · rw [e 77 (by omega) (by omega) (by omega), e 0 (by omega) (by omega) (by omega)]; exact t7
  · rw [e 0 (by omega) (by omega) (by omega)]; exact t8
  · rw [e 85 (by omega) (by omega) (by omega)]; exact m3
  · rw [e 86 (by omega) (by omega) (by omega)]; exact m4
  · intro i hi
    obtain ⟨i1, i2, i3⟩ := hI i hi
    rw [e 34 (by omega) (by omega) (by omega), e 92 (by omega) (by omega) (by omega)]
    exact ⟨⟨i1.1, fun n hn => by rw [e78 _ (by omega)]; exact i1.2 n hn⟩, i2, fun q => ⟨(i3 q).1.eq (fun a _ _ => e a (by omega) (by omega) (by omega)), (i3 q).2.img hc9 (by omega) e78 (fun a _ _ => e a (by omega) (by omega) (by omega))⟩⟩
  · intro x hx
    obtain ⟨s1, s2, s3, s4⟩ := hS x hx
    rw [e 93 (by omega) (by omega) (by omega), e 94 (by omega) (by omega) (by omega), e 95 (by omega) (by omega) (by omega), e (69 + 2 * x) (by omega) (by omega) (by omega), e (69 + 2 * x + 1) (by omega) (by omega) (by omega)]
    exact ⟨s1.eq (e (69 + 2 * x) (by omega) (by omega) (by omega)), s2, s3, s4⟩
theorem IV.law {ad : Nat → Nat} {G : Nat → Nat → Option Nat} {N : Nat → Nat → Nat} {nm nw dn dm c X Y : Nat} (h : IV ad G N nm nw dn dm c) : (law6 N nm nw c X Y).1 = (law7 (law6 N nm nw c X Y).2 X Y).1 ∧ IV ad G (law7 (law6 N nm nw c X Y).2 X Y).2 nm nw dn dm c := by
  obtain ⟨⟨g1, g2, g3, _⟩, ⟨c1, c2, c3, c4, c5⟩, _, ⟨m1, m2, m3, m4⟩, ⟨n1, n2, n3⟩, _⟩ := id h
  have hc9 : c ≤ 9 := c1.2.1
  obtain ⟨p1, p2, p3, p4, p5, p6, p7, p8, p9⟩ := id n3
  simp only [Nat.zero_add] at p1 p2 p3 p4 p5 p6 p7 p8 p9
  obtain ⟨hkd, hms, hpr, hpf, hps, hg9, hgn, hga, hh6, hhp, hhl, hhi, hod, ho1⟩ := id c2
  obtain ⟨mc, mcc, mb, ml, ms, mk_, mms, mpr, mg9, mh, mgn, mga, mod_, mo1⟩ := id m1
  unfold law6
  by_cases hX : X ≤ 4 ∧ Y ≤ 8
  · rw [if_pos hX]
    have e1 : fil (lwN N nw X Y) 36 (fun n => mk (nr6 N nm X Y n) c) c 78 9 = N nw 1 := by rw [fil_ne (by omega), lwN, q_s_ne (by omega), q_s_ne (by omega)]; exact p2
    show N nw 1 = (law7 (fil (lwN N nw X Y) 36 (fun n => mk (nr6 N nm X Y n) c) c) X Y).1 ∧ IV ad G (law7 (fil (lwN N nw X Y) 36 (fun n => mk (nr6 N nm X Y n) c) c) X Y).2 nm nw dn dm c
    unfold law7
    rw [if_pos hX, e1]
    refine ⟨rfl, ?_⟩
    show IV ad G (q_s (q_s (fil (lwN N nw X Y) 36 (fun n => mk (nr6 N nm X Y n) c) c) 78 10 Y) 78 9 X) nm nw dn dm c
    have ec : ∀ a, a ≠ nw → a ≠ 36 → a ≠ 78 → (q_s (q_s (fil (lwN N nw X Y) 36 (fun n => mk (nr6 N nm X Y n) c) c) 78 10 Y) 78 9 X) a = N a := fun a q1 q2 q3 => by rw [q_s_ne q3, q_s_ne q3, fil_ne q2, lwN, q_s_ne q1, q_s_ne q1]
    have en : ∀ j, j ≠ 1 → j ≠ 2 → (q_s (q_s (fil (lwN N nw X Y) 36 (fun n => mk (nr6 N nm X Y n) c) c) 78 10 Y) 78 9 X) nw j = N nw j := fun j q1 q2 => by rw [q_s_ne (by omega), q_s_ne (by omega), fil_ne (by omega), lwN, q_s_off q2, q_s_off q1]
    have en1 : (q_s (q_s (fil (lwN N nw X Y) 36 (fun n => mk (nr6 N nm X Y n) c) c) 78 10 Y) 78 9 X) nw 1 = X := by rw [q_s_ne (by omega), q_s_ne (by omega), fil_ne (by omega), lwN, q_s_off (by omega), q_s_at]
    have en2 : (q_s (q_s (fil (lwN N nw X Y) 36 (fun n => mk (nr6 N nm X Y n) c) c) 78 10 Y) 78 9 X) nw 2 = Y := by rw [q_s_ne (by omega), q_s_ne (by omega), fil_ne (by omega), lwN, q_s_at]
    have e36 : ∀ g, g < c → (q_s (q_s (fil (lwN N nw X Y) 36 (fun n => mk (nr6 N nm X Y n) c) c) 78 10 Y) 78 9 X) 36 g = mk (nr6 N nm X Y g) c := fun g hg => by rw [q_s_ne (by omega), q_s_ne (by omega), fil_lt hg]
    have eP : ∀ j, j ≠ 9 → j ≠ 10 → (q_s (q_s (fil (lwN N nw X Y) 36 (fun n => mk (nr6 N nm X Y n) c) c) 78 10 Y) 78 9 X) 78 j = N 78 j := fun j q1 q2 => by rw [q_s_off q1, q_s_off q2, fil_ne (by omega), lwN, q_s_ne (by omega), q_s_ne (by omega)]
    have e9 : (q_s (q_s (fil (lwN N nw X Y) 36 (fun n => mk (nr6 N nm X Y n) c) c) 78 10 Y) 78 9 X) 78 9 = X := q_s_at
    have e10 : (q_s (q_s (fil (lwN N nw X Y) 36 (fun n => mk (nr6 N nm X Y n) c) c) 78 10 Y) 78 9 X) 78 10 = Y := by rw [q_s_off (by omega), q_s_at]
    generalize q_s (q_s (fil (lwN N nw X Y) 36 (fun n => mk (nr6 N nm X Y n) c) c) 78 10 Y) 78 9 X = M at *
    refine h.page2 (fun a q1 q2 q3 => ec a (by omega) q2 q3) (fun i hi => eP i (by omega) (by omega)) (fun g hg => ?_) ?_ ?_ ?_
    · rw [e36 g hg]
      refine mk_ext (fun n hn => ?_)
      show nr6 N nm X Y g n = nr7 (M 78 9) (M 78 10) (M 79) g n
      rw [e9, e10, ec 79 (by omega) (by omega) (by omega)]
      exact (n1.nr hg hn).symm
    · unfold CM
      rw [en1, en2, en 3 (by omega) (by omega), en 6 (by omega) (by omega), en 9 (by omega) (by omega), ec (nw + 1) (by omega) (by omega) (by omega), ec (nw + 2) (by omega) (by omega) (by omega), ec (nw + 3) (by omega) (by omega) (by omega), ec (nw + 4) (by omega) (by omega) (by omega), ec (nw + 5) (by omega) (by omega) (by omega), ec (nw + 6) (by omega) (by omega) (by omega), ec (nw + 7) (by omega) (by omega) (by omega), ec (nw + 8) (by omega) (by omega) (by omega)]
      exact ⟨by omega, by omega, hpr, hpf, hps, hg9, hgn, hga, hh6, hhp, hhl, hhi, hod, ho1⟩
    · unfold MS
      rw [ec 77 (by omega) (by omega) (by omega), ec 79 (by omega) (by omega) (by omega), e9, e10, eP 21 (by omega) (by omega), eP 40 (by omega) (by omega), eP 59 (by omega) (by omega)]
      refine ⟨mc, mcc, mb, ml, fun i hi => ?_, by omega, by omega, mpr, mg9, mh, fun k hk => by rw [eP _ (by omega) (by omega)]; exact mgn k hk, fun k hk => by rw [eP _ (by omega) (by omega)]; exact mga k hk, fun n hn => by rw [eP _ (by omega) (by omega)]; exact mod_ n hn, fun n hn => by rw [eP _ (by omega) (by omega)]; exact mo1 n hn⟩
      by_cases q : i = 9
      · subst q; rw [e9]; omega
      · by_cases q2 : i = 10
        · subst q2; rw [e10]; omega
        · rw [eP i q q2]; exact ms i hi
    · unfold PV
      simp only [Nat.zero_add]
      rw [en1, en2, en 3 (by omega) (by omega), en 6 (by omega) (by omega), en 9 (by omega) (by omega), ec (nw + 1) (by omega) (by omega) (by omega), ec (nw + 2) (by omega) (by omega) (by omega), ec (nw + 3) (by omega) (by omega) (by omega), ec (nw + 4) (by omega) (by omega) (by omega), ec (nw + 5) (by omega) (by omega) (by omega), ec (nw + 6) (by omega) (by omega) (by omega), ec (nw + 7) (by omega) (by omega) (by omega), ec (nw + 8) (by omega) (by omega) (by omega), e9, e10, eP 21 (by omega) (by omega), eP 40 (by omega) (by omega), eP 59 (by omega) (by omega)]
      exact ⟨fun n hn => by rw [eP _ (by omega) (by omega)]; exact p1 n hn, rfl, rfl, p4, fun k hk => by rw [eP _ (by omega) (by omega), eP _ (by omega) (by omega)]; exact p5 k hk, p6, fun k hk => by rw [eP _ (by omega) (by omega), eP _ (by omega) (by omega)]; exact p7 k hk, p8, fun k hk => by rw [eP _ (by omega) (by omega), eP _ (by omega) (by omega), eP _ (by omega) (by omega)]; exact p9 k hk⟩
  · rw [if_neg hX]
    show 4294967295 = (law7 N X Y).1 ∧ IV ad G (law7 N X Y).2 nm nw dn dm c
    unfold law7
    rw [if_neg hX]
    exact ⟨rfl, h⟩
