theorem IV.part {ad : Nat → Nat} {G : Nat → Nat → Option Nat} {N : Nat → Nat → Nat} {nm nw dn dm c X : Nat} (h : IV ad G N nm nw dn dm c) : (part6 N nw 3 X).1 = (part7 (part6 N nw 3 X).2 21 X).1 ∧ IV ad G (part7 (part6 N nw 3 X).2 21 X).2 nm nw dn dm c := by
  obtain ⟨⟨g1, g2, g3, _⟩, ⟨c1, c2, c3, c4, c5⟩, _, ⟨m1, m2, m3, m4⟩, ⟨n1, n2, n3⟩, _⟩ := id h
  have hc9 : c ≤ 9 := c1.2.1
  obtain ⟨p1, p2, p3, p4, p5, p6, p7, p8, p9⟩ := id n3
  simp only [Nat.zero_add] at p1 p2 p3 p4 p5 p6 p7 p8 p9
  obtain ⟨hkd, hms, hpr, hpf, hps, hg9, hgn, hga, hh6, hhp, hhl, hhi, hod, ho1⟩ := id c2
  obtain ⟨mc, mcc, mb, ml, ms, mk_, mms, mpr, mg9, mh, mgn, mga, mod_, mo1⟩ := id m1
  unfold part6
  by_cases hX : X ≤ N nw 3
  · rw [if_pos hX]
    have e1 : q_s N nw 3 X 78 21 = N nw 3 := by rw [q_s_ne (by omega)]; exact p4
    show N nw 3 = (part7 (q_s N nw 3 X) 21 X).1 ∧ IV ad G (part7 (q_s N nw 3 X) 21 X).2 nm nw dn dm c
    unfold part7
    rw [e1, if_pos hX]
    refine ⟨rfl, ?_⟩
    show IV ad G (q_s (q_s N nw 3 X) 78 21 X) nm nw dn dm c
    have ec : ∀ a, a ≠ nw → a ≠ 78 → q_s (q_s N nw 3 X) 78 21 X a = N a := fun a q1 q2 => by rw [q_s_ne q2, q_s_ne q1]
    have en : ∀ j, j ≠ 3 → q_s (q_s N nw 3 X) 78 21 X nw j = N nw j := fun j q => by rw [q_s_ne (by omega), q_s_off q]
    have er : q_s (q_s N nw 3 X) 78 21 X nw 3 = X := by rw [q_s_ne (by omega), q_s_at]
    have eP : ∀ j, j ≠ 21 → q_s (q_s N nw 3 X) 78 21 X 78 j = N 78 j := fun j q => by rw [q_s_off q, q_s_ne (by omega)]
    have eR : q_s (q_s N nw 3 X) 78 21 X 78 21 = X := q_s_at
    generalize q_s (q_s N nw 3 X) 78 21 X = M at *
    refine h.page (fun a q1 q2 => ec a (by omega) q2) (fun i hi => eP i (by omega)) (eP 9 (by omega)) (eP 10 (by omega)) ?_ ?_ ?_
    · unfold CM
      rw [en 1 (by omega), en 2 (by omega), en 6 (by omega), en 9 (by omega), er, ec (nw + 1) (by omega) (by omega), ec (nw + 2) (by omega) (by omega), ec (nw + 3) (by omega) (by omega), ec (nw + 4) (by omega) (by omega), ec (nw + 5) (by omega) (by omega), ec (nw + 6) (by omega) (by omega), ec (nw + 7) (by omega) (by omega), ec (nw + 8) (by omega) (by omega)]
      exact ⟨hkd, hms, by omega, hpf, hps, by omega, fun k hk => hgn k (by omega), fun k hk => hga k (by omega), by omega, fun k hk => hhp k (by omega), fun k hk => hhl k (by omega), fun k hk => hhi k (by omega), hod, ho1⟩
    · unfold MS
      rw [ec 77 (by omega) (by omega), ec 79 (by omega) (by omega), eP 9 (by omega), eP 10 (by omega), eR, eP 40 (by omega), eP 59 (by omega)]
      refine ⟨mc, mcc, mb, ml, fun i hi => ?_, mk_, mms, by omega, by omega, by omega, fun k hk => by rw [eP _ (by omega)]; exact mgn k (by omega), fun k hk => by rw [eP _ (by omega)]; exact mga k (by omega), fun n hn => by rw [eP _ (by omega)]; exact mod_ n hn, fun n hn => by rw [eP _ (by omega)]; exact mo1 n hn⟩
      by_cases q : i = 21
      · subst q; rw [eR]; omega
      · rw [eP i q]; exact ms i hi
    · unfold PV
      simp only [Nat.zero_add]
      rw [en 1 (by omega), en 2 (by omega), en 6 (by omega), en 9 (by omega), er, ec (nw + 1) (by omega) (by omega), ec (nw + 2) (by omega) (by omega), ec (nw + 3) (by omega) (by omega), ec (nw + 4) (by omega) (by omega), ec (nw + 5) (by omega) (by omega), ec (nw + 6) (by omega) (by omega), ec (nw + 7) (by omega) (by omega), ec (nw + 8) (by omega) (by omega), eP 9 (by omega), eP 10 (by omega), eR, eP 40 (by omega), eP 59 (by omega)]
      exact ⟨fun n hn => by rw [eP _ (by omega)]; exact p1 n hn, p2, p3, rfl, fun k hk => by rw [eP _ (by omega), eP _ (by omega)]; exact p5 k (by omega), p6, fun k hk => by rw [eP _ (by omega), eP _ (by omega)]; exact p7 k (by omega), p8, fun k hk => by rw [eP _ (by omega), eP _ (by omega), eP _ (by omega)]; exact p9 k (by omega)⟩
  · rw [if_neg hX]
    show 4294967295 = (part7 N 21 X).1 ∧ IV ad G (part7 N 21 X).2 nm nw dn dm c
    unfold part7
    rw [if_neg (show ¬ X ≤ N 78 21 by omega)]
    exact ⟨rfl, h⟩
theorem IV.undo {ad : Nat → Nat} {G : Nat → Nat → Option Nat} {N : Nat → Nat → Nat} {nm nw dn dm c X : Nat} (h : IV ad G N nm nw dn dm c) : (part6 N nw 6 X).1 = (part7 (part6 N nw 6 X).2 40 X).1 ∧ IV ad G (part7 (part6 N nw 6 X).2 40 X).2 nm nw dn dm c := by
  obtain ⟨⟨g1, g2, g3, _⟩, ⟨c1, c2, c3, c4, c5⟩, _, ⟨m1, m2, m3, m4⟩, ⟨n1, n2, n3⟩, _⟩ := id h
  have hc9 : c ≤ 9 := c1.2.1
  obtain ⟨p1, p2, p3, p4, p5, p6, p7, p8, p9⟩ := id n3
  simp only [Nat.zero_add] at p1 p2 p3 p4 p5 p6 p7 p8 p9
  obtain ⟨hkd, hms, hpr, hpf, hps, hg9, hgn, hga, hh6, hhp, hhl, hhi, hod, ho1⟩ := id c2
  obtain ⟨mc, mcc, mb, ml, ms, mk_, mms, mpr, mg9, mh, mgn, mga, mod_, mo1⟩ := id m1
  unfold part6
  by_cases hX : X ≤ N nw 6
  · rw [if_pos hX]
    have e1 : q_s N nw 6 X 78 40 = N nw 6 := by rw [q_s_ne (by omega)]; exact p6
    show N nw 6 = (part7 (q_s N nw 6 X) 40 X).1 ∧ IV ad G (part7 (q_s N nw 6 X) 40 X).2 nm nw dn dm c
    unfold part7
    rw [e1, if_pos hX]
    refine ⟨rfl, ?_⟩
    show IV ad G (q_s (q_s N nw 6 X) 78 40 X) nm nw dn dm c
    have ec : ∀ a, a ≠ nw → a ≠ 78 → q_s (q_s N nw 6 X) 78 40 X a = N a := fun a q1 q2 => by rw [q_s_ne q2, q_s_ne q1]
    have en : ∀ j, j ≠ 6 → q_s (q_s N nw 6 X) 78 40 X nw j = N nw j := fun j q => by rw [q_s_ne (by omega), q_s_off q]
    have er : q_s (q_s N nw 6 X) 78 40 X nw 6 = X := by rw [q_s_ne (by omega), q_s_at]
    have eP : ∀ j, j ≠ 40 → q_s (q_s N nw 6 X) 78 40 X 78 j = N 78 j := fun j q => by rw [q_s_off q, q_s_ne (by omega)]
    have eR : q_s (q_s N nw 6 X) 78 40 X 78 40 = X := q_s_at
    generalize q_s (q_s N nw 6 X) 78 40 X = M at *
    refine h.page (fun a q1 q2 => ec a (by omega) q2) (fun i hi => eP i (by omega)) (eP 9 (by omega)) (eP 10 (by omega)) ?_ ?_ ?_
    · unfold CM
      rw [en 1 (by omega), en 2 (by omega), en 3 (by omega), en 9 (by omega), er, ec (nw + 1) (by omega) (by omega), ec (nw + 2) (by omega) (by omega), ec (nw + 3) (by omega) (by omega), ec (nw + 4) (by omega) (by omega), ec (nw + 5) (by omega) (by omega), ec (nw + 6) (by omega) (by omega), ec (nw + 7) (by omega) (by omega), ec (nw + 8) (by omega) (by omega)]
      exact ⟨hkd, hms, by omega, hpf, hps, by omega, fun k hk => hgn k (by omega), fun k hk => hga k (by omega), by omega, fun k hk => hhp k (by omega), fun k hk => hhl k (by omega), fun k hk => hhi k (by omega), hod, ho1⟩
    · unfold MS
      rw [ec 77 (by omega) (by omega), ec 79 (by omega) (by omega), eP 9 (by omega), eP 10 (by omega), eP 21 (by omega), eR, eP 59 (by omega)]
      refine ⟨mc, mcc, mb, ml, fun i hi => ?_, mk_, mms, by omega, by omega, by omega, fun k hk => by rw [eP _ (by omega)]; exact mgn k (by omega), fun k hk => by rw [eP _ (by omega)]; exact mga k (by omega), fun n hn => by rw [eP _ (by omega)]; exact mod_ n hn, fun n hn => by rw [eP _ (by omega)]; exact mo1 n hn⟩
      by_cases q : i = 40
      · subst q; rw [eR]; omega
      · rw [eP i q]; exact ms i hi
    · unfold PV
      simp only [Nat.zero_add]
      rw [en 1 (by omega), en 2 (by omega), en 3 (by omega), en 9 (by omega), er, ec (nw + 1) (by omega) (by omega), ec (nw + 2) (by omega) (by omega), ec (nw + 3) (by omega) (by omega), ec (nw + 4) (by omega) (by omega), ec (nw + 5) (by omega) (by omega), ec (nw + 6) (by omega) (by omega), ec (nw + 7) (by omega) (by omega), ec (nw + 8) (by omega) (by omega), eP 9 (by omega), eP 10 (by omega), eP 21 (by omega), eR, eP 59 (by omega)]
      exact ⟨fun n hn => by rw [eP _ (by omega)]; exact p1 n hn, p2, p3, p4, fun k hk => by rw [eP _ (by omega), eP _ (by omega)]; exact p5 k (by omega), rfl, fun k hk => by rw [eP _ (by omega), eP _ (by omega)]; exact p7 k (by omega), p8, fun k hk => by rw [eP _ (by omega), eP _ (by omega), eP _ (by omega)]; exact p9 k (by omega)⟩
  · rw [if_neg hX]
    show 4294967295 = (part7 N 40 X).1 ∧ IV ad G (part7 N 40 X).2 nm nw dn dm c
    unfold part7
    rw [if_neg (show ¬ X ≤ N 78 40 by omega)]
    exact ⟨rfl, h⟩
theorem IV.forget {ad : Nat → Nat} {G : Nat → Nat → Option Nat} {N : Nat → Nat → Nat} {nm nw dn dm c X : Nat} (h : IV ad G N nm nw dn dm c) : (part6 N nw 9 X).1 = (part7 (part6 N nw 9 X).2 59 X).1 ∧ IV ad G (part7 (part6 N nw 9 X).2 59 X).2 nm nw dn dm c := by
  obtain ⟨⟨g1, g2, g3, _⟩, ⟨c1, c2, c3, c4, c5⟩, _, ⟨m1, m2, m3, m4⟩, ⟨n1, n2, n3⟩, _⟩ := id h
  have hc9 : c ≤ 9 := c1.2.1
  obtain ⟨p1, p2, p3, p4, p5, p6, p7, p8, p9⟩ := id n3
  simp only [Nat.zero_add] at p1 p2 p3 p4 p5 p6 p7 p8 p9
  obtain ⟨hkd, hms, hpr, hpf, hps, hg9, hgn, hga, hh6, hhp, hhl, hhi, hod, ho1⟩ := id c2
  obtain ⟨mc, mcc, mb, ml, ms, mk_, mms, mpr, mg9, mh, mgn, mga, mod_, mo1⟩ := id m1
  unfold part6
  by_cases hX : X ≤ N nw 9
  · rw [if_pos hX]
    have e1 : q_s N nw 9 X 78 59 = N nw 9 := by rw [q_s_ne (by omega)]; exact p8
    show N nw 9 = (part7 (q_s N nw 9 X) 59 X).1 ∧ IV ad G (part7 (q_s N nw 9 X) 59 X).2 nm nw dn dm c
    unfold part7
    rw [e1, if_pos hX]
    refine ⟨rfl, ?_⟩
    show IV ad G (q_s (q_s N nw 9 X) 78 59 X) nm nw dn dm c
    have ec : ∀ a, a ≠ nw → a ≠ 78 → q_s (q_s N nw 9 X) 78 59 X a = N a := fun a q1 q2 => by rw [q_s_ne q2, q_s_ne q1]
    have en : ∀ j, j ≠ 9 → q_s (q_s N nw 9 X) 78 59 X nw j = N nw j := fun j q => by rw [q_s_ne (by omega), q_s_off q]
    have er : q_s (q_s N nw 9 X) 78 59 X nw 9 = X := by rw [q_s_ne (by omega), q_s_at]
    have eP : ∀ j, j ≠ 59 → q_s (q_s N nw 9 X) 78 59 X 78 j = N 78 j := fun j q => by rw [q_s_off q, q_s_ne (by omega)]
    have eR : q_s (q_s N nw 9 X) 78 59 X 78 59 = X := q_s_at
    generalize q_s (q_s N nw 9 X) 78 59 X = M at *
    refine h.page (fun a q1 q2 => ec a (by omega) q2) (fun i hi => eP i (by omega)) (eP 9 (by omega)) (eP 10 (by omega)) ?_ ?_ ?_
    · unfold CM
      rw [en 1 (by omega), en 2 (by omega), en 3 (by omega), en 6 (by omega), er, ec (nw + 1) (by omega) (by omega), ec (nw + 2) (by omega) (by omega), ec (nw + 3) (by omega) (by omega), ec (nw + 4) (by omega) (by omega), ec (nw + 5) (by omega) (by omega), ec (nw + 6) (by omega) (by omega), ec (nw + 7) (by omega) (by omega), ec (nw + 8) (by omega) (by omega)]
      exact ⟨hkd, hms, by omega, hpf, hps, by omega, fun k hk => hgn k (by omega), fun k hk => hga k (by omega), by omega, fun k hk => hhp k (by omega), fun k hk => hhl k (by omega), fun k hk => hhi k (by omega), hod, ho1⟩
    · unfold MS
      rw [ec 77 (by omega) (by omega), ec 79 (by omega) (by omega), eP 9 (by omega), eP 10 (by omega), eP 21 (by omega), eP 40 (by omega), eR]
      refine ⟨mc, mcc, mb, ml, fun i hi => ?_, mk_, mms, by omega, by omega, by omega, fun k hk => by rw [eP _ (by omega)]; exact mgn k (by omega), fun k hk => by rw [eP _ (by omega)]; exact mga k (by omega), fun n hn => by rw [eP _ (by omega)]; exact mod_ n hn, fun n hn => by rw [eP _ (by omega)]; exact mo1 n hn⟩
      by_cases q : i = 59
      · subst q; rw [eR]; omega
      · rw [eP i q]; exact ms i hi
    · unfold PV
      simp only [Nat.zero_add]
      rw [en 1 (by omega), en 2 (by omega), en 3 (by omega), en 6 (by omega), er, ec (nw + 1) (by omega) (by omega), ec (nw + 2) (by omega) (by omega), ec (nw + 3) (by omega) (by omega), ec (nw + 4) (by omega) (by omega), ec (nw + 5) (by omega) (by omega), ec (nw + 6) (by omega) (by omega), ec (nw + 7) (by omega) (by omega), ec (nw + 8) (by omega) (by omega), eP 9 (by omega), eP 10 (by omega), eP 21 (by omega), eP 40 (by omega), eR]
      exact ⟨fun n hn => by rw [eP _ (by omega)]; exact p1 n hn, p2, p3, p4, fun k hk => by rw [eP _ (by omega), eP _ (by omega)]; exact p5 k (by omega), p6, fun k hk => by rw [eP _ (by omega), eP _ (by omega)]; exact p7 k (by omega), rfl, fun k hk => by rw [eP _ (by omega), eP _ (by omega), eP _ (by omega)]; exact p9 k (by omega)⟩
  · rw [if_neg hX]
    show 4294967295 = (part7 N 59 X).1 ∧ IV ad G (part7 N 59 X).2 nm nw dn dm c
    unfold part7
    rw [if_neg (show ¬ X ≤ N 78 59 by omega)]
    exact ⟨rfl, h⟩
