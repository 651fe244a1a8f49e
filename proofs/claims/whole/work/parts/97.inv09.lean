theorem IV.mix {ad : Nat → Nat} {G : Nat → Nat → Option Nat} {N : Nat → Nat → Nat} {nm nw dn dm c X Y : Nat} (h : IV ad G N nm nw dn dm c) : (mix6 N nw X Y).1 = (mix7 (mix6 N nw X Y).2 X Y).1 ∧ IV ad G (mix7 (mix6 N nw X Y).2 X Y).2 nm nw dn dm c := by
  obtain ⟨⟨g1, g2, g3, _⟩, ⟨c1, c2, c3, c4, c5⟩, _, ⟨m1, m2, m3, m4⟩, ⟨n1, n2, n3⟩, _⟩ := id h
  have hc9 : c ≤ 9 := c1.2.1
  obtain ⟨p1, p2, p3, p4, p5, p6, p7, p8, p9⟩ := id n3
  simp only [Nat.zero_add] at p1 p2 p3 p4 p5 p6 p7 p8 p9
  obtain ⟨hkd, hms, hpr, hpf, hps, hg9, hgn, hga, hh6, hhp, hhl, hhi, hod, ho1⟩ := id c2
  obtain ⟨mc, mcc, mb, ml, ms, mk_, mms, mpr, mg9, mh, mgn, mga, mod_, mo1⟩ := id m1
  unfold mix6
  by_cases hX : (X < 26 ∧ Y < 26) ∧ X ≠ Y
  · rw [if_pos hX]
    by_cases hf : 5 ≤ N nw 3
    · rw [if_pos hf]
      show 4294967293 = (mix7 N X Y).1 ∧ IV ad G (mix7 N X Y).2 nm nw dn dm c
      unfold mix7
      rw [if_pos hX, if_pos (show N 78 21 = 5 by omega)]
      exact ⟨rfl, h⟩
    · rw [if_neg hf]
      have e1 : (ad2 N nw 3 2 3 X Y) 78 21 = N nw 3 := by rw [ad2_ne (by omega) (by omega) (by omega)]; exact p4
      show N nw 3 + 1 = (mix7 (ad2 N nw 3 2 3 X Y) X Y).1 ∧ IV ad G (mix7 (ad2 N nw 3 2 3 X Y) X Y).2 nm nw dn dm c
      unfold mix7
      rw [if_pos hX, e1, if_neg (show ¬ N nw 3 = 5 by omega)]
      refine ⟨rfl, ?_⟩
      show IV ad G (q_s (q_s (q_s (ad2 N nw 3 2 3 X Y) 78 (11 + 2 * N nw 3) X) 78 (11 + 2 * N nw 3 + 1) Y) 78 21 (N nw 3 + 1)) nm nw dn dm c
      have ec : ∀ a, a ≠ nw → a ≠ nw + 2 → a ≠ nw + 3 → a ≠ 78 → (q_s (q_s (q_s (ad2 N nw 3 2 3 X Y) 78 (11 + 2 * N nw 3) X) 78 (11 + 2 * N nw 3 + 1) Y) 78 21 (N nw 3 + 1)) a = N a := fun a q0 r0 r1 q2 => by rw [q_s_ne q2, q_s_ne q2, q_s_ne q2, ad2, q_s_ne q0, q_s_ne r1, q_s_ne r0]
      have en : ∀ j, j ≠ 3 → (q_s (q_s (q_s (ad2 N nw 3 2 3 X Y) 78 (11 + 2 * N nw 3) X) 78 (11 + 2 * N nw 3 + 1) Y) 78 21 (N nw 3 + 1)) nw j = N nw j := fun j q => by rw [q_s_ne (show nw ≠ 78 by omega), q_s_ne (show nw ≠ 78 by omega), q_s_ne (show nw ≠ 78 by omega), ad2, q_s_off q, q_s_ne (by omega), q_s_ne (by omega)]
      have er : (q_s (q_s (q_s (ad2 N nw 3 2 3 X Y) 78 (11 + 2 * N nw 3) X) 78 (11 + 2 * N nw 3 + 1) Y) 78 21 (N nw 3 + 1)) nw 3 = N nw 3 + 1 := by rw [q_s_ne (show nw ≠ 78 by omega), q_s_ne (show nw ≠ 78 by omega), q_s_ne (show nw ≠ 78 by omega), ad2, q_s_at]
      have ea0 : ∀ j, (q_s (q_s (q_s (ad2 N nw 3 2 3 X Y) 78 (11 + 2 * N nw 3) X) 78 (11 + 2 * N nw 3 + 1) Y) 78 21 (N nw 3 + 1)) (nw + 2) j = if j = N nw 3 then X else N (nw + 2) j := fun j => by
        rw [q_s_ne (show nw + 2 ≠ 78 by omega), q_s_ne (show nw + 2 ≠ 78 by omega), q_s_ne (show nw + 2 ≠ 78 by omega), ad2, q_s_ne (by omega), q_s_ne (by omega)]
        by_cases q : j = N nw 3
        · subst q; rw [q_s_at, if_pos rfl]
        · rw [q_s_off q, if_neg q]
      have ea1 : ∀ j, (q_s (q_s (q_s (ad2 N nw 3 2 3 X Y) 78 (11 + 2 * N nw 3) X) 78 (11 + 2 * N nw 3 + 1) Y) 78 21 (N nw 3 + 1)) (nw + 3) j = if j = N nw 3 then Y else N (nw + 3) j := fun j => by
        rw [q_s_ne (show nw + 3 ≠ 78 by omega), q_s_ne (show nw + 3 ≠ 78 by omega), q_s_ne (show nw + 3 ≠ 78 by omega), ad2, q_s_ne (by omega)]
        by_cases q : j = N nw 3
        · subst q; rw [q_s_at, if_pos rfl]
        · rw [q_s_off q, if_neg q, q_s_ne (by omega)]
      have eR : (q_s (q_s (q_s (ad2 N nw 3 2 3 X Y) 78 (11 + 2 * N nw 3) X) 78 (11 + 2 * N nw 3 + 1) Y) 78 21 (N nw 3 + 1)) 78 21 = N nw 3 + 1 := q_s_at
      have eq0 : (q_s (q_s (q_s (ad2 N nw 3 2 3 X Y) 78 (11 + 2 * N nw 3) X) 78 (11 + 2 * N nw 3 + 1) Y) 78 21 (N nw 3 + 1)) 78 (11 + 2 * N nw 3) = X := by rw [q_s_off (by omega), q_s_off (by omega), q_s_at]
      have eq1 : (q_s (q_s (q_s (ad2 N nw 3 2 3 X Y) 78 (11 + 2 * N nw 3) X) 78 (11 + 2 * N nw 3 + 1) Y) 78 21 (N nw 3 + 1)) 78 (11 + 2 * N nw 3 + 1) = Y := by rw [q_s_off (by omega), q_s_at]
      have eP : ∀ j, j ≠ 21 → j ≠ 11 + 2 * N nw 3 → j ≠ 11 + 2 * N nw 3 + 1 → (q_s (q_s (q_s (ad2 N nw 3 2 3 X Y) 78 (11 + 2 * N nw 3) X) 78 (11 + 2 * N nw 3 + 1) Y) 78 21 (N nw 3 + 1)) 78 j = N 78 j := fun j q r0 r1 => by rw [q_s_off q, q_s_off r1, q_s_off r0, ad2_ne (by omega) (by omega) (by omega)]
      generalize q_s (q_s (q_s (ad2 N nw 3 2 3 X Y) 78 (11 + 2 * N nw 3) X) 78 (11 + 2 * N nw 3 + 1) Y) 78 21 (N nw 3 + 1) = M at *
      refine h.page (fun a q1 q2 => ec a (by omega) (by omega) (by omega) q2) (fun i hi => eP i (by omega) (by omega) (by omega)) (eP 9 (by omega) (by omega) (by omega)) (eP 10 (by omega) (by omega) (by omega)) ?_ ?_ ?_
      · unfold CM
        rw [en 1 (by omega), en 2 (by omega), en 6 (by omega), en 9 (by omega), er, ec (nw + 1) (by omega) (by omega) (by omega) (by omega), ec (nw + 4) (by omega) (by omega) (by omega) (by omega), ec (nw + 5) (by omega) (by omega) (by omega) (by omega), ec (nw + 6) (by omega) (by omega) (by omega) (by omega), ec (nw + 7) (by omega) (by omega) (by omega) (by omega), ec (nw + 8) (by omega) (by omega) (by omega) (by omega)]
        exact ⟨hkd, hms, by omega, fun k hk => by rw [ea0]; split <;> first | omega | exact hpf k (by omega), fun k hk => by rw [ea1]; split <;> first | omega | exact hps k (by omega), by omega, hgn, hga, by omega, hhp, hhl, hhi, hod, ho1⟩
      · unfold MS
        rw [ec 77 (by omega) (by omega) (by omega) (by omega), ec 79 (by omega) (by omega) (by omega) (by omega), eP 9 (by omega) (by omega) (by omega), eP 10 (by omega) (by omega) (by omega), eR, eP 40 (by omega) (by omega) (by omega), eP 59 (by omega) (by omega) (by omega)]
        refine ⟨mc, mcc, mb, ml, fun i hi => ?_, mk_, mms, by omega, by omega, by omega, fun k hk => by rw [eP _ (by omega) (by omega) (by omega)]; exact mgn k hk, fun k hk => by rw [eP _ (by omega) (by omega) (by omega)]; exact mga k hk, fun n hn => by rw [eP _ (by omega) (by omega) (by omega)]; exact mod_ n hn, fun n hn => by rw [eP _ (by omega) (by omega) (by omega)]; exact mo1 n hn⟩
        by_cases q : i = 21
        · subst q; rw [eR]; omega
        · by_cases q0 : i = 11 + 2 * N nw 3
          · subst q0; rw [eq0]; omega
          · by_cases q1 : i = 11 + 2 * N nw 3 + 1
            · subst q1; rw [eq1]; omega
            · rw [eP i q q0 q1]; exact ms i hi
      · unfold PV
        simp only [Nat.zero_add]
        rw [en 1 (by omega), en 2 (by omega), en 6 (by omega), en 9 (by omega), er, ec (nw + 1) (by omega) (by omega) (by omega) (by omega), ec (nw + 4) (by omega) (by omega) (by omega) (by omega), ec (nw + 5) (by omega) (by omega) (by omega) (by omega), ec (nw + 6) (by omega) (by omega) (by omega) (by omega), ec (nw + 7) (by omega) (by omega) (by omega) (by omega), ec (nw + 8) (by omega) (by omega) (by omega) (by omega), eP 9 (by omega) (by omega) (by omega), eP 10 (by omega) (by omega) (by omega), eR, eP 40 (by omega) (by omega) (by omega), eP 59 (by omega) (by omega) (by omega)]
        exact ⟨fun n hn => by rw [eP _ (by omega) (by omega) (by omega)]; exact p1 n hn, p2, p3, rfl, fun k hk => by
          rw [ea0, ea1]
          by_cases q : k = N nw 3
          · subst q; rw [eq0, eq1, if_pos rfl, if_pos rfl]; exact ⟨rfl, rfl⟩
          · rw [eP _ (by omega) (by omega) (by omega), eP _ (by omega) (by omega) (by omega), if_neg q, if_neg q]; exact p5 k (by omega), p6, fun k hk => by rw [eP _ (by omega) (by omega) (by omega), eP _ (by omega) (by omega) (by omega)]; exact p7 k hk, p8, fun k hk => by rw [eP _ (by omega) (by omega) (by omega), eP _ (by omega) (by omega) (by omega), eP _ (by omega) (by omega) (by omega)]; exact p9 k hk⟩
  · rw [if_neg hX]
    show 4294967295 = (mix7 N X Y).1 ∧ IV ad G (mix7 N X Y).2 nm nw dn dm c
    unfold mix7
    rw [if_neg hX]
    exact ⟨rfl, h⟩
theorem IV.gue {ad : Nat → Nat} {G : Nat → Nat → Option Nat} {N : Nat → Nat → Nat} {nm nw dn dm c X Y : Nat} (h : IV ad G N nm nw dn dm c) : (gue6 N nw c X Y).1 = (gue7 (gue6 N nw c X Y).2 c X Y).1 ∧ IV ad G (gue7 (gue6 N nw c X Y).2 c X Y).2 nm nw dn dm c := by
  obtain ⟨⟨g1, g2, g3, _⟩, ⟨c1, c2, c3, c4, c5⟩, _, ⟨m1, m2, m3, m4⟩, ⟨n1, n2, n3⟩, _⟩ := id h
  have hc9 : c ≤ 9 := c1.2.1
  obtain ⟨p1, p2, p3, p4, p5, p6, p7, p8, p9⟩ := id n3
  simp only [Nat.zero_add] at p1 p2 p3 p4 p5 p6 p7 p8 p9
  obtain ⟨hkd, hms, hpr, hpf, hps, hg9, hgn, hga, hh6, hhp, hhl, hhi, hod, ho1⟩ := id c2
  obtain ⟨mc, mcc, mb, ml, ms, mk_, mms, mpr, mg9, mh, mgn, mga, mod_, mo1⟩ := id m1
  unfold gue6
  by_cases hX : X < c ∧ Y ≤ 2
  · rw [if_pos hX]
    by_cases hf : 9 ≤ N nw 6
    · rw [if_pos hf]
      show 4294967293 = (gue7 N c X Y).1 ∧ IV ad G (gue7 N c X Y).2 nm nw dn dm c
      unfold gue7
      rw [if_pos hX, if_pos (show N 78 40 = 9 by omega)]
      exact ⟨rfl, h⟩
    · rw [if_neg hf]
      have e1 : (ad2 N nw 6 4 5 X Y) 78 40 = N nw 6 := by rw [ad2_ne (by omega) (by omega) (by omega)]; exact p6
      show N nw 6 + 1 = (gue7 (ad2 N nw 6 4 5 X Y) c X Y).1 ∧ IV ad G (gue7 (ad2 N nw 6 4 5 X Y) c X Y).2 nm nw dn dm c
      unfold gue7
      rw [if_pos hX, e1, if_neg (show ¬ N nw 6 = 9 by omega)]
      refine ⟨rfl, ?_⟩
      show IV ad G (q_s (q_s (q_s (ad2 N nw 6 4 5 X Y) 78 (22 + 2 * N nw 6) X) 78 (22 + 2 * N nw 6 + 1) Y) 78 40 (N nw 6 + 1)) nm nw dn dm c
      have ec : ∀ a, a ≠ nw → a ≠ nw + 4 → a ≠ nw + 5 → a ≠ 78 → (q_s (q_s (q_s (ad2 N nw 6 4 5 X Y) 78 (22 + 2 * N nw 6) X) 78 (22 + 2 * N nw 6 + 1) Y) 78 40 (N nw 6 + 1)) a = N a := fun a q0 r0 r1 q2 => by rw [q_s_ne q2, q_s_ne q2, q_s_ne q2, ad2, q_s_ne q0, q_s_ne r1, q_s_ne r0]
      have en : ∀ j, j ≠ 6 → (q_s (q_s (q_s (ad2 N nw 6 4 5 X Y) 78 (22 + 2 * N nw 6) X) 78 (22 + 2 * N nw 6 + 1) Y) 78 40 (N nw 6 + 1)) nw j = N nw j := fun j q => by rw [q_s_ne (show nw ≠ 78 by omega), q_s_ne (show nw ≠ 78 by omega), q_s_ne (show nw ≠ 78 by omega), ad2, q_s_off q, q_s_ne (by omega), q_s_ne (by omega)]
      have er : (q_s (q_s (q_s (ad2 N nw 6 4 5 X Y) 78 (22 + 2 * N nw 6) X) 78 (22 + 2 * N nw 6 + 1) Y) 78 40 (N nw 6 + 1)) nw 6 = N nw 6 + 1 := by rw [q_s_ne (show nw ≠ 78 by omega), q_s_ne (show nw ≠ 78 by omega), q_s_ne (show nw ≠ 78 by omega), ad2, q_s_at]
      have ea0 : ∀ j, (q_s (q_s (q_s (ad2 N nw 6 4 5 X Y) 78 (22 + 2 * N nw 6) X) 78 (22 + 2 * N nw 6 + 1) Y) 78 40 (N nw 6 + 1)) (nw + 4) j = if j = N nw 6 then X else N (nw + 4) j := fun j => by
        rw [q_s_ne (show nw + 4 ≠ 78 by omega), q_s_ne (show nw + 4 ≠ 78 by omega), q_s_ne (show nw + 4 ≠ 78 by omega), ad2, q_s_ne (by omega), q_s_ne (by omega)]
        by_cases q : j = N nw 6
        · subst q; rw [q_s_at, if_pos rfl]
        · rw [q_s_off q, if_neg q]
      have ea1 : ∀ j, (q_s (q_s (q_s (ad2 N nw 6 4 5 X Y) 78 (22 + 2 * N nw 6) X) 78 (22 + 2 * N nw 6 + 1) Y) 78 40 (N nw 6 + 1)) (nw + 5) j = if j = N nw 6 then Y else N (nw + 5) j := fun j => by
        rw [q_s_ne (show nw + 5 ≠ 78 by omega), q_s_ne (show nw + 5 ≠ 78 by omega), q_s_ne (show nw + 5 ≠ 78 by omega), ad2, q_s_ne (by omega)]
        by_cases q : j = N nw 6
        · subst q; rw [q_s_at, if_pos rfl]
        · rw [q_s_off q, if_neg q, q_s_ne (by omega)]
      have eR : (q_s (q_s (q_s (ad2 N nw 6 4 5 X Y) 78 (22 + 2 * N nw 6) X) 78 (22 + 2 * N nw 6 + 1) Y) 78 40 (N nw 6 + 1)) 78 40 = N nw 6 + 1 := q_s_at
      have eq0 : (q_s (q_s (q_s (ad2 N nw 6 4 5 X Y) 78 (22 + 2 * N nw 6) X) 78 (22 + 2 * N nw 6 + 1) Y) 78 40 (N nw 6 + 1)) 78 (22 + 2 * N nw 6) = X := by rw [q_s_off (by omega), q_s_off (by omega), q_s_at]
      have eq1 : (q_s (q_s (q_s (ad2 N nw 6 4 5 X Y) 78 (22 + 2 * N nw 6) X) 78 (22 + 2 * N nw 6 + 1) Y) 78 40 (N nw 6 + 1)) 78 (22 + 2 * N nw 6 + 1) = Y := by rw [q_s_off (by omega), q_s_at]
      have eP : ∀ j, j ≠ 40 → j ≠ 22 + 2 * N nw 6 → j ≠ 22 + 2 * N nw 6 + 1 → (q_s (q_s (q_s (ad2 N nw 6 4 5 X Y) 78 (22 + 2 * N nw 6) X) 78 (22 + 2 * N nw 6 + 1) Y) 78 40 (N nw 6 + 1)) 78 j = N 78 j := fun j q r0 r1 => by rw [q_s_off q, q_s_off r1, q_s_off r0, ad2_ne (by omega) (by omega) (by omega)]
      generalize q_s (q_s (q_s (ad2 N nw 6 4 5 X Y) 78 (22 + 2 * N nw 6) X) 78 (22 + 2 * N nw 6 + 1) Y) 78 40 (N nw 6 + 1) = M at *
      refine h.page (fun a q1 q2 => ec a (by omega) (by omega) (by omega) q2) (fun i hi => eP i (by omega) (by omega) (by omega)) (eP 9 (by omega) (by omega) (by omega)) (eP 10 (by omega) (by omega) (by omega)) ?_ ?_ ?_
      · unfold CM
        rw [en 1 (by omega), en 2 (by omega), en 3 (by omega), en 9 (by omega), er, ec (nw + 1) (by omega) (by omega) (by omega) (by omega), ec (nw + 2) (by omega) (by omega) (by omega) (by omega), ec (nw + 3) (by omega) (by omega) (by omega) (by omega), ec (nw + 6) (by omega) (by omega) (by omega) (by omega), ec (nw + 7) (by omega) (by omega) (by omega) (by omega), ec (nw + 8) (by omega) (by omega) (by omega) (by omega)]
        exact ⟨hkd, hms, by omega, hpf, hps, by omega, fun k hk => by rw [ea0]; split <;> first | omega | exact hgn k (by omega), fun k hk => by rw [ea1]; split <;> first | omega | exact hga k (by omega), by omega, hhp, hhl, hhi, hod, ho1⟩
      · unfold MS
        rw [ec 77 (by omega) (by omega) (by omega) (by omega), ec 79 (by omega) (by omega) (by omega) (by omega), eP 9 (by omega) (by omega) (by omega), eP 10 (by omega) (by omega) (by omega), eP 21 (by omega) (by omega) (by omega), eR, eP 59 (by omega) (by omega) (by omega)]
        refine ⟨mc, mcc, mb, ml, fun i hi => ?_, mk_, mms, by omega, by omega, by omega, fun k hk => by
          by_cases q : k = N nw 6
          · subst q; rw [eq0]; omega
          · rw [eP _ (by omega) (by omega) (by omega)]; exact mgn k (by omega), fun k hk => by
          by_cases q : k = N nw 6
          · subst q; rw [eq1]; omega
          · rw [eP _ (by omega) (by omega) (by omega)]; exact mga k (by omega), fun n hn => by rw [eP _ (by omega) (by omega) (by omega)]; exact mod_ n hn, fun n hn => by rw [eP _ (by omega) (by omega) (by omega)]; exact mo1 n hn⟩
        by_cases q : i = 40
        · subst q; rw [eR]; omega
        · by_cases q0 : i = 22 + 2 * N nw 6
          · subst q0; rw [eq0]; omega
          · by_cases q1 : i = 22 + 2 * N nw 6 + 1
            · subst q1; rw [eq1]; omega
            · rw [eP i q q0 q1]; exact ms i hi
      · unfold PV
        simp only [Nat.zero_add]
        rw [en 1 (by omega), en 2 (by omega), en 3 (by omega), en 9 (by omega), er, ec (nw + 1) (by omega) (by omega) (by omega) (by omega), ec (nw + 2) (by omega) (by omega) (by omega) (by omega), ec (nw + 3) (by omega) (by omega) (by omega) (by omega), ec (nw + 6) (by omega) (by omega) (by omega) (by omega), ec (nw + 7) (by omega) (by omega) (by omega) (by omega), ec (nw + 8) (by omega) (by omega) (by omega) (by omega), eP 9 (by omega) (by omega) (by omega), eP 10 (by omega) (by omega) (by omega), eP 21 (by omega) (by omega) (by omega), eR, eP 59 (by omega) (by omega) (by omega)]
        exact ⟨fun n hn => by rw [eP _ (by omega) (by omega) (by omega)]; exact p1 n hn, p2, p3, p4, fun k hk => by rw [eP _ (by omega) (by omega) (by omega), eP _ (by omega) (by omega) (by omega)]; exact p5 k hk, rfl, fun k hk => by
          rw [ea0, ea1]
          by_cases q : k = N nw 6
          · subst q; rw [eq0, eq1, if_pos rfl, if_pos rfl]; exact ⟨rfl, rfl⟩
          · rw [eP _ (by omega) (by omega) (by omega), eP _ (by omega) (by omega) (by omega), if_neg q, if_neg q]; exact p7 k (by omega), p8, fun k hk => by rw [eP _ (by omega) (by omega) (by omega), eP _ (by omega) (by omega) (by omega), eP _ (by omega) (by omega) (by omega)]; exact p9 k hk⟩
  · rw [if_neg hX]
    show 4294967295 = (gue7 N c X Y).1 ∧ IV ad G (gue7 N c X Y).2 nm nw dn dm c
    unfold gue7
    rw [if_neg hX]
    exact ⟨rfl, h⟩
theorem IV.hear {ad : Nat → Nat} {G : Nat → Nat → Option Nat} {N : Nat → Nat → Nat} {nm nw dn dm c X Y b : Nat} (h : IV ad G N nm nw dn dm c) : (hear6 N nw X Y b).1 = (hear7 (hear6 N nw X Y b).2 X Y b).1 ∧ IV ad G (hear7 (hear6 N nw X Y b).2 X Y b).2 nm nw dn dm c := by
  obtain ⟨⟨g1, g2, g3, _⟩, ⟨c1, c2, c3, c4, c5⟩, _, ⟨m1, m2, m3, m4⟩, ⟨n1, n2, n3⟩, _⟩ := id h
  have hc9 : c ≤ 9 := c1.2.1
  obtain ⟨p1, p2, p3, p4, p5, p6, p7, p8, p9⟩ := id n3
  simp only [Nat.zero_add] at p1 p2 p3 p4 p5 p6 p7 p8 p9
  obtain ⟨hkd, hms, hpr, hpf, hps, hg9, hgn, hga, hh6, hhp, hhl, hhi, hod, ho1⟩ := id c2
  obtain ⟨mc, mcc, mb, ml, ms, mk_, mms, mpr, mg9, mh, mgn, mga, mod_, mo1⟩ := id m1
  unfold hear6
  by_cases hX : X ≤ 7 ∧ Y < 26
  · rw [if_pos hX]
    by_cases hf : 6 ≤ N nw 9
    · rw [if_pos hf]
      show 4294967293 = (hear7 N X Y b).1 ∧ IV ad G (hear7 N X Y b).2 nm nw dn dm c
      unfold hear7
      rw [if_pos hX, if_pos (show N 78 59 = 6 by omega)]
      exact ⟨rfl, h⟩
    · rw [if_neg hf]
      have e1 : (ad3 N nw 9 6 7 8 X Y (if b = 0 then 0 else 1)) 78 59 = N nw 9 := by rw [ad3, q_s_ne (by omega), q_s_ne (by omega), q_s_ne (by omega), q_s_ne (by omega)]; exact p8
      show N nw 9 + 1 = (hear7 (ad3 N nw 9 6 7 8 X Y (if b = 0 then 0 else 1)) X Y b).1 ∧ IV ad G (hear7 (ad3 N nw 9 6 7 8 X Y (if b = 0 then 0 else 1)) X Y b).2 nm nw dn dm c
      unfold hear7
      rw [if_pos hX, e1, if_neg (show ¬ N nw 9 = 6 by omega)]
      refine ⟨rfl, ?_⟩
      show IV ad G (q_s (q_s (q_s (q_s (ad3 N nw 9 6 7 8 X Y (if b = 0 then 0 else 1)) 78 (41 + 3 * N nw 9) X) 78 (41 + 3 * N nw 9 + 1) Y) 78 (41 + 3 * N nw 9 + 2) (if b = 0 then 0 else 1)) 78 59 (N nw 9 + 1)) nm nw dn dm c
      have ec : ∀ a, a ≠ nw → a ≠ nw + 6 → a ≠ nw + 7 → a ≠ nw + 8 → a ≠ 78 → (q_s (q_s (q_s (q_s (ad3 N nw 9 6 7 8 X Y (if b = 0 then 0 else 1)) 78 (41 + 3 * N nw 9) X) 78 (41 + 3 * N nw 9 + 1) Y) 78 (41 + 3 * N nw 9 + 2) (if b = 0 then 0 else 1)) 78 59 (N nw 9 + 1)) a = N a := fun a q0 r0 r1 r2 q2 => by rw [q_s_ne q2, q_s_ne q2, q_s_ne q2, q_s_ne q2, ad3, q_s_ne q0, q_s_ne r2, q_s_ne r1, q_s_ne r0]
      have en : ∀ j, j ≠ 9 → (q_s (q_s (q_s (q_s (ad3 N nw 9 6 7 8 X Y (if b = 0 then 0 else 1)) 78 (41 + 3 * N nw 9) X) 78 (41 + 3 * N nw 9 + 1) Y) 78 (41 + 3 * N nw 9 + 2) (if b = 0 then 0 else 1)) 78 59 (N nw 9 + 1)) nw j = N nw j := fun j q => by rw [q_s_ne (show nw ≠ 78 by omega), q_s_ne (show nw ≠ 78 by omega), q_s_ne (show nw ≠ 78 by omega), q_s_ne (show nw ≠ 78 by omega), ad3, q_s_off q, q_s_ne (by omega), q_s_ne (by omega), q_s_ne (by omega)]
      have er : (q_s (q_s (q_s (q_s (ad3 N nw 9 6 7 8 X Y (if b = 0 then 0 else 1)) 78 (41 + 3 * N nw 9) X) 78 (41 + 3 * N nw 9 + 1) Y) 78 (41 + 3 * N nw 9 + 2) (if b = 0 then 0 else 1)) 78 59 (N nw 9 + 1)) nw 9 = N nw 9 + 1 := by rw [q_s_ne (show nw ≠ 78 by omega), q_s_ne (show nw ≠ 78 by omega), q_s_ne (show nw ≠ 78 by omega), q_s_ne (show nw ≠ 78 by omega), ad3, q_s_at]
      have ea0 : ∀ j, (q_s (q_s (q_s (q_s (ad3 N nw 9 6 7 8 X Y (if b = 0 then 0 else 1)) 78 (41 + 3 * N nw 9) X) 78 (41 + 3 * N nw 9 + 1) Y) 78 (41 + 3 * N nw 9 + 2) (if b = 0 then 0 else 1)) 78 59 (N nw 9 + 1)) (nw + 6) j = if j = N nw 9 then X else N (nw + 6) j := fun j => by
        rw [q_s_ne (show nw + 6 ≠ 78 by omega), q_s_ne (show nw + 6 ≠ 78 by omega), q_s_ne (show nw + 6 ≠ 78 by omega), q_s_ne (show nw + 6 ≠ 78 by omega), ad3, q_s_ne (by omega), q_s_ne (by omega), q_s_ne (by omega)]
        by_cases q : j = N nw 9
        · subst q; rw [q_s_at, if_pos rfl]
        · rw [q_s_off q, if_neg q]
      have ea1 : ∀ j, (q_s (q_s (q_s (q_s (ad3 N nw 9 6 7 8 X Y (if b = 0 then 0 else 1)) 78 (41 + 3 * N nw 9) X) 78 (41 + 3 * N nw 9 + 1) Y) 78 (41 + 3 * N nw 9 + 2) (if b = 0 then 0 else 1)) 78 59 (N nw 9 + 1)) (nw + 7) j = if j = N nw 9 then Y else N (nw + 7) j := fun j => by
        rw [q_s_ne (show nw + 7 ≠ 78 by omega), q_s_ne (show nw + 7 ≠ 78 by omega), q_s_ne (show nw + 7 ≠ 78 by omega), q_s_ne (show nw + 7 ≠ 78 by omega), ad3, q_s_ne (by omega), q_s_ne (by omega)]
        by_cases q : j = N nw 9
        · subst q; rw [q_s_at, if_pos rfl]
        · rw [q_s_off q, if_neg q, q_s_ne (by omega)]
      have ea2 : ∀ j, (q_s (q_s (q_s (q_s (ad3 N nw 9 6 7 8 X Y (if b = 0 then 0 else 1)) 78 (41 + 3 * N nw 9) X) 78 (41 + 3 * N nw 9 + 1) Y) 78 (41 + 3 * N nw 9 + 2) (if b = 0 then 0 else 1)) 78 59 (N nw 9 + 1)) (nw + 8) j = if j = N nw 9 then (if b = 0 then 0 else 1) else N (nw + 8) j := fun j => by
        rw [q_s_ne (show nw + 8 ≠ 78 by omega), q_s_ne (show nw + 8 ≠ 78 by omega), q_s_ne (show nw + 8 ≠ 78 by omega), q_s_ne (show nw + 8 ≠ 78 by omega), ad3, q_s_ne (by omega)]
        by_cases q : j = N nw 9
        · subst q; rw [q_s_at, if_pos rfl]
        · rw [q_s_off q, if_neg q, q_s_ne (by omega), q_s_ne (by omega)]
      have eR : (q_s (q_s (q_s (q_s (ad3 N nw 9 6 7 8 X Y (if b = 0 then 0 else 1)) 78 (41 + 3 * N nw 9) X) 78 (41 + 3 * N nw 9 + 1) Y) 78 (41 + 3 * N nw 9 + 2) (if b = 0 then 0 else 1)) 78 59 (N nw 9 + 1)) 78 59 = N nw 9 + 1 := q_s_at
      have eq0 : (q_s (q_s (q_s (q_s (ad3 N nw 9 6 7 8 X Y (if b = 0 then 0 else 1)) 78 (41 + 3 * N nw 9) X) 78 (41 + 3 * N nw 9 + 1) Y) 78 (41 + 3 * N nw 9 + 2) (if b = 0 then 0 else 1)) 78 59 (N nw 9 + 1)) 78 (41 + 3 * N nw 9) = X := by rw [q_s_off (by omega), q_s_off (by omega), q_s_off (by omega), q_s_at]
      have eq1 : (q_s (q_s (q_s (q_s (ad3 N nw 9 6 7 8 X Y (if b = 0 then 0 else 1)) 78 (41 + 3 * N nw 9) X) 78 (41 + 3 * N nw 9 + 1) Y) 78 (41 + 3 * N nw 9 + 2) (if b = 0 then 0 else 1)) 78 59 (N nw 9 + 1)) 78 (41 + 3 * N nw 9 + 1) = Y := by rw [q_s_off (by omega), q_s_off (by omega), q_s_at]
      have eq2 : (q_s (q_s (q_s (q_s (ad3 N nw 9 6 7 8 X Y (if b = 0 then 0 else 1)) 78 (41 + 3 * N nw 9) X) 78 (41 + 3 * N nw 9 + 1) Y) 78 (41 + 3 * N nw 9 + 2) (if b = 0 then 0 else 1)) 78 59 (N nw 9 + 1)) 78 (41 + 3 * N nw 9 + 2) = (if b = 0 then 0 else 1) := by rw [q_s_off (by omega), q_s_at]
      have eP : ∀ j, j ≠ 59 → j ≠ 41 + 3 * N nw 9 → j ≠ 41 + 3 * N nw 9 + 1 → j ≠ 41 + 3 * N nw 9 + 2 → (q_s (q_s (q_s (q_s (ad3 N nw 9 6 7 8 X Y (if b = 0 then 0 else 1)) 78 (41 + 3 * N nw 9) X) 78 (41 + 3 * N nw 9 + 1) Y) 78 (41 + 3 * N nw 9 + 2) (if b = 0 then 0 else 1)) 78 59 (N nw 9 + 1)) 78 j = N 78 j := fun j q r0 r1 r2 => by rw [q_s_off q, q_s_off r2, q_s_off r1, q_s_off r0, ad3, q_s_ne (by omega), q_s_ne (by omega), q_s_ne (by omega), q_s_ne (by omega)]
      generalize q_s (q_s (q_s (q_s (ad3 N nw 9 6 7 8 X Y (if b = 0 then 0 else 1)) 78 (41 + 3 * N nw 9) X) 78 (41 + 3 * N nw 9 + 1) Y) 78 (41 + 3 * N nw 9 + 2) (if b = 0 then 0 else 1)) 78 59 (N nw 9 + 1) = M at *
      have hb1 : (if b = 0 then 0 else 1) ≤ 1 := by split <;> omega
      generalize (if b = 0 then 0 else 1) = z at *
      refine h.page (fun a q1 q2 => ec a (by omega) (by omega) (by omega) (by omega) q2) (fun i hi => eP i (by omega) (by omega) (by omega) (by omega)) (eP 9 (by omega) (by omega) (by omega) (by omega)) (eP 10 (by omega) (by omega) (by omega) (by omega)) ?_ ?_ ?_
      · unfold CM
        rw [en 1 (by omega), en 2 (by omega), en 3 (by omega), en 6 (by omega), er, ec (nw + 1) (by omega) (by omega) (by omega) (by omega) (by omega), ec (nw + 2) (by omega) (by omega) (by omega) (by omega) (by omega), ec (nw + 3) (by omega) (by omega) (by omega) (by omega) (by omega), ec (nw + 4) (by omega) (by omega) (by omega) (by omega) (by omega), ec (nw + 5) (by omega) (by omega) (by omega) (by omega) (by omega)]
        exact ⟨hkd, hms, by omega, hpf, hps, by omega, hgn, hga, by omega, fun k hk => by rw [ea0]; split <;> first | omega | exact hhp k (by omega), fun k hk => by rw [ea1]; split <;> first | omega | exact hhl k (by omega), fun k hk => by rw [ea2]; split <;> first | omega | exact hhi k (by omega), hod, ho1⟩
      · unfold MS
        rw [ec 77 (by omega) (by omega) (by omega) (by omega) (by omega), ec 79 (by omega) (by omega) (by omega) (by omega) (by omega), eP 9 (by omega) (by omega) (by omega) (by omega), eP 10 (by omega) (by omega) (by omega) (by omega), eP 21 (by omega) (by omega) (by omega) (by omega), eP 40 (by omega) (by omega) (by omega) (by omega), eR]
        refine ⟨mc, mcc, mb, ml, fun i hi => ?_, mk_, mms, by omega, by omega, by omega, fun k hk => by rw [eP _ (by omega) (by omega) (by omega) (by omega)]; exact mgn k hk, fun k hk => by rw [eP _ (by omega) (by omega) (by omega) (by omega)]; exact mga k hk, fun n hn => by rw [eP _ (by omega) (by omega) (by omega) (by omega)]; exact mod_ n hn, fun n hn => by rw [eP _ (by omega) (by omega) (by omega) (by omega)]; exact mo1 n hn⟩
        by_cases q : i = 59
        · subst q; rw [eR]; omega
        · by_cases q0 : i = 41 + 3 * N nw 9
          · subst q0; rw [eq0]; omega
          · by_cases q1 : i = 41 + 3 * N nw 9 + 1
            · subst q1; rw [eq1]; omega
            · by_cases q2 : i = 41 + 3 * N nw 9 + 2
              · subst q2; rw [eq2]; omega
              · rw [eP i q q0 q1 q2]; exact ms i hi
      · unfold PV
        simp only [Nat.zero_add]
        rw [en 1 (by omega), en 2 (by omega), en 3 (by omega), en 6 (by omega), er, ec (nw + 1) (by omega) (by omega) (by omega) (by omega) (by omega), ec (nw + 2) (by omega) (by omega) (by omega) (by omega) (by omega), ec (nw + 3) (by omega) (by omega) (by omega) (by omega) (by omega), ec (nw + 4) (by omega) (by omega) (by omega) (by omega) (by omega), ec (nw + 5) (by omega) (by omega) (by omega) (by omega) (by omega), eP 9 (by omega) (by omega) (by omega) (by omega), eP 10 (by omega) (by omega) (by omega) (by omega), eP 21 (by omega) (by omega) (by omega) (by omega), eP 40 (by omega) (by omega) (by omega) (by omega), eR]
        exact ⟨fun n hn => by rw [eP _ (by omega) (by omega) (by omega) (by omega)]; exact p1 n hn, p2, p3, p4, fun k hk => by rw [eP _ (by omega) (by omega) (by omega) (by omega), eP _ (by omega) (by omega) (by omega) (by omega)]; exact p5 k hk, p6, fun k hk => by rw [eP _ (by omega) (by omega) (by omega) (by omega), eP _ (by omega) (by omega) (by omega) (by omega)]; exact p7 k hk, rfl, fun k hk => by
          rw [ea0, ea1, ea2]
          by_cases q : k = N nw 9
          · subst q; rw [eq0, eq1, eq2, if_pos rfl, if_pos rfl, if_pos rfl]; exact ⟨rfl, rfl, rfl⟩
          · rw [eP _ (by omega) (by omega) (by omega) (by omega), eP _ (by omega) (by omega) (by omega) (by omega), eP _ (by omega) (by omega) (by omega) (by omega), if_neg q, if_neg q, if_neg q]; exact p9 k (by omega)⟩
  · rw [if_neg hX]
    show 4294967295 = (hear7 N X Y b).1 ∧ IV ad G (hear7 N X Y b).2 nm nw dn dm c
    unfold hear7
    rw [if_neg hX]
    exact ⟨rfl, h⟩
