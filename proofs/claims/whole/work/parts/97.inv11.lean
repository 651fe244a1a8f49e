/-- when only the sheets have changed -/
theorem IV.shs {ad : Nat → Nat} {G : Nat → Nat → Option Nat} {N M : Nat → Nat → Nat} {nm nw dn dm c : Nat} (h : IV ad G N nm nw dn dm c) (e : ∀ a, (a < 69 ∨ 76 < a) → a ≠ 93 → a ≠ 94 → a ≠ 95 → M a = N a) (hSM : IS M) : IV ad G M nm nw dn dm c := by
  obtain ⟨hG, ⟨c1, c2, c3, c4, c5⟩, ⟨t1, t2, t3, t4, t5, t6, t7, t8⟩, ⟨m1, m2, m3, m4⟩, ⟨n1, n2, n3⟩, hI, hS⟩ := h
  obtain ⟨g1, g2, g3, g4, g5, _⟩ := id hG
  have E : ∀ a, a < 69 ∨ (76 < a ∧ a < 93) → M a = N a := fun a q => e a (by omega) (by omega) (by omega) (by omega)
  have e78 := E 78 (by omega)
  have e79 := E 79 (by omega)
  have r7 : R7 M = R7 N := R7_eq (by rw [e78]) (by rw [e78]) e79
  refine ⟨hG, ⟨c1.eq (fun a _ _ => E a (by omega)), c2.eq (fun a _ _ => E a (by omega)), ?_, c4.same (fun a _ => E a (by omega)), c5.eq g2.1 (fun a _ _ => E a (by omega)) (by rw [E 0 (by omega)])⟩, ⟨?_, ?_, ?_, ?_, ?_, ?_, ?_, ?_⟩, ⟨m1.eq (by rw [E 77 (by omega)]) e78 e79, m2.eq (E 82 (by omega)) (E 83 (by omega)), ?_, ?_⟩, ⟨n1.eq e79 (fun a _ _ => E a (by omega)), n2.eq (E 80 (by omega)) (fun a _ _ => E a (by omega)), n3.eq e78 (fun a _ _ => E a (by omega))⟩, ?_, hSM⟩
  · rw [E 36 (by omega), r7]; exact c3
  · rw [E 0 (by omega)]; exact t1
  · rw [E 1 (by omega)]; exact t2
  · rw [E 77 (by omega), E 0 (by omega)]; exact t3
  · rw [E 84 (by omega), E 1 (by omega)]; exact t4
  · rw [E 77 (by omega), E 0 (by omega)]; exact t5
  · rw [E 0 (by omega)]; exact t6
  · rw [E 77 (by omega), E 0 (by omega)]; exact t7
  · rw [E 0 (by omega)]; exact t8
  · rw [E 85 (by omega)]; exact m3
  · rw [E 86 (by omega)]; exact m4
  · intro i hi
    obtain ⟨i1, i2, i3⟩ := hI i hi
    rw [E 34 (by omega), E 92 (by omega)]
    exact ⟨⟨i1.1, fun n hn => by rw [e78]; exact i1.2 n hn⟩, i2, fun q => ⟨(i3 q).1.eq (fun a _ _ => E a (by omega)), (i3 q).2.eq e78 (fun a _ _ => E a (by omega))⟩⟩
theorem layv_lt {l z : Nat} (hz : z < 4294967296) : layv l z < 4294967296 := by
  unfold layv
  split
  · exact sx8_lt z
  · split
    · exact sx16_lt z
    · exact hz
theorem IV.sheet {ad : Nat → Nat} {G : Nat → Nat → Option Nat} {N : Nat → Nat → Nat} {nm nw dn dm c X Y Z : Nat} (h : IV ad G N nm nw dn dm c) : (sheet6 N X Y Z).1 = (sheet7 (sheet6 N X Y Z).2 X Y Z).1 ∧ IV ad G (sheet7 (sheet6 N X Y Z).2 X Y Z).2 nm nw dn dm c := by
  have hS := h.2.2.2.2.2.2
  unfold sheet6
  by_cases hX : (X ≤ 3 ∧ Y ≤ 2) ∧ (Z ≤ 40 ∨ 2147483648 ≤ Z)
  · rw [if_pos hX]
    by_cases hz : 2147483648 ≤ Z
    · rw [if_pos hz]
      show 4294967282 = (sheet7 N X Y Z).1 ∧ IV ad G (sheet7 N X Y Z).2 nm nw dn dm c
      unfold sheet7
      rw [if_pos hX, if_pos hz]
      exact ⟨rfl, h⟩
    · rw [if_neg hz]
      show 1 = (sheet7 (rnw N (69 + 2 * X) Y Z) X Y Z).1 ∧ IV ad G (sheet7 (rnw N (69 + 2 * X) Y Z) X Y Z).2 nm nw dn dm c
      unfold sheet7
      rw [if_pos hX, if_neg hz]
      refine ⟨rfl, ?_⟩
      show IV ad G (q_r (q_s (q_s (rnw N (69 + 2 * X) Y Z) 93 X Y) 94 X Z) 95 (fun j => if 40 * X ≤ j ∧ j < 40 * X + 40 then 0 else rnw N (69 + 2 * X) Y Z 95 j)) nm nw dn dm c
      have r0 : ∀ a, a ≠ 69 + 2 * X → a ≠ 69 + 2 * X + 1 → rnw N (69 + 2 * X) Y Z a = N a := fun a q1 q2 => by rw [rnw, q_r_ne q2, q_s_ne q1, q_s_ne q1]
      have ra : rnw N (69 + 2 * X) Y Z (69 + 2 * X) 0 = Y := by rw [rnw, q_r_ne (by omega), q_s_off (by omega), q_s_at]
      have rb : rnw N (69 + 2 * X) Y Z (69 + 2 * X) 1 = Z := by rw [rnw, q_r_ne (by omega), q_s_at]
      have rc : ∀ j, j < 40 → rnw N (69 + 2 * X) Y Z (69 + 2 * X + 1) j = 0 := fun j hj => by rw [rnw, q_r_at, if_pos hj]
      generalize rnw N (69 + 2 * X) Y Z = R at *
      have ec : ∀ a, a ≠ 93 → a ≠ 94 → a ≠ 95 → q_r (q_s (q_s R 93 X Y) 94 X Z) 95 (fun j => if 40 * X ≤ j ∧ j < 40 * X + 40 then 0 else R 95 j) a = R a := fun a q1 q2 q3 => by rw [q_r_ne q3, q_s_ne q2, q_s_ne q1]
      have e93 : ∀ j, q_r (q_s (q_s R 93 X Y) 94 X Z) 95 (fun j => if 40 * X ≤ j ∧ j < 40 * X + 40 then 0 else R 95 j) 93 j = if j = X then Y else N 93 j := fun j => by
        rw [q_r_ne (by omega), q_s_ne (by omega)]
        by_cases q : j = X
        · subst q; rw [q_s_at, if_pos rfl]
        · rw [q_s_off q, if_neg q, r0 93 (by omega) (by omega)]
      have e94 : ∀ j, q_r (q_s (q_s R 93 X Y) 94 X Z) 95 (fun j => if 40 * X ≤ j ∧ j < 40 * X + 40 then 0 else R 95 j) 94 j = if j = X then Z else N 94 j := fun j => by
        rw [q_r_ne (by omega)]
        by_cases q : j = X
        · subst q; rw [q_s_at, if_pos rfl]
        · rw [q_s_off q, if_neg q, q_s_ne (by omega), r0 94 (by omega) (by omega)]
      have e95 : ∀ j, q_r (q_s (q_s R 93 X Y) 94 X Z) 95 (fun j => if 40 * X ≤ j ∧ j < 40 * X + 40 then 0 else R 95 j) 95 j = if 40 * X ≤ j ∧ j < 40 * X + 40 then 0 else N 95 j := fun j => by
        rw [q_r_at, r0 95 (by omega) (by omega)]
      generalize q_r (q_s (q_s R 93 X Y) 94 X Z) 95 (fun j => if 40 * X ≤ j ∧ j < 40 * X + 40 then 0 else R 95 j) = M at *
      refine h.shs (fun a q1 q2 q3 q4 => by rw [ec a q2 q3 q4, r0 a (by omega) (by omega)]) (fun x hx => ?_)
      rw [e93, e94, ec (69 + 2 * x) (by omega) (by omega) (by omega), ec (69 + 2 * x + 1) (by omega) (by omega) (by omega)]
      by_cases q : x = X
      · subst q
        rw [if_pos rfl, if_pos rfl, ra, rb, if_neg (show ¬ Y = 4294967295 by omega)]
        refine ⟨⟨?_, ?_⟩, fun i hi => ⟨?_, ?_⟩, rfl, rfl⟩
        · rw [ec (69 + 2 * x) (by omega) (by omega) (by omega), ra]; omega
        · rw [ec (69 + 2 * x) (by omega) (by omega) (by omega), rb]; omega
        · rw [rc i hi]; omega
        · rw [rc i hi, e95, if_pos (by omega)]
      · obtain ⟨s1, s2, s3, s4⟩ := hS x hx
        rw [if_neg q, if_neg q, r0 (69 + 2 * x) (by omega) (by omega), r0 (69 + 2 * x + 1) (by omega) (by omega)]
        exact ⟨s1.eq (by rw [ec (69 + 2 * x) (by omega) (by omega) (by omega), r0 (69 + 2 * x) (by omega) (by omega)]), fun i hi => ⟨(s2 i hi).1, by rw [e95, if_neg (by omega)]; exact (s2 i hi).2⟩, s3, s4⟩
  · rw [if_neg hX]
    show 4294967295 = (sheet7 N X Y Z).1 ∧ IV ad G (sheet7 N X Y Z).2 nm nw dn dm c
    unfold sheet7
    rw [if_neg hX]
    exact ⟨rfl, h⟩
theorem IV.lay {ad : Nat → Nat} {G : Nat → Nat → Option Nat} {N : Nat → Nat → Nat} {nm nw dn dm c X Y Z : Nat} (h : IV ad G N nm nw dn dm c) (hZ : Z < 4294967296) : (put6 N X Y Z).1 = (put7 (put6 N X Y Z).2 X Y Z).1 ∧ IV ad G (put7 (put6 N X Y Z).2 X Y Z).2 nm nw dn dm c := by
  have hS := h.2.2.2.2.2.2
  unfold put6
  by_cases hX : X ≤ 3
  · rw [if_pos hX]
    obtain ⟨s1, s2, s3, s4⟩ := hS X (by omega)
    by_cases hl : N (69 + 2 * X) 0 = 4294967295
    · have ef : fta N (69 + 2 * X) Y = 1 := by rw [fta, if_pos hl]
      rw [ef, if_neg (by decide)]
      show 4294967286 - 1 = (put7 N X Y Z).1 ∧ IV ad G (put7 N X Y Z).2 nm nw dn dm c
      unfold put7
      rw [if_pos hX, s4, if_pos hl, if_pos rfl]
      exact ⟨rfl, h⟩
    · rw [if_neg hl] at s4
      have hle : N (69 + 2 * X) 0 ≤ 2 := by rcases s1.1 with q | q <;> omega
      by_cases hy : Y < N (69 + 2 * X) 1
      · have ef : fta N (69 + 2 * X) Y = 0 := by rw [fta, if_neg hl, if_pos hy]
        have hy40 : Y < 40 := Nat.lt_of_lt_of_le hy s1.2
        rw [ef, if_pos rfl]
        have f93 : q_s N (69 + 2 * X + 1) Y (layv (N (69 + 2 * X) 0) Z) 93 = N 93 := q_s_ne (by omega)
        have f94 : q_s N (69 + 2 * X + 1) Y (layv (N (69 + 2 * X) 0) Z) 94 = N 94 := q_s_ne (by omega)
        show 1 = (put7 (q_s N (69 + 2 * X + 1) Y (layv (N (69 + 2 * X) 0) Z)) X Y Z).1 ∧ IV ad G (put7 (q_s N (69 + 2 * X + 1) Y (layv (N (69 + 2 * X) 0) Z)) X Y Z).2 nm nw dn dm c
        unfold put7
        rw [if_pos hX, f93, f94, s4, s3, if_neg (show ¬ N (69 + 2 * X) 0 = 4294967292 by omega), if_pos hy]
        refine ⟨rfl, ?_⟩
        show IV ad G (q_s (q_s N (69 + 2 * X + 1) Y (layv (N (69 + 2 * X) 0) Z)) 95 (40 * X + Y) (layv (N (69 + 2 * X) 0) Z)) nm nw dn dm c
        have vl := layv_lt (l := N (69 + 2 * X) 0) hZ
        generalize layv (N (69 + 2 * X) 0) Z = v at *
        have ec : ∀ a, a ≠ 69 + 2 * X + 1 → a ≠ 95 → q_s (q_s N (69 + 2 * X + 1) Y v) 95 (40 * X + Y) v a = N a := fun a q1 q2 => by rw [q_s_ne q2, q_s_ne q1]
        have e1 : ∀ j, q_s (q_s N (69 + 2 * X + 1) Y v) 95 (40 * X + Y) v (69 + 2 * X + 1) j = if j = Y then v else N (69 + 2 * X + 1) j := fun j => by
          rw [q_s_ne (by omega)]
          by_cases q : j = Y
          · subst q; rw [q_s_at, if_pos rfl]
          · rw [q_s_off q, if_neg q]
        have e95 : ∀ j, q_s (q_s N (69 + 2 * X + 1) Y v) 95 (40 * X + Y) v 95 j = if j = 40 * X + Y then v else N 95 j := fun j => by
          by_cases q : j = 40 * X + Y
          · subst q; rw [q_s_at, if_pos rfl]
          · rw [q_s_off q, if_neg q, q_s_ne (by omega)]
        generalize q_s (q_s N (69 + 2 * X + 1) Y v) 95 (40 * X + Y) v = M at *
        refine h.shs (fun a q1 q2 q3 q4 => ec a (by omega) q4) (fun x hx => ?_)
        obtain ⟨r1, r2, r3, r4⟩ := hS x hx
        rw [ec 93 (by omega) (by omega), ec 94 (by omega) (by omega), ec (69 + 2 * x) (by omega) (by omega)]
        refine ⟨r1.eq (ec (69 + 2 * x) (by omega) (by omega)), fun i hi => ?_, r3, r4⟩
        by_cases q : x = X
        · subst q
          rw [e1, e95]
          by_cases qi : i = Y
          · rw [if_pos qi, if_pos (by omega)]; exact ⟨vl, rfl⟩
          · rw [if_neg qi, if_neg (by omega)]; exact r2 i hi
        · rw [ec (69 + 2 * x + 1) (by omega) (by omega), e95, if_neg (by omega)]; exact r2 i hi
      · have ef : fta N (69 + 2 * X) Y = 2 := by rw [fta, if_neg hl, if_neg hy]
        rw [ef, if_neg (by decide)]
        show 4294967286 - 2 = (put7 N X Y Z).1 ∧ IV ad G (put7 N X Y Z).2 nm nw dn dm c
        unfold put7
        rw [if_pos hX, s4, s3, if_neg (show ¬ N (69 + 2 * X) 0 = 4294967292 by omega), if_neg hy]
        exact ⟨rfl, h⟩
  · rw [if_neg hX]
    show 4294967295 = (put7 N X Y Z).1 ∧ IV ad G (put7 N X Y Z).2 nm nw dn dm c
    unfold put7
    rw [if_neg hX]
    exact ⟨rfl, h⟩
