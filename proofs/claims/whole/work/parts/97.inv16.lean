theorem IV.wrote {ad : Nat → Nat} {G : Nat → Nat → Option Nat} {N : Nat → Nat → Nat} {nm nw dn dm c X : Nat} (h : IV ad G N nm nw dn dm c) : wrote6 N nm X = wrote7 N X := by
  obtain ⟨_, ⟨c1, c2, c3, c4, c5⟩, ⟨t1, t2, t3, t4, t5, t6, t7, t8⟩, ⟨m1, m2, m3, m4⟩, ⟨n1, n2, n3⟩, hI, hS⟩ := id h
  obtain ⟨p1, p2, p3, p4, p5, p6, p7, p8, p9⟩ := id n3
  simp only [Nat.zero_add] at p1 p2 p3 p4 p5 p6 p7 p8 p9
  unfold wrote6 wrote7
  rw [n2.1]
  by_cases q : X < N nm 5
  · rw [if_pos q, if_pos q, n2.2 X q]
  · rw [if_neg q, if_neg q]
theorem IV.pair {ad : Nat → Nat} {G : Nat → Nat → Option Nat} {N : Nat → Nat → Nat} {nm nw dn dm c X : Nat} (h : IV ad G N nm nw dn dm c) : pair6 N nw X = pair7 N X := by
  obtain ⟨_, ⟨c1, c2, c3, c4, c5⟩, ⟨t1, t2, t3, t4, t5, t6, t7, t8⟩, ⟨m1, m2, m3, m4⟩, ⟨n1, n2, n3⟩, hI, hS⟩ := id h
  obtain ⟨p1, p2, p3, p4, p5, p6, p7, p8, p9⟩ := id n3
  simp only [Nat.zero_add] at p1 p2 p3 p4 p5 p6 p7 p8 p9
  unfold pair6 pair7
  rw [p4]
  by_cases q : X < N nw 3
  · rw [if_pos q, if_pos q, (p5 X q).1, (p5 X q).2]
  · rw [if_neg q, if_neg q]
theorem IV.rule {ad : Nat → Nat} {G : Nat → Nat → Option Nat} {N : Nat → Nat → Nat} {nm nw dn dm c X : Nat} (h : IV ad G N nm nw dn dm c) : rule6 N nm nw X = rule7 N X := by
  obtain ⟨_, ⟨c1, c2, c3, c4, c5⟩, ⟨t1, t2, t3, t4, t5, t6, t7, t8⟩, ⟨m1, m2, m3, m4⟩, ⟨n1, n2, n3⟩, hI, hS⟩ := id h
  obtain ⟨p1, p2, p3, p4, p5, p6, p7, p8, p9⟩ := id n3
  simp only [Nat.zero_add] at p1 p2 p3 p4 p5 p6 p7 p8 p9
  match X with
  | 0 => show N nm 0 = N 77 2; rw [c1.1, m1.1]
  | 1 => show N nw 1 = N 78 9; exact p2.symm
  | 2 => show N nw 2 = N 78 10; exact p3.symm
  | 3 => show N nw 3 = N 78 21; exact p4.symm
  | 4 => show N nm 5 = N 80 0; exact n2.1.symm
  | k + 5 => rfl
theorem IV.near {ad : Nat → Nat} {G : Nat → Nat → Option Nat} {N : Nat → Nat → Nat} {nm nw dn dm c X Y : Nat} (h : IV ad G N nm nw dn dm c) : nearv c (R7 N) X Y = near7 N c X Y := by
  unfold nearv near7
  first
    | rfl
    | (by_cases q : X < c ∧ Y < c
       · rw [if_pos q, if_pos q]
       · rw [if_neg q, if_neg q])
