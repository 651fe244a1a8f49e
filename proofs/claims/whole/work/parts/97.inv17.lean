theorem IV.name {ad : Nat → Nat} {G : Nat → Nat → Option Nat} {N : Nat → Nat → Nat} {nm nw dn dm c X Y : Nat} (h : IV ad G N nm nw dn dm c) : name6 N nm nw c X Y = name7 N c X Y := by
  obtain ⟨_, ⟨c1, c2, c3, c4, c5⟩, ⟨t1, t2, t3, t4, t5, t6, t7, t8⟩, ⟨m1, m2, m3, m4⟩, ⟨n1, n2, n3⟩, hI, hS⟩ := id h
  obtain ⟨p1, p2, p3, p4, p5, p6, p7, p8, p9⟩ := id n3
  simp only [Nat.zero_add] at p1 p2 p3 p4 p5 p6 p7 p8 p9
  unfold name6 name7
  by_cases q : X < c
  · rw [if_pos q, if_pos q]
    obtain ⟨a1, a2, a3, a4⟩ := n1 X q
    rw [a1, p1 X q]
    by_cases h10 : 10 ≤ Y ∧ Y ≤ 9 + N (nm + 1) X
    · rw [if_neg (show ¬ Y = 0 by omega), if_neg (show ¬ Y = 1 by omega), if_pos (show 10 ≤ Y ∧ Y < 10 + N (nm + 1) X by omega), if_pos h10, ← a2 (Y - 10) (by omega)]
      congr 1
      omega
    · rw [if_neg h10, if_neg (show ¬ (10 ≤ Y ∧ Y < 10 + N (nm + 1) X) by omega)]
  · rw [if_neg q, if_neg q]
theorem IV.count {ad : Nat → Nat} {G : Nat → Nat → Option Nat} {N : Nat → Nat → Nat} {nm nw dn dm c X : Nat} (h : IV ad G N nm nw dn dm c) {s : Nat} : cou6 N nw c s X = cou7 N c X s := by
  obtain ⟨_, ⟨c1, c2, c3, c4, c5⟩, ⟨t1, t2, t3, t4, t5, t6, t7, t8⟩, ⟨m1, m2, m3, m4⟩, ⟨n1, n2, n3⟩, hI, hS⟩ := id h
  obtain ⟨p1, p2, p3, p4, p5, p6, p7, p8, p9⟩ := id n3
  simp only [Nat.zero_add] at p1 p2 p3 p4 p5 p6 p7 p8 p9
  have i0 := (hI 0 (by omega)).2.1
  have i1 := (hI 1 (by omega)).2.1
  obtain ⟨_, _, s3, s4⟩ := hS 0 (by omega)
  match X with
  | 0 => show N nw 6 = N 78 40; exact p6.symm
  | 1 => show N nw 9 = N 78 59; exact p8.symm
  | 2 => show (if N 34 0 = 0 then 0 else 1) + (if N 34 1 = 0 then 0 else 1) = (if N 92 0 = 0 then 0 else 1) + (if N 92 1 = 0 then 0 else 1); rw [i0, i1]
  | 3 => show N 0 1 = N 77 10; exact t3.symm
  | 4 =>
    show (if N 69 0 = 4294967295 then 4294967292 else N 69 1) = (if N 93 0 = 4294967292 then 4294967292 else N 94 0)
    have e4 : N 93 0 = (if N 69 0 = 4294967295 then 4294967292 else N 69 0) := s4
    have e3 : N 94 0 = N 69 1 := s3
    have l0 := (hS 0 (by omega)).1.1
    have l1 : N 69 0 ≤ 2 ∨ N 69 0 = 4294967295 := l0
    rw [e4, e3]
    by_cases q : N 69 0 = 4294967295
    · rw [if_pos q, if_pos q, if_pos rfl]
    · rw [if_neg q, if_neg q, if_neg (by omega)]
  | 5 => show ods (N (nw + 1)) (mk (fun _ => true) c) c = ods (N 78) (2 ^ c - 1) c; rw [mk_all]; exact (ods_congr p1).symm
  | 6 => rfl
  | k + 7 => rfl
