theorem R7_eq {N M : Nat → Nat → Nat} (e9 : M 78 9 = N 78 9) (e10 : M 78 10 = N 78 10) (e79 : M 79 = N 79) : R7 M = R7 N := by
  funext a b; show nr7 (M 78 9) (M 78 10) (M 79) a b = nr7 (N 78 9) (N 78 10) (N 79) a b; rw [e9, e10, e79]
theorem CM.of {N M : Nat → Nat → Nat} {q c : Nat} (h : CM N q c) (e0 : ∀ j, j = 1 ∨ j = 2 ∨ j = 3 ∨ j = 6 ∨ j = 9 → M q j = N q j) (e : ∀ a, q < a → a ≤ q + 8 → M a = N a) : CM M q c := by
  unfold CM
  rw [e0 1 (by omega), e0 2 (by omega), e0 3 (by omega), e0 6 (by omega), e0 9 (by omega), e (q + 1) (by omega) (by omega), e (q + 2) (by omega) (by omega), e (q + 3) (by omega) (by omega), e (q + 4) (by omega) (by omega), e (q + 5) (by omega) (by omega), e (q + 6) (by omega) (by omega), e (q + 7) (by omega) (by omega), e (q + 8) (by omega) (by omega)]
  exact h
/-- when only the tape, its length and the faults have changed -/
theorem IV.tape {ad : Nat → Nat} {G : Nat → Nat → Option Nat} {N M : Nat → Nat → Nat} {nm nw dn dm c : Nat} (h : IV ad G N nm nw dn dm c) (e : ∀ a, a ≠ 0 → a ≠ 1 → a ≠ 77 → a ≠ 84 → M a = N a) (e0 : M 0 18 = N 0 18) (e2 : M 77 2 = N 77 2) (ht : IT M) : IV ad G M nm nw dn dm c := by
  obtain ⟨hG, ⟨c1, c2, c3, c4, c5⟩, _, ⟨m1, m2, m3, m4⟩, ⟨n1, n2, n3⟩, hI, hS⟩ := h
  obtain ⟨g1, g2, g3, _⟩ := id hG
  have e78 := e 78 (by omega) (by omega) (by omega) (by omega)
  have e79 := e 79 (by omega) (by omega) (by omega) (by omega)
  have r7 : R7 M = R7 N := R7_eq (by rw [e78]) (by rw [e78]) e79
  refine ⟨hG, ⟨c1.eq (fun a _ _ => e a (by omega) (by omega) (by omega) (by omega)), c2.eq (fun a _ _ => e a (by omega) (by omega) (by omega) (by omega)), ?_, c4.same (fun a _ => e a (by omega) (by omega) (by omega) (by omega)), ?_⟩, ht, ⟨m1.eq e2 e78 e79, m2.eq (e 82 (by omega) (by omega) (by omega) (by omega)) (e 83 (by omega) (by omega) (by omega) (by omega)), ?_, ?_⟩, ⟨n1.eq e79 (fun a _ _ => e a (by omega) (by omega) (by omega) (by omega)), n2.eq (e 80 (by omega) (by omega) (by omega) (by omega)) (fun a _ _ => e a (by omega) (by omega) (by omega) (by omega)), n3.eq e78 (fun a _ _ => e a (by omega) (by omega) (by omega) (by omega))⟩, ?_, ?_⟩
  · rw [e 36 (by omega) (by omega) (by omega) (by omega), r7]; exact c3
  · obtain ⟨k1, k2, k3, k4, k5, k6⟩ := c5
    refine ⟨k1.eq (fun a _ _ => e a (by omega) (by omega) (by omega) (by omega)), ?_, k3.eq (fun a _ _ => e a (by omega) (by omega) (by omega) (by omega)), ?_, ?_, ?_⟩
    · rw [e 37 (by omega) (by omega) (by omega) (by omega)]; exact k2
    · rw [e 41 (by omega) (by omega) (by omega) (by omega)]; exact k4
    · rw [e0]; exact k5
    · rw [e0, e 48 (by omega) (by omega) (by omega) (by omega)]
      intro q l hl
      rw [k6 q l hl, lw6, lw6, nr6_eq (fun a _ _ => e a (by omega) (by omega) (by omega) (by omega))]
  · rw [e 85 (by omega) (by omega) (by omega) (by omega)]; exact m3
  · rw [e 86 (by omega) (by omega) (by omega) (by omega)]; exact m4
  · intro i hi
    obtain ⟨i1, i2, i3⟩ := hI i hi
    rw [e 34 (by omega) (by omega) (by omega) (by omega), e 92 (by omega) (by omega) (by omega) (by omega)]
    exact ⟨⟨i1.1, fun n hn => by rw [e78]; exact i1.2 n hn⟩, i2, fun q => ⟨(i3 q).1.eq (fun a _ _ => e a (by omega) (by omega) (by omega) (by omega)), (i3 q).2.eq e78 (fun a _ _ => e a (by omega) (by omega) (by omega) (by omega))⟩⟩
  · intro x hx
    obtain ⟨s1, s2, s3, s4⟩ := hS x hx
    rw [e 93 (by omega) (by omega) (by omega) (by omega), e 94 (by omega) (by omega) (by omega) (by omega), e 95 (by omega) (by omega) (by omega) (by omega), e (69 + 2 * x) (by omega) (by omega) (by omega) (by omega), e (69 + 2 * x + 1) (by omega) (by omega) (by omega) (by omega)]
    exact ⟨s1.eq (e (69 + 2 * x) (by omega) (by omega) (by omega) (by omega)), s2, s3, s4⟩
