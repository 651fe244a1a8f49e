theorem IG.rd {ad : Nat → Nat} {G : Nat → Nat → Option Nat} {nm nw dn dm : Nat} (h : IG ad G nm nw dn dm) : IG ad (G2r ad G dn dm) nm nw dn dm := by
  obtain ⟨g1, g2, g3, g4, g5, g6, g7, g8, g9⟩ := h
  obtain ⟨r1, r2, r3, r4, r5⟩ := G2r_f (dn := dn) (dm := dm) g1
  have r0 := r5 0 (by decide)
  exact ⟨r1, g2, g3, g4, g5, by rw [r0]; exact g6, by rw [r0]; exact g7, by rw [r0]; exact g8, by rw [r0]; exact g9⟩
/-- when only the draft, the Reader, the model's reading, the tape's length and the fault have changed -/
theorem IV.txe {ad : Nat → Nat} {G H : Nat → Nat → Option Nat} {N M : Nat → Nat → Nat} {nm nw dn dm c : Nat} (h : IV ad G N nm nw dn dm c) (hG : IG ad H nm nw dn dm) (e : ∀ a, a ≠ 0 → a ≠ 2 → a ≠ 77 → a ≠ 81 → a ≠ 82 → a ≠ 83 → (a < dn ∨ dn + 5 < a) → (a < dm ∨ dm + 8 < a) → M a = N a) (e0 : M 0 18 = N 0 18) (e2 : M 77 2 = N 77 2) (hB : CB M dn dm) (hM : MB M) (ht : IT M) : IV ad H M nm nw dn dm c := by
  obtain ⟨_, ⟨c1, c2, c3, c4, c5⟩, _, ⟨m1, m2, m3, m4⟩, ⟨n1, n2, n3⟩, hI, hS⟩ := h
  obtain ⟨g1, g2, g3, g4, g5, _⟩ := id hG
  have E : ∀ a, (nm ≤ a ∧ a ≤ nm + 5) ∨ (nw ≤ a ∧ a ≤ nw + 8) ∨ (33 ≤ a ∧ a ≤ 76) ∨ (78 ≤ a ∧ a ≤ 80) ∨ 84 ≤ a → M a = N a := fun a q => e a (by omega) (by omega) (by omega) (by omega) (by omega) (by omega) (by omega) (by omega)
  have e78 := E 78 (by omega)
  have e79 := E 79 (by omega)
  have r7 : R7 M = R7 N := R7_eq (by rw [e78]) (by rw [e78]) e79
  refine ⟨hG, ⟨c1.eq (fun a _ _ => E a (by omega)), c2.eq (fun a _ _ => E a (by omega)), ?_, hB, ?_⟩, ht, ⟨m1.eq e2 e78 e79, hM, ?_, ?_⟩, ⟨n1.eq e79 (fun a _ _ => E a (by omega)), n2.eq (E 80 (by omega)) (fun a _ _ => E a (by omega)), n3.eq e78 (fun a _ _ => E a (by omega))⟩, ?_, ?_⟩
  · rw [E 36 (by omega), r7]; exact c3
  · obtain ⟨k1, k2, k3, k4, k5, k6⟩ := c5
    refine ⟨k1.eq (fun a _ _ => E a (by omega)), ?_, k3.eq (fun a _ _ => E a (by omega)), ?_, ?_, ?_⟩
    · rw [E 37 (by omega)]; exact k2
    · rw [E 41 (by omega)]; exact k4
    · rw [e0]; exact k5
    · rw [e0, E 48 (by omega)]
      intro q l hl
      rw [k6 q l hl, lw6, lw6, nr6_eq (fun a _ _ => E a (by omega))]
  · rw [E 85 (by omega)]; exact m3
  · rw [E 86 (by omega)]; exact m4
  · intro i hi
    obtain ⟨i1, i2, i3⟩ := hI i hi
    rw [E 34 (by omega), E 92 (by omega)]
    exact ⟨⟨i1.1, fun n hn => by rw [e78]; exact i1.2 n hn⟩, i2, fun q => ⟨(i3 q).1.eq (fun a _ _ => E a (by omega)), (i3 q).2.eq e78 (fun a _ _ => E a (by omega))⟩⟩
  · intro x hx
    obtain ⟨s1, s2, s3, s4⟩ := hS x hx
    rw [E 93 (by omega), E 94 (by omega), E 95 (by omega), E (69 + 2 * x) (by omega), E (69 + 2 * x + 1) (by omega)]
    exact ⟨s1.eq (E (69 + 2 * x) (by omega)), s2, s3, s4⟩
