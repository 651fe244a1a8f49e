/-- the references: names nm, moment nw, the draft's dn dm -/
def IG (ad : Nat → Nat) (G : Nat → Nat → Option Nat) (nm nw dn dm : Nat) : Prop := GF ad G ∧ isD nm nw ∧ isD dn dm ∧ nm ≠ dn ∧ nw ≠ dm ∧ G 0 5 = some (ad nm) ∧ G 0 6 = some (ad nw) ∧ G 0 7 = some (ad dn) ∧ G 0 8 = some (ad dm)
/-- the class's own -/
def IC (N : Nat → Nat → Nat) (nm nw dn dm c : Nat) : Prop := CN N nm c ∧ CM N nw c ∧ (∀ g, g < c → N 36 g = mk (R7 N g) c) ∧ CB N dn dm ∧ MI N nm c
/-- tape, faults -/
def IT (N : Nat → Nat → Nat) : Prop := N 0 1 ≤ 160 ∧ (∀ i, i < 160 → N 1 i < 128) ∧ N 77 10 = N 0 1 ∧ N 84 = N 1 ∧ N 77 11 = N 0 2 ∧ N 0 2 ≤ 5 ∧ N 77 29 = N 0 3 ∧ N 0 3 ≤ 3
/-- the model's own -/
def IM (N : Nat → Nat → Nat) (c : Nat) : Prop := MS N c ∧ MB N ∧ (∀ i, i < 10 → N 85 i = cu i) ∧ (∀ i, i < 42 → N 86 i = lw i)
/-- names, what the maid wrote, the moment -/
def IN (N : Nat → Nat → Nat) (nm nw c : Nat) : Prop := NV N nm c ∧ WV N nm ∧ PV N 0 nw c
/-- images -/
def II (N : Nat → Nat → Nat) (c : Nat) : Prop := ∀ i, i < 2 → (N 34 i ≤ 1 ∧ ∀ n, n < 9 → N 78 (60 * (i + 1) + n) ≤ 9) ∧ N 92 i = N 34 i ∧ (N 34 i ≠ 0 → CM N (51 + 9 * i) c ∧ PV N (60 * (i + 1)) (51 + 9 * i) c)
/-- sheets -/
def IS (N : Nat → Nat → Nat) : Prop := ∀ x, x < 4 → SH N (69 + 2 * x) ∧ (∀ i, i < 40 → N (69 + 2 * x + 1) i < 4294967296 ∧ N 95 (40 * x + i) = N (69 + 2 * x + 1) i) ∧ N 94 x = N (69 + 2 * x) 1 ∧ N 93 x = (if N (69 + 2 * x) 0 = 4294967295 then 4294967292 else N (69 + 2 * x) 0)
def IV (ad : Nat → Nat) (G : Nat → Nat → Option Nat) (N : Nat → Nat → Nat) (nm nw dn dm c : Nat) : Prop := IG ad G nm nw dn dm ∧ IC N nm nw dn dm c ∧ IT N ∧ IM N c ∧ IN N nm nw c ∧ II N c ∧ IS N
theorem IV.cx {ad : Nat → Nat} {G : Nat → Nat → Option Nat} {N : Nat → Nat → Nat} {nm nw dn dm c : Nat} (h : IV ad G N nm nw dn dm c) : CX ad G N nm nw c (R7 N) := by
  obtain ⟨⟨g1, g2, g3, g4, g5, g6, g7, g8, g9⟩, ⟨c1, c2, c3, c4, c5⟩, _⟩ := h
  exact ⟨g2.1, by rcases g2.2 with e | e <;> subst e <;> simp [isM], g6, g7, c1, c2, c3⟩
theorem NV.eq {N M : Nat → Nat → Nat} {nm c : Nat} (h : NV N nm c) (e79 : M 79 = N 79) (e : ∀ a, nm ≤ a → a ≤ nm + 5 → M a = N a) : NV M nm c := by
  unfold NV
  rw [e79, e (nm + 1) (by omega) (by omega), e (nm + 2) (by omega) (by omega), e (nm + 3) (by omega) (by omega), e (nm + 4) (by omega) (by omega)]
  exact h
theorem WV.eq {N M : Nat → Nat → Nat} {nm : Nat} (h : WV N nm) (e80 : M 80 = N 80) (e : ∀ a, nm ≤ a → a ≤ nm + 5 → M a = N a) : WV M nm := by
  unfold WV
  rw [e80, e nm (by omega) (by omega), e (nm + 5) (by omega) (by omega)]
  exact h
theorem PV.eq {N M : Nat → Nat → Nat} {p q c : Nat} (h : PV N p q c) (e78 : M 78 = N 78) (e : ∀ a, q ≤ a → a ≤ q + 8 → M a = N a) : PV M p q c := by
  unfold PV
  rw [e78, e q (by omega) (by omega), e (q + 1) (by omega) (by omega), e (q + 2) (by omega) (by omega), e (q + 3) (by omega) (by omega), e (q + 4) (by omega) (by omega), e (q + 5) (by omega) (by omega), e (q + 6) (by omega) (by omega), e (q + 7) (by omega) (by omega), e (q + 8) (by omega) (by omega)]
  exact h
theorem MS.eq {N M : Nat → Nat → Nat} {c : Nat} (h : MS N c) (e77 : M 77 2 = N 77 2) (e78 : M 78 = N 78) (e79 : M 79 = N 79) : MS M c := by
  unfold MS; rw [e77, e78, e79]; exact h
theorem MB.eq {N M : Nat → Nat → Nat} (h : MB N) (e82 : M 82 = N 82) (e83 : M 83 = N 83) : MB M := by
  unfold MB; rw [e82, e83]; exact h
theorem SH.eq {N M : Nat → Nat → Nat} {q : Nat} (h : SH N q) (e : M q = N q) : SH M q := by unfold SH; rw [e]; exact h
/-- when only the searches' cells, the Reader, or the model's scratch rows have changed -/
theorem IV.eq {ad : Nat → Nat} {G : Nat → Nat → Option Nat} {N M : Nat → Nat → Nat} {nm nw dn dm c : Nat} (h : IV ad G N nm nw dn dm c) (hm : MI M nm c) (e : ∀ a, a ≠ 0 → a ≠ 2 → (a < 37 ∨ 50 < a) → a ≠ 77 → a ≠ 87 → a ≠ 88 → a ≠ 90 → a ≠ 91 → M a = N a) (e0 : ∀ j, j ≠ 18 → M 0 j = N 0 j) (e7 : M 77 2 = N 77 2 ∧ M 77 10 = N 77 10 ∧ M 77 11 = N 77 11 ∧ M 77 29 = N 77 29) : IV ad G M nm nw dn dm c := by
  obtain ⟨hG, ⟨c1, c2, c3, c4, c5⟩, ⟨t1, t2, t3, t4, t5, t6, t7, t8⟩, ⟨m1, m2, m3, m4⟩, ⟨n1, n2, n3⟩, hI, hS⟩ := h
  obtain ⟨g1, g2, g3, _⟩ := id hG
  have E : ∀ a, a ≠ 0 → a ≠ 2 → (a < 37 ∨ (50 < a ∧ a < 77) ∨ (77 < a ∧ a < 87) ∨ a = 89 ∨ 91 < a) → M a = N a := fun a q1 q2 q3 => e a q1 q2 (by omega) (by omega) (by omega) (by omega) (by omega) (by omega)
  have e78 := E 78 (by omega) (by omega) (by omega)
  have e79 := E 79 (by omega) (by omega) (by omega)
  have r7 : R7 M = R7 N := by funext a b; show nr7 (M 78 9) (M 78 10) (M 79) a b = nr7 (N 78 9) (N 78 10) (N 79) a b; rw [e78, e79]
  refine ⟨hG, ⟨c1.eq (fun a _ _ => E a (by omega) (by omega) (by omega)), c2.eq (fun a _ _ => E a (by omega) (by omega) (by omega)), ?_, c4.same (fun a _ => E a (by omega) (by omega) (by omega)), hm⟩, ⟨?_, ?_, ?_, ?_, ?_, ?_, ?_, ?_⟩, ⟨m1.eq e7.1 e78 e79, m2.eq (E 82 (by omega) (by omega) (by omega)) (E 83 (by omega) (by omega) (by omega)), ?_, ?_⟩, ⟨n1.eq e79 (fun a _ _ => E a (by omega) (by omega) (by omega)), n2.eq (E 80 (by omega) (by omega) (by omega)) (fun a _ _ => E a (by omega) (by omega) (by omega)), n3.eq e78 (fun a _ _ => E a (by omega) (by omega) (by omega))⟩, ?_, ?_⟩
  · rw [E 36 (by omega) (by omega) (by omega), r7]; exact c3
  · rw [e0 1 (by omega)]; exact t1
  · rw [E 1 (by omega) (by omega) (by omega)]; exact t2
  · rw [e7.2.1, e0 1 (by omega)]; exact t3
  · rw [E 84 (by omega) (by omega) (by omega), E 1 (by omega) (by omega) (by omega)]; exact t4
  · rw [e7.2.2.1, e0 2 (by omega)]; exact t5
  · rw [e0 2 (by omega)]; exact t6
  · rw [e7.2.2.2, e0 3 (by omega)]; exact t7
  · rw [e0 3 (by omega)]; exact t8
  · rw [E 85 (by omega) (by omega) (by omega)]; exact m3
  · rw [E 86 (by omega) (by omega) (by omega)]; exact m4
  · intro i hi
    obtain ⟨i1, i2, i3⟩ := hI i hi
    rw [E 34 (by omega) (by omega) (by omega), E 92 (by omega) (by omega) (by omega)]
    exact ⟨⟨i1.1, fun n hn => by rw [e78]; exact i1.2 n hn⟩, i2, fun q => ⟨(i3 q).1.eq (fun a _ _ => E a (by omega) (by omega) (by omega)), (i3 q).2.eq e78 (fun a _ _ => E a (by omega) (by omega) (by omega))⟩⟩
  · intro x hx
    obtain ⟨s1, s2, s3, s4⟩ := hS x hx
    rw [E 93 (by omega) (by omega) (by omega), E 94 (by omega) (by omega) (by omega), E 95 (by omega) (by omega) (by omega), E (69 + 2 * x) (by omega) (by omega) (by omega), E (69 + 2 * x + 1) (by omega) (by omega) (by omega)]
    exact ⟨s1.eq (E (69 + 2 * x) (by omega) (by omega) (by omega)), s2, s3, s4⟩
