/-- the same page, the same moment -/
theorem PV.own {N M : Nat → Nat → Nat} {p q c : Nat} (h : PV N p q c) (hM : CM N q c) (hc : c ≤ 9) (e78 : ∀ i, i < 60 → M 78 (p + i) = N 78 (p + i)) (e : ∀ a, q ≤ a → a ≤ q + 8 → M a = N a) : PV M p q c :=
  h.cpm hM hc e78 (fun j _ => by rw [e q (by omega) (by omega)]) (fun j _ => by rw [e (q + 1) (by omega) (by omega)]) (fun j _ => by rw [e (q + 2) (by omega) (by omega)]) (fun j _ => by rw [e (q + 3) (by omega) (by omega)]) (fun j _ => by rw [e (q + 4) (by omega) (by omega)]) (fun j _ => by rw [e (q + 5) (by omega) (by omega)]) (fun j _ => by rw [e (q + 6) (by omega) (by omega)]) (fun j _ => by rw [e (q + 7) (by omega) (by omega)]) (fun j _ => by rw [e (q + 8) (by omega) (by omega)])
/-- when only the images have changed -/
theorem IV.imgs {ad : Nat → Nat} {G : Nat → Nat → Option Nat} {N M : Nat → Nat → Nat} {nm nw dn dm c : Nat} (h : IV ad G N nm nw dn dm c) (e : ∀ a, (a < 51 ∨ 68 < a) → a ≠ 34 → a ≠ 78 → a ≠ 92 → M a = N a) (e78 : ∀ i, i < 60 → M 78 i = N 78 i) (hs : ∀ i, i < 240 → M 78 i < 26) (hII : II M c) : IV ad G M nm nw dn dm c := by
  obtain ⟨hG, ⟨c1, c2, c3, c4, c5⟩, ⟨t1, t2, t3, t4, t5, t6, t7, t8⟩, ⟨m1, m2, m3, m4⟩, ⟨n1, n2, n3⟩, hI, hS⟩ := h
  obtain ⟨g1, g2, g3, g4, g5, _⟩ := id hG
  have hc9 : c ≤ 9 := c1.2.1
  have E : ∀ a, (a < 51 ∨ 68 < a) → a ≠ 34 → a ≠ 78 → a ≠ 92 → M a = N a := e
  have e79 := E 79 (by omega) (by omega) (by omega) (by omega)
  have r7 : R7 M = R7 N := R7_eq (e78 9 (by omega)) (e78 10 (by omega)) e79
  obtain ⟨mc, mcc, mb, ml, ms, mk_, mms, mpr, mg9, mh, mgn, mga, mod_, mo1⟩ := m1
  refine ⟨hG, ⟨c1.eq (fun a _ _ => E a (by omega) (by omega) (by omega) (by omega)), c2.eq (fun a _ _ => E a (by omega) (by omega) (by omega) (by omega)), ?_, c4.same (fun a _ => E a (by omega) (by omega) (by omega) (by omega)), c5.eq g2.1 (fun a _ _ => E a (by omega) (by omega) (by omega) (by omega)) (by rw [E 0 (by omega) (by omega) (by omega) (by omega)])⟩, ⟨?_, ?_, ?_, ?_, ?_, ?_, ?_, ?_⟩, ⟨?_, m2.eq (E 82 (by omega) (by omega) (by omega) (by omega)) (E 83 (by omega) (by omega) (by omega) (by omega)), ?_, ?_⟩, ⟨n1.eq e79 (fun a _ _ => E a (by omega) (by omega) (by omega) (by omega)), n2.eq (E 80 (by omega) (by omega) (by omega) (by omega)) (fun a _ _ => E a (by omega) (by omega) (by omega) (by omega)), n3.own c2 hc9 (fun i hi => e78 _ (by omega)) (fun a _ _ => E a (by omega) (by omega) (by omega) (by omega))⟩, hII, ?_⟩
  · rw [E 36 (by omega) (by omega) (by omega) (by omega), r7]; exact c3
  · rw [E 0 (by omega) (by omega) (by omega) (by omega)]; exact t1
  · rw [E 1 (by omega) (by omega) (by omega) (by omega)]; exact t2
  · rw [E 77 (by omega) (by omega) (by omega) (by omega), E 0 (by omega) (by omega) (by omega) (by omega)]; exact t3
  · rw [E 84 (by omega) (by omega) (by omega) (by omega), E 1 (by omega) (by omega) (by omega) (by omega)]; exact t4
  · rw [E 77 (by omega) (by omega) (by omega) (by omega), E 0 (by omega) (by omega) (by omega) (by omega)]; exact t5
  · rw [E 0 (by omega) (by omega) (by omega) (by omega)]; exact t6
  · rw [E 77 (by omega) (by omega) (by omega) (by omega), E 0 (by omega) (by omega) (by omega) (by omega)]; exact t7
  · rw [E 0 (by omega) (by omega) (by omega) (by omega)]; exact t8
  · unfold MS
    rw [E 77 (by omega) (by omega) (by omega) (by omega), e79, e78 9 (by omega), e78 10 (by omega), e78 21 (by omega), e78 40 (by omega), e78 59 (by omega)]
    exact ⟨mc, mcc, mb, ml, hs, mk_, mms, mpr, mg9, mh, fun k hk => by rw [e78 _ (by omega)]; exact mgn k hk, fun k hk => by rw [e78 _ (by omega)]; exact mga k hk, fun n hn => by rw [e78 n (by omega)]; exact mod_ n hn, fun n hn => by rw [e78 n (by omega)]; exact mo1 n hn⟩
  · rw [E 85 (by omega) (by omega) (by omega) (by omega)]; exact m3
  · rw [E 86 (by omega) (by omega) (by omega) (by omega)]; exact m4
  · intro x hx
    obtain ⟨s1, s2, s3, s4⟩ := hS x hx
    rw [E 93 (by omega) (by omega) (by omega) (by omega), E 94 (by omega) (by omega) (by omega) (by omega), E 95 (by omega) (by omega) (by omega) (by omega), E (69 + 2 * x) (by omega) (by omega) (by omega) (by omega), E (69 + 2 * x + 1) (by omega) (by omega) (by omega) (by omega)]
    exact ⟨s1.eq (E (69 + 2 * x) (by omega) (by omega) (by omega) (by omega)), s2, s3, s4⟩
