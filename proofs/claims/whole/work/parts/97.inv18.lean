/-- a reading taken over by both: names, what the maid wrote and the moment are the same -/
theorem tx_same {S R K : Nat → Nat → Nat} {dn dm : Nat} (hC : CR S R dn dm) (hW : WFS S) (hK : MR S K) (h78 : ∀ i, i < 60 → R 78 i = K 81 i) (h79 : ∀ i, i < 81 → R 79 i = K 82 i) (h80 : ∀ i, i < 9 → R 80 i = K 83 i) : NV R dn (S 0 0) ∧ WV R dn ∧ PV R 0 dm (S 0 0) := by
  obtain ⟨a1, a2, a3, a4, a5, a6, a7, a8, a9, b1, b2, b3⟩ := hC
  obtain ⟨k1, k2, k3, k4, k5, k6, k7, k8, k9, l1, l2, l3, l4, l5, l6⟩ := hK
  have w0 := hW.1
  have w3 := hW.2.2.2.2.1
  have w4 := hW.2.2.2.2.2.2.1
  refine ⟨fun n hn => ?_, ⟨?_, fun i hi => ?_⟩, fun n hn => ?_, ?_, ?_, ?_, fun k hk => ?_, ?_, fun k hk => ?_, ?_, fun k hk => ?_⟩
  · obtain ⟨q1, q2, q3, q4, q5⟩ := a2 n hn
    obtain ⟨r1, r2⟩ := k2 n hn
    obtain ⟨s1, s2, _⟩ := hW.2.1 n hn
    rw [q1]
    refine ⟨by rw [h79 _ (by omega)]; exact r1, fun i hi => by rw [h79 _ (by omega), r2 i hi, q2 i hi], ?_, ?_⟩
    · rw [q3]; exact lstc (fun i hi => (q2 i hi).symm)
    · rw [q4]; exact vwsc (fun i hi => (q2 i hi).symm)
  · rw [h80 0 (by omega), k8, a7]
  · rw [a7] at hi
    rw [h80 _ (by omega), k9 i hi, a8 i hi]
  · rw [Nat.zero_add, h78 n (by omega), k3 n (by omega), if_pos hn]; exact (a2 n hn).2.2.2.2.symm
  · rw [h78 _ (by omega), a3]; exact k4
  · rw [h78 _ (by omega), a4]; exact k5
  · rw [h78 _ (by omega), a5]; exact k6
  · rw [a5] at hk
    rw [Nat.zero_add, Nat.zero_add, h78 _ (by omega), h78 _ (by omega), (k7 k hk).1, (k7 k hk).2]
    exact ⟨(a6 k hk).1.symm, (a6 k hk).2.symm⟩
  · rw [h78 _ (by omega), b2]; exact l5
  · rw [b2] at hk; omega
  · rw [h78 _ (by omega), b3]; exact l6
  · rw [b3] at hk; omega
