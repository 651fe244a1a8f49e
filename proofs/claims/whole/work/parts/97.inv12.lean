theorem cpy0 {f g : Nat → Nat} {n j : Nat} (h : j < n) : va_cpy f g 0 0 n j = f j := by rw [va_cpy, if_pos (by omega)]; congr 1; omega
theorem cpm_a1 {N : Nat → Nat → Nat} {q p j : Nat} (h : p + 8 < q ∨ q + 8 < p) (hj : j < 9) : cpm N q p (q + 1) j = N (p + 1) j := by
  unfold cpm
  simp only [cpa, cpf]
  rw [q_r_ne (by omega), q_r_ne (by omega), q_r_ne (by omega), q_s_ne (by omega), q_r_ne (by omega), q_r_ne (by omega), q_s_ne (by omega), q_r_ne (by omega), q_r_ne (by omega), q_s_ne (by omega), q_s_ne (by omega), q_s_ne (by omega), q_r_at, cpy0 hj]
theorem cpm_a2 {N : Nat → Nat → Nat} {q p j : Nat} (h : p + 8 < q ∨ q + 8 < p) (hj : j < 5) : cpm N q p (q + 2) j = N (p + 2) j := by
  unfold cpm
  simp only [cpa, cpf]
  rw [q_r_ne (by omega), q_r_ne (by omega), q_r_ne (by omega), q_s_ne (by omega), q_r_ne (by omega), q_r_ne (by omega), q_s_ne (by omega), q_r_ne (by omega), q_r_at, cpy0 hj, q_s_ne (by omega), q_s_ne (by omega), q_s_ne (by omega), q_r_ne (by omega)]
theorem cpm_a3 {N : Nat → Nat → Nat} {q p j : Nat} (h : p + 8 < q ∨ q + 8 < p) (hj : j < 5) : cpm N q p (q + 3) j = N (p + 3) j := by
  unfold cpm
  simp only [cpa, cpf]
  rw [q_r_ne (by omega), q_r_ne (by omega), q_r_ne (by omega), q_s_ne (by omega), q_r_ne (by omega), q_r_ne (by omega), q_s_ne (by omega), q_r_at, cpy0 hj, q_r_ne (by omega), q_s_ne (by omega), q_s_ne (by omega), q_s_ne (by omega), q_r_ne (by omega)]
theorem cpm_a4 {N : Nat → Nat → Nat} {q p j : Nat} (h : p + 8 < q ∨ q + 8 < p) (hj : j < 9) : cpm N q p (q + 4) j = N (p + 4) j := by
  unfold cpm
  simp only [cpa, cpf]
  rw [q_r_ne (by omega), q_r_ne (by omega), q_r_ne (by omega), q_s_ne (by omega), q_r_ne (by omega), q_r_at, cpy0 hj, q_s_ne (by omega), q_r_ne (by omega), q_r_ne (by omega), q_s_ne (by omega), q_s_ne (by omega), q_s_ne (by omega), q_r_ne (by omega)]
theorem cpm_a5 {N : Nat → Nat → Nat} {q p j : Nat} (h : p + 8 < q ∨ q + 8 < p) (hj : j < 9) : cpm N q p (q + 5) j = N (p + 5) j := by
  unfold cpm
  simp only [cpa, cpf]
  rw [q_r_ne (by omega), q_r_ne (by omega), q_r_ne (by omega), q_s_ne (by omega), q_r_at, cpy0 hj, q_r_ne (by omega), q_s_ne (by omega), q_r_ne (by omega), q_r_ne (by omega), q_s_ne (by omega), q_s_ne (by omega), q_s_ne (by omega), q_r_ne (by omega)]
theorem cpm_a6 {N : Nat → Nat → Nat} {q p j : Nat} (h : p + 8 < q ∨ q + 8 < p) (hj : j < 6) : cpm N q p (q + 6) j = N (p + 6) j := by
  unfold cpm
  simp only [cpa, cpf]
  rw [q_r_ne (by omega), q_r_ne (by omega), q_r_at, cpy0 hj, q_s_ne (by omega), q_r_ne (by omega), q_r_ne (by omega), q_s_ne (by omega), q_r_ne (by omega), q_r_ne (by omega), q_s_ne (by omega), q_s_ne (by omega), q_s_ne (by omega), q_r_ne (by omega)]
theorem cpm_a7 {N : Nat → Nat → Nat} {q p j : Nat} (h : p + 8 < q ∨ q + 8 < p) (hj : j < 6) : cpm N q p (q + 7) j = N (p + 7) j := by
  unfold cpm
  simp only [cpa, cpf]
  rw [q_r_ne (by omega), q_r_at, cpy0 hj, q_r_ne (by omega), q_s_ne (by omega), q_r_ne (by omega), q_r_ne (by omega), q_s_ne (by omega), q_r_ne (by omega), q_r_ne (by omega), q_s_ne (by omega), q_s_ne (by omega), q_s_ne (by omega), q_r_ne (by omega)]
theorem cpm_a8 {N : Nat → Nat → Nat} {q p j : Nat} (h : p + 8 < q ∨ q + 8 < p) (hj : j < 6) : cpm N q p (q + 8) j = N (p + 8) j := by
  unfold cpm
  simp only [cpa, cpf]
  rw [q_r_at, cpy0 hj, q_r_ne (by omega), q_r_ne (by omega), q_s_ne (by omega), q_r_ne (by omega), q_r_ne (by omega), q_s_ne (by omega), q_r_ne (by omega), q_r_ne (by omega), q_s_ne (by omega), q_s_ne (by omega), q_s_ne (by omega), q_r_ne (by omega)]
/-- a moment copied -/
theorem CM.cpm {N : Nat → Nat → Nat} {q p c : Nat} (h : CM N p c) (hc : c ≤ 9) (hd : p + 8 < q ∨ q + 8 < p) : CM (cpm N q p) q c := by
  obtain ⟨e1, e2, e3, e6, e9⟩ := cpm_f (N := N) hd
  obtain ⟨hkd, hms, hpr, hpf, hps, hg9, hgn, hga, hh6, hhp, hhl, hhi, hod, ho1⟩ := h
  unfold CM
  rw [e1, e2, e3, e6, e9]
  exact ⟨hkd, hms, hpr, fun k hk => by rw [cpm_a2 hd hk]; exact hpf k hk, fun k hk => by rw [cpm_a3 hd hk]; exact hps k hk, hg9, fun k hk => by rw [cpm_a4 hd (by omega)]; exact hgn k hk, fun k hk => by rw [cpm_a5 hd (by omega)]; exact hga k hk, hh6, fun k hk => by rw [cpm_a6 hd (by omega)]; exact hhp k hk, fun k hk => by rw [cpm_a7 hd (by omega)]; exact hhl k hk, fun k hk => by rw [cpm_a8 hd (by omega)]; exact hhi k hk, fun n hn => by rw [cpm_a1 hd hn]; exact hod n hn, fun n hn => by rw [cpm_a1 hd (by omega)]; exact ho1 n hn⟩
/-- a page copied with its moment -/
theorem PV.cpm {N M : Nat → Nat → Nat} {P p Q q c : Nat} (h : PV N P p c) (hM : CM N p c) (hc : c ≤ 9) (e78 : ∀ i, i < 60 → M 78 (Q + i) = N 78 (P + i)) (e0 : ∀ j, j = 1 ∨ j = 2 ∨ j = 3 ∨ j = 6 ∨ j = 9 → M q j = N p j) (e1 : ∀ j, j < 9 → M (q + 1) j = N (p + 1) j) (e2 : ∀ j, j < 5 → M (q + 2) j = N (p + 2) j) (e3 : ∀ j, j < 5 → M (q + 3) j = N (p + 3) j) (e4 : ∀ j, j < 9 → M (q + 4) j = N (p + 4) j) (e5 : ∀ j, j < 9 → M (q + 5) j = N (p + 5) j) (e6 : ∀ j, j < 6 → M (q + 6) j = N (p + 6) j) (e7 : ∀ j, j < 6 → M (q + 7) j = N (p + 7) j) (e8 : ∀ j, j < 6 → M (q + 8) j = N (p + 8) j) : PV M Q q c := by
  obtain ⟨p1, p2, p3, p4, p5, p6, p7, p8, p9⟩ := h
  obtain ⟨hkd, hms, hpr, hpf, hps, hg9, hgn, hga, hh6, hhp, hhl, hhi, hod, ho1⟩ := hM
  unfold PV
  rw [e0 1 (by omega), e0 2 (by omega), e0 3 (by omega), e0 6 (by omega), e0 9 (by omega), e78 9 (by omega), e78 10 (by omega), e78 21 (by omega), e78 40 (by omega), e78 59 (by omega)]
  exact ⟨fun n hn => by rw [e78 n (by omega), e1 n (by omega)]; exact p1 n hn, p2, p3, p4, fun k hk => by rw [e78 _ (by omega), e78 _ (by omega), e2 k (by omega), e3 k (by omega)]; exact p5 k hk, p6, fun k hk => by rw [e78 _ (by omega), e78 _ (by omega), e4 k (by omega), e5 k (by omega)]; exact p7 k hk, p8, fun k hk => by rw [e78 _ (by omega), e78 _ (by omega), e78 _ (by omega), e6 k (by omega), e7 k (by omega), e8 k (by omega)]; exact p9 k hk⟩
