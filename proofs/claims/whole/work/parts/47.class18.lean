theorem cpm_ne {N : Nat → Nat → Nat} {q p a : Nat} (h : a < q ∨ q + 8 < a) : cpm N q p a = N a := by
  unfold cpm
  simp only [cpa, cpf]
  rw [q_r_ne (by omega), q_r_ne (by omega), q_r_ne (by omega), q_s_ne (by omega), q_r_ne (by omega), q_r_ne (by omega), q_s_ne (by omega), q_r_ne (by omega), q_r_ne (by omega), q_s_ne (by omega), q_s_ne (by omega), q_s_ne (by omega), q_r_ne (by omega)]
theorem cpm_f {N : Nat → Nat → Nat} {q p : Nat} (h : p + 8 < q ∨ q + 8 < p) : cpm N q p q 1 = N p 1 ∧ cpm N q p q 2 = N p 2 ∧ cpm N q p q 3 = N p 3 ∧ cpm N q p q 6 = N p 6 ∧ cpm N q p q 9 = N p 9 := by
  unfold cpm
  simp only [cpa, cpf]
  refine ⟨?_, ?_, ?_, ?_, ?_⟩
  · rw [q_r_ne (by omega), q_r_ne (by omega), q_r_ne (by omega), q_s_off (by omega), q_r_ne (by omega), q_r_ne (by omega), q_s_off (by omega), q_r_ne (by omega), q_r_ne (by omega), q_s_off (by omega), q_s_off (by omega), q_s_at, q_r_ne (by omega)]
  · rw [q_r_ne (by omega), q_r_ne (by omega), q_r_ne (by omega), q_s_off (by omega), q_r_ne (by omega), q_r_ne (by omega), q_s_off (by omega), q_r_ne (by omega), q_r_ne (by omega), q_s_off (by omega), q_s_at, q_s_ne (by omega), q_r_ne (by omega)]
  · rw [q_r_ne (by omega), q_r_ne (by omega), q_r_ne (by omega), q_s_off (by omega), q_r_ne (by omega), q_r_ne (by omega), q_s_off (by omega), q_r_ne (by omega), q_r_ne (by omega), q_s_at, q_s_ne (by omega), q_s_ne (by omega), q_r_ne (by omega)]
  · rw [q_r_ne (by omega), q_r_ne (by omega), q_r_ne (by omega), q_s_off (by omega), q_r_ne (by omega), q_r_ne (by omega), q_s_at, q_r_ne (by omega), q_r_ne (by omega), q_s_ne (by omega), q_s_ne (by omega), q_s_ne (by omega), q_r_ne (by omega)]
  · rw [q_r_ne (by omega), q_r_ne (by omega), q_r_ne (by omega), q_s_at, q_r_ne (by omega), q_r_ne (by omega), q_s_ne (by omega), q_r_ne (by omega), q_r_ne (by omega), q_s_ne (by omega), q_s_ne (by omega), q_s_ne (by omega), q_r_ne (by omega)]
