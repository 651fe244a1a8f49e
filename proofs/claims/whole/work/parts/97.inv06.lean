theorem IV.feed {ad : Nat → Nat} {G : Nat → Nat → Option Nat} {N : Nat → Nat → Nat} {nm nw dn dm c X : Nat} (h : IV ad G N nm nw dn dm c) : (feed6 N X).1 = (feed7 (feed6 N X).2 X).1 ∧ IV ad G (feed7 (feed6 N X).2 X).2 nm nw dn dm c := by
  obtain ⟨t1, t2, t3, t4, t5, t6, t7, t8⟩ := h.2.2.1
  unfold feed6
  by_cases hX : X ≤ 127
  · rw [if_pos hX]
    by_cases hf : 160 ≤ N 0 1
    · rw [if_pos hf]
      unfold feed7
      rw [if_pos hX, if_pos (show N 77 10 = 160 by omega)]
      exact ⟨rfl, h⟩
    · rw [if_neg hf]
      have e10 : q_s (q_s N 1 (N 0 1) X) 0 1 (N 0 1 + 1) 77 10 = N 0 1 := by rw [q_s_ne (by omega), q_s_ne (by omega)]; exact t3
      show N 0 1 + 1 = (feed7 (q_s (q_s N 1 (N 0 1) X) 0 1 (N 0 1 + 1)) X).1 ∧ IV ad G (feed7 (q_s (q_s N 1 (N 0 1) X) 0 1 (N 0 1 + 1)) X).2 nm nw dn dm c
      unfold feed7
      rw [if_pos hX, e10, if_neg (show ¬ N 0 1 = 160 by omega)]
      refine ⟨rfl, ?_⟩
      show IV ad G (q_s (q_s (q_s (q_s N 1 (N 0 1) X) 0 1 (N 0 1 + 1)) 84 (N 0 1) X) 77 10 (N 0 1 + 1)) nm nw dn dm c
      refine h.tape (fun a h0 h1 h7 h8 => ?_) ?_ ?_ ⟨?_, fun i hi => ?_, ?_, ?_, ?_, ?_, ?_, ?_⟩
      · rw [q_s_ne h7, q_s_ne h8, q_s_ne h0, q_s_ne h1]
      · rw [q_s_ne (by omega), q_s_ne (by omega), q_s_off (by omega), q_s_ne (by omega)]
      · rw [q_s_off (by omega), q_s_ne (by omega), q_s_ne (by omega), q_s_ne (by omega)]
      · rw [q_s_ne (by omega), q_s_ne (by omega), q_s_at]; omega
      · rw [q_s_ne (by omega), q_s_ne (by omega), q_s_ne (by omega)]
        by_cases e : i = N 0 1
        · subst e; rw [q_s_at]; omega
        · rw [q_s_off e]; exact t2 i hi
      · rw [q_s_at, q_s_ne (by omega), q_s_ne (by omega), q_s_at]
      · rw [q_s_ne (by omega), q_s_ne (show (1 : Nat) ≠ 77 by omega), q_s_ne (show (1 : Nat) ≠ 84 by omega), q_s_ne (show (1 : Nat) ≠ 0 by omega)]
        funext i
        by_cases e : i = N 0 1
        · subst e; rw [q_s_at, q_s_at]
        · rw [q_s_off e, q_s_off e, q_s_ne (by omega), q_s_ne (by omega), t4]
      · rw [q_s_off (by omega), q_s_ne (by omega), q_s_ne (by omega), q_s_ne (by omega), q_s_ne (by omega), q_s_ne (by omega), q_s_off (by omega), q_s_ne (by omega)]; exact t5
      · rw [q_s_ne (by omega), q_s_ne (by omega), q_s_off (by omega), q_s_ne (by omega)]; exact t6
      · rw [q_s_off (by omega), q_s_ne (by omega), q_s_ne (by omega), q_s_ne (by omega), q_s_ne (by omega), q_s_ne (by omega), q_s_off (by omega), q_s_ne (by omega)]; exact t7
      · rw [q_s_ne (by omega), q_s_ne (by omega), q_s_off (by omega), q_s_ne (by omega)]; exact t8
  · rw [if_neg hX]
    unfold feed7
    rw [if_neg hX]
    exact ⟨rfl, h⟩
theorem IV.end {ad : Nat → Nat} {G : Nat → Nat → Option Nat} {N : Nat → Nat → Nat} {nm nw dn dm c X : Nat} (h : IV ad G N nm nw dn dm c) : (end6 N X).1 = (end7 (end6 N X).2 X).1 ∧ IV ad G (end7 (end6 N X).2 X).2 nm nw dn dm c := by
  obtain ⟨t1, t2, t3, t4, t5, t6, t7, t8⟩ := h.2.2.1
  unfold end6
  by_cases hX : X ≤ N 0 1
  · rw [if_pos hX]
    have e10 : q_s N 0 1 X 77 10 = N 0 1 := by rw [q_s_ne (by omega)]; exact t3
    show N 0 1 = (end7 (q_s N 0 1 X) X).1 ∧ IV ad G (end7 (q_s N 0 1 X) X).2 nm nw dn dm c
    unfold end7
    rw [e10, if_pos hX]
    refine ⟨rfl, ?_⟩
    show IV ad G (q_s (q_s N 0 1 X) 77 10 X) nm nw dn dm c
    refine h.tape (fun a h0 h1 h7 h8 => ?_) ?_ ?_ ⟨?_, fun i hi => ?_, ?_, ?_, ?_, ?_, ?_, ?_⟩
    · rw [q_s_ne h7, q_s_ne h0]
    · rw [q_s_ne (by omega), q_s_off (by omega)]
    · rw [q_s_off (by omega), q_s_ne (by omega)]
    · rw [q_s_ne (by omega), q_s_at]; omega
    · rw [q_s_ne (by omega), q_s_ne (by omega)]; exact t2 i hi
    · rw [q_s_at, q_s_ne (by omega), q_s_at]
    · rw [q_s_ne (by omega), q_s_ne (by omega), q_s_ne (by omega), q_s_ne (by omega)]; exact t4
    · rw [q_s_off (by omega), q_s_ne (by omega), q_s_ne (by omega), q_s_off (by omega)]; exact t5
    · rw [q_s_ne (by omega), q_s_off (by omega)]; exact t6
    · rw [q_s_off (by omega), q_s_ne (by omega), q_s_ne (by omega), q_s_off (by omega)]; exact t7
    · rw [q_s_ne (by omega), q_s_off (by omega)]; exact t8
  · rw [if_neg hX]
    show 4294967295 = (end7 N X).1 ∧ IV ad G (end7 N X).2 nm nw dn dm c
    unfold end7
    rw [if_neg (show ¬ X ≤ N 77 10 by omega)]
    exact ⟨rfl, h⟩
