/-- the heap behind both constructors -/
abbrev GI (ad : Nat → Nat) : Nat → Nat → Option Nat := (q_s (q_s (q_s (q_s (q_s (q_s (q_s (q_s (q_s (q_s (q_s (q_s (q_s (q_s (q_s (q_s (q_s (q_s (q_s (q_s (q_s (q_s (q_s (q_s (q_s (q_s (q_s (q_s (q_s (q_s (q_s (q_s (q_s (q_s (q_s (q_s (q_s (q_s (q_s (q_s (q_s (q_s (q_s (q_s (q_s (q_s (q_s (q_s (q_s (q_s (q_s (q_s (q_s (q_s (q_s (q_s (q_s (q_s (q_s (q_s (q_s (q_s (q_s (q_s (q_s (q_s (q_s (q_s (q_s (q_s (q_s (q_s (q_s (q_s (q_s (q_s (q_s (q_s (q_s (q_s (q_s (q_s (q_s (q_s (q_s (q_s (q_s (q_s (q_s (q_s (q_s (q_s (q_s (q_s (fun _ _ => none) 0 0 (some (ad 1))) 0 4 (some (ad 2))) 3 1 (some (ad 4))) 3 2 (some (ad 5))) 3 3 (some (ad 6))) 3 4 (some (ad 7))) 3 6 (some (ad 8))) 0 5 (some (ad 3))) 9 0 (some (ad 10))) 9 4 (some (ad 11))) 9 5 (some (ad 12))) 9 7 (some (ad 13))) 9 8 (some (ad 14))) 9 10 (some (ad 15))) 9 11 (some (ad 16))) 9 12 (some (ad 17))) 0 6 (some (ad 9))) 18 1 (some (ad 19))) 18 2 (some (ad 20))) 18 3 (some (ad 21))) 18 4 (some (ad 22))) 18 6 (some (ad 23))) 0 7 (some (ad 18))) 24 0 (some (ad 25))) 24 4 (some (ad 26))) 24 5 (some (ad 27))) 24 7 (some (ad 28))) 24 8 (some (ad 29))) 24 10 (some (ad 30))) 24 11 (some (ad 31))) 24 12 (some (ad 32))) 0 8 (some (ad 24))) 0 9 (some (ad 33))) 0 10 (some (ad 34))) 0 11 (some (ad 35))) 0 12 (some (ad 36))) 37 1 (some (ad 38))) 37 2 (some (ad 39))) 37 3 (some (ad 40))) 0 13 (some (ad 37))) 41 1 (some (ad 42))) 41 2 (some (ad 43))) 41 3 (some (ad 44))) 0 14 (some (ad 41))) 45 0 (some (ad 46))) 45 1 (some (ad 47))) 0 15 (some (ad 45))) 0 16 (some (ad 48))) 0 17 (some (ad 49))) 0 19 (some (ad 50))) 51 0 (some (ad 52))) 51 4 (some (ad 53))) 51 5 (some (ad 54))) 51 7 (some (ad 55))) 51 8 (some (ad 56))) 51 10 (some (ad 57))) 51 11 (some (ad 58))) 51 12 (some (ad 59))) 33 0 (some (ad 51))) 60 0 (some (ad 61))) 60 4 (some (ad 62))) 60 5 (some (ad 63))) 60 7 (some (ad 64))) 60 8 (some (ad 65))) 60 10 (some (ad 66))) 60 11 (some (ad 67))) 60 12 (some (ad 68))) 33 1 (some (ad 60))) 69 2 (some (ad 70))) 35 0 (some (ad 69))) 71 2 (some (ad 72))) 35 1 (some (ad 71))) 73 2 (some (ad 74))) 35 2 (some (ad 73))) 75 2 (some (ad 76))) 35 3 (some (ad 75))) 77 0 (some (ad 78))) 77 1 (some (ad 79))) 77 3 (some (ad 80))) 77 4 (some (ad 81))) 77 5 (some (ad 82))) 77 7 (some (ad 83))) 77 9 (some (ad 84))) 77 18 (some (ad 85))) 77 19 (some (ad 86))) 77 20 (some (ad 87))) 77 21 (some (ad 88))) 77 22 (some (ad 89))) 77 23 (some (ad 90))) 77 24 (some (ad 91))) 77 25 (some (ad 92))) 77 26 (some (ad 93))) 77 27 (some (ad 94))) 77 28 (some (ad 95)))
abbrev NI : Nat → Nat → Nat := (q_s (q_s (q_s (q_s (q_s (q_s (q_s (q_s (q_s (q_s (q_s (q_s (q_s (q_s (q_s (q_s (q_s (q_s (q_s (q_s (q_s (q_s (q_s (q_s (q_s (q_s (q_s (q_s (q_s (q_s (q_s (q_s (q_s (q_s (q_s (q_s (q_s (q_s (q_s (q_s (q_s (q_s (q_s (q_s (q_s (q_s (q_s (q_s (q_s (q_s (q_s (q_s (q_s (q_s (q_s (q_s (q_s (q_s (q_s (q_s (q_s (q_s (fun _ _ => 0) 37 0 0) 41 0 1) 69 0 4294967295) 71 0 4294967295) 73 0 4294967295) 75 0 4294967295) 85 0 0) 85 1 4) 85 2 8) 85 3 12) 85 4 16) 85 5 23) 85 6 28) 85 7 32) 85 8 37) 85 9 42) 86 0 110) 86 1 97) 86 2 109) 86 3 101) 86 4 110) 86 5 101) 86 6 97) 86 7 114) 86 8 112) 86 9 97) 86 10 105) 86 11 114) 86 12 109) 86 13 97) 86 14 105) 86 15 100) 86 16 108) 86 17 101) 86 18 116) 86 19 116) 86 20 101) 86 21 114) 86 22 115) 86 23 115) 86 24 116) 86 25 97) 86 26 114) 86 27 116) 86 28 108) 86 29 111) 86 30 110) 86 31 103) 86 32 115) 86 33 104) 86 34 97) 86 35 114) 86 36 101) 86 37 115) 86 38 111) 86 39 117) 86 40 110) 86 41 100) 93 0 4294967292) 93 1 4294967292) 93 2 4294967292) 93 3 4294967292)
theorem NI_z {a : Nat} (h : a ≠ 37 ∧ a ≠ 41 ∧ a ≠ 69 ∧ a ≠ 71 ∧ a ≠ 73 ∧ a ≠ 75 ∧ a ≠ 85 ∧ a ≠ 86 ∧ a ≠ 93) : NI a = fun _ => 0 := by
  obtain ⟨h37, h41, h69, h71, h73, h75, h85, h86, h93⟩ := h
  simp only [NI, q_s_ne h37, q_s_ne h41, q_s_ne h69, q_s_ne h71, q_s_ne h73, q_s_ne h75, q_s_ne h85, q_s_ne h86, q_s_ne h93]
set_option maxRecDepth 20000 in
theorem GF_I {ad : Nat → Nat} : GF ad (GI ad) := by
  unfold GF GFl
  refine List.forall_mem_cons.mpr ⟨rfl, ?_⟩
  refine List.forall_mem_cons.mpr ⟨rfl, ?_⟩
  refine List.forall_mem_cons.mpr ⟨rfl, ?_⟩
  refine List.forall_mem_cons.mpr ⟨rfl, ?_⟩
  refine List.forall_mem_cons.mpr ⟨rfl, ?_⟩
  refine List.forall_mem_cons.mpr ⟨rfl, ?_⟩
  refine List.forall_mem_cons.mpr ⟨rfl, ?_⟩
  refine List.forall_mem_cons.mpr ⟨rfl, ?_⟩
  refine List.forall_mem_cons.mpr ⟨rfl, ?_⟩
  refine List.forall_mem_cons.mpr ⟨rfl, ?_⟩
  refine List.forall_mem_cons.mpr ⟨rfl, ?_⟩
  refine List.forall_mem_cons.mpr ⟨rfl, ?_⟩
  refine List.forall_mem_cons.mpr ⟨rfl, ?_⟩
  refine List.forall_mem_cons.mpr ⟨rfl, ?_⟩
  refine List.forall_mem_cons.mpr ⟨rfl, ?_⟩
  refine List.forall_mem_cons.mpr ⟨rfl, ?_⟩
  refine List.forall_mem_cons.mpr ⟨rfl, ?_⟩
  refine List.forall_mem_cons.mpr ⟨rfl, ?_⟩
  refine List.forall_mem_cons.mpr ⟨rfl, ?_⟩
  refine List.forall_mem_cons.mpr ⟨rfl, ?_⟩
  refine List.forall_mem_cons.mpr ⟨rfl, ?_⟩
  refine List.forall_mem_cons.mpr ⟨rfl, ?_⟩
  refine List.forall_mem_cons.mpr ⟨rfl, ?_⟩
  refine List.forall_mem_cons.mpr ⟨rfl, ?_⟩
  refine List.forall_mem_cons.mpr ⟨rfl, ?_⟩
  refine List.forall_mem_cons.mpr ⟨rfl, ?_⟩
  refine List.forall_mem_cons.mpr ⟨rfl, ?_⟩
  refine List.forall_mem_cons.mpr ⟨rfl, ?_⟩
  refine List.forall_mem_cons.mpr ⟨rfl, ?_⟩
  refine List.forall_mem_cons.mpr ⟨rfl, ?_⟩
  refine List.forall_mem_cons.mpr ⟨rfl, ?_⟩
  refine List.forall_mem_cons.mpr ⟨rfl, ?_⟩
  refine List.forall_mem_cons.mpr ⟨rfl, ?_⟩
  refine List.forall_mem_cons.mpr ⟨rfl, ?_⟩
  refine List.forall_mem_cons.mpr ⟨rfl, ?_⟩
  refine List.forall_mem_cons.mpr ⟨rfl, ?_⟩
  refine List.forall_mem_cons.mpr ⟨rfl, ?_⟩
  refine List.forall_mem_cons.mpr ⟨rfl, ?_⟩
  refine List.forall_mem_cons.mpr ⟨rfl, ?_⟩
  refine List.forall_mem_cons.mpr ⟨rfl, ?_⟩
  refine List.forall_mem_cons.mpr ⟨rfl, ?_⟩
  refine List.forall_mem_cons.mpr ⟨rfl, ?_⟩
  refine List.forall_mem_cons.mpr ⟨rfl, ?_⟩
  refine List.forall_mem_cons.mpr ⟨rfl, ?_⟩
  refine List.forall_mem_cons.mpr ⟨rfl, ?_⟩
  refine List.forall_mem_cons.mpr ⟨rfl, ?_⟩
  refine List.forall_mem_cons.mpr ⟨rfl, ?_⟩
  refine List.forall_mem_cons.mpr ⟨rfl, ?_⟩
  refine List.forall_mem_cons.mpr ⟨rfl, ?_⟩
  refine List.forall_mem_cons.mpr ⟨rfl, ?_⟩
  refine List.forall_mem_cons.mpr ⟨rfl, ?_⟩
  refine List.forall_mem_cons.mpr ⟨rfl, ?_⟩
  refine List.forall_mem_cons.mpr ⟨rfl, ?_⟩
  refine List.forall_mem_cons.mpr ⟨rfl, ?_⟩
  refine List.forall_mem_cons.mpr ⟨rfl, ?_⟩
  refine List.forall_mem_cons.mpr ⟨rfl, ?_⟩
  refine List.forall_mem_cons.mpr ⟨rfl, ?_⟩
  refine List.forall_mem_cons.mpr ⟨rfl, ?_⟩
  refine List.forall_mem_cons.mpr ⟨rfl, ?_⟩
  refine List.forall_mem_cons.mpr ⟨rfl, ?_⟩
  refine List.forall_mem_cons.mpr ⟨rfl, ?_⟩
  refine List.forall_mem_cons.mpr ⟨rfl, ?_⟩
  refine List.forall_mem_cons.mpr ⟨rfl, ?_⟩
  refine List.forall_mem_cons.mpr ⟨rfl, ?_⟩
  refine List.forall_mem_cons.mpr ⟨rfl, ?_⟩
  refine List.forall_mem_cons.mpr ⟨rfl, ?_⟩
  refine List.forall_mem_cons.mpr ⟨rfl, ?_⟩
  refine List.forall_mem_cons.mpr ⟨rfl, ?_⟩
  refine List.forall_mem_cons.mpr ⟨rfl, ?_⟩
  refine List.forall_mem_cons.mpr ⟨rfl, ?_⟩
  refine List.forall_mem_cons.mpr ⟨rfl, ?_⟩
  refine List.forall_mem_cons.mpr ⟨rfl, ?_⟩
  refine List.forall_mem_cons.mpr ⟨rfl, ?_⟩
  refine List.forall_mem_cons.mpr ⟨rfl, ?_⟩
  refine List.forall_mem_cons.mpr ⟨rfl, ?_⟩
  refine List.forall_mem_cons.mpr ⟨rfl, ?_⟩
  refine List.forall_mem_cons.mpr ⟨rfl, ?_⟩
  refine List.forall_mem_cons.mpr ⟨rfl, ?_⟩
  refine List.forall_mem_cons.mpr ⟨rfl, ?_⟩
  refine List.forall_mem_cons.mpr ⟨rfl, ?_⟩
  refine List.forall_mem_cons.mpr ⟨rfl, ?_⟩
  refine List.forall_mem_cons.mpr ⟨rfl, ?_⟩
  refine List.forall_mem_cons.mpr ⟨rfl, ?_⟩
  refine List.forall_mem_cons.mpr ⟨rfl, ?_⟩
  refine List.forall_mem_cons.mpr ⟨rfl, ?_⟩
  refine List.forall_mem_cons.mpr ⟨rfl, ?_⟩
  refine List.forall_mem_cons.mpr ⟨rfl, ?_⟩
  refine List.forall_mem_cons.mpr ⟨rfl, ?_⟩
  refine List.forall_mem_cons.mpr ⟨rfl, ?_⟩
  refine List.forall_mem_cons.mpr ⟨rfl, ?_⟩
  exact fun _ h => absurd h List.not_mem_nil
theorem NI0 {a b : Nat} (h : a ≠ 37 ∧ a ≠ 41 ∧ a ≠ 69 ∧ a ≠ 71 ∧ a ≠ 73 ∧ a ≠ 75 ∧ a ≠ 85 ∧ a ≠ 86 ∧ a ≠ 93) : NI a b = 0 := by rw [NI_z h]
theorem SV_I {q : Nat} (hq : q = 37 ∨ q = 41) : SV NI q := by
  have e0 : NI q 0 ≤ 1 := by rcases hq with h | h <;> rw [h] <;> decide
  have e4 : NI q 4 = 0 := by rcases hq with h | h <;> rw [h] <;> rfl
  have e5 : NI q 5 = 0 := by rcases hq with h | h <;> rw [h] <;> rfl
  have z1 : NI (q + 1) = fun _ => 0 := NI_z (by omega)
  have z2 : NI (q + 2) = fun _ => 0 := NI_z (by omega)
  have z3 : NI (q + 3) = fun _ => 0 := NI_z (by omega)
  unfold SV
  rw [e4, e5, z1, z2, z3]
  dsimp only
  refine ⟨e0, by omega, by decide, fun n hn => by omega, fun n _ => ⟨by decide, by decide⟩, fun u hu => ?_, fun h => absurd rfl h⟩
  have hu : u = 0 := by rw [Nat.and_zero] at hu; exact hu.symm
  subst hu
  exact (cst_0 _ _ _ _).symm
theorem IV_I {ad : Nat → Nat} : IV ad (GI ad) NI 3 9 18 24 0 := by
  refine ⟨⟨GF_I, ⟨Or.inl rfl, Or.inl rfl⟩, ⟨Or.inr rfl, Or.inr rfl⟩, by decide, by decide, rfl, rfl, rfl, rfl⟩, ⟨?_, ?_, fun g hg => by omega, ?_, ?_⟩, ⟨?_, ?_, ?_, ?_, ?_, ?_, ?_, ?_⟩, ⟨?_, ?_, ?_, ?_⟩, ⟨fun n hn => by omega, ⟨?_, ?_⟩, ?_⟩, ?_, ?_⟩
  · unfold CN
    rw [NI_z (a := 3) (by omega), NI_z (a := 3 + 1) (by omega), NI_z (a := 3 + 2) (by omega), NI_z (a := 3 + 3) (by omega), NI_z (a := 3 + 4) (by omega), NI_z (a := 3 + 5) (by omega)]
    dsimp only
    exact ⟨rfl, by decide, fun _ _ => by decide, fun _ _ => by decide, fun _ _ => by decide, fun _ _ => by decide, by decide, fun _ _ => by decide⟩
  · unfold CM
    rw [NI_z (a := 9) (by omega), NI_z (a := 9 + 1) (by omega), NI_z (a := 9 + 2) (by omega), NI_z (a := 9 + 3) (by omega), NI_z (a := 9 + 4) (by omega), NI_z (a := 9 + 5) (by omega), NI_z (a := 9 + 6) (by omega), NI_z (a := 9 + 7) (by omega), NI_z (a := 9 + 8) (by omega)]
    dsimp only
    exact ⟨by decide, by decide, by decide, fun _ _ => by decide, fun _ _ => by decide, by decide, fun k hk => by omega, fun k hk => by omega, by decide, fun k hk => by omega, fun k hk => by omega, fun k hk => by omega, fun _ _ => by decide, fun n hn => by omega⟩
  · unfold CB
    rw [NI_z (a := 18 + 1) (by omega), NI_z (a := 18 + 2) (by omega), NI_z (a := 18 + 3) (by omega), NI_z (a := 18 + 4) (by omega), NI_z (a := 18 + 5) (by omega), NI_z (a := 24 + 1) (by omega), NI_z (a := 24 + 2) (by omega), NI_z (a := 24 + 3) (by omega)]
    dsimp only
    exact ⟨fun _ _ => by decide, fun _ _ => by decide, fun _ _ => by decide, fun _ _ => by decide, fun _ _ => by decide, fun _ _ => by decide, fun _ _ => by decide, fun _ _ => by decide⟩
  · exact ⟨SV_I (Or.inl rfl), rfl, SV_I (Or.inr rfl), rfl, by rw [NI0 (by omega)]; omega, fun q => absurd (NI0 (by omega)) q⟩
  · rw [NI0 (by omega)]; omega
  · intro i _; rw [NI0 (by omega)]; omega
  · rw [NI0 (by omega), NI0 (by omega)]
  · rw [NI_z (a := 84) (by omega), NI_z (a := 1) (by omega)]
  · rw [NI0 (by omega), NI0 (by omega)]
  · rw [NI0 (by omega)]; omega
  · rw [NI0 (by omega), NI0 (by omega)]
  · rw [NI0 (by omega)]; omega
  · unfold MS
    rw [NI_z (a := 77) (by omega), NI_z (a := 78) (by omega), NI_z (a := 79) (by omega)]
    dsimp only
    exact ⟨rfl, by decide, fun _ _ => by decide, fun _ _ => by decide, fun _ _ => by decide, by decide, by decide, by decide, by decide, by decide, fun k hk => by omega, fun k hk => by omega, fun _ _ => by decide, fun n hn => by omega⟩
  · unfold MB
    rw [NI_z (a := 82) (by omega), NI_z (a := 83) (by omega)]
    dsimp only
    exact ⟨fun _ _ => by decide, fun _ _ => by decide, fun _ _ => by decide, by decide⟩
  · intro i hi
    rcases (show i = 0 ∨ i = 1 ∨ i = 2 ∨ i = 3 ∨ i = 4 ∨ i = 5 ∨ i = 6 ∨ i = 7 ∨ i = 8 ∨ i = 9 by omega) with rfl | rfl | rfl | rfl | rfl | rfl | rfl | rfl | rfl | rfl <;> rfl
  · intro i hi
    rcases (show i = 0 ∨ i = 1 ∨ i = 2 ∨ i = 3 ∨ i = 4 ∨ i = 5 ∨ i = 6 ∨ i = 7 ∨ i = 8 ∨ i = 9 ∨ i = 10 ∨ i = 11 ∨ i = 12 ∨ i = 13 ∨ i = 14 ∨ i = 15 ∨ i = 16 ∨ i = 17 ∨ i = 18 ∨ i = 19 ∨ i = 20 ∨ i = 21 ∨ i = 22 ∨ i = 23 ∨ i = 24 ∨ i = 25 ∨ i = 26 ∨ i = 27 ∨ i = 28 ∨ i = 29 ∨ i = 30 ∨ i = 31 ∨ i = 32 ∨ i = 33 ∨ i = 34 ∨ i = 35 ∨ i = 36 ∨ i = 37 ∨ i = 38 ∨ i = 39 ∨ i = 40 ∨ i = 41 by omega) with rfl | rfl | rfl | rfl | rfl | rfl | rfl | rfl | rfl | rfl | rfl | rfl | rfl | rfl | rfl | rfl | rfl | rfl | rfl | rfl | rfl | rfl | rfl | rfl | rfl | rfl | rfl | rfl | rfl | rfl | rfl | rfl | rfl | rfl | rfl | rfl | rfl | rfl | rfl | rfl | rfl | rfl <;> rfl
  · rw [NI0 (by omega), NI0 (by omega)]
  · intro i hi; rw [NI0 (by omega)] at hi; omega
  · unfold PV
    rw [NI_z (a := 78) (by omega), NI_z (a := 9) (by omega)]
    dsimp only
    exact ⟨fun n hn => by omega, rfl, rfl, rfl, fun k hk => by omega, rfl, fun k hk => by omega, rfl, fun k hk => by omega⟩
  · intro i _
    rw [NI_z (a := 34) (by omega), NI_z (a := 92) (by omega), NI_z (a := 78) (by omega)]
    dsimp only
    exact ⟨⟨by decide, fun _ _ => by decide⟩, rfl, fun q => absurd rfl q⟩
  · intro x hx
    have z95 : NI 95 = fun _ => 0 := NI_z (by omega)
    have z1 : NI (69 + 2 * x + 1) = fun _ => 0 := NI_z (by omega)
    rw [z95, z1]
    dsimp only
    refine ⟨?_, fun _ _ => ⟨by decide, rfl⟩, ?_, ?_⟩
    · rcases (show x = 0 ∨ x = 1 ∨ x = 2 ∨ x = 3 by omega) with h | h | h | h <;> rw [h] <;> exact ⟨Or.inr rfl, by decide⟩
    · rcases (show x = 0 ∨ x = 1 ∨ x = 2 ∨ x = 3 by omega) with h | h | h | h <;> rw [h] <;> rfl
    · rcases (show x = 0 ∨ x = 1 ∨ x = 2 ∨ x = 3 by omega) with h | h | h | h <;> rw [h] <;> rfl
theorem IW_I {ad : Nat → Nat} : IW ad (GI ad) NI 3 9 18 24 0 := ⟨IV_I, fun i _ => by rw [NI0 (by omega)]; omega⟩
def Zl (Γ : q_G) : q_Zt := fun below args s t => (args = #[Value.ref (q_xb Γ)] ∧ s.heap.size = Γ.2.1) → lw_Z below #[Value.ref (q_xb Γ)] s t
section
variable {Γ : q_G} {ad : Nat → Nat} {y : MethodName} {h : q_H} {lv : List (Nat × Value)}
theorem law_end : q_R Γ (mL y) room_1 (Zl Γ) 96 3981 1229 lv [.int (nI 1)] h := by
  intro p e s mi args below meth c H locs ls C hP hD hS hl
  by_cases q : args = #[Value.ref (q_xb Γ)] ∧ s.heap.size = Γ.2.1
  · obtain ⟨rfl, hz⟩ := q
    have W1 : W p Γ.1 e room_1 s mi #[Value.ref (q_xb Γ)] below meth c H locs 96 3981 (lw_Z below #[Value.ref (q_xb Γ)] s) (F0 mi 1229 ls [.int 1]) := by
      refine va_forget (fun l hl' => by rw [hz]; exact hS.2.2 l hl') ?_
      refine W.widen (k := 600000) (n := 7302249) (by omega) (by omega) ?_
      exact lw_ret C.1 C.2.1 C.2.2.2.1 C.2.2.2.2.1 dL_law_1229
    intro T hT X
    obtain ⟨t, a, b⟩ := W1 T hT X
    exact ⟨t, a, fun _ => b⟩
  · intro T hT X
    exact ⟨_, Steps.refl _, fun q' => absurd q' q⟩
theorem q_icmp_gtT {m : q_M} {rm : Room} {Z : q_Zt} {k n pc : Nat} {st : List Value} (tgt : Nat) {off : Int} (ht : (pc : Int) + off = (tgt : Int)) {x z : Int32} (hxz : z < x) (hd : decode m.2.2.1 pc = .ok (.if_icmp .gt off, 3)) (kt : q_R Γ m rm Z k n tgt lv st h) : q_R Γ m rm Z k n pc lv (.int z :: .int x :: st) h :=
  fun p e s mi args below meth c H locs ls C hP hD hS hl => lv_icmp_gt C.1 C.2.1 hd ht (fun _ => kt p e s mi args below meth c H locs ls C hP hD hS hl) (fun q => absurd hxz q)
theorem law_lp (hl : q_xl Γ ≤ 320) : ∀ r i (N : Nat → Nat → Nat) (L : Nat → Nat → Int) (G : Nat → Nat → Option Nat) (nm nw dn dm c : Nat), q_xl Γ ≤ i + r → i ≤ 400 → (q_xl Γ < 5 → i = 0) → IW ad G N nm nw dn dm c → q_R Γ (mL y) room_1 (Zl Γ) 96 3981 18 (lvL Γ ad i) [] (LT ad, N, L, G) := by
  intro r
  induction r with
  | zero =>
    intro i N L G nm nw dn dm c hr hi h0 h
    refine q_iload_n 19 rfl rfl dL_law_18 ?_
    refine q_aload_n 20 rfl rfl dL_law_19 ?_
    refine q_slenX 21 rfl dL_law_20 ?_
    refine q_iconst 22 rfl 5 (by decide +kernel) dL_law_21 ?_
    by_cases h5 : 5 ≤ q_xl Γ
    · refine q_isub 23 rfl h5 dL_law_22 ?_
      refine q_icmp_gt 26 rfl 1228 rfl (by omega) (by omega) dL_law_23 (fun _ => ?_) (fun q => absurd (by omega) q)
      refine q_iconst 1229 rfl 1 (by decide +kernel) dL_law_1228 ?_
      exact law_end
    · refine q_isubG 23 rfl (by decide) dL_law_22 ?_
      have hi0 : i = 0 := h0 (by omega)
      subst hi0
      refine q_icmp_gtT 1228 rfl ?_ dL_law_23 ?_
      · rcases (show q_xl Γ = 0 ∨ q_xl Γ = 1 ∨ q_xl Γ = 2 ∨ q_xl Γ = 3 ∨ q_xl Γ = 4 by omega) with q | q | q | q | q <;> rw [q] <;> decide +kernel
      · refine q_iconst 1229 rfl 1 (by decide +kernel) dL_law_1228 ?_
        exact law_end
  | succ r ih =>
    intro i N L G nm nw dn dm c hr hi h0 h
    refine q_iload_n 19 rfl rfl dL_law_18 ?_
    refine q_aload_n 20 rfl rfl dL_law_19 ?_
    refine q_slenX 21 rfl dL_law_20 ?_
    refine q_iconst 22 rfl 5 (by decide +kernel) dL_law_21 ?_
    by_cases h5 : 5 ≤ q_xl Γ
    · refine q_isub 23 rfl h5 dL_law_22 ?_
      refine q_icmp_gt 26 rfl 1228 rfl (by omega) (by omega) dL_law_23 (fun _ => ?_) (fun q => ?_)
      · refine q_iconst 1229 rfl 1 (by decide +kernel) dL_law_1228 ?_
        exact law_end
      · have hin : i + 4 < q_xl Γ := by omega
        have hJ : ∀ N' L' G' nm' nw' dn' dm' c', IW ad G' N' nm' nw' dn' dm' c' → q_R Γ (mL y) room_1 (Zl Γ) 96 3981 1222 (lvL Γ ad i) [] (LT ad, N', L', G') := by
          intro N' L' G' nm' nw' dn' dm' c' hw
          refine q_iinc1 1225 rfl 5 (by decide +kernel) rfl (show 3 < 4 by decide) dL_law_1222 ?_
          refine q_goto 18 rfl dL_law_1225 ?_
          exact q_loc (l' := lvL Γ ad (i + 5)) (ih (i + 5) N' L' G' nm' nw' dn' dm' c' (by omega) (by omega) (fun q => by omega) hw) (q_sub1 rfl (q_sub1 rfl (q_sub1 rfl (q_sub1 rfl q_sub0))))
        refine q_aload_n 27 rfl rfl dL_law_26 ?_
        refine q_iload_n 28 rfl rfl dL_law_27 ?_
        refine q_sld 29 rfl (by omega) (by omega) dL_law_28 ?_
        refine q_bipush 31 rfl 63 (by decide +kernel) dL_law_29 ?_
        refine q_iand 32 rfl dL_law_31 ?_
        have hw : q_xs Γ i &&& 63 ≤ 63 := Nat.and_le_right
        have hl31 : q_xl Γ < 2147483648 := by omega
        generalize q_xs Γ i &&& 63 = v at hw ⊢
        by_cases hv : 37 < v
        · refine q_tabO 1222 (Or.inr ?_) rfl dL_law_32 ?_
          · rw [z_s_lo (by omega)]; omega
          · exact hJ N L G nm nw dn dm c h
        · rcases (show v = 0 ∨ v = 1 ∨ v = 2 ∨ v = 3 ∨ v = 4 ∨ v = 5 ∨ v = 6 ∨ v = 7 ∨ v = 8 ∨ v = 9 ∨ v = 10 ∨ v = 11 ∨ v = 12 ∨ v = 13 ∨ v = 14 ∨ v = 15 ∨ v = 16 ∨ v = 17 ∨ v = 18 ∨ v = 19 ∨ v = 20 ∨ v = 21 ∨ v = 22 ∨ v = 23 ∨ v = 24 ∨ v = 25 ∨ v = 26 ∨ v = 27 ∨ v = 28 ∨ v = 29 ∨ v = 30 ∨ v = 31 ∨ v = 32 ∨ v = 33 ∨ v = 34 ∨ v = 35 ∨ v = 36 ∨ v = 37 by omega) with rfl | rfl | rfl | rfl | rfl | rfl | rfl | rfl | rfl | rfl | rfl | rfl | rfl | rfl | rfl | rfl | rfl | rfl | rfl | rfl | rfl | rfl | rfl | rfl | rfl | rfl | rfl | rfl | rfl | rfl | rfl | rfl | rfl | rfl | rfl | rfl | rfl | rfl
          · exact q_tab 200 (by decide) (by decide) (by decide) rfl (by decide) dL_law_32 (law_c0 hin hl31 h hJ)
          · exact q_tab 223 (by decide) (by decide) (by decide) rfl (by decide) dL_law_32 (law_c1 hin hl31 h hJ)
          · exact q_tab 246 (by decide) (by decide) (by decide) rfl (by decide) dL_law_32 (law_c2 hin hl31 h hJ)
          · exact q_tab 259 (by decide) (by decide) (by decide) rfl (by decide) dL_law_32 (law_c3 hin hl31 h hJ)
          · exact q_tab 272 (by decide) (by decide) (by decide) rfl (by decide) dL_law_32 (law_c4 hin hl31 h hJ)
          · exact q_tab 295 (by decide) (by decide) (by decide) rfl (by decide) dL_law_32 (law_c5 hin hl31 h hJ)
          · exact q_tab 328 (by decide) (by decide) (by decide) rfl (by decide) dL_law_32 (law_c6 hin hl31 h hJ)
          · exact q_tab 351 (by decide) (by decide) (by decide) rfl (by decide) dL_law_32 (law_c7 hin hl31 h hJ)
          · exact q_tab 374 (by decide) (by decide) (by decide) rfl (by decide) dL_law_32 (law_c8 hin hl31 h hJ)
          · exact q_tab 407 (by decide) (by decide) (by decide) rfl (by decide) dL_law_32 (law_c9 hin hl31 h hJ)
          · exact q_tab 440 (by decide) (by decide) (by decide) rfl (by decide) dL_law_32 (law_c10 hin hl31 h hJ)
          · exact q_tab 473 (by decide) (by decide) (by decide) rfl (by decide) dL_law_32 (law_c11 hin hl31 h hJ)
          · exact q_tab 496 (by decide) (by decide) (by decide) rfl (by decide) dL_law_32 (law_c12 hin hl31 h hJ)
          · exact q_tab 529 (by decide) (by decide) (by decide) rfl (by decide) dL_law_32 (law_c13 hin hl31 h hJ)
          · exact q_tab 562 (by decide) (by decide) (by decide) rfl (by decide) dL_law_32 (law_c14 hin hl31 h hJ)
          · exact q_tab 585 (by decide) (by decide) (by decide) rfl (by decide) dL_law_32 (law_c15 hin hl31 h hJ)
          · exact q_tab 644 (by decide) (by decide) (by decide) rfl (by decide) dL_law_32 (law_c16 hin hl31 h hJ)
          · exact q_tab 667 (by decide) (by decide) (by decide) rfl (by decide) dL_law_32 (law_c17 hin hl31 h hJ)
          · exact q_tab 680 (by decide) (by decide) (by decide) rfl (by decide) dL_law_32 (law_c18 hin hl31 h hJ)
          · exact q_tab 714 (by decide) (by decide) (by decide) rfl (by decide) dL_law_32 (law_c19 hin hl31 h hJ)
          · exact q_tab 727 (by decide) (by decide) (by decide) rfl (by decide) dL_law_32 (law_c20 hin hl31 h hJ)
          · exact q_tab 750 (by decide) (by decide) (by decide) rfl (by decide) dL_law_32 (law_c21 hin hl31 h hJ)
          · exact q_tab 773 (by decide) (by decide) (by decide) rfl (by decide) dL_law_32 (law_c22 hin hl31 h hJ)
          · exact q_tab 797 (by decide) (by decide) (by decide) rfl (by decide) dL_law_32 (law_c23 hin hl31 h hJ)
          · exact q_tab 820 (by decide) (by decide) (by decide) rfl (by decide) dL_law_32 (law_c24 hin hl31 h hJ)
          · exact q_tab 843 (by decide) (by decide) (by decide) rfl (by decide) dL_law_32 (law_c25 hin hl31 h hJ)
          · exact q_tab 876 (by decide) (by decide) (by decide) rfl (by decide) dL_law_32 (law_c26 hin hl31 h hJ)
          · exact q_tab 889 (by decide) (by decide) (by decide) rfl (by decide) dL_law_32 (law_c27 hin hl31 h hJ)
          · exact q_tab 902 (by decide) (by decide) (by decide) rfl (by decide) dL_law_32 (law_c28 hin hl31 h hJ)
          · exact q_tab 925 (by decide) (by decide) (by decide) rfl (by decide) dL_law_32 (law_c29 hin hl31 h hJ)
          · exact q_tab 948 (by decide) (by decide) (by decide) rfl (by decide) dL_law_32 (law_c30 hin hl31 h hJ)
          · exact q_tab 1001 (by decide) (by decide) (by decide) rfl (by decide) dL_law_32 (law_c31 hin hl31 h hJ)
          · exact q_tab 1024 (by decide) (by decide) (by decide) rfl (by decide) dL_law_32 (law_c32 hin hl31 h hJ)
          · exact q_tab 1047 (by decide) (by decide) (by decide) rfl (by decide) dL_law_32 (law_c33 hin hl31 h hJ)
          · exact q_tab 1090 (by decide) (by decide) (by decide) rfl (by decide) dL_law_32 (law_c34 hin hl31 h hJ)
          · exact q_tab 1133 (by decide) (by decide) (by decide) rfl (by decide) dL_law_32 (law_c35 hin hl31 h hJ)
          · exact q_tab 1186 (by decide) (by decide) (by decide) rfl (by decide) dL_law_32 (law_c36 hin hl31 h hJ)
          · exact q_tab 1199 (by decide) (by decide) (by decide) rfl (by decide) dL_law_32 (law_c37 hin hl31 h hJ)
    · refine q_isubG 23 rfl (by decide) dL_law_22 ?_
      have hi0 : i = 0 := h0 (by omega)
      subst hi0
      refine q_icmp_gtT 1228 rfl ?_ dL_law_23 ?_
      · rcases (show q_xl Γ = 0 ∨ q_xl Γ = 1 ∨ q_xl Γ = 2 ∨ q_xl Γ = 3 ∨ q_xl Γ = 4 by omega) with q | q | q | q | q <;> rw [q] <;> decide +kernel
      · refine q_iconst 1229 rfl 1 (by decide +kernel) dL_law_1228 ?_
        exact law_end
end
