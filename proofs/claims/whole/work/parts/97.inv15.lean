theorem IV.keep {ad : Nat → Nat} {G : Nat → Nat → Option Nat} {N : Nat → Nat → Nat} {nm nw dn dm c X : Nat} (h : IV ad G N nm nw dn dm c) : (keep6 N nw X).1 = (keep7 (keep6 N nw X).2 X).1 ∧ IV ad G (keep7 (keep6 N nw X).2 X).2 nm nw dn dm c := by
  obtain ⟨⟨g1, g2, g3, _⟩, ⟨c1, c2, c3, c4, c5⟩, _, ⟨m1, m2, m3, m4⟩, ⟨n1, n2, n3⟩, hI, _⟩ := id h
  have hc9 : c ≤ 9 := c1.2.1
  obtain ⟨mc, mcc, mb, ml, ms, mk_, mms, mpr, mg9, mh, mgn, mga, mod_, mo1⟩ := id m1
  unfold keep6
  by_cases hX : X ≤ 1
  · rw [if_pos hX]
    obtain ⟨i1, i2, i3⟩ := hI X (by omega)
    have hd : nw + 8 < 51 + 9 * X ∨ 51 + 9 * X + 8 < nw := by omega
    have kCM := c2.cpm (q := 51 + 9 * X) hc9 hd
    obtain ⟨f1, f2, f3, f6, f9⟩ := cpm_f (N := N) hd
    show (if N 34 X = 0 then 0 else 1) = (keep7 (q_s (cpm N (51 + 9 * X) nw) 34 X 1) X).1 ∧ IV ad G (keep7 (q_s (cpm N (51 + 9 * X) nw) 34 X 1) X).2 nm nw dn dm c
    have fn : ∀ a, (a < 51 + 9 * X ∨ 51 + 9 * X + 8 < a) → a ≠ 34 → (q_s (cpm N (51 + 9 * X) nw) 34 X 1) a = N a := fun a q1 q2 => by rw [q_s_ne q2, cpm_ne q1]
    have fc : ∀ a, a ≠ 34 → (q_s (cpm N (51 + 9 * X) nw) 34 X 1) a = cpm N (51 + 9 * X) nw a := fun a q => q_s_ne q
    have f34 : ∀ j, (q_s (cpm N (51 + 9 * X) nw) 34 X 1) 34 j = if j = X then 1 else N 34 j := fun j => by
      by_cases q : j = X
      · subst q; rw [q_s_at, if_pos rfl]
      · rw [q_s_off q, if_neg q, cpm_ne (by omega)]
    generalize q_s (cpm N (51 + 9 * X) nw) 34 X 1 = F at *
    have F78 := fn 78 (by omega) (by omega)
    unfold keep7
    rw [if_pos hX, fn 92 (by omega) (by omega), i2, F78]
    refine ⟨rfl, ?_⟩
    show IV ad G (q_s (q_r F 78 (va_cpy (N 78) (N 78) 0 (60 * (X + 1)) 60)) 92 X 1) nm nw dn dm c
    have ec : ∀ a, a ≠ 78 → a ≠ 92 → q_s (q_r F 78 (va_cpy (N 78) (N 78) 0 (60 * (X + 1)) 60)) 92 X 1 a = F a := fun a q1 q2 => by rw [q_s_ne q2, q_r_ne q1]
    have e92 : ∀ j, q_s (q_r F 78 (va_cpy (N 78) (N 78) 0 (60 * (X + 1)) 60)) 92 X 1 92 j = if j = X then 1 else N 92 j := fun j => by
      by_cases q : j = X
      · subst q; rw [q_s_at, if_pos rfl]
      · rw [q_s_off q, if_neg q, q_r_ne (by omega), fn 92 (by omega) (by omega)]
    have eI : ∀ j, j < 60 → q_s (q_r F 78 (va_cpy (N 78) (N 78) 0 (60 * (X + 1)) 60)) 92 X 1 78 (60 * (X + 1) + j) = N 78 (0 + j) := fun j hj => by
      rw [q_s_ne (by omega), q_r_at, va_cpy, if_pos (by omega)]; congr 1; omega
    have eO : ∀ j, j < 60 * (X + 1) ∨ 60 * (X + 1) + 60 ≤ j → q_s (q_r F 78 (va_cpy (N 78) (N 78) 0 (60 * (X + 1)) 60)) 92 X 1 78 j = N 78 j := fun j hj => by
      rw [q_s_ne (by omega), q_r_at, va_cpy, if_neg (by omega)]
    generalize q_s (q_r F 78 (va_cpy (N 78) (N 78) 0 (60 * (X + 1)) 60)) 92 X 1 = M at *
    refine h.imgs (fun a q1 q2 q3 q4 => by rw [ec a q3 q4, fn a (by omega) q2]) (fun i hi => eO i (by omega)) (fun i hi => ?_) (fun i hi => ?_)
    · rcases Nat.lt_or_ge i (60 * (X + 1)) with q | q
      · rw [eO i (Or.inl q)]; exact ms i hi
      · rcases Nat.lt_or_ge i (60 * (X + 1) + 60) with q2 | q2
        · have := eI (i - 60 * (X + 1)) (by omega)
          rw [show 60 * (X + 1) + (i - 60 * (X + 1)) = i by omega] at this
          rw [this]; exact ms _ (by omega)
        · rw [eO i (Or.inr q2)]; exact ms i hi
    · rw [ec 34 (by omega) (by omega), f34, e92]
      by_cases q : i = X
      · subst q
        rw [if_pos rfl, if_pos rfl]
        have hq : ∀ a, 51 + 9 * i ≤ a → a ≤ 51 + 9 * i + 8 → M a = cpm N (51 + 9 * i) nw a := fun a _ _ => by rw [ec a (by omega) (by omega), fc a (by omega)]
        refine ⟨⟨by omega, fun n hn => by rw [eI n (by omega), Nat.zero_add]; exact mod_ n hn⟩, rfl, fun _ => ⟨kCM.eq (fun a q1 q2 => hq a q1 q2), ?_⟩⟩
        refine n3.cpm c2 hc9 eI (fun j hj => ?_) (fun j hj => by rw [hq _ (by omega) (by omega)]; exact cpm_a1 hd hj) (fun j hj => by rw [hq _ (by omega) (by omega)]; exact cpm_a2 hd hj) (fun j hj => by rw [hq _ (by omega) (by omega)]; exact cpm_a3 hd hj) (fun j hj => by rw [hq _ (by omega) (by omega)]; exact cpm_a4 hd hj) (fun j hj => by rw [hq _ (by omega) (by omega)]; exact cpm_a5 hd hj) (fun j hj => by rw [hq _ (by omega) (by omega)]; exact cpm_a6 hd hj) (fun j hj => by rw [hq _ (by omega) (by omega)]; exact cpm_a7 hd hj) (fun j hj => by rw [hq _ (by omega) (by omega)]; exact cpm_a8 hd hj)
        rw [hq (51 + 9 * i) (by omega) (by omega)]
        rcases hj with rfl | rfl | rfl | rfl | rfl
        · exact f1
        · exact f2
        · exact f3
        · exact f6
        · exact f9
      · obtain ⟨k1, k2, k3⟩ := hI i hi
        rw [if_neg q, if_neg q]
        have hq : ∀ a, 51 + 9 * i ≤ a → a ≤ 51 + 9 * i + 8 → M a = N a := fun a _ _ => by rw [ec a (by omega) (by omega), fn a (by omega) (by omega)]
        exact ⟨⟨k1.1, fun n hn => by rw [eO _ (by omega)]; exact k1.2 n hn⟩, k2, fun z => ⟨(k3 z).1.eq (fun a q1 q2 => hq a q1 q2), (k3 z).2.own (k3 z).1 hc9 (fun j hj => eO _ (by omega)) (fun a q1 q2 => hq a q1 q2)⟩⟩
  · rw [if_neg hX]
    show 4294967295 = (keep7 N X).1 ∧ IV ad G (keep7 N X).2 nm nw dn dm c
    unfold keep7
    rw [if_neg hX]
    exact ⟨rfl, h⟩
