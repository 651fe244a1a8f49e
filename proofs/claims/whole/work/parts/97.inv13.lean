theorem IV.back {ad : Nat → Nat} {G : Nat → Nat → Option Nat} {N : Nat → Nat → Nat} {nm nw dn dm c X : Nat} (h : IV ad G N nm nw dn dm c) : (back6 N nm nw c X).1 = (back7 (back6 N nm nw c X).2 X).1 ∧ IV ad G (back7 (back6 N nm nw c X).2 X).2 nm nw dn dm c := by
  obtain ⟨⟨g1, g2, g3, _⟩, ⟨c1, c2, c3, c4, c5⟩, _, ⟨m1, m2, m3, m4⟩, ⟨n1, n2, n3⟩, hI, _⟩ := id h
  have hc9 : c ≤ 9 := c1.2.1
  obtain ⟨mc, mcc, mb, ml, ms, mk_, mms, mpr, mg9, mh, mgn, mga, mod_, mo1⟩ := id m1
  unfold back6
  by_cases hX : X ≤ 1
  · rw [if_pos hX]
    obtain ⟨i1, i2, i3⟩ := hI X (by omega)
    by_cases hk : N 34 X = 0
    · rw [if_pos hk]
      show 4294967294 = (back7 N X).1 ∧ IV ad G (back7 N X).2 nm nw dn dm c
      unfold back7
      rw [if_pos hX, i2, if_pos hk]
      exact ⟨rfl, h⟩
    · rw [if_neg hk]
      obtain ⟨j1, j2⟩ := i3 hk
      have hd : 51 + 9 * X + 8 < nw ∨ nw + 8 < 51 + 9 * X := by omega
      have kCM := j1.cpm (q := nw) hc9 hd
      obtain ⟨f1, f2, f3, f6, f9⟩ := cpm_f (N := N) hd
      have fn : ∀ a, (a < nw ∨ nw + 8 < a) → a ≠ 36 → fil (cpm N nw (51 + 9 * X)) 36 (fun n => mk (nr6 N nm (N (51 + 9 * X) 1) (N (51 + 9 * X) 2) n) c) c a = N a := fun a q1 q2 => by rw [fil_ne q2, cpm_ne q1]
      have fc : ∀ a, a ≠ 36 → fil (cpm N nw (51 + 9 * X)) 36 (fun n => mk (nr6 N nm (N (51 + 9 * X) 1) (N (51 + 9 * X) 2) n) c) c a = cpm N nw (51 + 9 * X) a := fun a q => fil_ne q
      have f36 : ∀ g, g < c → fil (cpm N nw (51 + 9 * X)) 36 (fun n => mk (nr6 N nm (N (51 + 9 * X) 1) (N (51 + 9 * X) 2) n) c) c 36 g = mk (nr6 N nm (N (51 + 9 * X) 1) (N (51 + 9 * X) 2) g) c := fun g hg => fil_lt hg
      show N (51 + 9 * X) 6 = (back7 (fil (cpm N nw (51 + 9 * X)) 36 (fun n => mk (nr6 N nm (N (51 + 9 * X) 1) (N (51 + 9 * X) 2) n) c) c) X).1 ∧ IV ad G (back7 (fil (cpm N nw (51 + 9 * X)) 36 (fun n => mk (nr6 N nm (N (51 + 9 * X) 1) (N (51 + 9 * X) 2) n) c) c) X).2 nm nw dn dm c
      generalize fil (cpm N nw (51 + 9 * X)) 36 (fun n => mk (nr6 N nm (N (51 + 9 * X) 1) (N (51 + 9 * X) 2) n) c) c = F at *
      have F78 := fn 78 (by omega) (by omega)
      obtain ⟨p1, p2, p3, p4, p5, p6, p7, p8, p9⟩ := id j2
      unfold back7
      rw [if_pos hX, fn 92 (by omega) (by omega), i2, if_neg hk, F78]
      refine ⟨p6.symm, ?_⟩
      show IV ad G (q_r F 78 (va_cpy (N 78) (N 78) (60 * (X + 1)) 0 60)) nm nw dn dm c
      have ec : ∀ a, a ≠ 78 → q_r F 78 (va_cpy (N 78) (N 78) (60 * (X + 1)) 0 60) a = F a := fun a q => q_r_ne q
      have eL : ∀ j, j < 60 → q_r F 78 (va_cpy (N 78) (N 78) (60 * (X + 1)) 0 60) 78 j = N 78 (60 * (X + 1) + j) := fun j hj => by rw [q_r_at, va_cpy, if_pos (by omega), Nat.sub_zero]
      have eH : ∀ j, 60 ≤ j → q_r F 78 (va_cpy (N 78) (N 78) (60 * (X + 1)) 0 60) 78 j = N 78 j := fun j hj => by rw [q_r_at, va_cpy, if_neg (by omega)]
      generalize q_r F 78 (va_cpy (N 78) (N 78) (60 * (X + 1)) 0 60) = M at *
      have hCM : CM M nw c := kCM.eq (fun a _ _ => by rw [ec a (by omega), fc a (by omega)])
      have hnw : ∀ a, nw ≤ a → a ≤ nw + 8 → M a = cpm N nw (51 + 9 * X) a := fun a _ _ => by rw [ec a (by omega), fc a (by omega)]
      have e9 : M 78 9 = N (51 + 9 * X) 1 := by rw [eL 9 (by omega)]; exact p2
      have e10 : M 78 10 = N (51 + 9 * X) 2 := by rw [eL 10 (by omega)]; exact p3
      have e21 : M 78 21 = N (51 + 9 * X) 3 := by rw [eL 21 (by omega)]; exact p4
      have e40 : M 78 40 = N (51 + 9 * X) 6 := by rw [eL 40 (by omega)]; exact p6
      have e59 : M 78 59 = N (51 + 9 * X) 9 := by rw [eL 59 (by omega)]; exact p8
      obtain ⟨hkd, hms, hpr, hpf, hps, hg9, hgn, hga, hh6, hhp, hhl, hhi, hod, ho1⟩ := id j1
      refine h.page2 (fun a q1 q2 q3 => by rw [ec a q3, fn a q1 q2]) eH (fun g hg => ?_) hCM ?_ ?_
      · rw [ec 36 (by omega), f36 g hg]
        refine mk_ext (fun n hn => ?_)
        show _ = nr7 (M 78 9) (M 78 10) (M 79) g n
        rw [e9, e10, ec 79 (by omega), fn 79 (by omega) (by omega)]
        exact (n1.nr hg hn).symm
      · unfold MS
        rw [ec 77 (by omega), fn 77 (by omega) (by omega), ec 79 (by omega), fn 79 (by omega) (by omega), e9, e10, e21, e40, e59]
        refine ⟨mc, mcc, mb, ml, fun i hi => ?_, hkd, hms, hpr, hg9, hh6, fun k hk => ?_, fun k hk => ?_, fun n hn => ?_, fun n hn => ?_⟩
        · rcases Nat.lt_or_ge i 60 with q | q
          · rw [eL i q]; exact ms _ (by omega)
          · rw [eH i q]; exact ms i hi
        · rw [eL _ (by omega), (p7 k hk).1]; exact hgn k hk
        · rw [eL _ (by omega), (p7 k hk).2]; exact hga k hk
        · rw [eL n (by omega)]; exact i1.2 n hn
        · rw [eL n (by omega), p1 n hn]; exact ho1 n hn
      · refine j2.cpm j1 hc9 (fun i hi => by rw [Nat.zero_add]; exact eL i hi) (fun j hj => ?_) (fun j hj => by rw [hnw _ (by omega) (by omega)]; exact cpm_a1 hd hj) (fun j hj => by rw [hnw _ (by omega) (by omega)]; exact cpm_a2 hd hj) (fun j hj => by rw [hnw _ (by omega) (by omega)]; exact cpm_a3 hd hj) (fun j hj => by rw [hnw _ (by omega) (by omega)]; exact cpm_a4 hd hj) (fun j hj => by rw [hnw _ (by omega) (by omega)]; exact cpm_a5 hd hj) (fun j hj => by rw [hnw _ (by omega) (by omega)]; exact cpm_a6 hd hj) (fun j hj => by rw [hnw _ (by omega) (by omega)]; exact cpm_a7 hd hj) (fun j hj => by rw [hnw _ (by omega) (by omega)]; exact cpm_a8 hd hj)
        rw [hnw nw (by omega) (by omega)]
        rcases hj with rfl | rfl | rfl | rfl | rfl
        · exact f1
        · exact f2
        · exact f3
        · exact f6
        · exact f9
  · rw [if_neg hX]
    show 4294967295 = (back7 N X).1 ∧ IV ad G (back7 N X).2 nm nw dn dm c
    unfold back7
    rw [if_neg hX]
    exact ⟨rfl, h⟩
