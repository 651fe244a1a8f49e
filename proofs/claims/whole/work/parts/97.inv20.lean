theorem prs_le {t : Nat → Nat} {len : Nat} : ∀ n S p j, (prs t len n S p j).1 ≤ 5 := by
  intro n
  induction n with
  | zero => intro S p j; exact Nat.zero_le _
  | succ n ih =>
    intro S p j
    rw [prs_s]
    split
    · show 1 ≤ 5; omega
    · split
      · show 0 ≤ 5; omega
      · split
        · exact fLine_le
        · exact ih _ _ _
theorem IG.sw {ad : Nat → Nat} {G : Nat → Nat → Option Nat} {nm nw dn dm : Nat} (h : IG ad G nm nw dn dm) : IG ad (Gsw ad G nm nw dn dm) dn dm nm nw := by
  obtain ⟨g1, g2, g3, g4, g5, g6, g7, g8, g9⟩ := h
  obtain ⟨r1, r2, r3, r4, r5⟩ := Gsw_f (nm := nm) (nw := nw) (dn := dn) (dm := dm) g1
  exact ⟨r1, g3, g2, g4.symm, g5.symm, r2, r3, r4, r5⟩
/-- a text taken over by both -/
theorem IV.txo {ad : Nat → Nat} {G : Nat → Nat → Option Nat} {N R M S : Nat → Nat → Nat} {nm nw dn dm c : Nat} (h : IV ad G N nm nw dn dm c) (h6 : OX6 N R S dn dm) (h7 : OX7 R M S) : IV ad (Gsw ad (G2r ad G dn dm) nm nw dn dm) M dn dm nm nw (S 0 0) := by
  obtain ⟨hG, ⟨c1, c2, c3, c4, c5⟩, ⟨t1, t2, t3, t4, t5, t6, t7, t8⟩, ⟨m1, m2, m3, m4⟩, ⟨n1, n2, n3⟩, hI, hS⟩ := h
  obtain ⟨x1, x2, x3, x4, x5, x6, x7, x8, x9, x10, x11⟩ := h6
  obtain ⟨y1, y2, y3, y4, y5, y6, ⟨K, k1, k2, k3, k4, k5, k6⟩, y8, y9⟩ := h7
  obtain ⟨g1, g2, g3, g4, g5, _⟩ := id hG
  obtain ⟨g21, g22⟩ := id g2
  obtain ⟨g31, g32⟩ := id g3
  have E : ∀ a, (nm ≤ a ∧ a ≤ nm + 5) ∨ (nw ≤ a ∧ a ≤ nw + 8) ∨ a = 1 ∨ a = 35 ∨ (37 ≤ a ∧ a ≤ 76) ∨ (84 ≤ a ∧ a ≠ 92) → M a = N a := fun a q => by
    rw [y1 a (by omega) (by omega) (by omega) (by omega) (by omega) (by omega) (by omega) (by omega), x1 a (by omega) (by omega) (by omega) (by omega) (by omega) (by omega)]
  have ER : ∀ a, a ≤ 76 → M a = R a := fun a q => y1 a (by omega) (by omega) (by omega) (by omega) (by omega) (by omega) (by omega) (by omega)
  have r78 : R 78 = N 78 := x1 78 (by omega) (by omega) (by omega) (by omega) (by omega) (by omega)
  have hCR : CR S M dn dm := by
    unfold CR
    rw [ER dn (by omega), ER dm (by omega), ER (dn + 1) (by omega), ER (dn + 2) (by omega), ER (dn + 3) (by omega), ER (dn + 4) (by omega), ER (dn + 5) (by omega), ER (dm + 1) (by omega), ER (dm + 2) (by omega), ER (dm + 3) (by omega), ER 2 (by omega)]
    exact x8
  have hCB : CB M dn dm := x9.same (fun a _ => ER a (by omega))
  obtain ⟨s1, s2, s3⟩ := tx_same hCR x10 k1 k3 k5 k6
  obtain ⟨w0, w1, w2, w3, w4, w5, w6, w7, w8, w9⟩ := id x10
  obtain ⟨a1, a2, a3, a4, a5, a6, a7, a8, a9, b1, b2, b3⟩ := id hCR
  obtain ⟨q1, q2, q3, q4, q5, q6, q7, q8, q9, l1, l2, l3, l4, l5, l6⟩ := id k1
  obtain ⟨mc, mcc, mb, ml, ms, mk_, mms, mpr, mg9, mh, mgn, mga, mod_, mo1⟩ := id m1
  obtain ⟨v1, v2, v3, v4, v5, v6, v7, v8⟩ := id c1
  obtain ⟨u1, u2, u3, u4, u5, u6, u7, u8, u9, u10, u11, u12, u13, u14⟩ := id c2
  refine ⟨hG.rd.sw, ⟨hCR.cn hCB x10, ?_, ?_, ?_, ?_⟩, ⟨?_, ?_, ?_, ?_, ?_, ?_, ?_, ?_⟩, ⟨?_, y6, ?_, ?_⟩, ⟨s1, s2, s3⟩, ?_, ?_⟩
  · unfold CM
    rw [a3, a4, a5, b2, b3]
    exact ⟨w2, w3, w4, hCB.2.2.2.2.2.2.1, hCB.2.2.2.2.2.2.2, by omega, fun k hk => by omega, fun k hk => by omega, by omega, fun k hk => by omega, fun k hk => by omega, fun k hk => by omega, hCB.2.2.2.2.2.1, fun n hn => by rw [(a2 n hn).2.2.2.2]; exact (w1 n hn).2.2.1⟩
  · intro g hg
    rw [ER 36 (by omega), x11 g hg]
    refine mk_ext (fun n hn => ?_)
    show nr6 R dn (S 0 1) (S 0 2) g n = nr7 (M 78 9) (M 78 10) (M 79) g n
    rw [k3 9 (by omega), k3 10 (by omega), q4, q5, s1.nr hg hn, nr6_eq (fun a _ _ => ER a (by omega))]
  · refine CB.same ⟨v3, v4, v5, v6, v8, u13, u4, u5⟩ (fun a q => E a (by omega))
  · obtain ⟨j1, j2, j3, j4, j5, j6⟩ := c5
    have e18 : M 0 18 = 0 := by rw [ER 0 (by omega)]; exact x5
    refine ⟨j1.eq (fun a _ _ => E a (by omega)), ?_, j3.eq (fun a _ _ => E a (by omega)), ?_, by omega, fun q => absurd e18 q⟩
    · rw [E 37 (by omega)]; exact j2
    · rw [E 41 (by omega)]; exact j4
  · rw [ER 0 (by omega), x3]; omega
  · rw [E 1 (by omega)]; exact t2
  · rw [ER 0 (by omega), x3]; exact y3
  · rw [E 84 (by omega), E 1 (by omega)]; exact t4
  · rw [ER 0 (by omega), x4]; exact y4
  · rw [ER 0 (by omega), x4]; omega
  · rw [y2, ER 0 (by omega), x2 3 (by omega) (by omega) (by omega), x1 77 (by omega) (by omega) (by omega) (by omega) (by omega) (by omega)]; exact t7
  · rw [ER 0 (by omega), x2 3 (by omega) (by omega) (by omega)]; exact t8
  · refine ⟨y5, w0, fun i hi => by rw [k5 i hi]; exact k2.1 i hi, fun n hn => by rw [k5 _ (by omega)]; exact k2.2.1 n hn, fun i hi => ?_, by rw [k3 9 (by omega), q4]; exact w2, by rw [k3 10 (by omega), q5]; exact w3, by rw [k3 21 (by omega), q6]; exact w4, by rw [k3 40 (by omega), l5]; omega, by rw [k3 59 (by omega), l6]; omega, fun k hk => ?_, fun k hk => ?_, fun n hn => ?_, fun n hn => ?_⟩
    · by_cases q : i < 60
      · rw [k3 i q]; exact l4 i q
      · rw [k4 i (by omega), r78]; exact ms i hi
    · rw [k3 40 (by omega), l5] at hk; omega
    · rw [k3 40 (by omega), l5] at hk; omega
    · rw [k3 n (by omega), q3 n hn]
      by_cases q : n < S 0 0
      · rw [if_pos q]; exact (w1 n q).2.2.2.1
      · rw [if_neg q]; omega
    · rw [k3 n (by omega), q3 n (by omega), if_pos hn]; exact (w1 n hn).2.2.1
  · rw [E 85 (by omega)]; exact m3
  · rw [E 86 (by omega)]; exact m4
  · intro i hi
    have e34 : M 34 i = 0 := by
      rw [ER 34 (by omega)]
      rcases (show i = 0 ∨ i = 1 by omega) with q | q
      · rw [q]; exact x6
      · rw [q]; exact x7
    have e92 : M 92 i = 0 := by
      rcases (show i = 0 ∨ i = 1 by omega) with q | q
      · rw [q]; exact y8
      · rw [q]; exact y9
    rw [e34, e92]
    exact ⟨⟨by omega, fun n hn => by rw [k4 _ (by omega), r78]; exact (hI i hi).1.2 n hn⟩, rfl, fun q => absurd rfl q⟩
  · intro x hx
    obtain ⟨s1, s2, s3, s4⟩ := hS x hx
    rw [E 93 (by omega), E 94 (by omega), E 95 (by omega), E (69 + 2 * x) (by omega), E (69 + 2 * x + 1) (by omega)]
    exact ⟨s1.eq (E (69 + 2 * x) (by omega)), s2, s3, s4⟩
/-- a text with a fault -/
theorem IV.txf {ad : Nat → Nat} {G : Nat → Nat → Option Nat} {N R M : Nat → Nat → Nat} {nm nw dn dm c f : Nat} (h : IV ad G N nm nw dn dm c) (hf : f ≤ 5) (h6 : EX6 N R dn dm f) (h7 : EX7 R M f) : IV ad (G2r ad G dn dm) M nm nw dn dm c := by
  obtain ⟨x1, x2, x3, x4, x5⟩ := h6
  obtain ⟨y1, ⟨y2, y3⟩, y4, y5, y6⟩ := h7
  obtain ⟨⟨g1, g2, g3, g4, g5, _⟩, _, ⟨t1, t2, t3, t4, t5, t6, t7, t8⟩, _⟩ := id h
  obtain ⟨g21, g22⟩ := id g2
  obtain ⟨g31, g32⟩ := id g3
  have ER : ∀ a, a ≤ 76 → M a = R a := fun a q => y1 a (by omega) (by omega) (by omega) (by omega)
  have r77 : R 77 = N 77 := x1 77 (by omega) (by omega) (by omega) (by omega)
  refine h.txe h.1.rd (fun a q1 q2 q3 q4 q5 q6 q7 q8 => by rw [y1 a q3 q4 q5 q6, x1 a q1 q2 q7 q8]) ?_ ?_ (x5.same (fun a _ => ER a (by omega))) y6 ⟨?_, ?_, ?_, ?_, ?_, ?_, ?_, ?_⟩
  · rw [ER 0 (by omega), x2 18 (by omega) (by omega)]
  · rw [y2, r77]
  · rw [ER 0 (by omega), x3]; omega
  · rw [ER 1 (by omega), x1 1 (by omega) (by omega) (by omega) (by omega)]; exact t2
  · rw [ER 0 (by omega), x3]; exact y4
  · rw [y1 84 (by omega) (by omega) (by omega) (by omega), x1 84 (by omega) (by omega) (by omega) (by omega), ER 1 (by omega), x1 1 (by omega) (by omega) (by omega) (by omega)]; exact t4
  · rw [ER 0 (by omega), x4]; exact y5
  · rw [ER 0 (by omega), x4]; exact hf
  · rw [ER 0 (by omega), y3, r77, x2 3 (by omega) (by omega)]; exact t7
  · rw [ER 0 (by omega), x2 3 (by omega) (by omega)]; exact t8

