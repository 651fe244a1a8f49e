/-! Each call of the law: class and model answer the same, and the invariant stays. -/
def IW (ad : Nat → Nat) (G : Nat → Nat → Option Nat) (N : Nat → Nat → Nat) (nm nw dn dm c : Nat) : Prop := IV ad G N nm nw dn dm c ∧ ∀ i, i < 9 → N 80 i < 26
def OKh (ad : Nat → Nat) (h : q_H) : Prop := ∃ N L G nm nw dn dm c, h = (LT ad, N, L, G) ∧ IW ad G N nm nw dn dm c
def isI (v : Option Value) : Prop := ∃ x : Int32, v = some (.int x)
def isL (v : Option Value) : Prop := ∃ x : Int64, v = some (.long x)
def PR (Γ : q_G) (ad : Nat → Nat) (m6 m7 : q_M) (d6 d7 : Nat) (As : List Value) (h : q_H) (iv : Option Value → Prop) : Prop := ∃ Q6, q_Con Γ m6 d6 0 0 (.ref (ad 0) :: As) h Q6 ∧ ∀ v h1, Q6 v h1 → h1.1 = LT ad ∧ iv v ∧ ∃ Q7, q_Con Γ m7 d7 0 0 (.ref (ad 77) :: As) h1 Q7 ∧ ∀ v' h2, Q7 v' h2 → v' = v ∧ OKh ad h2
theorem IV.sc {ad : Nat → Nat} {G : Nat → Nat → Option Nat} {N M : Nat → Nat → Nat} {nm nw dn dm c : Nat} (h : IV ad G N nm nw dn dm c) (e : Sc N M) : IV ad G M nm nw dn dm c := by
  obtain ⟨⟨g1, g2, _⟩, ⟨_, _, _, _, c5⟩, _⟩ := id h
  have E : ∀ a, a < 87 ∨ a = 89 ∨ 91 < a → M a = N a := fun a q => e a (by omega) (by omega) (by omega) (by omega)
  exact h.eq (c5.eq g2.1 (fun a _ _ => E a (by omega)) (by rw [E 0 (by omega)])) (fun a _ _ _ _ q5 q6 q7 q8 => e a q5 q6 q7 q8) (fun j _ => by rw [E 0 (by omega)]) (by rw [E 77 (by omega)]; exact ⟨rfl, rfl, rfl, rfl⟩)
theorem IV.kp {ad : Nat → Nat} {G : Nat → Nat → Option Nat} {N M : Nat → Nat → Nat} {nm nw dn dm c : Nat} (h : IV ad G N nm nw dn dm c) (e : KP N M) (hm : MI M nm c) : IV ad G M nm nw dn dm c :=
  h.eq hm (fun a q1 _ q3 _ _ _ _ _ => e.1 a q1 q3) e.2 (by rw [e.1 77 (by omega) (by omega)]; exact ⟨rfl, rfl, rfl, rfl⟩)
theorem IW.sc {ad : Nat → Nat} {G : Nat → Nat → Option Nat} {N M : Nat → Nat → Nat} {nm nw dn dm c : Nat} (h : IW ad G N nm nw dn dm c) (e : Sc N M) : IW ad G M nm nw dn dm c := ⟨h.1.sc e, by rw [e 80 (by omega) (by omega) (by omega) (by omega)]; exact h.2⟩
theorem IW.kp {ad : Nat → Nat} {G : Nat → Nat → Option Nat} {N M : Nat → Nat → Nat} {nm nw dn dm c : Nat} (h : IW ad G N nm nw dn dm c) (e : KP N M) (hm : MI M nm c) : IW ad G M nm nw dn dm c := ⟨h.1.kp e hm, by rw [e.1 80 (by omega) (by omega)]; exact h.2⟩
theorem IW.okh {ad : Nat → Nat} {G : Nat → Nat → Option Nat} {N : Nat → Nat → Nat} {L : Nat → Nat → Int} {nm nw dn dm c : Nat} (h : IW ad G N nm nw dn dm c) : OKh ad (LT ad, N, L, G) := ⟨N, L, G, nm, nw, dn, dm, c, rfl, h⟩
theorem IW.w0 {ad : Nat → Nat} {G : Nat → Nat → Option Nat} {N : Nat → Nat → Nat} {nm nw dn dm c : Nat} (h : IW ad G N nm nw dn dm c) : N 80 0 ≤ 8 := by
  obtain ⟨_, ⟨c1, _⟩, _, _, ⟨_, n2, _⟩, _⟩ := h.1
  have := n2.1
  have := c1.2.2.2.2.2.2.1
  omega

theorem fr_feed6 {N : Nat → Nat → Nat} {X a : Nat} (ha : 77 ≤ a) : (feed6 N X).2 a = N a := by
  unfold feed6
  repeat' split
  all_goals first | rfl | (simp only [q_s_ne (show a ≠ 0 by omega), q_s_ne (show a ≠ 1 by omega)])
theorem fr_end6 {N : Nat → Nat → Nat} {X a : Nat} (ha : 77 ≤ a) : (end6 N X).2 a = N a := by
  unfold end6
  repeat' split
  all_goals first | rfl | (simp only [q_s_ne (show a ≠ 0 by omega)])
theorem fr_odd6 {N : Nat → Nat → Nat} {nw c X Y a : Nat} (hnw : nw = 9 ∨ nw = 24) (ha : 77 ≤ a) : (odd6 N nw c X Y).2 a = N a := by
  have q0 : a ≠ nw := by omega
  have q1 : a ≠ nw + 1 := by omega
  have q2 : a ≠ nw + 2 := by omega
  have q3 : a ≠ nw + 3 := by omega
  have q4 : a ≠ nw + 4 := by omega
  have q5 : a ≠ nw + 5 := by omega
  have q6 : a ≠ nw + 6 := by omega
  have q7 : a ≠ nw + 7 := by omega
  have q8 : a ≠ nw + 8 := by omega
  unfold odd6
  repeat' split
  all_goals first | rfl | (simp only [q_s_ne q0, q_s_ne q1, q_s_ne q2, q_s_ne q3, q_s_ne q4, q_s_ne q5, q_s_ne q6, q_s_ne q7, q_s_ne q8])
theorem fr_part6 {N : Nat → Nat → Nat} {nw r X a : Nat} (hnw : nw = 9 ∨ nw = 24) (ha : 77 ≤ a) : (part6 N nw r X).2 a = N a := by
  have q0 : a ≠ nw := by omega
  have q1 : a ≠ nw + 1 := by omega
  have q2 : a ≠ nw + 2 := by omega
  have q3 : a ≠ nw + 3 := by omega
  have q4 : a ≠ nw + 4 := by omega
  have q5 : a ≠ nw + 5 := by omega
  have q6 : a ≠ nw + 6 := by omega
  have q7 : a ≠ nw + 7 := by omega
  have q8 : a ≠ nw + 8 := by omega
  unfold part6
  repeat' split
  all_goals first | rfl | (simp only [q_s_ne q0, q_s_ne q1, q_s_ne q2, q_s_ne q3, q_s_ne q4, q_s_ne q5, q_s_ne q6, q_s_ne q7, q_s_ne q8])
theorem fr_mix6 {N : Nat → Nat → Nat} {nw X Y a : Nat} (hnw : nw = 9 ∨ nw = 24) (ha : 77 ≤ a) : (mix6 N nw X Y).2 a = N a := by
  have q0 : a ≠ nw := by omega
  have q1 : a ≠ nw + 1 := by omega
  have q2 : a ≠ nw + 2 := by omega
  have q3 : a ≠ nw + 3 := by omega
  have q4 : a ≠ nw + 4 := by omega
  have q5 : a ≠ nw + 5 := by omega
  have q6 : a ≠ nw + 6 := by omega
  have q7 : a ≠ nw + 7 := by omega
  have q8 : a ≠ nw + 8 := by omega
  unfold mix6
  repeat' split
  all_goals first | rfl | (simp only [ad2, q_s_ne q0, q_s_ne q1, q_s_ne q2, q_s_ne q3, q_s_ne q4, q_s_ne q5, q_s_ne q6, q_s_ne q7, q_s_ne q8])
theorem fr_gue6 {N : Nat → Nat → Nat} {nw c X Y a : Nat} (hnw : nw = 9 ∨ nw = 24) (ha : 77 ≤ a) : (gue6 N nw c X Y).2 a = N a := by
  have q0 : a ≠ nw := by omega
  have q1 : a ≠ nw + 1 := by omega
  have q2 : a ≠ nw + 2 := by omega
  have q3 : a ≠ nw + 3 := by omega
  have q4 : a ≠ nw + 4 := by omega
  have q5 : a ≠ nw + 5 := by omega
  have q6 : a ≠ nw + 6 := by omega
  have q7 : a ≠ nw + 7 := by omega
  have q8 : a ≠ nw + 8 := by omega
  unfold gue6
  repeat' split
  all_goals first | rfl | (simp only [ad2, q_s_ne q0, q_s_ne q1, q_s_ne q2, q_s_ne q3, q_s_ne q4, q_s_ne q5, q_s_ne q6, q_s_ne q7, q_s_ne q8])
theorem fr_hear6 {N : Nat → Nat → Nat} {nw X Y b a : Nat} (hnw : nw = 9 ∨ nw = 24) (ha : 77 ≤ a) : (hear6 N nw X Y b).2 a = N a := by
  have q0 : a ≠ nw := by omega
  have q1 : a ≠ nw + 1 := by omega
  have q2 : a ≠ nw + 2 := by omega
  have q3 : a ≠ nw + 3 := by omega
  have q4 : a ≠ nw + 4 := by omega
  have q5 : a ≠ nw + 5 := by omega
  have q6 : a ≠ nw + 6 := by omega
  have q7 : a ≠ nw + 7 := by omega
  have q8 : a ≠ nw + 8 := by omega
  unfold hear6
  repeat' split
  all_goals first | rfl | (simp only [ad3, q_s_ne q0, q_s_ne q1, q_s_ne q2, q_s_ne q3, q_s_ne q4, q_s_ne q5, q_s_ne q6, q_s_ne q7, q_s_ne q8])
theorem fr_law6 {N : Nat → Nat → Nat} {nm nw c X Y a : Nat} (hnw : nw = 9 ∨ nw = 24) (ha : 77 ≤ a) : (law6 N nm nw c X Y).2 a = N a := by
  have q0 : a ≠ nw := by omega
  have q1 : a ≠ nw + 1 := by omega
  have q2 : a ≠ nw + 2 := by omega
  have q3 : a ≠ nw + 3 := by omega
  have q4 : a ≠ nw + 4 := by omega
  have q5 : a ≠ nw + 5 := by omega
  have q6 : a ≠ nw + 6 := by omega
  have q7 : a ≠ nw + 7 := by omega
  have q8 : a ≠ nw + 8 := by omega
  unfold law6
  repeat' split
  all_goals first | rfl | (simp only [lwN, fil_ne (show a ≠ 36 by omega), q_s_ne q0, q_s_ne q1, q_s_ne q2, q_s_ne q3, q_s_ne q4, q_s_ne q5, q_s_ne q6, q_s_ne q7, q_s_ne q8])
theorem fr_keep6 {N : Nat → Nat → Nat} {nw X a : Nat} (ha : 77 ≤ a) : (keep6 N nw X).2 a = N a := by
  unfold keep6
  repeat' split
  all_goals first | rfl | (simp only [q_s_ne (show a ≠ 34 by omega), cpm_ne (show a < 51 + 9 * X ∨ 51 + 9 * X + 8 < a by omega)])
theorem fr_back6 {N : Nat → Nat → Nat} {nm nw c X a : Nat} (hnw : nw = 9 ∨ nw = 24) (ha : 77 ≤ a) : (back6 N nm nw c X).2 a = N a := by
  unfold back6
  repeat' split
  all_goals first | rfl | (simp only [fil_ne (show a ≠ 36 by omega), cpm_ne (show a < nw ∨ nw + 8 < a by omega)])
theorem fr_sheet6 {N : Nat → Nat → Nat} {X Y Z a : Nat} (ha : 77 ≤ a) : (sheet6 N X Y Z).2 a = N a := by
  unfold sheet6
  repeat' split
  all_goals first | rfl | (simp only [rnw, q_r_ne (show a ≠ 69 + 2 * X + 1 by omega), q_s_ne (show a ≠ 69 + 2 * X by omega)])
theorem fr_put6 {N : Nat → Nat → Nat} {X Y Z a : Nat} (ha : 77 ≤ a) : (put6 N X Y Z).2 a = N a := by
  unfold put6
  repeat' split
  all_goals first | rfl | (simp only [q_s_ne (show a ≠ 69 + 2 * X + 1 by omega)])
theorem fr_rd6 {N : Nat → Nat → Nat} {q nw c l f a : Nat} (hnw : nw = 9 ∨ nw = 24) (ha : 77 ≤ a) : ∀ r j (H : Nat → Nat → Nat), H a = N a → (rd6 N q nw c l f r j H).2.2.2 a = N a := by
  intro r
  induction r with
  | zero => intro j H h; exact h
  | succ r ih =>
    intro j H h
    rw [rd6_s]
    split
    · exact h
    · split
      · exact ih _ _ (by rw [fr_gue6 hnw ha]; exact h)
      · exact h
theorem fr_read6 {N : Nat → Nat → Nat} {nw c X Y F n a : Nat} (hnw : nw = 9 ∨ nw = 24) (ha : 77 ≤ a) : (read6 N nw c X Y F n).2 a = N a := by
  have q0 : a ≠ nw := by omega
  unfold read6
  split
  · unfold rdf6
    split
    · exact (q_s_ne (show a ≠ 0 by omega)).trans (fr_rd6 hnw ha _ _ _ rfl)
    · exact (q_s_ne q0).trans (fr_rd6 hnw ha _ _ _ rfl)
  · rfl
theorem f80_feed7 {N : Nat → Nat → Nat} {X : Nat} : (feed7 N X).2 80 = N 80 := by
  unfold feed7
  repeat' split
  all_goals first | rfl | (simp only [q_s_ne (show 80 ≠ 77 by omega), q_s_ne (show 80 ≠ 84 by omega)])
theorem f80_end7 {N : Nat → Nat → Nat} {X : Nat} : (end7 N X).2 80 = N 80 := by
  unfold end7
  repeat' split
  all_goals first | rfl | (simp only [q_s_ne (show 80 ≠ 77 by omega)])
theorem f80_odd7 {N : Nat → Nat → Nat} {c X Y : Nat} : (odd7 N c X Y).2 80 = N 80 := by
  unfold odd7
  repeat' split
  all_goals first | rfl | (simp only [q_s_ne (show 80 ≠ 78 by omega)])
theorem f80_part7 {N : Nat → Nat → Nat} {r X : Nat} : (part7 N r X).2 80 = N 80 := by
  unfold part7
  repeat' split
  all_goals first | rfl | (simp only [q_s_ne (show 80 ≠ 78 by omega)])
theorem f80_mix7 {N : Nat → Nat → Nat} {X Y : Nat} : (mix7 N X Y).2 80 = N 80 := by
  unfold mix7
  repeat' split
  all_goals first | rfl | (simp only [q_s_ne (show 80 ≠ 78 by omega)])
theorem f80_hear7 {N : Nat → Nat → Nat} {X Y b : Nat} : (hear7 N X Y b).2 80 = N 80 := by
  unfold hear7
  repeat' split
  all_goals first | rfl | (simp only [q_s_ne (show 80 ≠ 78 by omega)])
theorem f80_law7 {N : Nat → Nat → Nat} {X Y : Nat} : (law7 N X Y).2 80 = N 80 := by
  unfold law7
  repeat' split
  all_goals first | rfl | (simp only [q_s_ne (show 80 ≠ 78 by omega)])
theorem f80_gue7 {N : Nat → Nat → Nat} {c X Y : Nat} : (gue7 N c X Y).2 80 = N 80 := by
  unfold gue7
  repeat' split
  all_goals first | rfl | (simp only [q_s_ne (show 80 ≠ 78 by omega)])
theorem f80_keep7 {N : Nat → Nat → Nat} {X : Nat} : (keep7 N X).2 80 = N 80 := by
  unfold keep7
  repeat' split
  all_goals first | rfl | (simp only [q_s_ne (show 80 ≠ 92 by omega), q_r_ne (show 80 ≠ 78 by omega)])
theorem f80_back7 {N : Nat → Nat → Nat} {X : Nat} : (back7 N X).2 80 = N 80 := by
  unfold back7
  repeat' split
  all_goals first | rfl | (simp only [q_r_ne (show 80 ≠ 78 by omega)])
theorem f80_sheet7 {N : Nat → Nat → Nat} {X Y Z : Nat} : (sheet7 N X Y Z).2 80 = N 80 := by
  unfold sheet7
  repeat' split
  all_goals first | rfl | (simp only [q_s_ne (show 80 ≠ 93 by omega), q_s_ne (show 80 ≠ 94 by omega), q_r_ne (show 80 ≠ 95 by omega)])
theorem f80_put7 {N : Nat → Nat → Nat} {X Y Z : Nat} : (put7 N X Y Z).2 80 = N 80 := by
  unfold put7
  repeat' split
  all_goals first | rfl | (simp only [q_s_ne (show 80 ≠ 95 by omega)])
theorem f80_rdm {c lane l f len : Nat} {x y : Nat → Nat} : ∀ r j (H : Nat → Nat → Nat), (rdm c lane l f len x y r j H).2.2.2 80 = H 80 := by
  intro r
  induction r with
  | zero => intro j H; rfl
  | succ r ih =>
    intro j H
    rw [rdm_s]
    split
    · rfl
    · split
      · rw [ih, gue7_ne (by omega)]
      · rfl
theorem f80_rdf {q : Nat × Nat × Nat × (Nat → Nat → Nat)} : (rdf q).2 80 = q.2.2.2 80 := by
  obtain ⟨q1, q2, q3, q4⟩ := q
  unfold rdf
  split
  · show q_s q4 77 29 q3 80 = q4 80
    rw [q_s_ne (show 80 ≠ 77 by omega)]
  · exact q_r_ne (f := q4) (g := va_cpy (q4 78) (q4 78) 180 0 60) (show 80 ≠ 78 by omega)
theorem f80_read7 {N : Nat → Nat → Nat} {c X Y F n : Nat} : (read7 N c X Y F n).2 80 = N 80 := by
  unfold read7
  split
  · rw [f80_rdf, f80_rdm, asd, q_r_ne (show 80 ≠ 78 by omega)]
  · rfl

theorem mor7_eq {N H : Nat → Nat → Nat} {c k : Nat} (e78 : H 78 = N 78) (e79 : H 79 = N 79) (e80 : H 80 = N 80) : mor7 H c k = mor7 N c k := by
  have e : ∀ x y, mnt7 H c x y = mnt7 N c x y := fun x y => by
    have p1 : pa7 H = pa7 N := by funext i; show H 78 _ = N 78 _; rw [e78]
    have p2 : pb7 H = pb7 N := by funext i; show H 78 _ = N 78 _; rw [e78]
    have p3 : wl7 H = wl7 N := by funext i; show H 80 _ = N 80 _; rw [e80]
    simp only [mnt7, slp7, p1, p2, p3, e78, e79, e80]
  show amax _ (fun k => pc (mnt7 H c (k / 26) (k % 26)) 26) (pc (mnt7 H c 4294967292 4294967292) 26) 4294967292 k = _
  simp only [e]
section
variable {Γ : q_G} {ad : Nat → Nat} {N : Nat → Nat → Nat} {L : Nat → Nat → Int} {G : Nat → Nat → Option Nat}
variable {nm nw dn dm c : Nat}
theorem PR.st {m6 m7 : q_M} {d6 d7 : Nat} {As : List Value} {f6 f7 : Nat × (Nat → Nat → Nat)} (h6 : q_Con Γ m6 d6 0 0 (.ref (ad 0) :: As) (LT ad, N, L, G) (q_is (some (.int (nI f6.1))) (LT ad, f6.2, L, G))) (h7 : q_Con Γ m7 d7 0 0 (.ref (ad 77) :: As) (LT ad, f6.2, L, G) (q_is (some (.int (nI f7.1))) (LT ad, f7.2, L, G))) (e : f6.1 = f7.1 ∧ IV ad G f7.2 nm nw dn dm c) (e80 : ∀ i, i < 9 → f7.2 80 i < 26) : PR Γ ad m6 m7 d6 d7 As (LT ad, N, L, G) isI := by
  refine ⟨_, h6, ?_⟩
  rintro v h1 ⟨rfl, rfl⟩
  refine ⟨rfl, ⟨_, rfl⟩, _, h7, ?_⟩
  rintro v' h2 ⟨rfl, rfl⟩
  exact ⟨by rw [e.1], IW.okh ⟨e.2, e80⟩⟩
theorem PR.an {m6 m7 : q_M} {d6 d7 : Nat} {As : List Value} {v6 v7 : Nat} (h : IW ad G N nm nw dn dm c) (h6 : q_Con Γ m6 d6 0 0 (.ref (ad 0) :: As) (LT ad, N, L, G) (q_is (some (.int (nI v6))) (LT ad, N, L, G))) (h7 : q_Con Γ m7 d7 0 0 (.ref (ad 77) :: As) (LT ad, N, L, G) (q_is (some (.int (nI v7))) (LT ad, N, L, G))) (e : v6 = v7) : PR Γ ad m6 m7 d6 d7 As (LT ad, N, L, G) isI := by
  refine ⟨_, h6, ?_⟩
  rintro v h1 ⟨rfl, rfl⟩
  refine ⟨rfl, ⟨_, rfl⟩, _, h7, ?_⟩
  rintro v' h2 ⟨rfl, rfl⟩
  exact ⟨by rw [e], h.okh⟩
theorem PR.sc {m6 m7 : q_M} {d6 d7 : Nat} {As : List Value} {v6 v7 : Value} {iv : Option Value → Prop} (h : IW ad G N nm nw dn dm c) (hi : iv (some v6)) (h6 : q_Con Γ m6 d6 0 0 (.ref (ad 0) :: As) (LT ad, N, L, G) (q_is (some v6) (LT ad, N, L, G))) (h7 : q_Con Γ m7 d7 0 0 (.ref (ad 77) :: As) (LT ad, N, L, G) (q_sc ad N G v7)) (e : v6 = v7) : PR Γ ad m6 m7 d6 d7 As (LT ad, N, L, G) iv := by
  refine ⟨_, h6, ?_⟩
  rintro v h1 ⟨rfl, rfl⟩
  refine ⟨rfl, hi, _, h7, ?_⟩
  rintro v' h2 ⟨rfl, M, L', rfl, hs⟩
  exact ⟨by rw [e], (h.sc hs).okh⟩
theorem PR.m6 {m6 m7 : q_M} {d6 d7 : Nat} {As : List Value} {v6 : Value} {v7 : (Nat → Nat → Nat) → Value} {iv : Option Value → Prop} (h : IW ad G N nm nw dn dm c) (hi : iv (some v6)) (h6 : q_Con Γ m6 d6 0 0 (.ref (ad 0) :: As) (LT ad, N, L, G) (q_m6 ad N L G nm c (some v6))) (h7 : ∀ H, MS H c → q_Con Γ m7 d7 0 0 (.ref (ad 77) :: As) (LT ad, H, L, G) (q_sc ad H G (v7 H))) (e : ∀ H, H 78 = N 78 → H 79 = N 79 → v6 = v7 H) : PR Γ ad m6 m7 d6 d7 As (LT ad, N, L, G) iv := by
  refine ⟨_, h6, ?_⟩
  rintro v h1 ⟨rfl, H, rfl, hk, hm⟩
  have hH := h.kp hk hm
  refine ⟨rfl, hi, _, h7 H hH.1.2.2.2.1.1, ?_⟩
  rintro v' h2 ⟨rfl, M, L', rfl, hs⟩
  exact ⟨by rw [e H (hk.1 78 (by omega) (by omega)) (hk.1 79 (by omega) (by omega))], (hH.sc hs).okh⟩

theorem pr_feed {X : Nat} (h : IW ad G N nm nw dn dm c) (hX : X < 4294967296) : PR Γ ad mX6_feed mX7_feed 1 1 [.int (nI X)] (LT ad, N, L, G) isI := by
  obtain ⟨⟨hG, g2, g3, _⟩, ⟨c1, c2, c3, c4, c5⟩, ⟨t1, t2, t3, t4, t5, t6, t7, t8⟩, ⟨m1, m2, m3, m4⟩, ⟨n1, n2, n3⟩, hI, hS⟩ := id h.1
  have hCX := h.1.cx
  have g22 := g2.2
  have eM : ∀ a, 77 ≤ a → (feed6 N X).2 a = N a := fun a ha => fr_feed6 ha
  have mM : MS (feed6 N X).2 c := m1.eq (by rw [eM 77 (by omega)]) (eM 78 (by omega)) (eM 79 (by omega))
  obtain ⟨u1, u2, u3, u4, u5, u6, u7, u8, u9, u10, u11, u12, u13, u14⟩ := id mM
  refine PR.st (f6 := feed6 N X) (f7 := feed7 (feed6 N X).2 X) (k_feed6 hG t1 hX) (k_feed7 hG (by rw [eM 77 (by omega)]; omega) hX) (h.1.feed) (fun i hi => ?_)
  rw [f80_feed7, eM 80 (by omega)]; exact h.2 i hi
theorem pr_end {X : Nat} (h : IW ad G N nm nw dn dm c) (hX : X < 4294967296) : PR Γ ad mX6_end mX7_end 1 1 [.int (nI X)] (LT ad, N, L, G) isI := by
  obtain ⟨⟨hG, g2, g3, _⟩, ⟨c1, c2, c3, c4, c5⟩, ⟨t1, t2, t3, t4, t5, t6, t7, t8⟩, ⟨m1, m2, m3, m4⟩, ⟨n1, n2, n3⟩, hI, hS⟩ := id h.1
  have hCX := h.1.cx
  have g22 := g2.2
  have eM : ∀ a, 77 ≤ a → (end6 N X).2 a = N a := fun a ha => fr_end6 ha
  have mM : MS (end6 N X).2 c := m1.eq (by rw [eM 77 (by omega)]) (eM 78 (by omega)) (eM 79 (by omega))
  obtain ⟨u1, u2, u3, u4, u5, u6, u7, u8, u9, u10, u11, u12, u13, u14⟩ := id mM
  refine PR.st (f6 := end6 N X) (f7 := end7 (end6 N X).2 X) (k_end6 hG t1 hX) (k_end7 hG (by rw [eM 77 (by omega)]; omega) hX) (h.1.end) (fun i hi => ?_)
  rw [f80_end7, eM 80 (by omega)]; exact h.2 i hi
theorem pr_odd {X Y : Nat} (h : IW ad G N nm nw dn dm c) (hX : X < 4294967296) (hY : Y < 4294967296) : PR Γ ad mX6_odd mX7_odd 2 2 [.int (nI X), .int (nI Y)] (LT ad, N, L, G) isI := by
  obtain ⟨⟨hG, g2, g3, _⟩, ⟨c1, c2, c3, c4, c5⟩, ⟨t1, t2, t3, t4, t5, t6, t7, t8⟩, ⟨m1, m2, m3, m4⟩, ⟨n1, n2, n3⟩, hI, hS⟩ := id h.1
  have hCX := h.1.cx
  have g22 := g2.2
  have eM : ∀ a, 77 ≤ a → (odd6 N nw c X Y).2 a = N a := fun a ha => fr_odd6 g22 ha
  have mM : MS (odd6 N nw c X Y).2 c := m1.eq (by rw [eM 77 (by omega)]) (eM 78 (by omega)) (eM 79 (by omega))
  obtain ⟨u1, u2, u3, u4, u5, u6, u7, u8, u9, u10, u11, u12, u13, u14⟩ := id mM
  refine PR.st (f6 := odd6 N nw c X Y) (f7 := odd7 (odd6 N nw c X Y).2 c X Y) (k_odd6 hG hCX hX hY) (k_odd7 hG mM hX hY) (h.1.odd) (fun i hi => ?_)
  rw [f80_odd7, eM 80 (by omega)]; exact h.2 i hi
theorem pr_law {X Y : Nat} (h : IW ad G N nm nw dn dm c) (hX : X < 4294967296) (hY : Y < 4294967296) : PR Γ ad mX6_law mX7_law 5 1 [.int (nI X), .int (nI Y)] (LT ad, N, L, G) isI := by
  obtain ⟨⟨hG, g2, g3, _⟩, ⟨c1, c2, c3, c4, c5⟩, ⟨t1, t2, t3, t4, t5, t6, t7, t8⟩, ⟨m1, m2, m3, m4⟩, ⟨n1, n2, n3⟩, hI, hS⟩ := id h.1
  have hCX := h.1.cx
  have g22 := g2.2
  have eM : ∀ a, 77 ≤ a → (law6 N nm nw c X Y).2 a = N a := fun a ha => fr_law6 g22 ha
  have mM : MS (law6 N nm nw c X Y).2 c := m1.eq (by rw [eM 77 (by omega)]) (eM 78 (by omega)) (eM 79 (by omega))
  obtain ⟨u1, u2, u3, u4, u5, u6, u7, u8, u9, u10, u11, u12, u13, u14⟩ := id mM
  refine PR.st (f6 := law6 N nm nw c X Y) (f7 := law7 (law6 N nm nw c X Y).2 X Y) (k_law6 hG hCX hX hY) (k_law7 hG hX hY) (h.1.law) (fun i hi => ?_)
  rw [f80_law7, eM 80 (by omega)]; exact h.2 i hi
theorem pr_mix {X Y : Nat} (h : IW ad G N nm nw dn dm c) (hX : X < 4294967296) (hY : Y < 4294967296) : PR Γ ad mX6_mix mX7_mix 2 2 [.int (nI X), .int (nI Y)] (LT ad, N, L, G) isI := by
  obtain ⟨⟨hG, g2, g3, _⟩, ⟨c1, c2, c3, c4, c5⟩, ⟨t1, t2, t3, t4, t5, t6, t7, t8⟩, ⟨m1, m2, m3, m4⟩, ⟨n1, n2, n3⟩, hI, hS⟩ := id h.1
  have hCX := h.1.cx
  have g22 := g2.2
  have eM : ∀ a, 77 ≤ a → (mix6 N nw X Y).2 a = N a := fun a ha => fr_mix6 g22 ha
  have mM : MS (mix6 N nw X Y).2 c := m1.eq (by rw [eM 77 (by omega)]) (eM 78 (by omega)) (eM 79 (by omega))
  obtain ⟨u1, u2, u3, u4, u5, u6, u7, u8, u9, u10, u11, u12, u13, u14⟩ := id mM
  refine PR.st (f6 := mix6 N nw X Y) (f7 := mix7 (mix6 N nw X Y).2 X Y) (k_mix6 hG hCX hX hY) (k_mix7 hG u8 hX hY) (h.1.mix) (fun i hi => ?_)
  rw [f80_mix7, eM 80 (by omega)]; exact h.2 i hi
theorem pr_part {X : Nat} (h : IW ad G N nm nw dn dm c) (hX : X < 4294967296) : PR Γ ad mX6_part mX7_part 1 1 [.int (nI X)] (LT ad, N, L, G) isI := by
  obtain ⟨⟨hG, g2, g3, _⟩, ⟨c1, c2, c3, c4, c5⟩, ⟨t1, t2, t3, t4, t5, t6, t7, t8⟩, ⟨m1, m2, m3, m4⟩, ⟨n1, n2, n3⟩, hI, hS⟩ := id h.1
  have hCX := h.1.cx
  have g22 := g2.2
  have eM : ∀ a, 77 ≤ a → (part6 N nw 3 X).2 a = N a := fun a ha => fr_part6 g22 ha
  have mM : MS (part6 N nw 3 X).2 c := m1.eq (by rw [eM 77 (by omega)]) (eM 78 (by omega)) (eM 79 (by omega))
  obtain ⟨u1, u2, u3, u4, u5, u6, u7, u8, u9, u10, u11, u12, u13, u14⟩ := id mM
  refine PR.st (f6 := part6 N nw 3 X) (f7 := part7 (part6 N nw 3 X).2 21 X) (k_part6 hG hCX hX) (k_part7 hG (by omega) hX) (h.1.part) (fun i hi => ?_)
  rw [f80_part7, eM 80 (by omega)]; exact h.2 i hi
theorem pr_undo {X : Nat} (h : IW ad G N nm nw dn dm c) (hX : X < 4294967296) : PR Γ ad mX6_undo mX7_undo 1 1 [.int (nI X)] (LT ad, N, L, G) isI := by
  obtain ⟨⟨hG, g2, g3, _⟩, ⟨c1, c2, c3, c4, c5⟩, ⟨t1, t2, t3, t4, t5, t6, t7, t8⟩, ⟨m1, m2, m3, m4⟩, ⟨n1, n2, n3⟩, hI, hS⟩ := id h.1
  have hCX := h.1.cx
  have g22 := g2.2
  have eM : ∀ a, 77 ≤ a → (part6 N nw 6 X).2 a = N a := fun a ha => fr_part6 g22 ha
  have mM : MS (part6 N nw 6 X).2 c := m1.eq (by rw [eM 77 (by omega)]) (eM 78 (by omega)) (eM 79 (by omega))
  obtain ⟨u1, u2, u3, u4, u5, u6, u7, u8, u9, u10, u11, u12, u13, u14⟩ := id mM
  refine PR.st (f6 := part6 N nw 6 X) (f7 := part7 (part6 N nw 6 X).2 40 X) (k_undo6 hG hCX hX) (k_undo7 hG (by omega) hX) (h.1.undo) (fun i hi => ?_)
  rw [f80_part7, eM 80 (by omega)]; exact h.2 i hi
theorem pr_forget {X : Nat} (h : IW ad G N nm nw dn dm c) (hX : X < 4294967296) : PR Γ ad mX6_forget mX7_forget 1 1 [.int (nI X)] (LT ad, N, L, G) isI := by
  obtain ⟨⟨hG, g2, g3, _⟩, ⟨c1, c2, c3, c4, c5⟩, ⟨t1, t2, t3, t4, t5, t6, t7, t8⟩, ⟨m1, m2, m3, m4⟩, ⟨n1, n2, n3⟩, hI, hS⟩ := id h.1
  have hCX := h.1.cx
  have g22 := g2.2
  have eM : ∀ a, 77 ≤ a → (part6 N nw 9 X).2 a = N a := fun a ha => fr_part6 g22 ha
  have mM : MS (part6 N nw 9 X).2 c := m1.eq (by rw [eM 77 (by omega)]) (eM 78 (by omega)) (eM 79 (by omega))
  obtain ⟨u1, u2, u3, u4, u5, u6, u7, u8, u9, u10, u11, u12, u13, u14⟩ := id mM
  refine PR.st (f6 := part6 N nw 9 X) (f7 := part7 (part6 N nw 9 X).2 59 X) (k_forget6 hG hCX hX) (k_forget7 hG (by omega) hX) (h.1.forget) (fun i hi => ?_)
  rw [f80_part7, eM 80 (by omega)]; exact h.2 i hi
theorem pr_guess {X Y : Nat} (h : IW ad G N nm nw dn dm c) (hX : X < 4294967296) (hY : Y < 4294967296) : PR Γ ad mX6_guess mX7_guess 2 3 [.int (nI X), .int (nI Y)] (LT ad, N, L, G) isI := by
  obtain ⟨⟨hG, g2, g3, _⟩, ⟨c1, c2, c3, c4, c5⟩, ⟨t1, t2, t3, t4, t5, t6, t7, t8⟩, ⟨m1, m2, m3, m4⟩, ⟨n1, n2, n3⟩, hI, hS⟩ := id h.1
  have hCX := h.1.cx
  have g22 := g2.2
  have eM : ∀ a, 77 ≤ a → (gue6 N nw c X Y).2 a = N a := fun a ha => fr_gue6 g22 ha
  have mM : MS (gue6 N nw c X Y).2 c := m1.eq (by rw [eM 77 (by omega)]) (eM 78 (by omega)) (eM 79 (by omega))
  obtain ⟨u1, u2, u3, u4, u5, u6, u7, u8, u9, u10, u11, u12, u13, u14⟩ := id mM
  refine PR.st (f6 := gue6 N nw c X Y) (f7 := gue7 (gue6 N nw c X Y).2 c X Y) (k_guess6 hG hCX hX hY) (k_guess7 hG u1 u2 u9 hX hY) (h.1.gue) (fun i hi => ?_)
  rw [f80_gue7, eM 80 (by omega)]; exact h.2 i hi
theorem pr_hear {X Y b : Nat} (h : IW ad G N nm nw dn dm c) (hX : X < 4294967296) (hY : Y < 4294967296) (hb : b < 4294967296) : PR Γ ad mX6_hear mX7_hear 2 2 [.int (nI X), .int (nI Y), .int (nI b)] (LT ad, N, L, G) isI := by
  obtain ⟨⟨hG, g2, g3, _⟩, ⟨c1, c2, c3, c4, c5⟩, ⟨t1, t2, t3, t4, t5, t6, t7, t8⟩, ⟨m1, m2, m3, m4⟩, ⟨n1, n2, n3⟩, hI, hS⟩ := id h.1
  have hCX := h.1.cx
  have g22 := g2.2
  have eM : ∀ a, 77 ≤ a → (hear6 N nw X Y b).2 a = N a := fun a ha => fr_hear6 g22 ha
  have mM : MS (hear6 N nw X Y b).2 c := m1.eq (by rw [eM 77 (by omega)]) (eM 78 (by omega)) (eM 79 (by omega))
  obtain ⟨u1, u2, u3, u4, u5, u6, u7, u8, u9, u10, u11, u12, u13, u14⟩ := id mM
  refine PR.st (f6 := hear6 N nw X Y b) (f7 := hear7 (hear6 N nw X Y b).2 X Y b) (k_hear6 hG hCX hX hY hb) (k_hear7 hG u10 hX hY hb) (h.1.hear) (fun i hi => ?_)
  rw [f80_hear7, eM 80 (by omega)]; exact h.2 i hi
theorem pr_keep {X : Nat} (h : IW ad G N nm nw dn dm c) (hX : X < 4294967296) : PR Γ ad mX6_keep mX7_keep 2 1 [.int (nI X)] (LT ad, N, L, G) isI := by
  obtain ⟨⟨hG, g2, g3, _⟩, ⟨c1, c2, c3, c4, c5⟩, ⟨t1, t2, t3, t4, t5, t6, t7, t8⟩, ⟨m1, m2, m3, m4⟩, ⟨n1, n2, n3⟩, hI, hS⟩ := id h.1
  have hCX := h.1.cx
  have g22 := g2.2
  have eM : ∀ a, 77 ≤ a → (keep6 N nw X).2 a = N a := fun a ha => fr_keep6 ha
  have mM : MS (keep6 N nw X).2 c := m1.eq (by rw [eM 77 (by omega)]) (eM 78 (by omega)) (eM 79 (by omega))
  obtain ⟨u1, u2, u3, u4, u5, u6, u7, u8, u9, u10, u11, u12, u13, u14⟩ := id mM
  refine PR.st (f6 := keep6 N nw X) (f7 := keep7 (keep6 N nw X).2 X) (k_keep6 hG hCX (fun i hi => by have := (hI i hi).1.1; omega) hX) (k_keep7 hG (fun i hi => by rw [eM 92 (by omega)]; have := (hI i hi).2.1; have := (hI i hi).1.1; omega) hX) (h.1.keep) (fun i hi => ?_)
  rw [f80_keep7, eM 80 (by omega)]; exact h.2 i hi
theorem pr_back {X : Nat} (h : IW ad G N nm nw dn dm c) (hX : X < 4294967296) : PR Γ ad mX6_back mX7_back 5 1 [.int (nI X)] (LT ad, N, L, G) isI := by
  obtain ⟨⟨hG, g2, g3, _⟩, ⟨c1, c2, c3, c4, c5⟩, ⟨t1, t2, t3, t4, t5, t6, t7, t8⟩, ⟨m1, m2, m3, m4⟩, ⟨n1, n2, n3⟩, hI, hS⟩ := id h.1
  have hCX := h.1.cx
  have g22 := g2.2
  have eM : ∀ a, 77 ≤ a → (back6 N nm nw c X).2 a = N a := fun a ha => fr_back6 g22 ha
  have mM : MS (back6 N nm nw c X).2 c := m1.eq (by rw [eM 77 (by omega)]) (eM 78 (by omega)) (eM 79 (by omega))
  obtain ⟨u1, u2, u3, u4, u5, u6, u7, u8, u9, u10, u11, u12, u13, u14⟩ := id mM
  refine PR.st (f6 := back6 N nm nw c X) (f7 := back7 (back6 N nm nw c X).2 X) (k_back6 hG hCX (by omega) (fun i hi => by have := (hI i hi).1.1; omega) (fun i hi q => ((hI i hi).2.2 q).1) hX) (k_back7 hG (fun i hi => by rw [eM 92 (by omega)]; have := (hI i hi).2.1; have := (hI i hi).1.1; omega) hX) (h.1.back) (fun i hi => ?_)
  rw [f80_back7, eM 80 (by omega)]; exact h.2 i hi
theorem pr_sheet {X Y Z : Nat} (h : IW ad G N nm nw dn dm c) (hX : X < 4294967296) (hY : Y < 4294967296) (hZ : Z < 4294967296) : PR Γ ad mX6_sheet mX7_sheet 2 1 [.int (nI X), .int (nI Y), .int (nI Z)] (LT ad, N, L, G) isI := by
  obtain ⟨⟨hG, g2, g3, _⟩, ⟨c1, c2, c3, c4, c5⟩, ⟨t1, t2, t3, t4, t5, t6, t7, t8⟩, ⟨m1, m2, m3, m4⟩, ⟨n1, n2, n3⟩, hI, hS⟩ := id h.1
  have hCX := h.1.cx
  have g22 := g2.2
  have eM : ∀ a, 77 ≤ a → (sheet6 N X Y Z).2 a = N a := fun a ha => fr_sheet6 ha
  have mM : MS (sheet6 N X Y Z).2 c := m1.eq (by rw [eM 77 (by omega)]) (eM 78 (by omega)) (eM 79 (by omega))
  obtain ⟨u1, u2, u3, u4, u5, u6, u7, u8, u9, u10, u11, u12, u13, u14⟩ := id mM
  refine PR.st (f6 := sheet6 N X Y Z) (f7 := sheet7 (sheet6 N X Y Z).2 X Y Z) (k_sheet6 hG hX hY hZ) (k_sheet7 hG hX hY hZ) (h.1.sheet) (fun i hi => ?_)
  rw [f80_sheet7, eM 80 (by omega)]; exact h.2 i hi
theorem pr_lay {X Y Z : Nat} (h : IW ad G N nm nw dn dm c) (hX : X < 4294967296) (hY : Y < 4294967296) (hZ : Z < 4294967296) : PR Γ ad mX6_lay mX7_lay 2 1 [.int (nI X), .int (nI Y), .int (nI Z)] (LT ad, N, L, G) isI := by
  obtain ⟨⟨hG, g2, g3, _⟩, ⟨c1, c2, c3, c4, c5⟩, ⟨t1, t2, t3, t4, t5, t6, t7, t8⟩, ⟨m1, m2, m3, m4⟩, ⟨n1, n2, n3⟩, hI, hS⟩ := id h.1
  have hCX := h.1.cx
  have g22 := g2.2
  have eM : ∀ a, 77 ≤ a → (put6 N X Y Z).2 a = N a := fun a ha => fr_put6 ha
  have mM : MS (put6 N X Y Z).2 c := m1.eq (by rw [eM 77 (by omega)]) (eM 78 (by omega)) (eM 79 (by omega))
  obtain ⟨u1, u2, u3, u4, u5, u6, u7, u8, u9, u10, u11, u12, u13, u14⟩ := id mM
  have hla : ∀ i, i < 4 → N 93 i < 4294967296 := fun i hi => by
    obtain ⟨⟨s1, _⟩, _, _, s4⟩ := hS i hi
    rw [s4]; split <;> omega
  have hle : ∀ i, i < 4 → N 94 i ≤ 40 := fun i hi => by
    obtain ⟨⟨_, s1⟩, _, s3, _⟩ := hS i hi
    rw [s3]; exact s1
  refine PR.st (f6 := put6 N X Y Z) (f7 := put7 (put6 N X Y Z).2 X Y Z) (k_lay6 hG (hS 0 (by omega)).1 (hS 1 (by omega)).1 (hS 2 (by omega)).1 (hS 3 (by omega)).1 hX hY hZ) (k_lay7 hG (by rw [eM 93 (by omega)]; exact hla) (by rw [eM 94 (by omega)]; exact hle) hX hY) (h.1.lay hZ) (fun i hi => ?_)
  rw [f80_put7, eM 80 (by omega)]; exact h.2 i hi
theorem pr_read {X Y F n : Nat} (h : IW ad G N nm nw dn dm c) (hX : X < 4294967296) (hY : Y < 4294967296) (hF : F < 4294967296) (hn : n < 4294967296) : PR Γ ad mX6_read mX7_read 3 3 [.int (nI X), .int (nI Y), .int (nI F), .int (nI n)] (LT ad, N, L, G) isI := by
  obtain ⟨⟨hG, g2, g3, _⟩, ⟨c1, c2, c3, c4, c5⟩, ⟨t1, t2, t3, t4, t5, t6, t7, t8⟩, ⟨m1, m2, m3, m4⟩, ⟨n1, n2, n3⟩, hI, hS⟩ := id h.1
  have hCX := h.1.cx
  have g22 := g2.2
  have eM : ∀ a, 77 ≤ a → (read6 N nw c X Y F n).2 a = N a := fun a ha => fr_read6 g22 ha
  have mM : MS (read6 N nw c X Y F n).2 c := m1.eq (by rw [eM 77 (by omega)]) (eM 78 (by omega)) (eM 79 (by omega))
  obtain ⟨u1, u2, u3, u4, u5, u6, u7, u8, u9, u10, u11, u12, u13, u14⟩ := id mM
  have hla : ∀ i, i < 4 → N 93 i < 4294967296 := fun i hi => by
    obtain ⟨⟨s1, _⟩, _, _, s4⟩ := hS i hi
    rw [s4]; split <;> omega
  have hle : ∀ i, i < 4 → N 94 i ≤ 40 := fun i hi => by
    obtain ⟨⟨_, s1⟩, _, s3, _⟩ := hS i hi
    rw [s3]; exact s1
  have hcl : ∀ i, i < 160 → N 95 i < 4294967296 := fun i hi => by
    obtain ⟨_, s2, _, _⟩ := hS (i / 40) (by omega)
    have q := s2 (i % 40) (by omega)
    rw [show 40 * (i / 40) + i % 40 = i by omega] at q
    rw [q.2]; exact q.1
  refine PR.st (f6 := read6 N nw c X Y F n) (f7 := read7 (read6 N nw c X Y F n).2 c X Y F n) (k_read6 hG hCX (fun x hx => (hS x hx).1) (fun x hx i hi => ((hS x hx).2.1 i hi).1) hX hY hF hn) (k_read7 hG u1 u2 u9 (by rw [eM 93 (by omega)]; exact hla) (by rw [eM 94 (by omega)]; exact hle) (by rw [eM 95 (by omega)]; exact hcl) hX hY hF hn) (h.1.read) (fun i hi => ?_)
  rw [f80_read7, eM 80 (by omega)]; exact h.2 i hi
theorem pr_fault (h : IW ad G N nm nw dn dm c) : PR Γ ad mX6_fault mX7_fault 0 0 [] (LT ad, N, L, G) isI := by
  obtain ⟨⟨hG, g2, g3, _⟩, ⟨c1, c2, c3, c4, c5⟩, ⟨t1, t2, t3, t4, t5, t6, t7, t8⟩, ⟨m1, m2, m3, m4⟩, ⟨n1, n2, n3⟩, hI, hS⟩ := id h.1
  have hCX := h.1.cx
  have g22 := g2.2
  obtain ⟨u1, u2, u3, u4, u5, u6, u7, u8, u9, u10, u11, u12, u13, u14⟩ := id m1
  exact PR.an h (k_fault6) (k_fault7 hG) (t5.symm)
theorem pr_torn (h : IW ad G N nm nw dn dm c) : PR Γ ad mX6_torn mX7_torn 0 0 [] (LT ad, N, L, G) isI := by
  obtain ⟨⟨hG, g2, g3, _⟩, ⟨c1, c2, c3, c4, c5⟩, ⟨t1, t2, t3, t4, t5, t6, t7, t8⟩, ⟨m1, m2, m3, m4⟩, ⟨n1, n2, n3⟩, hI, hS⟩ := id h.1
  have hCX := h.1.cx
  have g22 := g2.2
  obtain ⟨u1, u2, u3, u4, u5, u6, u7, u8, u9, u10, u11, u12, u13, u14⟩ := id m1
  exact PR.an h (k_torn6) (k_torn7 hG) (t7.symm)
theorem pr_rule {X : Nat} (h : IW ad G N nm nw dn dm c) (hX : X < 4294967296) : PR Γ ad mX6_rule mX7_rule 0 0 [.int (nI X)] (LT ad, N, L, G) isI := by
  obtain ⟨⟨hG, g2, g3, _⟩, ⟨c1, c2, c3, c4, c5⟩, ⟨t1, t2, t3, t4, t5, t6, t7, t8⟩, ⟨m1, m2, m3, m4⟩, ⟨n1, n2, n3⟩, hI, hS⟩ := id h.1
  have hCX := h.1.cx
  have g22 := g2.2
  obtain ⟨u1, u2, u3, u4, u5, u6, u7, u8, u9, u10, u11, u12, u13, u14⟩ := id m1
  exact PR.an h (k_rule6 hG hCX hX) (k_rule7 hG hX) (h.1.rule)
theorem pr_name {X Y : Nat} (h : IW ad G N nm nw dn dm c) (hX : X < 4294967296) (hY : Y < 4294967296) : PR Γ ad mX6_name mX7_name 2 2 [.int (nI X), .int (nI Y)] (LT ad, N, L, G) isI := by
  obtain ⟨⟨hG, g2, g3, _⟩, ⟨c1, c2, c3, c4, c5⟩, ⟨t1, t2, t3, t4, t5, t6, t7, t8⟩, ⟨m1, m2, m3, m4⟩, ⟨n1, n2, n3⟩, hI, hS⟩ := id h.1
  have hCX := h.1.cx
  have g22 := g2.2
  obtain ⟨u1, u2, u3, u4, u5, u6, u7, u8, u9, u10, u11, u12, u13, u14⟩ := id m1
  exact PR.an h (k_name6 hG hCX hX hY) (k_name7 hG m1 hX hY) (h.1.name)
theorem pr_wrote {X : Nat} (h : IW ad G N nm nw dn dm c) (hX : X < 4294967296) : PR Γ ad mX6_wrote mX7_wrote 1 1 [.int (nI X)] (LT ad, N, L, G) isI := by
  obtain ⟨⟨hG, g2, g3, _⟩, ⟨c1, c2, c3, c4, c5⟩, ⟨t1, t2, t3, t4, t5, t6, t7, t8⟩, ⟨m1, m2, m3, m4⟩, ⟨n1, n2, n3⟩, hI, hS⟩ := id h.1
  have hCX := h.1.cx
  have g22 := g2.2
  obtain ⟨u1, u2, u3, u4, u5, u6, u7, u8, u9, u10, u11, u12, u13, u14⟩ := id m1
  exact PR.an h (k_wrote6 hG hCX hX) (k_wrote7 hG h.w0 hX) (h.1.wrote)
theorem pr_pair {X : Nat} (h : IW ad G N nm nw dn dm c) (hX : X < 4294967296) : PR Γ ad mX6_pair mX7_pair 1 1 [.int (nI X)] (LT ad, N, L, G) isI := by
  obtain ⟨⟨hG, g2, g3, _⟩, ⟨c1, c2, c3, c4, c5⟩, ⟨t1, t2, t3, t4, t5, t6, t7, t8⟩, ⟨m1, m2, m3, m4⟩, ⟨n1, n2, n3⟩, hI, hS⟩ := id h.1
  have hCX := h.1.cx
  have g22 := g2.2
  obtain ⟨u1, u2, u3, u4, u5, u6, u7, u8, u9, u10, u11, u12, u13, u14⟩ := id m1
  exact PR.an h (k_pair6 hG hCX hX) (k_pair7 hG m1 hX) (h.1.pair)
theorem pr_near {X Y : Nat} (h : IW ad G N nm nw dn dm c) (hX : X < 4294967296) (hY : Y < 4294967296) : PR Γ ad mX6_near mX7_near 2 3 [.int (nI X), .int (nI Y)] (LT ad, N, L, G) isI := by
  obtain ⟨⟨hG, g2, g3, _⟩, ⟨c1, c2, c3, c4, c5⟩, ⟨t1, t2, t3, t4, t5, t6, t7, t8⟩, ⟨m1, m2, m3, m4⟩, ⟨n1, n2, n3⟩, hI, hS⟩ := id h.1
  have hCX := h.1.cx
  have g22 := g2.2
  obtain ⟨u1, u2, u3, u4, u5, u6, u7, u8, u9, u10, u11, u12, u13, u14⟩ := id m1
  exact PR.an h (k_near6 hG hCX hX hY) (k_near7 hG u1 u2 u6 u7 u3 u4 hX hY) (h.1.near)
theorem pr_meant (h : IW ad G N nm nw dn dm c) : PR Γ ad mX6_meant mX7_meant 2 3 [] (LT ad, N, L, G) isI := by
  obtain ⟨⟨hG, g2, g3, _⟩, ⟨c1, c2, c3, c4, c5⟩, ⟨t1, t2, t3, t4, t5, t6, t7, t8⟩, ⟨m1, m2, m3, m4⟩, ⟨n1, n2, n3⟩, hI, hS⟩ := id h.1
  have hCX := h.1.cx
  have g22 := g2.2
  obtain ⟨u1, u2, u3, u4, u5, u6, u7, u8, u9, u10, u11, u12, u13, u14⟩ := id m1
  exact PR.an h (k_meant6 hG hCX) (k_meant7 hG m1 h.2 h.w0) (mnt_same n1 n3 n2)
theorem pr_slips {X : Nat} (h : IW ad G N nm nw dn dm c) (hX : X < 4294967296) : PR Γ ad mX6_slips mX7_slips 2 2 [.int (nI X)] (LT ad, N, L, G) isI := by
  obtain ⟨⟨hG, g2, g3, _⟩, ⟨c1, c2, c3, c4, c5⟩, ⟨t1, t2, t3, t4, t5, t6, t7, t8⟩, ⟨m1, m2, m3, m4⟩, ⟨n1, n2, n3⟩, hI, hS⟩ := id h.1
  have hCX := h.1.cx
  have g22 := g2.2
  obtain ⟨u1, u2, u3, u4, u5, u6, u7, u8, u9, u10, u11, u12, u13, u14⟩ := id m1
  exact PR.an h (k_slips6 hG hCX hX) (k_slips7 hG m1 h.2 h.w0 hX) (by
    by_cases q : X < c
    · rw [if_pos q, if_pos q, slp_same n1 n3 n2 q]
    · rw [if_neg q, if_neg q])
theorem pr_likely {X Y : Nat} (h : IW ad G N nm nw dn dm c) (hX : X < 4294967296) (hY : Y < 4294967296) : PR Γ ad mX6_likely mX7_likely 4 6 [.int (nI X), .int (nI Y)] (LT ad, N, L, G) isL := by
  obtain ⟨⟨hG, g2, g3, _⟩, ⟨c1, c2, c3, c4, c5⟩, ⟨t1, t2, t3, t4, t5, t6, t7, t8⟩, ⟨m1, m2, m3, m4⟩, ⟨n1, n2, n3⟩, hI, hS⟩ := id h.1
  have hCX := h.1.cx
  have g22 := g2.2
  have hs : can6 N nm nw c (R7 N) (N nw 6) = can7 N c (R7 N) (N 78 40) := by rw [can_same n1 n3 (Nat.le_refl _), show N 78 40 = N nw 6 from n3.2.2.2.2.2.1]
  exact PR.sc h ⟨_, rfl⟩ (k_likely6 hG hCX hs hX hY) (k_likely7 hG m1 hX hY) (by rw [lkl_congr (f := N (nw + 1)) (g := N 78) (fun n hn => by have := n3.1 n hn; rw [Nat.zero_add] at this; exact this.symm)])
theorem pr_next {Y : Nat} (h : IW ad G N nm nw dn dm c) (hY : Y < 4294967296) : PR Γ ad mX6_next mX7_next 4 6 [.int (nI Y)] (LT ad, N, L, G) isI := by
  obtain ⟨⟨hG, g2, g3, _⟩, ⟨c1, c2, c3, c4, c5⟩, ⟨t1, t2, t3, t4, t5, t6, t7, t8⟩, ⟨m1, m2, m3, m4⟩, ⟨n1, n2, n3⟩, hI, hS⟩ := id h.1
  have hCX := h.1.cx
  have g22 := g2.2
  have hs : can6 N nm nw c (R7 N) (N nw 6) = can7 N c (R7 N) (N 78 40) := by rw [can_same n1 n3 (Nat.le_refl _), show N 78 40 = N nw 6 from n3.2.2.2.2.2.1]
  exact PR.sc h ⟨_, rfl⟩ (k_next6 hG hCX hs hY) (k_next7 hG m1 hY) (rfl)
theorem pr_twins (h : IW ad G N nm nw dn dm c)  : PR Γ ad mX6_twins mX7_twins 4 6 [] (LT ad, N, L, G) isI := by
  obtain ⟨⟨hG, g2, g3, _⟩, ⟨c1, c2, c3, c4, c5⟩, ⟨t1, t2, t3, t4, t5, t6, t7, t8⟩, ⟨m1, m2, m3, m4⟩, ⟨n1, n2, n3⟩, hI, hS⟩ := id h.1
  have hCX := h.1.cx
  have g22 := g2.2
  have hs : can6 N nm nw c (R7 N) (N nw 6) = can7 N c (R7 N) (N 78 40) := by rw [can_same n1 n3 (Nat.le_refl _), show N 78 40 = N nw 6 from n3.2.2.2.2.2.1]
  exact PR.sc h ⟨_, rfl⟩ (k_twins6 hG hCX hs) (k_twins7 hG m1) (rfl)
theorem pr_play {S X n Y : Nat} (h : IW ad G N nm nw dn dm c) (hSS : S < 4294967296) (hX : X < 4294967296) (hn : n < 4294967296) (hY : Y < 4294967296) : PR Γ ad mX6_play mX7_play 4 6 [.int (nI S), .int (nI X), .int (nI n), .int (nI Y)] (LT ad, N, L, G) isI := by
  obtain ⟨⟨hG, g2, g3, _⟩, ⟨c1, c2, c3, c4, c5⟩, ⟨t1, t2, t3, t4, t5, t6, t7, t8⟩, ⟨m1, m2, m3, m4⟩, ⟨n1, n2, n3⟩, hI, hS⟩ := id h.1
  have hCX := h.1.cx
  have g22 := g2.2
  have hs : can6 N nm nw c (R7 N) (N nw 6) = can7 N c (R7 N) (N 78 40) := by rw [can_same n1 n3 (Nat.le_refl _), show N 78 40 = N nw 6 from n3.2.2.2.2.2.1]
  exact PR.sc h ⟨_, rfl⟩ (k_play6 hG hCX hs hX hn hY) (k_play7 hG m1 hSS hX hn hY) rfl
theorem pr_count {X : Nat} (h : IW ad G N nm nw dn dm c) (hX : X < 4294967296) : PR Γ ad mX6_count mX7_count 4 6 [.int (nI X)] (LT ad, N, L, G) isI := by
  obtain ⟨⟨hG, g2, g3, _⟩, ⟨c1, c2, c3, c4, c5⟩, ⟨t1, t2, t3, t4, t5, t6, t7, t8⟩, ⟨m1, m2, m3, m4⟩, ⟨n1, n2, n3⟩, hI, hS⟩ := id h.1
  have hCX := h.1.cx
  have g22 := g2.2
  have hs : can6 N nm nw c (R7 N) (N nw 6) = can7 N c (R7 N) (N 78 40) := by rw [can_same n1 n3 (Nat.le_refl _), show N 78 40 = N nw 6 from n3.2.2.2.2.2.1]
  have hla : ∀ i, i < 4 → N 93 i < 4294967296 := fun i hi => by
    obtain ⟨⟨s1, _⟩, _, _, s4⟩ := hS i hi
    rw [s4]; split <;> omega
  have hle : ∀ i, i < 4 → N 94 i ≤ 40 := fun i hi => by
    obtain ⟨⟨_, s1⟩, _, s3, _⟩ := hS i hi
    rw [s3]; exact s1
  have h69 : N 69 0 < 4294967296 := by
    have := (hS 0 (by omega)).1.1
    simp only [Nat.mul_zero, Nat.add_zero] at this
    omega
  exact PR.sc h ⟨_, rfl⟩ (k_count6 hG hCX hs (fun i hi => by have := (hI i hi).1.1; omega) h69 hX) (k_count7 hG m1 (fun i hi => by have := (hI i hi).2.1; have := (hI i hi).1.1; omega) hla hX) (by rw [h.1.count])
theorem pr_sure {Y : Nat} (h : IW ad G N nm nw dn dm c) (hY : Y < 4294967296) : PR Γ ad mX6_sure mX7_sure 5 6 [.int (nI Y)] (LT ad, N, L, G) isI := by
  obtain ⟨⟨hG, g2, g3, _⟩, ⟨c1, c2, c3, c4, c5⟩, ⟨t1, t2, t3, t4, t5, t6, t7, t8⟩, ⟨m1, m2, m3, m4⟩, ⟨n1, n2, n3⟩, hI, hS⟩ := id h.1
  have hCX := h.1.cx
  have g22 := g2.2
  have hs : can6 N nm nw c (R7 N) (N nw 6) = can7 N c (R7 N) (N 78 40) := by rw [can_same n1 n3 (Nat.le_refl _), show N 78 40 = N nw 6 from n3.2.2.2.2.2.1]
  exact PR.m6 (v7 := fun H => .int (nI (srv (R7 H) c Y (can7 H c (R7 H) (H 78 40))))) h ⟨_, rfl⟩ (k_sure6 hG hCX hs c5 hY) (fun H hM => k_sure7 hG hM hY) (fun H e78 e79 => by
    have er : R7 H = R7 N := by show nr7 (H 78 9) (H 78 10) (H 79) = nr7 (N 78 9) (N 78 10) (N 79); rw [e78, e79]
    have ec : can7 H c (R7 H) (H 78 40) = can7 N c (R7 N) (N 78 40) := by rw [er]; show can c (l7 (H 79)) (c7 (H 79)) (fun k => H 78 (41 + 3 * k)) (fun k => H 78 (41 + 3 * k + 1)) (fun k => H 78 (41 + 3 * k + 2)) (H 78 59) _ _ _ _ = _; rw [e78, e79]
    show _ = Value.int (nI (srv (R7 H) c Y (can7 H c (R7 H) (H 78 40))))
    rw [ec, er])
theorem pr_mean {Y : Nat} (h : IW ad G N nm nw dn dm c) (hY : Y < 4294967296) : PR Γ ad mX6_mean mX7_mean 5 6 [.int (nI Y)] (LT ad, N, L, G) isL := by
  obtain ⟨⟨hG, g2, g3, _⟩, ⟨c1, c2, c3, c4, c5⟩, ⟨t1, t2, t3, t4, t5, t6, t7, t8⟩, ⟨m1, m2, m3, m4⟩, ⟨n1, n2, n3⟩, hI, hS⟩ := id h.1
  have hCX := h.1.cx
  have g22 := g2.2
  have hs : can6 N nm nw c (R7 N) (N nw 6) = can7 N c (R7 N) (N 78 40) := by rw [can_same n1 n3 (Nat.le_refl _), show N 78 40 = N nw 6 from n3.2.2.2.2.2.1]
  exact PR.m6 (v7 := fun H => .long (lZ (mnv (R7 H) c (H 78) Y (can7 H c (R7 H) (H 78 40))))) h ⟨_, rfl⟩ (k_mean6 hG hCX hs c5 hY) (fun H hM => k_mean7 hG hM hY) (fun H e78 e79 => by
    have er : R7 H = R7 N := by show nr7 (H 78 9) (H 78 10) (H 79) = nr7 (N 78 9) (N 78 10) (N 79); rw [e78, e79]
    have ec : can7 H c (R7 H) (H 78 40) = can7 N c (R7 N) (N 78 40) := by rw [er]; show can c (l7 (H 79)) (c7 (H 79)) (fun k => H 78 (41 + 3 * k)) (fun k => H 78 (41 + 3 * k + 1)) (fun k => H 78 (41 + 3 * k + 2)) (H 78 59) _ _ _ _ = _; rw [e78, e79]
    show _ = Value.long (lZ (mnv (R7 H) c (H 78) Y (can7 H c (R7 H) (H 78 40))))
    rw [ec, er, e78, mnv_congr (f := N (nw + 1)) (g := N 78) (fun n hn => by have := n3.1 n hn; rw [Nat.zero_add] at this; exact this.symm)])
theorem pr_row {X Y : Nat} (h : IW ad G N nm nw dn dm c) (hX : X < 4294967296) (hY : Y < 4294967296) : PR Γ ad mX6_row mX7_row 4 6 [.int (nI X), .int (nI Y)] (LT ad, N, L, G) isI := by
  obtain ⟨⟨hG, g2, g3, _⟩, ⟨c1, c2, c3, c4, c5⟩, ⟨t1, t2, t3, t4, t5, t6, t7, t8⟩, ⟨m1, m2, m3, m4⟩, ⟨n1, n2, n3⟩, hI, hS⟩ := id h.1
  have hCX := h.1.cx
  have g22 := g2.2
  have hs : can6 N nm nw c (R7 N) (N nw 6) = can7 N c (R7 N) (N 78 40) := by rw [can_same n1 n3 (Nat.le_refl _), show N 78 40 = N nw 6 from n3.2.2.2.2.2.1]
  exact PR.m6 (v7 := fun H => .int (nI (rwv (R7 H) c X Y (can7 H c (R7 H) (H 78 40))))) h ⟨_, rfl⟩ (k_row6 hG hCX hs c5 hX hY) (fun H hM => k_row7 hG hM hX hY) (fun H e78 e79 => by
    have er : R7 H = R7 N := by show nr7 (H 78 9) (H 78 10) (H 79) = nr7 (N 78 9) (N 78 10) (N 79); rw [e78, e79]
    have ec : can7 H c (R7 H) (H 78 40) = can7 N c (R7 N) (N 78 40) := by rw [er]; show can c (l7 (H 79)) (c7 (H 79)) (fun k => H 78 (41 + 3 * k)) (fun k => H 78 (41 + 3 * k + 1)) (fun k => H 78 (41 + 3 * k + 2)) (H 78 59) _ _ _ _ = _; rw [e78, e79]
    show _ = Value.int (nI (rwv (R7 H) c X Y (can7 H c (R7 H) (H 78 40))))
    rw [ec, er])
theorem pr_best {Y : Nat} (h : IW ad G N nm nw dn dm c) (hY : Y < 4294967296) : PR Γ ad mX6_best mX7_best 6 5 [.int (nI Y)] (LT ad, N, L, G) isI := by
  obtain ⟨⟨hG, g2, g3, _⟩, ⟨c1, c2, c3, c4, c5⟩, ⟨t1, t2, t3, t4, t5, t6, t7, t8⟩, ⟨m1, m2, m3, m4⟩, ⟨n1, n2, n3⟩, hI, hS⟩ := id h.1
  have hCX := h.1.cx
  have g22 := g2.2
  have hs : can6 N nm nw c (R7 N) (N nw 6) = can7 N c (R7 N) (N 78 40) := by rw [can_same n1 n3 (Nat.le_refl _), show N 78 40 = N nw 6 from n3.2.2.2.2.2.1]
  exact PR.m6 (v7 := fun H => .int (nI (bst (H 79) c Y))) h ⟨_, rfl⟩ (k_best6 hG hCX c5 hY) (fun H hM => k_best7 hG hM hY) (fun H e78 e79 => by show _ = Value.int (nI (bst (H 79) c Y)); rw [e79, best_same n1])
theorem pr_laws {Y : Nat} (h : IW ad G N nm nw dn dm c) (hY : Y < 4294967296) : PR Γ ad mX6_laws mX7_laws 6 5 [.int (nI Y)] (LT ad, N, L, G) isI := by
  obtain ⟨⟨hG, g2, g3, _⟩, ⟨c1, c2, c3, c4, c5⟩, ⟨t1, t2, t3, t4, t5, t6, t7, t8⟩, ⟨m1, m2, m3, m4⟩, ⟨n1, n2, n3⟩, hI, hS⟩ := id h.1
  have hCX := h.1.cx
  have g22 := g2.2
  have hs : can6 N nm nw c (R7 N) (N nw 6) = can7 N c (R7 N) (N 78 40) := by rw [can_same n1 n3 (Nat.le_refl _), show N 78 40 = N nw 6 from n3.2.2.2.2.2.1]
  exact PR.m6 (v7 := fun H => .int (nI (lws (H 79) c Y))) h ⟨_, rfl⟩ (k_laws6 hG hCX c5 hY) (fun H hM => k_laws7 hG hM hY) (fun H e78 e79 => by show _ = Value.int (nI (lws (H 79) c Y)); rw [e79, laws_same n1])
theorem sc_now {N : Nat → Nat → Nat} {c : Nat} : Sc N (now7 N c) := fun a q1 _ _ _ => q_r_ne q1
theorem pr_can (h : IW ad G N nm nw dn dm c) : PR Γ ad mX6_can mX7_can 4 6 [] (LT ad, N, L, G) isI := by
  obtain ⟨⟨hG, g2, g3, _⟩, ⟨c1, c2, c3, c4, c5⟩, ⟨t1, t2, t3, t4, t5, t6, t7, t8⟩, ⟨m1, m2, m3, m4⟩, ⟨n1, n2, n3⟩, hI, hS⟩ := id h.1
  have hCX := h.1.cx
  have g22 := g2.2
  have hs : can6 N nm nw c (R7 N) (N nw 6) = can7 N c (R7 N) (N 78 40) := by rw [can_same n1 n3 (Nat.le_refl _), show N 78 40 = N nw 6 from n3.2.2.2.2.2.1]
  refine ⟨_, k_can6 hG hCX, ?_⟩
  rintro v h1 ⟨rfl, rfl⟩
  refine ⟨rfl, ⟨_, rfl⟩, _, k_can7 hG m1, ?_⟩
  rintro v' h2 ⟨rfl, rfl⟩
  exact ⟨by rw [hs], (h.sc sc_now).okh⟩
theorem pr_lied (h : IW ad G N nm nw dn dm c) : PR Γ ad mX6_lied mX7_lied 4 5 [] (LT ad, N, L, G) isI := by
  obtain ⟨⟨hG, g2, g3, _⟩, ⟨c1, c2, c3, c4, c5⟩, ⟨t1, t2, t3, t4, t5, t6, t7, t8⟩, ⟨m1, m2, m3, m4⟩, ⟨n1, n2, n3⟩, hI, hS⟩ := id h.1
  have hCX := h.1.cx
  have g22 := g2.2
  have hs : can6 N nm nw c (R7 N) (N nw 6) = can7 N c (R7 N) (N 78 40) := by rw [can_same n1 n3 (Nat.le_refl _), show N 78 40 = N nw 6 from n3.2.2.2.2.2.1]
  refine ⟨_, k_lied6 hG hCX, ?_⟩
  rintro v h1 ⟨rfl, rfl⟩
  refine ⟨rfl, ⟨_, rfl⟩, _, k_lied7 hG m1, ?_⟩
  rintro v' h2 ⟨rfl, rfl⟩
  have e40 : N 78 40 = N nw 6 := n3.2.2.2.2.2.1
  refine ⟨?_, (h.sc sc_now).okh⟩
  rw [e40, lieF_congr (f := fun k => can7 N c (R7 N) k) (g := fun k => can6 N nm nw c (R7 N) k) _ _ (fun k hk => (can_same n1 n3 (by omega)).symm)]
theorem pr_more {Y : Nat} (h : IW ad G N nm nw dn dm c) (hY : Y < 4294967296) : PR Γ ad mX6_more mX7_more 2 3 [.int (nI Y)] (LT ad, N, L, G) isI := by
  obtain ⟨⟨hG, g2, g3, _⟩, ⟨c1, c2, c3, c4, c5⟩, ⟨t1, t2, t3, t4, t5, t6, t7, t8⟩, ⟨m1, m2, m3, m4⟩, ⟨n1, n2, n3⟩, hI, hS⟩ := id h.1
  have hCX := h.1.cx
  have g22 := g2.2
  refine ⟨_, k_more6 hG hCX hY, ?_⟩
  rintro v h1 ⟨rfl, rfl⟩
  have hk : KP N (if Y ≤ 1 then fil N 50 (wp6 N nm nw) c else N) := by
    split
    · exact KP.of (fun a q => fil_ne (by omega))
    · exact KP.rf
  have hm : MI (if Y ≤ 1 then fil N 50 (wp6 N nm nw) c else N) nm c := by
    split
    · exact c5.eq g2.1 (fun a _ q => fil_ne (by omega)) (by rw [fil_ne (by omega)])
    · exact c5
  have e78 : (if Y ≤ 1 then fil N 50 (wp6 N nm nw) c else N) 78 = N 78 := hk.1 78 (by omega) (by omega)
  have e79 : (if Y ≤ 1 then fil N 50 (wp6 N nm nw) c else N) 79 = N 79 := hk.1 79 (by omega) (by omega)
  have e80 : (if Y ≤ 1 then fil N 50 (wp6 N nm nw) c else N) 80 = N 80 := hk.1 80 (by omega) (by omega)
  have hH := h.kp hk hm
  have ev : mor7 (if Y ≤ 1 then fil N 50 (wp6 N nm nw) c else N) c 676 = mor6 N nm nw c 676 := by rw [mor_same n1 n3 n2]; exact mor7_eq e78 e79 e80
  generalize (if Y ≤ 1 then fil N 50 (wp6 N nm nw) c else N) = H at *
  refine ⟨rfl, ⟨_, rfl⟩, _, k_more7 hG hH.1.2.2.2.1.1 hH.2 hH.w0 hY, ?_⟩
  rintro v' h2 ⟨rfl, rfl⟩
  exact ⟨by rw [ev], hH.okh⟩
theorem pr_text (h : IW ad G N nm nw dn dm c) : PR Γ ad mX6_text mX7_text 9 5 [] (LT ad, N, L, G) isI := by
  obtain ⟨⟨hG, g2, g3, _⟩, ⟨c1, c2, c3, c4, c5⟩, ⟨t1, t2, t3, t4, t5, t6, t7, t8⟩, ⟨m1, m2, m3, m4⟩, ⟨n1, n2, n3⟩, hI, hS⟩ := id h.1
  have hCX := h.1.cx
  have g22 := g2.2
  obtain ⟨_, _, _, g4, g5, g6, g7, g8, g9⟩ := h.1.1
  refine ⟨_, k_text6 hG g2.1 (by rcases g2.2 with q | q <;> rw [q] <;> decide) g3.1 (by rcases g3.2 with q | q <;> rw [q] <;> decide) g3 g6 g7 g8 g9 t1 t2 c4, ?_⟩
  rintro v h1 (⟨r1, rfl, R, rfl, hx⟩ | ⟨r1, rfl, R, rfl, hx⟩)
  · have e84 : R 84 = N 1 := by rw [hx.1 84 (by omega) (by omega) (by omega) (by omega)]; exact t4
    have e77 : R 77 = N 77 := hx.1 77 (by omega) (by omega) (by omega) (by omega)
    have e80 : R 80 = N 80 := hx.1 80 (by omega) (by omega) (by omega) (by omega)
    have e85 : R 85 = N 85 := hx.1 85 (by omega) (by omega) (by omega) (by omega)
    have e86 : R 86 = N 86 := hx.1 86 (by omega) (by omega) (by omega) (by omega)
    refine ⟨rfl, ⟨_, rfl⟩, _, k_text7 (G2r_f hG).1 (by rw [e77]; omega) (by rw [e84]; exact t2) (by rw [e85]; exact m3) (by rw [e86]; exact m4) (m2.eq (hx.1 82 (by omega) (by omega) (by omega) (by omega)) (hx.1 83 (by omega) (by omega) (by omega) (by omega))), ?_⟩
    rw [e84, e77, t3]
    rintro v' h2 ⟨M, rfl, ⟨q1, rfl, hy⟩ | ⟨q1, rfl, hy⟩⟩
    · exact ⟨rfl, IW.okh ⟨h.1.txf (prs_le _ _ _ _) hx hy, by rw [hy.1 80 (by omega) (by omega) (by omega) (by omega), e80]; exact h.2⟩⟩
    · exact absurd q1 r1
  · have e84 : R 84 = N 1 := by rw [hx.1 84 (by omega) (by omega) (by omega) (by omega) (by omega) (by omega)]; exact t4
    have e77 : R 77 = N 77 := hx.1 77 (by omega) (by omega) (by omega) (by omega) (by omega) (by omega)
    have e85 : R 85 = N 85 := hx.1 85 (by omega) (by omega) (by omega) (by omega) (by omega) (by omega)
    have e86 : R 86 = N 86 := hx.1 86 (by omega) (by omega) (by omega) (by omega) (by omega) (by omega)
    refine ⟨rfl, ⟨_, rfl⟩, _, k_text7 (Gsw_f (G2r_f hG).1).1 (by rw [e77]; omega) (by rw [e84]; exact t2) (by rw [e85]; exact m3) (by rw [e86]; exact m4) (m2.eq (hx.1 82 (by omega) (by omega) (by omega) (by omega) (by omega) (by omega)) (hx.1 83 (by omega) (by omega) (by omega) (by omega) (by omega) (by omega))), ?_⟩
    rw [e84, e77, t3]
    rintro v' h2 ⟨M, rfl, ⟨q1, rfl, hy⟩ | ⟨q1, rfl, hy⟩⟩
    · exact absurd r1 q1
    · refine ⟨rfl, IW.okh ⟨h.1.txo hx hy, fun i hi => ?_⟩⟩
      obtain ⟨K, k1, k2, k3, k4, k5, k6⟩ := hy.2.2.2.2.2.2.1
      rw [k6 i hi]; exact k2.2.2.1 i hi
end
