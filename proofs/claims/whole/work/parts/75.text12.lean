theorem wfs_adN {S : Nat → Nat → Nat} {t : Nat → Nat} {s k v : Nat} (h : WFS S) (hc : S 0 0 < 9) (h1 : 1 ≤ k) (h8 : k ≤ 8) (hv1 : 1 ≤ v) (hv9 : v ≤ 9) (ht : ∀ i, i < k → 97 ≤ t (s + i) ∧ t (s + i) ≤ 122) : WFS (adN S t s k v) := by
  obtain ⟨a1, a2, a3, a4, a5, a6, a7, a8, a9, b1⟩ := h
  have S0 : ∀ j, j ≠ 0 → adN S t s k v 0 j = S 0 j := fun j hj => by unfold adN; rw [q_s_off hj, q_s_ne (by omega), q_s_ne (by omega), q_r_ne (by omega)]
  have S00 : adN S t s k v 0 0 = S 0 0 + 1 := q_s_at
  have S1 : ∀ j, adN S t s k v 1 j = if j = S 0 0 then k else S 1 j := fun j => by
    unfold adN; rw [q_s_ne (by omega), q_s_ne (by omega)]
    by_cases e : j = S 0 0
    · subst e; rw [if_pos rfl, q_s_at]
    · rw [if_neg e, q_s_off e, q_r_ne (by omega)]
  have S2 : ∀ j, adN S t s k v 2 j = if 8 * S 0 0 ≤ j ∧ j < 8 * S 0 0 + k then t (s + (j - 8 * S 0 0)) - 97 else S 2 j := fun j => by
    unfold adN; rw [q_s_ne (by omega), q_s_ne (by omega), q_s_ne (by omega), q_r_at]
  have S3 : ∀ j, adN S t s k v 3 j = if j = S 0 0 then v else S 3 j := fun j => by
    unfold adN; rw [q_s_ne (by omega)]
    by_cases e : j = S 0 0
    · subst e; rw [if_pos rfl, q_s_at]
    · rw [if_neg e, q_s_off e, q_s_ne (by omega), q_r_ne (by omega)]
  have Sr : ∀ r, 3 < r → adN S t s k v r = S r := fun r hr => by unfold adN; rw [q_s_ne (by omega), q_s_ne (by omega), q_s_ne (by omega), q_r_ne (by omega)]
  unfold WFS
  rw [S00, S0 1 (by omega), S0 2 (by omega), S0 3 (by omega), S0 4 (by omega), S0 5 (by omega), S0 6 (by omega), Sr 4 (by omega), Sr 5 (by omega), Sr 6 (by omega)]
  refine ⟨by omega, fun m hm => ?_, a3, a4, a5, a6, a7, a8, a9, b1⟩
  rw [S1, S3]
  by_cases e : m = S 0 0
  · rw [if_pos e, if_pos e]
    refine ⟨h1, h8, hv1, hv9, fun i hi => ?_⟩
    rw [S2, if_pos (by omega)]
    have := ht (8 * m + i - 8 * S 0 0) (by omega)
    omega
  · rw [if_neg e, if_neg e]
    obtain ⟨q1, q2, q3, q4, q5⟩ := a2 m (by omega)
    refine ⟨q1, q2, q3, q4, fun i hi => ?_⟩
    rw [S2, if_neg (by omega)]
    exact q5 i hi
theorem wfs_adL {S : Nat → Nat → Nat} {a b : Nat} (h : WFS S) (ha : a < 5) (hb : b ≤ 8) : WFS (adL S a b) := by
  obtain ⟨a1, a2, a3, a4, a5, a6, a7, a8, a9, b1⟩ := h
  have S0 : ∀ j, j ≠ 1 → j ≠ 2 → adL S a b 0 j = S 0 j := fun j h1 h2 => by unfold adL; rw [q_s_off h2, q_s_off h1]
  have S01 : adL S a b 0 1 = a := by unfold adL; rw [q_s_off (by omega), q_s_at]
  have S02 : adL S a b 0 2 = b := q_s_at
  have Sr : ∀ r, r ≠ 0 → adL S a b r = S r := fun r h1 => by unfold adL; rw [q_s_ne h1, q_s_ne h1]
  unfold WFS
  rw [S01, S02, S0 0 (by omega) (by omega), S0 3 (by omega) (by omega), S0 4 (by omega) (by omega), S0 5 (by omega) (by omega), S0 6 (by omega) (by omega), Sr 1 (by omega), Sr 2 (by omega), Sr 3 (by omega), Sr 4 (by omega), Sr 5 (by omega), Sr 6 (by omega)]
  exact ⟨a1, a2, ha, hb, a5, a6, a7, a8, a9, b1⟩
theorem wfs_adP {S : Nat → Nat → Nat} {a b : Nat} (h : WFS S) (hc : S 0 3 < 5) (ha : a < 26) (hb : b < 26) : WFS (adP S a b) := by
  obtain ⟨a1, a2, a3, a4, a5, a6, a7, a8, a9, b1⟩ := h
  have S0 : ∀ j, j ≠ 3 → adP S a b 0 j = S 0 j := fun j hj => by unfold adP; rw [q_s_off hj, q_s_ne (by omega), q_s_ne (by omega)]
  have S03 : adP S a b 0 3 = S 0 3 + 1 := q_s_at
  have S4 : ∀ j, adP S a b 4 j = if j = S 0 3 then a else S 4 j := fun j => by
    unfold adP; rw [q_s_ne (by omega), q_s_ne (by omega)]
    by_cases e : j = S 0 3
    · subst e; rw [if_pos rfl, q_s_at]
    · rw [if_neg e, q_s_off e]
  have S5 : ∀ j, adP S a b 5 j = if j = S 0 3 then b else S 5 j := fun j => by
    unfold adP; rw [q_s_ne (by omega)]
    by_cases e : j = S 0 3
    · subst e; rw [if_pos rfl, q_s_at]
    · rw [if_neg e, q_s_off e, q_s_ne (by omega)]
  have Sr : ∀ r, r ≠ 0 → r ≠ 4 → r ≠ 5 → adP S a b r = S r := fun r h1 h2 h3 => by unfold adP; rw [q_s_ne h1, q_s_ne h3, q_s_ne h2]
  unfold WFS
  rw [S03, S0 0 (by omega), S0 1 (by omega), S0 2 (by omega), S0 4 (by omega), S0 5 (by omega), S0 6 (by omega), Sr 1 (by omega) (by omega) (by omega), Sr 2 (by omega) (by omega) (by omega), Sr 3 (by omega) (by omega) (by omega), Sr 6 (by omega) (by omega) (by omega)]
  refine ⟨a1, a2, a3, a4, by omega, fun k hk => ?_, a7, a8, a9, b1⟩
  rw [S4, S5]
  by_cases e : k = S 0 3
  · rw [if_pos e, if_pos e]; exact ⟨ha, hb⟩
  · rw [if_neg e, if_neg e]; exact a6 k (by omega)
theorem wfs_adM {S : Nat → Nat → Nat} {t : Nat → Nat} {s k : Nat} (h : WFS S) (h8 : k ≤ 8) (ht : ∀ i, i < k → 97 ≤ t (s + i) ∧ t (s + i) ≤ 122) : WFS (adM S t s k) := by
  obtain ⟨a1, a2, a3, a4, a5, a6, a7, a8, a9, b1⟩ := h
  have S0 : ∀ j, j ≠ 4 → adM S t s k 0 j = S 0 j := fun j hj => by unfold adM; rw [q_s_off hj, q_r_ne (by omega)]
  have S04 : adM S t s k 0 4 = k := q_s_at
  have S6 : ∀ j, adM S t s k 6 j = if j < k then t (s + j) - 97 else S 6 j := fun j => by unfold adM; rw [q_s_ne (by omega), q_r_at]
  have Sr : ∀ r, r ≠ 0 → r ≠ 6 → adM S t s k r = S r := fun r h1 h2 => by unfold adM; rw [q_s_ne h1, q_r_ne h2]
  unfold WFS
  rw [S04, S0 0 (by omega), S0 1 (by omega), S0 2 (by omega), S0 3 (by omega), S0 5 (by omega), S0 6 (by omega), Sr 1 (by omega) (by omega), Sr 2 (by omega) (by omega), Sr 3 (by omega) (by omega), Sr 4 (by omega) (by omega), Sr 5 (by omega) (by omega)]
  refine ⟨a1, a2, a3, a4, a5, a6, h8, fun i hi => ?_, a9, b1⟩
  rw [S6, if_pos hi]
  have := ht i hi
  omega
theorem wrd9_k {t : Nat → Nat} {len p : Nat} (h : ¬ 3 < wrd9 t len p) : (tkn t len p).1 = 1 := by
  unfold wrd9 at h
  split at h
  · assumption
  · omega
/-- a line without a fault: what it read is well formed, and it ends further on -/
theorem line_ok {S : Nat → Nat → Nat} {t : Nat → Nat} {len p : Nat} (hW : WFS S) (hp : p ≤ len) (h : fLine S t len p = 0) : WFS (sLine S t len p) ∧ p < eLine t len p ∧ eLine t len p ≤ len := by
  unfold fLine at h
  unfold sLine eLine
  split at h
  · cases h
  · rename_i h3
    have hk := wrd9_k h3
    obtain ⟨t1, t2, t3, t4, t5, t6, t7, t8, t9⟩ := tkn_spec (t := t) hp
    have ht7 := (t7 hk).1
    generalize tkE t len p = e at *
    split at h
    · rename_i q; exact absurd h q
    · rename_i hch
      split at h
      · rename_i q; exact absurd h q
      · rename_i hbf
        have hb0 : bF (tldS S (wrd9 t len p)) t len (wrd9 t len p) e = 0 := by omega
        obtain ⟨be1, be2⟩ := bE_le (t := t) (len := len) (wi := wrd9 t len p) t3
        obtain ⟨u1, u2, u3, _⟩ := tkn_spec (t := t) be1
        refine ⟨?_, by omega, u3⟩
        have wf1 : WFS (tldS S (wrd9 t len p)) := hW.tld
        obtain ⟨t50, t60, t00, tr0⟩ := tldS_0 (S := S) (w := wrd9 t len p)
        obtain ⟨v1, v2, v3, v4, v5, v6, v7, v8, v9⟩ := tkn_spec (t := t) t3
        generalize wrd9 t len p = wd at *
        have hc0 : chkL S wd = 0 := by omega
        rcases (show wd = 0 ∨ wd = 1 ∨ wd = 2 ∨ wd = 3 by omega) with rfl | rfl | rfl | rfl
        · have c9 : ¬ S 0 0 = 9 := fun q => by rw [chkL, if_pos rfl, if_pos q] at hc0; cases hc0
          have hf : fName (tldS S 0) t len e = 0 := hb0
          unfold fName at hf
          split at hf
          · rename_i q; exact absurd hf q
          · rename_i hw
            obtain ⟨k1, k8⟩ := wrdf_ok (t := t) (len := len) (p := e) (mx := 8) (by omega)
            split at hf
            · obtain ⟨n1, n2, n3⟩ := nmbf_ok hf
              have := (v7 k1).1
              have := hW.1
              exact wfs_adN wf1 (by rw [t00 0 (by omega) (by omega)]; omega) (by omega) k8 n2 n3 (fun i hi => (v7 k1).2 _ (by omega) (by omega))
            · cases hf
        · have hf : fLaw t len e = 0 := hb0
          unfold fLaw at hf
          split at hf
          · cases hf
          · split at hf
            · rename_i hwk
              obtain ⟨n1, n2, n3⟩ := nmbf_ok hf
              exact wfs_adL wf1 (by omega) n3
            · cases hf
        · have c9 : ¬ S 0 3 = 5 := fun q => by rw [chkL, if_neg (by omega), if_neg (by omega), if_pos rfl, if_pos q] at hc0; cases hc0
          have hf : fPair t len e = 0 := hb0
          unfold fPair at hf
          split at hf
          · rename_i q; exact absurd hf q
          · obtain ⟨k1, k8⟩ := wrdf_ok (t := t) (len := len) (p := e) (mx := 1) (by omega)
            split at hf
            · rename_i q; exact absurd hf q
            · obtain ⟨j1, j8⟩ := wrdf_ok (t := t) (len := len) (p := tkE t len e) (mx := 1) (by omega)
              obtain ⟨x1, x2, x3, x4, x5, x6, x7, x8, x9⟩ := tkn_spec (t := t) v3
              have l1 := (v7 k1).2 (tkS t len e) (by omega) (v7 k1).1
              have l2 := (x7 j1).2 (tkS t len (tkE t len e)) (by omega) (x7 j1).1
              have := hW.2.2.2.2.1
              exact wfs_adP wf1 (by rw [t00 3 (by omega) (by omega)]; omega) (by omega) (by omega)
        · have hf : wrdf t len e 8 = 0 := hb0
          obtain ⟨k1, k8⟩ := wrdf_ok hf
          exact wfs_adM wf1 k8 (fun i hi => (v7 k1).2 _ (by omega) (by omega))
/-- all lines: fault, place, what is read, how many lines -/
def prs (t : Nat → Nat) (len : Nat) : Nat → (Nat → Nat → Nat) → Nat → Nat → Nat × Nat × (Nat → Nat → Nat) × Nat
  | 0, S, _, j => (0, 0, S, j)
  | n + 1, S, p, j => if (tkn t len p).1 = 4 then (1, tkS t len p, S, j) else if (tkn t len p).1 = 0 then (0, 0, S, j) else if fLine S t len p ≠ 0 then (fLine S t len p, pLine S t len p, S, j) else prs t len n (sLine S t len p) (eLine t len p) (j + 1)
theorem prs_s {t : Nat → Nat} {len n p j : Nat} {S : Nat → Nat → Nat} : prs t len (n + 1) S p j = if (tkn t len p).1 = 4 then (1, tkS t len p, S, j) else if (tkn t len p).1 = 0 then (0, 0, S, j) else if fLine S t len p ≠ 0 then (fLine S t len p, pLine S t len p, S, j) else prs t len n (sLine S t len p) (eLine t len p) (j + 1) := rfl
/-- nothing is read yet -/
def S00 : Nat → Nat → Nat := fun _ _ => 0
theorem wfs_0 : WFS S00 := ⟨by decide, fun n hn => absurd hn (by simp [S00]), by decide, by decide, by decide, fun n hn => absurd hn (by simp [S00]), by decide, fun n hn => absurd hn (by simp [S00]), by decide, by decide⟩
theorem prs_wfs {t : Nat → Nat} {len : Nat} : ∀ n S p j, p ≤ len → WFS S → (prs t len n S p j).1 = 0 → WFS (prs t len n S p j).2.2.1 := by
  intro n
  induction n with
  | zero => intro S p j _ h _; exact h
  | succ n ih =>
    intro S p j hp hW hf
    rw [prs_s] at hf ⊢
    split at hf
    · cases hf
    · rename_i h4
      rw [if_neg h4]
      split at hf
      · rename_i h0; rw [if_pos h0]; exact hW
      · rename_i h0
        rw [if_neg h0]
        split at hf
        · rename_i q; exact absurd hf q
        · rename_i q
          rw [if_neg q]
          obtain ⟨l1, l2, l3⟩ := line_ok (t := t) (len := len) hW hp (by omega)
          exact ih _ _ _ l3 l1 hf
