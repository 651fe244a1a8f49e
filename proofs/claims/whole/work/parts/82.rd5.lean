theorem adC_f {N : Nat → Nat → Nat} {q s k : Nat} : (∀ a, a ≠ q → a ≠ q + 1 → a ≠ q + 2 → a ≠ q + 3 → a ≠ q + 4 → adC N q s k a = N a) ∧ (∀ j, j ≠ 0 → adC N q s k q j = N q j) ∧ adC N q s k q 0 = N q 0 + 1 ∧ (∀ j, adC N q s k (q + 1) j = if j = N q 0 then k else N (q + 1) j) ∧ (∀ j, adC N q s k (q + 2) j = if N q 0 * 8 ≤ j ∧ j < N q 0 * 8 + k then N 1 (s + (j - N q 0 * 8)) - 97 else N (q + 2) j) ∧ (∀ j, adC N q s k (q + 3) j = if j = N q 0 then lst (ltr N s) k else N (q + 3) j) ∧ ∀ j, adC N q s k (q + 4) j = if j = N q 0 then vws (ltr N s) k else N (q + 4) j := by
  unfold adC
  refine ⟨fun a h0 h1 h2 h3 h4 => by rw [q_s_ne h0, q_s_ne h4, q_s_ne h3, q_s_ne h1, wr2_ne h2], fun j hj => by rw [q_s_off hj, q_s_ne (by omega), q_s_ne (by omega), q_s_ne (by omega), wr2_ne (by omega)], q_s_at, fun j => ?_, fun j => ?_, fun j => ?_, fun j => ?_⟩
  · rw [q_s_ne (by omega), q_s_ne (by omega), q_s_ne (by omega)]
    by_cases e : j = N q 0
    · subst e; rw [q_s_at, if_pos rfl]
    · rw [q_s_off e, if_neg e, wr2_ne (by omega)]
  · rw [q_s_ne (by omega), q_s_ne (by omega), q_s_ne (by omega), q_s_ne (by omega)]
    unfold wr2; rw [q_r_at]
  · rw [q_s_ne (by omega), q_s_ne (by omega)]
    by_cases e : j = N q 0
    · subst e; rw [q_s_at, if_pos rfl]
    · rw [q_s_off e, if_neg e, q_s_ne (by omega), wr2_ne (by omega)]
  · rw [q_s_ne (by omega)]
    by_cases e : j = N q 0
    · subst e; rw [q_s_at, if_pos rfl]
    · rw [q_s_off e, if_neg e, q_s_ne (by omega), q_s_ne (by omega), wr2_ne (by omega)]
theorem CB.ad {N : Nat → Nat → Nat} {dn dm s k : Nat} (hd : isD dn dm) (h : CB N dn dm) (hc : N dn 0 < 9) (hk : k ≤ 8) (hw : ∀ i, i < k → 97 ≤ N 1 (s + i) ∧ N 1 (s + i) ≤ 122) : CB (adC N dn s k) dn dm := by
  obtain ⟨w0, w1, w2, w3, w4, w5, w6⟩ := adC_f (N := N) (q := dn) (s := s) (k := k)
  obtain ⟨h1, h2, h3, h4, h5, h6, h7, h8⟩ := h
  have lt26 : ∀ i, i < k → ltr N s i < 26 := fun i hi => by have := hw i hi; show N 1 (s + i) - 97 < 26; omega
  unfold CB
  rw [w0 (dn + 5) (by omega) (by omega) (by omega) (by omega) (by omega), w0 (dm + 1) (by omega) (by omega) (by omega) (by omega) (by omega), w0 (dm + 2) (by omega) (by omega) (by omega) (by omega) (by omega), w0 (dm + 3) (by omega) (by omega) (by omega) (by omega) (by omega)]
  refine ⟨fun n hn => ?_, fun i hi => ?_, fun n hn => ?_, fun n hn => ?_, h5, h6, h7, h8⟩
  · rw [w3]; split
    · exact hk
    · exact h1 n hn
  · rw [w4]; split
    · have := hw (i - N dn 0 * 8) (by omega); omega
    · exact h2 i hi
  · rw [w5]; split
    · exact lst26 lt26
    · exact h3 n hn
  · rw [w6]; split
    · exact Nat.le_trans vws8 hk
    · exact h4 n hn
theorem FC.ad {N : Nat → Nat → Nat} {dn dm s k : Nat} (hd : isD dn dm) : FC N (adC N dn s k) dn dm := by
  obtain ⟨w0, w1, w2, w3, w4, w5, w6⟩ := adC_f (N := N) (q := dn) (s := s) (k := k)
  exact ⟨fun a b1 b2 b3 => w0 a (by omega) (by omega) (by omega) (by omega) (by omega), fun j _ _ => by rw [w0 2 (by omega) (by omega) (by omega) (by omega) (by omega)]⟩
theorem CB.od {N : Nat → Nat → Nat} {dn dm n v : Nat} (hd : isD dn dm) (h : CB N dn dm) (hv : v ≤ 9) : CB (q_s N (dm + 1) n v) dn dm := by
  obtain ⟨h1, h2, h3, h4, h5, h6, h7, h8⟩ := h
  unfold CB
  rw [q_s_ne (show dn + 1 ≠ dm + 1 by omega), q_s_ne (show dn + 2 ≠ dm + 1 by omega), q_s_ne (show dn + 3 ≠ dm + 1 by omega), q_s_ne (show dn + 4 ≠ dm + 1 by omega), q_s_ne (show dn + 5 ≠ dm + 1 by omega), q_s_ne (show dm + 2 ≠ dm + 1 by omega), q_s_ne (show dm + 3 ≠ dm + 1 by omega)]
  refine ⟨h1, h2, h3, h4, h5, fun m hm => ?_, h7, h8⟩
  by_cases e : m = n
  · subst e; rw [q_s_at]; exact hv
  · rw [q_s_off e]; exact h6 m hm
theorem FC.od {N : Nat → Nat → Nat} {dn dm n v : Nat} (hd : isD dn dm) : FC N (q_s N (dm + 1) n v) dn dm := ⟨fun a b1 b2 b3 => q_s_ne (by omega), fun j _ _ => by rw [q_s_ne (by omega)]⟩
theorem CR.addN {S N : Nat → Nat → Nat} {dn dm s k v : Nat} (hd : isD dn dm) (h : CR S N dn dm) (hW : WFS S) (hc : S 0 0 < 9) (hk : k ≤ 8) : CR (adN S (N 1) s k v) (q_s (adC N dn s k) (dm + 1) (S 0 0) v) dn dm := by
  obtain ⟨w0, w1, w2, w3, w4, w5, w6⟩ := adC_f (N := N) (q := dn) (s := s) (k := k)
  obtain ⟨a1, a2, a3, a4, a5, a6, a7, a8, a9, b1, b2, b3⟩ := h
  have S0 : ∀ j, j ≠ 0 → adN S (N 1) s k v 0 j = S 0 j := fun j hj => by unfold adN; rw [q_s_off hj, q_s_ne (by omega), q_s_ne (by omega), q_r_ne (by omega)]
  have S00 : adN S (N 1) s k v 0 0 = S 0 0 + 1 := q_s_at
  have S1 : ∀ j, adN S (N 1) s k v 1 j = if j = S 0 0 then k else S 1 j := fun j => by
    unfold adN; rw [q_s_ne (by omega), q_s_ne (by omega)]
    by_cases e : j = S 0 0
    · subst e; rw [if_pos rfl, q_s_at]
    · rw [if_neg e, q_s_off e, q_r_ne (by omega)]
  have S2 : ∀ j, adN S (N 1) s k v 2 j = if 8 * S 0 0 ≤ j ∧ j < 8 * S 0 0 + k then N 1 (s + (j - 8 * S 0 0)) - 97 else S 2 j := fun j => by
    unfold adN; rw [q_s_ne (by omega), q_s_ne (by omega), q_s_ne (by omega), q_r_at]
  have S3 : ∀ j, adN S (N 1) s k v 3 j = if j = S 0 0 then v else S 3 j := fun j => by
    unfold adN; rw [q_s_ne (by omega)]
    by_cases e : j = S 0 0
    · subst e; rw [if_pos rfl, q_s_at]
    · rw [if_neg e, q_s_off e, q_s_ne (by omega), q_r_ne (by omega)]
  have Sr : ∀ r, 3 < r → adN S (N 1) s k v r = S r := fun r hr => by unfold adN; rw [q_s_ne (by omega), q_s_ne (by omega), q_s_ne (by omega), q_r_ne (by omega)]
  obtain ⟨K, hK⟩ : ∃ K, q_s (adC N dn s k) (dm + 1) (S 0 0) v = K := ⟨_, rfl⟩
  have kd : K dn = adC N dn s k dn := by rw [← hK, q_s_ne (by omega)]
  have k1 : K (dn + 1) = adC N dn s k (dn + 1) := by rw [← hK, q_s_ne (by omega)]
  have k2 : K (dn + 2) = adC N dn s k (dn + 2) := by rw [← hK, q_s_ne (by omega)]
  have k3 : K (dn + 3) = adC N dn s k (dn + 3) := by rw [← hK, q_s_ne (by omega)]
  have k4 : K (dn + 4) = adC N dn s k (dn + 4) := by rw [← hK, q_s_ne (by omega)]
  have ko : ∀ a, a ≠ dm + 1 → a ≠ dn → a ≠ dn + 1 → a ≠ dn + 2 → a ≠ dn + 3 → a ≠ dn + 4 → K a = N a := fun a q0 q1 q2 q3 q4 q5 => by rw [← hK, q_s_ne q0, w0 a q1 q2 q3 q4 q5]
  have km : ∀ j, K (dm + 1) j = if j = S 0 0 then v else N (dm + 1) j := fun j => by
    rw [← hK]
    by_cases e : j = S 0 0
    · subst e; rw [q_s_at, if_pos rfl]
    · rw [q_s_off e, if_neg e, w0 (dm + 1) (by omega) (by omega) (by omega) (by omega) (by omega)]
  rw [hK]
  unfold CR
  rw [kd, k1, k2, k3, k4, w1 5 (by omega), w2, ko (dn + 5) (by omega) (by omega) (by omega) (by omega) (by omega) (by omega), ko dm (by omega) (by omega) (by omega) (by omega) (by omega) (by omega), ko (dm + 2) (by omega) (by omega) (by omega) (by omega) (by omega) (by omega), ko (dm + 3) (by omega) (by omega) (by omega) (by omega) (by omega) (by omega), ko 2 (by omega) (by omega) (by omega) (by omega) (by omega) (by omega), S00, S0 1 (by omega), S0 2 (by omega), S0 3 (by omega), S0 4 (by omega), S0 5 (by omega), S0 6 (by omega), Sr 4 (by omega), Sr 5 (by omega), Sr 6 (by omega), a1]
  refine ⟨rfl, fun n hn => ?_, a3, a4, a5, a6, a7, a8, a9, b1, b2, b3⟩
  rw [w3, w5, w6, km, S1, S3, a1]
  by_cases e : n = S 0 0
  · rw [if_pos e, if_pos e, if_pos e, if_pos e, if_pos e, if_pos e]
    have key : ∀ i, i < k → ltr N s i = adN S (N 1) s k v 2 (8 * n + i) := fun i hi => by
      rw [S2, if_pos (by omega)]
      show N 1 (s + i) - 97 = _
      congr 2
      omega
    refine ⟨rfl, fun i hi => ?_, lstc key, vwsc key, rfl⟩
    rw [w4, a1, if_pos (by omega), ← key i hi]
    show _ = N 1 (s + i) - 97
    congr 2
    omega
  · rw [if_neg e, if_neg e, if_neg e, if_neg e, if_neg e, if_neg e]
    obtain ⟨q1, q2, q3, q4, q5⟩ := a2 n (by omega)
    have h8 := (hW.2.1 n (by omega)).2.1
    have key : ∀ i, i < S 1 n → S 2 (8 * n + i) = adN S (N 1) s k v 2 (8 * n + i) := fun i hi => by rw [S2, if_neg (by omega)]
    refine ⟨q1, fun i hi => ?_, by rw [q3]; exact lstc key, by rw [q4]; exact vwsc key, q5⟩
    rw [w4, a1, if_neg (by omega), ← key i hi]
    exact q2 i hi
theorem CR.addL {S N : Nat → Nat → Nat} {dn dm a b : Nat} (hd : isD dn dm) (h : CR S N dn dm) : CR (adL S a b) (q_s (q_s N dm 1 a) dm 2 b) dn dm := by
  obtain ⟨a1, a2, a3, a4, a5, a6, a7, a8, a9, b1, b2, b3⟩ := h
  have S0 : ∀ j, j ≠ 1 → j ≠ 2 → adL S a b 0 j = S 0 j := fun j h1 h2 => by unfold adL; rw [q_s_off h2, q_s_off h1]
  have S01 : adL S a b 0 1 = a := by unfold adL; rw [q_s_off (by omega), q_s_at]
  have S02 : adL S a b 0 2 = b := q_s_at
  have Sr : ∀ r, r ≠ 0 → adL S a b r = S r := fun r h1 => by unfold adL; rw [q_s_ne h1, q_s_ne h1]
  obtain ⟨K, hK⟩ : ∃ K, q_s (q_s N dm 1 a) dm 2 b = K := ⟨_, rfl⟩
  have kn : ∀ r, r ≠ dm → K r = N r := fun r hr => by rw [← hK, q_s_ne hr, q_s_ne hr]
  have k1 : K dm 1 = a := by rw [← hK, q_s_off (by omega), q_s_at]
  have k2 : K dm 2 = b := by rw [← hK, q_s_at]
  have ko : ∀ j, j ≠ 1 → j ≠ 2 → K dm j = N dm j := fun j h1 h2 => by rw [← hK, q_s_off h2, q_s_off h1]
  rw [hK]
  unfold CR
  rw [k1, k2, ko 3 (by omega) (by omega), ko 6 (by omega) (by omega), ko 9 (by omega) (by omega), kn dn (by omega), kn (dn + 1) (by omega), kn (dn + 2) (by omega), kn (dn + 3) (by omega), kn (dn + 4) (by omega), kn (dn + 5) (by omega), kn (dm + 1) (by omega), kn (dm + 2) (by omega), kn (dm + 3) (by omega), kn 2 (by omega), S01, S02, S0 0 (by omega) (by omega), S0 3 (by omega) (by omega), S0 4 (by omega) (by omega), S0 5 (by omega) (by omega), S0 6 (by omega) (by omega), Sr 1 (by omega), Sr 2 (by omega), Sr 3 (by omega), Sr 4 (by omega), Sr 5 (by omega), Sr 6 (by omega)]
  exact ⟨a1, a2, rfl, rfl, a5, a6, a7, a8, a9, b1, b2, b3⟩
theorem CB.dm {N : Nat → Nat → Nat} {dn dm j x : Nat} (hd : isD dn dm) (h : CB N dn dm) : CB (q_s N dm j x) dn dm := by
  unfold CB
  rw [q_s_ne (show dn + 1 ≠ dm by omega), q_s_ne (show dn + 2 ≠ dm by omega), q_s_ne (show dn + 3 ≠ dm by omega), q_s_ne (show dn + 4 ≠ dm by omega), q_s_ne (show dn + 5 ≠ dm by omega), q_s_ne (show dm + 1 ≠ dm by omega), q_s_ne (show dm + 2 ≠ dm by omega), q_s_ne (show dm + 3 ≠ dm by omega)]
  exact h
theorem FC.dm {N : Nat → Nat → Nat} {dn dm j x : Nat} (hd : isD dn dm) : FC N (q_s N dm j x) dn dm := ⟨fun a b1 b2 b3 => q_s_ne (by omega), fun i _ _ => by rw [q_s_ne (by omega)]⟩
theorem spl_C {S N : Nat → Nat → Nat} {dn dm s k n : Nat} (h : CR S N dn dm) (hn : n < S 0 0) : splC N dn s k n = spl S (N 1) s k n := by
  obtain ⟨h1, h2, _⟩ := h.2.1 n hn
  rw [splC, spl, h1]
  by_cases e : S 1 n = k
  · rw [decide_eq_true e, Bool.true_and, Bool.true_and]
    have key : ∀ j, j ≤ k → alw (fun i => decide (N (dn + 2) (n * 8 + i) = ltr N s i)) j = alw (fun i => decide (S 2 (8 * n + i) = N 1 (s + i) - 97)) j := by
      intro j
      induction j with
      | zero => intro _; rfl
      | succ j ih => intro hj; simp only [alw]; rw [ih (by omega), h2 j (by omega)]
    exact key k (Nat.le_refl _)
  · rw [decide_eq_false e, Bool.false_and, Bool.false_and]
theorem new_C {S N : Nat → Nat → Nat} {dn dm s k : Nat} (h : CR S N dn dm) : newC N dn s k = newn S (N 1) s k := by
  rw [newC, newn, h.1]
  have key : ∀ j, j ≤ S 0 0 → alw (fun n => !splC N dn s k n) j = alw (fun n => !spl S (N 1) s k n) j := by
    intro j
    induction j with
    | zero => intro _; rfl
    | succ j ih => intro hj; simp only [alw]; rw [ih (by omega), spl_C h (by omega)]
  exact key _ (Nat.le_refl _)
section
variable {N : Nat → Nat → Nat} {p tk st vl ft q s k : Nat}
theorem wr2_P2 {r a i : Nat} (h : r ≠ 2) : wr2 (P2 N p tk st vl ft) r a s i = P2 (wr2 N r a s i) p tk st vl ft := by
  unfold wr2; rw [P2_ne (by omega), P2_ne h]; exact P2_ar h
theorem wdC_P2 (h : q ≠ 2) (h5 : q + 5 ≠ 2) : wdC (P2 N p tk st vl ft) q s k = P2 (wdC N q s k) p tk st vl ft := by
  unfold wdC; rw [wr2_P2 h5]; exact P2_as h
theorem adC_P2 (h : q = 3 ∨ q = 18) : adC (P2 N p tk st vl ft) q s k = P2 (adC N q s k) p tk st vl ft := by
  have e : ltr (P2 N p tk st vl ft) s = ltr N s := by funext i; show P2 N p tk st vl ft 1 _ - 97 = N 1 _ - 97; rw [P2_ne (by omega)]
  unfold adC
  rw [e, P2_ne (show q ≠ 2 by omega), wr2_P2 (by omega), P2_as (by omega), P2_as (by omega), P2_as (by omega), P2_as (by omega)]
theorem ad2_P2 {X Y : Nat} (h : q = 9 ∨ q = 24) : ad2 (P2 N p tk st vl ft) q 3 2 3 X Y = P2 (ad2 N q 3 2 3 X Y) p tk st vl ft := by
  rw [ad2, ad2, P2_ne (show q ≠ 2 by omega), P2_as (by omega), P2_as (by omega), P2_as (by omega)]
theorem newC_P2 (h : q = 3 ∨ q = 18) : newC (P2 N p tk st vl ft) q s k = newC N q s k := by
  have e : ltr (P2 N p tk st vl ft) s = ltr N s := by funext i; show P2 N p tk st vl ft 1 _ - 97 = N 1 _ - 97; rw [P2_ne (by omega)]
  unfold newC splC
  rw [e, P2_ne (show q ≠ 2 by omega), P2_ne (show q + 1 ≠ 2 by omega), P2_ne (show q + 2 ≠ 2 by omega)]
end
/-- the end of a piece of the class's reading: a fault f at pos, or S is read up to p -/
def RC (ad : Nat → Nat) (L : Nat → Nat → Int) (G : Nat → Nat → Option Nat) (N S : Nat → Nat → Nat) (dn dm f pos p : Nat) : Option Value → q_H → Prop := fun v h => ∃ K at_ tk st vl, h = (LT ad, P2 K at_ tk st vl f, L, G) ∧ FC N K dn dm ∧ CB K dn dm ∧ ((f ≠ 0 ∧ v = some (.int (nI 0)) ∧ st = pos) ∨ (f = 0 ∧ v = some (.int (nI 1)) ∧ at_ = p ∧ CR S K dn dm))
def cF (S : Nat → Nat → Nat) (t : Nat → Nat) (len wi e : Nat) : Nat := if chkL S wi ≠ 0 then chkL S wi else bF (tldS S wi) t len wi e
def cP (S : Nat → Nat → Nat) (t : Nat → Nat) (len wi e s0 : Nat) : Nat := if chkL S wi ≠ 0 then s0 else bP (tldS S wi) t len wi e
