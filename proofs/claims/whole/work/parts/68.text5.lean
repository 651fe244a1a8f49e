/-- the faults of a token as a word, a number, a stop -/
def wrdf (t : Nat → Nat) (len p mx : Nat) : Nat := if (tkn t len p).1 = 4 then 1 else wb mx (tkn t len p).1 (tkE t len p - tkS t len p)
def nmbf (t : Nat → Nat) (len p lo hi : Nat) : Nat := if (tkn t len p).1 = 4 then 1 else nb lo hi (tkn t len p).1 (tkV t len p)
def sttf (t : Nat → Nat) (len p : Nat) : Nat := if (tkn t len p).1 = 4 then 1 else if (tkn t len p).1 = 3 then 0 else 2
/-- the state of a reading: row 0: how many names, kind, measure, pairs, written, law told, maid told; rows 1 lengths, 2 letters, 3 odds, 4 5 pairs, 6 written -/
def spl (S : Nat → Nat → Nat) (t : Nat → Nat) (s k n : Nat) : Bool := decide (S 1 n = k) && alw (fun i => decide (S 2 (8 * n + i) = t (s + i) - 97)) k
/-- no name is spelled so -/
def newn (S : Nat → Nat → Nat) (t : Nat → Nat) (s k : Nat) : Bool := alw (fun n => !spl S t s k n) (S 0 0)
def adN (S : Nat → Nat → Nat) (t : Nat → Nat) (s k v : Nat) : Nat → Nat → Nat := q_s (q_s (q_s (q_r S 2 (fun j => if 8 * S 0 0 ≤ j ∧ j < 8 * S 0 0 + k then t (s + (j - 8 * S 0 0)) - 97 else S 2 j)) 1 (S 0 0) k) 3 (S 0 0) v) 0 0 (S 0 0 + 1)
def WFS (S : Nat → Nat → Nat) : Prop := S 0 0 ≤ 9 ∧ (∀ n, n < S 0 0 → 1 ≤ S 1 n ∧ S 1 n ≤ 8 ∧ 1 ≤ S 3 n ∧ S 3 n ≤ 9 ∧ ∀ i, i < S 1 n → S 2 (8 * n + i) < 26) ∧ S 0 1 < 5 ∧ S 0 2 ≤ 8 ∧ S 0 3 ≤ 5 ∧ (∀ k, k < S 0 3 → S 4 k < 26 ∧ S 5 k < 26) ∧ S 0 4 ≤ 8 ∧ (∀ i, i < S 0 4 → S 6 i < 26) ∧ S 0 5 ≤ 1 ∧ S 0 6 ≤ 1
/-- the model's rows of a reading hold it -/
def MR (S K : Nat → Nat → Nat) : Prop := K 77 6 = S 0 0 ∧ (∀ n, n < S 0 0 → K 82 (9 * n) = S 1 n ∧ ∀ i, i < S 1 n → K 82 (9 * n + 1 + i) = S 2 (8 * n + i)) ∧ (∀ n, n < 9 → K 81 n = if n < S 0 0 then S 3 n else 0) ∧ K 81 9 = S 0 1 ∧ K 81 10 = S 0 2 ∧ K 81 21 = S 0 3 ∧ (∀ k, k < S 0 3 → K 81 (11 + 2 * k) = S 4 k ∧ K 81 (11 + 2 * k + 1) = S 5 k) ∧ K 83 0 = S 0 4 ∧ (∀ i, i < S 0 4 → K 83 (1 + i) = S 6 i) ∧ K 77 8 < 16 ∧ K 77 8 / 2 % 2 = S 0 5 ∧ K 77 8 / 8 % 2 = S 0 6 ∧ (∀ i, i < 60 → K 81 i < 26) ∧ K 81 40 = 0 ∧ K 81 59 = 0
def MB (K : Nat → Nat → Nat) : Prop := (∀ i, i < 81 → K 82 i < 26) ∧ (∀ n, n < 9 → K 82 (9 * n) ≤ 8) ∧ (∀ i, i < 9 → K 83 i < 26) ∧ K 83 0 ≤ 8
def FR (N K : Nat → Nat → Nat) : Prop := (∀ a, a ≠ 77 → a ≠ 81 → a ≠ 82 → a ≠ 83 → K a = N a) ∧ (∀ j, j ≠ 6 → j ≠ 8 → K 77 j = N 77 j)
theorem FR.rf {N : Nat → Nat → Nat} : FR N N := ⟨fun _ _ _ _ _ => rfl, fun _ _ _ => rfl⟩
theorem FR.tr {N M K : Nat → Nat → Nat} (h1 : FR N M) (h2 : FR M K) : FR N K := ⟨fun a b1 b2 b3 b4 => (h2.1 a b1 b2 b3 b4).trans (h1.1 a b1 b2 b3 b4), fun j b1 b2 => (h2.2 j b1 b2).trans (h1.2 j b1 b2)⟩
theorem FR.arr {N : Nat → Nat → Nat} {a i x : Nat} (h : a = 81 ∨ a = 82 ∨ a = 83) : FR N (q_s N a i x) := ⟨fun b b1 b2 b3 b4 => q_s_ne (by omega), fun j _ _ => by rw [q_s_ne (by omega)]⟩
theorem FR.fld {N : Nat → Nat → Nat} {i x : Nat} (h : i = 6 ∨ i = 8) : FR N (q_s N 77 i x) := ⟨fun b b1 _ _ _ => q_s_ne b1, fun j _ _ => q_s_off (by omega)⟩
theorem FR.wr {N : Nat → Nat → Nat} {r a : Nat} {t : Nat → Nat} {he n i : Nat} (h : r = 82 ∨ r = 83) : FR N (wrt N r a t he n i) := ⟨fun b b1 b2 b3 b4 => q_r_ne (by omega), fun j _ _ => by unfold wrt; rw [q_r_ne (by omega)]⟩
theorem FR.t {N K : Nat → Nat → Nat} (h : FR N K) : K 84 = N 84 := h.1 84 (by omega) (by omega) (by omega) (by omega)
theorem FR.len {N K : Nat → Nat → Nat} (h : FR N K) : K 77 10 = N 77 10 := h.2 10 (by omega) (by omega)
theorem MB.a81 {K : Nat → Nat → Nat} {i x : Nat} (h : MB K) : MB (q_s K 81 i x) := h
theorem MB.fld {K : Nat → Nat → Nat} {i x : Nat} (h : MB K) : MB (q_s K 77 i x) := h
theorem stp_as {N : Nat → Nat → Nat} {ba p a i x : Nat} (h : a ≠ 77) (h4 : a ≠ 84) : q_s (stp N ba p) a i x = stp (q_s N a i x) ba p := by
  have e84 : q_s N a i x 84 = N 84 := q_s_ne (fun q => h4 q.symm)
  have e77 : q_s N a i x 77 10 = N 77 10 := by rw [q_s_ne (fun q => h q.symm)]
  unfold stp
  rw [e84, e77]
  repeat' split
  all_goals exact P7_as h
theorem stp_so {N : Nat → Nat → Nat} {ba p j x : Nat} (h : j < 18) (h2 : j < 10) : q_s (stp N ba p) 77 j x = stp (q_s N 77 j x) ba p := by
  have e84 : q_s N 77 j x 84 = N 84 := q_s_ne (by omega)
  have e77 : q_s N 77 j x 77 10 = N 77 10 := q_s_off (by omega)
  unfold stp
  rw [e84, e77]
  repeat' split
  all_goals exact P7_so h (by omega)
theorem stp_o {N : Nat → Nat → Nat} {ba p j : Nat} (h : j < 18) (h2 : j < 12) : stp N ba p 77 j = N 77 j := by
  unfold stp
  repeat' split
  all_goals exact P7_o h (by omega)
theorem stp_ne {N : Nat → Nat → Nat} {ba p a : Nat} (h : a ≠ 77) : stp N ba p a = N a := by
  unfold stp
  repeat' split
  all_goals exact P7_ne h
/-- the end of a piece of the model's reading: a fault f at pos, or the next token from p on, and S is read -/
def RS (ad : Nat → Nat) (L : Nat → Nat → Int) (G : Nat → Nat → Option Nat) (N S : Nat → Nat → Nat) (ba f pos p : Nat) : Option Value → q_H → Prop := fun v h => v = none ∧ ((f ≠ 0 ∧ ∃ K sp he tk vl, h = (LT ad, P7 K f pos sp he tk vl, L, G) ∧ FR N K ∧ MB K) ∨ (f = 0 ∧ ∃ K, h = (LT ad, stp K ba p, L, G) ∧ FR N K ∧ MB K ∧ MR S K))
theorem tld_spl {S K : Nat → Nat → Nat} {t : Nat → Nat} {s k n : Nat} (h : MR S K) (hn : n < S 0 0) : tld (K 82) t s n k k = spl S t s k n := by
  obtain ⟨h1, h2⟩ := h.2.1 n hn
  rw [tld, spl, h1]
  by_cases e : S 1 n = k
  · rw [decide_eq_true e, Bool.true_and, Bool.true_and]
    have key : ∀ j, j ≤ k → alw (fun i => decide (K 82 (9 * n + 1 + i) = t (s + i) - 97)) j = alw (fun i => decide (S 2 (8 * n + i) = t (s + i) - 97)) j := by
      intro j
      induction j with
      | zero => intro _; rfl
      | succ j ih => intro hj; simp only [alw]; rw [ih (by omega), h2 j (by omega)]
    exact key k (Nat.le_refl _)
  · rw [decide_eq_false e, Bool.false_and, Bool.false_and]
theorem MB.wrt82 {K : Nat → Nat → Nat} {c s n : Nat} {t : Nat → Nat} (h : MB K) (hc : c < 9) (hn : n ≤ 8) (ht : ∀ i, i < n → 97 ≤ t (s + i) ∧ t (s + i) ≤ 122) : MB (wrt K 82 (9 * c) t s n n) := by
  obtain ⟨h1, h2, h3, h4⟩ := h
  have e83 : wrt K 82 (9 * c) t s n n 83 = K 83 := q_r_ne (by omega)
  have ea : ∀ j, wrt K 82 (9 * c) t s n n 82 j = if j = 9 * c then n else if 9 * c + 1 ≤ j ∧ j < 9 * c + 1 + n then t (s + (j - (9 * c + 1))) - 97 else K 82 j := fun j => by unfold wrt; rw [q_r_at]
  refine ⟨fun i hi => ?_, fun m hm => ?_, ?_, ?_⟩
  · rw [ea]
    split
    · omega
    · split
      · have := ht (i - (9 * c + 1)) (by omega); omega
      · exact h1 i hi
  · rw [ea]
    split
    · exact hn
    · rw [if_neg (by omega)]; exact h2 m hm
  · rw [e83]; exact h3
  · rw [e83]; exact h4
theorem MR.addN {S K : Nat → Nat → Nat} {t : Nat → Nat} {s n v : Nat} (h : MR S K) (hW : WFS S) (hc : S 0 0 < 9) (hn : n ≤ 8) (hv : v ≤ 9) : MR (adN S t s n v) (q_s (q_s (wrt K 82 (9 * S 0 0) t s n n) 81 (S 0 0) v) 77 6 (S 0 0 + 1)) := by
  obtain ⟨a1, a2, a3, a4, a5, a6, a7, a8, a9, b1, b2, b3, b4, b5, b6⟩ := h
  have S0 : ∀ j, j ≠ 0 → adN S t s n v 0 j = S 0 j := fun j hj => by unfold adN; rw [q_s_off hj, q_s_ne (by omega), q_s_ne (by omega), q_r_ne (by omega)]
  have S00 : adN S t s n v 0 0 = S 0 0 + 1 := q_s_at
  have S1 : ∀ j, adN S t s n v 1 j = if j = S 0 0 then n else S 1 j := fun j => by
    unfold adN; rw [q_s_ne (by omega), q_s_ne (by omega)]
    by_cases e : j = S 0 0
    · subst e; rw [if_pos rfl, q_s_at]
    · rw [if_neg e, q_s_off e, q_r_ne (by omega)]
  have S2 : ∀ j, adN S t s n v 2 j = if 8 * S 0 0 ≤ j ∧ j < 8 * S 0 0 + n then t (s + (j - 8 * S 0 0)) - 97 else S 2 j := fun j => by
    unfold adN; rw [q_s_ne (by omega), q_s_ne (by omega), q_s_ne (by omega), q_r_at]
  have S3 : ∀ j, adN S t s n v 3 j = if j = S 0 0 then v else S 3 j := fun j => by
    unfold adN; rw [q_s_ne (by omega)]
    by_cases e : j = S 0 0
    · subst e; rw [if_pos rfl, q_s_at]
    · rw [if_neg e, q_s_off e, q_s_ne (by omega), q_r_ne (by omega)]
  have Sr : ∀ r, 3 < r → adN S t s n v r = S r := fun r hr => by unfold adN; rw [q_s_ne (by omega), q_s_ne (by omega), q_s_ne (by omega), q_r_ne (by omega)]
  generalize hK : q_s (q_s (wrt K 82 (9 * S 0 0) t s n n) 81 (S 0 0) v) 77 6 (S 0 0 + 1) = K2
  have k6 : K2 77 6 = S 0 0 + 1 := by rw [← hK, q_s_at]
  have k8 : K2 77 8 = K 77 8 := by rw [← hK, q_s_off (by omega), q_s_ne (by omega)]; unfold wrt; rw [q_r_ne (by omega)]
  have k81 : ∀ j, K2 81 j = if j = S 0 0 then v else K 81 j := fun j => by
    rw [← hK, q_s_ne (by omega)]
    by_cases e : j = S 0 0
    · subst e; rw [if_pos rfl, q_s_at]
    · rw [if_neg e, q_s_off e]; unfold wrt; rw [q_r_ne (by omega)]
  have k82 : ∀ j, K2 82 j = if j = 9 * S 0 0 then n else if 9 * S 0 0 + 1 ≤ j ∧ j < 9 * S 0 0 + 1 + n then t (s + (j - (9 * S 0 0 + 1))) - 97 else K 82 j := fun j => by
    rw [← hK, q_s_ne (by omega), q_s_ne (by omega)]; unfold wrt; rw [q_r_at]
  have k83 : K2 83 = K 83 := by rw [← hK, q_s_ne (by omega), q_s_ne (by omega)]; unfold wrt; rw [q_r_ne (by omega)]
  unfold MR
  rw [S00, S0 1 (by omega), S0 2 (by omega), S0 3 (by omega), S0 4 (by omega), S0 5 (by omega), S0 6 (by omega), Sr 4 (by omega), Sr 5 (by omega), Sr 6 (by omega), k8, k83]
  refine ⟨k6, fun m hm => ?_, fun m hm => ?_, ?_, ?_, ?_, fun k hk => ?_, a8, a9, b1, b2, b3, fun i hi => ?_, ?_, ?_⟩
  · rw [k82, S1]
    by_cases e : m = S 0 0
    · subst e
      rw [if_pos rfl, if_pos rfl]
      refine ⟨rfl, fun i hi => ?_⟩
      rw [k82, if_neg (by omega), if_pos (by omega), S2, if_pos (by omega)]
      congr 2
      omega
    · obtain ⟨q1, q2⟩ := a2 m (by omega)
      rw [if_neg (by omega), if_neg (by omega), if_neg e]
      refine ⟨q1, fun i hi => ?_⟩
      have hi2 : i < S 1 m := hi
      have h8 := (hW.2.1 m (by omega)).2.1
      rw [k82, if_neg (by omega), if_neg (by omega), S2, if_neg (by omega)]
      exact q2 i hi2
  · rw [k81, S3]
    by_cases e : m = S 0 0
    · rw [if_pos e, if_pos (by omega), if_pos e]
    · rw [if_neg e, if_neg e, a3 m hm]
      by_cases h1 : m < S 0 0
      · rw [if_pos h1, if_pos (by omega)]
      · rw [if_neg h1, if_neg (by omega)]
  · rw [k81, if_neg (by omega)]; exact a4
  · rw [k81, if_neg (by omega)]; exact a5
  · rw [k81, if_neg (by omega)]; exact a6
  · rw [k81, k81, if_neg (by omega), if_neg (by omega)]; exact a7 k hk
  · rw [k81]; split
    · omega
    · exact b4 i hi
  · rw [k81, if_neg (by omega)]; exact b5
  · rw [k81, if_neg (by omega)]; exact b6
