/-- the class's names (cells nm) and the model's names are the same -/
def NV (N : Nat → Nat → Nat) (nm c : Nat) : Prop := ∀ n, n < c → N 79 (9 * n) = N (nm + 1) n ∧ (∀ i, i < N (nm + 1) n → N 79 (9 * n + 1 + i) = N (nm + 2) (n * 8 + i)) ∧ N (nm + 3) n = lst (fun i => N (nm + 2) (n * 8 + i)) (N (nm + 1) n) ∧ N (nm + 4) n = vws (fun i => N (nm + 2) (n * 8 + i)) (N (nm + 1) n)
/-- the model's page from p on and the class's moment in cells q are the same -/
def PV (N : Nat → Nat → Nat) (p q c : Nat) : Prop := (∀ n, n < c → N 78 (p + n) = N (q + 1) n) ∧ N 78 (p + 9) = N q 1 ∧ N 78 (p + 10) = N q 2 ∧ N 78 (p + 21) = N q 3 ∧ (∀ k, k < N q 3 → N 78 (p + (11 + 2 * k)) = N (q + 2) k ∧ N 78 (p + (11 + 2 * k + 1)) = N (q + 3) k) ∧ N 78 (p + 40) = N q 6 ∧ (∀ k, k < N q 6 → N 78 (p + (22 + 2 * k)) = N (q + 4) k ∧ N 78 (p + (22 + 2 * k + 1)) = N (q + 5) k) ∧ N 78 (p + 59) = N q 9 ∧ (∀ k, k < N q 9 → N 78 (p + (41 + 3 * k)) = N (q + 6) k ∧ N 78 (p + (41 + 3 * k + 1)) = N (q + 7) k ∧ N 78 (p + (41 + 3 * k + 2)) = N (q + 8) k)
theorem unlc {f g : Nat → Nat → Nat} {n m : Nat} : ∀ {k : Nat}, (∀ i, i < k → f n i = g n i ∧ f m i = g m i) → unl f n m k = unl g n m k := by
  intro k
  induction k with
  | zero => intro _; rfl
  | succ k ih => intro h; simp only [unl]; rw [ih (fun i hi => h i (by omega)), (h k (by omega)).1, (h k (by omega)).2]
theorem nr_congr {kd ms : Nat} {l1 l2 : Nat → Nat} {t1 t2 : Nat → Nat → Nat} {s1 s2 v1 v2 : Nat → Nat} {n m : Nat} (hn : l1 n = l2 n) (hm : l1 m = l2 m) (tn : ∀ i, i < l2 n → t1 n i = t2 n i) (tm : ∀ i, i < l2 m → t1 m i = t2 m i) (sn : s1 n = s2 n) (sm : s1 m = s2 m) (vn : v1 n = v2 n) (vm : v1 m = v2 m) : nr kd ms l1 t1 s1 v1 n m = nr kd ms l2 t2 s2 v2 n m := by
  match kd with
  | 0 =>
    show decide (l1 n = l1 m ∧ unl t1 n m (l1 n) ≤ ms) = decide (l2 n = l2 m ∧ unl t2 n m (l2 n) ≤ ms)
    rw [hn, hm]
    by_cases e : l2 n = l2 m
    · rw [unlc (fun i hi => ⟨tn i hi, tm i (by omega)⟩)]
    · rw [decide_eq_false (fun q => e q.1), decide_eq_false (fun q => e q.1)]
  | 1 =>
    show decide (ms ≤ l1 n ∧ ms ≤ l1 m ∧ unl t1 n m ms = 0) = decide (ms ≤ l2 n ∧ ms ≤ l2 m ∧ unl t2 n m ms = 0)
    rw [hn, hm]
    by_cases e : ms ≤ l2 n ∧ ms ≤ l2 m
    · rw [unlc (fun i hi => ⟨tn i (by omega), tm i (by omega)⟩)]
    · rw [decide_eq_false (fun q => e ⟨q.1, q.2.1⟩), decide_eq_false (fun q => e ⟨q.1, q.2.1⟩)]
  | 2 =>
    show decide (dst (l1 n) (l1 m) ≤ ms) = decide (dst (l2 n) (l2 m) ≤ ms)
    rw [hn, hm]
  | 3 =>
    show decide (ms ≤ pc (s1 n &&& s1 m) 26) = decide (ms ≤ pc (s2 n &&& s2 m) 26)
    rw [sn, sm]
  | k + 4 =>
    show decide (dst (v1 n) (v1 m) ≤ ms) = decide (dst (v2 n) (v2 m) ≤ ms)
    rw [vn, vm]
theorem NV.c7 {N : Nat → Nat → Nat} {nm c n i : Nat} (h : NV N nm c) (hn : n < c) (hi : i < N (nm + 1) n) : N 79 (9 * n + (i + 1)) = N (nm + 2) (n * 8 + i) := by
  rw [← (h n hn).2.1 i hi]
  congr 1
  omega
/-- the two nearnesses are the same -/
theorem NV.nr {N : Nat → Nat → Nat} {nm c n m kd ms : Nat} (h : NV N nm c) (hn : n < c) (hm : m < c) : nr7 kd ms (N 79) n m = nr6 N nm kd ms n m := by
  obtain ⟨a1, a2, a3, a4⟩ := h n hn
  obtain ⟨b1, b2, b3, b4⟩ := h m hm
  refine nr_congr a1 b1 (fun i hi => h.c7 hn hi) (fun i hi => h.c7 hm hi) ?_ ?_ ?_ ?_
  · show lst (fun i => N 79 (9 * n + (i + 1))) (N 79 (9 * n)) = _
    rw [a1, a3]; exact lstc (fun i hi => h.c7 hn hi)
  · show lst (fun i => N 79 (9 * m + (i + 1))) (N 79 (9 * m)) = _
    rw [b1, b3]; exact lstc (fun i hi => h.c7 hm hi)
  · show vws (fun i => N 79 (9 * n + (i + 1))) (N 79 (9 * n)) = _
    rw [a1, a4]; exact vwsc (fun i hi => h.c7 hn hi)
  · show vws (fun i => N 79 (9 * m + (i + 1))) (N 79 (9 * m)) = _
    rw [b1, b4]; exact vwsc (fun i hi => h.c7 hm hi)
