theorem okh_congr {l1 l2 : Nat → Nat} {t1 t2 : Nat → Nat → Nat} {p1 p2 q1 q2 r1 r2 : Nat → Nat} {n : Nat} (hl : l1 n = l2 n) (ht : ∀ i, i < l2 n → t1 n i = t2 n i) : ∀ k, (∀ j, j < k → p1 j = p2 j ∧ q1 j = q2 j ∧ r1 j = r2 j) → okh l1 t1 p1 q1 r1 k n = okh l2 t2 p2 q2 r2 k n := by
  intro k
  induction k with
  | zero => intro _; rfl
  | succ k ih =>
    intro h
    obtain ⟨a1, a2, a3⟩ := h k (by omega)
    show (okh l1 t1 p1 q1 r1 k n && tst l1 t1 p1 q1 r1 k n) = (okh l2 t2 p2 q2 r2 k n && tst l2 t2 p2 q2 r2 k n)
    rw [ih (fun j hj => h j (by omega))]
    have e : tst l1 t1 p1 q1 r1 k n = tst l2 t2 p2 q2 r2 k n := by
      simp only [tst]
      rw [a1, a2, a3, hl]
      by_cases z : p2 k < l2 n
      · rw [ht _ z]
      · rw [decide_eq_false (show ¬ (p2 k < l2 n ∧ t1 n (p2 k) = q2 k) from fun y => z y.1), decide_eq_false (show ¬ (p2 k < l2 n ∧ t2 n (p2 k) = q2 k) from fun y => z y.1)]
    rw [e]
theorem okg_congr {Rl : Nat → Nat → Bool} {g1 g2 a1 a2 : Nat → Nat} {n : Nat} : ∀ k, (∀ j, j < k → g1 j = g2 j ∧ a1 j = a2 j) → okg Rl g1 a1 k n = okg Rl g2 a2 k n := by
  intro k
  induction k with
  | zero => intro _; rfl
  | succ k ih =>
    intro h
    show (okg Rl g1 a1 k n && decide (aof Rl (g1 k) n = a1 k)) = (okg Rl g2 a2 k n && decide (aof Rl (g2 k) n = a2 k))
    rw [ih (fun j hj => h j (by omega)), (h k (by omega)).1, (h k (by omega)).2]
/-- those who can be: class and model -/
theorem can_same {N : Nat → Nat → Nat} {nm nw c k : Nat} {Rl : Nat → Nat → Bool} (hV : NV N nm c) (hP : PV N 0 nw c) (hk : k ≤ N nw 6) : can6 N nm nw c Rl k = can7 N c Rl k := by
  obtain ⟨p1, p2, p3, p4, p5, p6, p7, p8, p9⟩ := hP
  simp only [Nat.zero_add] at p1 p2 p3 p4 p5 p6 p7 p8 p9
  show can c (N (nm + 1)) (lt6 N nm) (N (nw + 6)) (N (nw + 7)) (N (nw + 8)) (N nw 9) Rl (N (nw + 4)) (N (nw + 5)) k = can c (l7 (N 79)) (c7 (N 79)) (fun k => N 78 (41 + 3 * k)) (fun k => N 78 (41 + 3 * k + 1)) (fun k => N 78 (41 + 3 * k + 2)) (N 78 59) Rl (fun k => N 78 (22 + 2 * k)) (fun k => N 78 (22 + 2 * k + 1)) k
  rw [p8]
  refine mk_ext (fun n hn => ?_)
  obtain ⟨a1, a2, a3, a4⟩ := hV n hn
  have e1 : okh (N (nm + 1)) (lt6 N nm) (N (nw + 6)) (N (nw + 7)) (N (nw + 8)) (N nw 9) n = okh (l7 (N 79)) (c7 (N 79)) (fun k => N 78 (41 + 3 * k)) (fun k => N 78 (41 + 3 * k + 1)) (fun k => N 78 (41 + 3 * k + 2)) (N nw 9) n :=
    (okh_congr (l1 := l7 (N 79)) (l2 := N (nm + 1)) (t1 := c7 (N 79)) (t2 := lt6 N nm) a1 (fun i hi => hV.c7 hn hi) (N nw 9) (fun j hj => p9 j hj)).symm
  have e2 : okg Rl (N (nw + 4)) (N (nw + 5)) k n = okg Rl (fun k => N 78 (22 + 2 * k)) (fun k => N 78 (22 + 2 * k + 1)) k n := (okg_congr k (fun j hj => p7 j (by omega))).symm
  rw [e1, e2]
theorem lkl_congr {c X Y s : Nat} {f g : Nat → Nat} (h : ∀ n, n < c → f n = g n) : lkl c X Y s f = lkl c X Y s g := by
  unfold lkl
  by_cases hX : X < c ∧ Y ≤ 1
  · rw [if_pos hX, if_pos hX, h X hX.1, ods_congr h]
  · rw [if_neg hX, if_neg hX]
theorem mnv_congr {Rl : Nat → Nat → Bool} {c Y s : Nat} {f g : Nat → Nat} (h : ∀ n, n < c → f n = g n) : mnv Rl c f Y s = mnv Rl c g Y s := by
  have e1 : sm Rl c f s = sm Rl c g s := by rw [← cK_1, ← cK_1]; exact cK_congr (fun _ _ _ _ => rfl) h
  have e2 : amin (sv Rl c f s) 1048576 c = amin (sv Rl c g s) 1048576 c := by rw [← vK_1, ← vK_1]; exact vK_congr (fun _ _ _ _ => rfl) h
  unfold mnv
  rw [e1, e2, ods_congr h]
theorem lieF_congr {f g : Nat → Nat} : ∀ m i, (∀ k, k ≤ i + m → f k = g k) → lieF f m i = lieF g m i := by
  intro m
  induction m with
  | zero => intro i h; simp only [lieF]
  | succ m ih =>
    intro i h
    simp only [lieF]
    rw [h (i + 1) (by omega), ih (i + 1) (fun k hk => h k (by omega))]
