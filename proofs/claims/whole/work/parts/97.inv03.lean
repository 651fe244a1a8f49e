/-- what the maid wrote: class and model -/
def WV (N : Nat → Nat → Nat) (nm : Nat) : Prop := N 80 0 = N nm 5 ∧ ∀ i, i < N nm 5 → N 80 (1 + i) = N (nm + 5) i
theorem anwc {p q : Nat → Bool} : ∀ {k : Nat}, (∀ i, i < k → p i = q i) → anw p k = anw q k := by
  intro k
  induction k with
  | zero => intro _; rfl
  | succ k ih => intro h; simp only [anw]; rw [ih (fun i hi => h i (by omega)), h k (by omega)]
theorem alwc {p q : Nat → Bool} : ∀ {k : Nat}, (∀ i, i < k → p i = q i) → alw p k = alw q k := by
  intro k
  induction k with
  | zero => intro _; rfl
  | succ k ih => intro h; simp only [alw]; rw [ih (fun i hi => h i (by omega)), h k (by omega)]
theorem slcc {f g a b : Nat → Nat} : ∀ {k : Nat}, (∀ i, i < k → f i = g i ∧ a i = b i) → slc f a k = slc g b k := by
  intro k
  induction k with
  | zero => intro _; rfl
  | succ k ih => intro h; simp only [slc]; rw [ih (fun i hi => h i (by omega)), (h k (by omega)).1, (h k (by omega)).2]
theorem mxdc {pa pb qa qb : Nat → Nat} {pr a b : Nat} (h : ∀ k, k < pr → pa k = qa k ∧ pb k = qb k) : mxd pa pb pr a b = mxd qa qb pr a b := by
  unfold mxd
  rw [anwc (p := mxp pa pb a b) (q := mxp qa qb a b) (fun k hk => by unfold mxp; rw [(h k hk).1, (h k hk).2])]
theorem slp_congr {pa pb qa qb : Nat → Nat} {pr len wr x y : Nat} {t1 t2 w1 w2 : Nat → Nat} (hp : ∀ k, k < pr → pa k = qa k ∧ pb k = qb k) (ht : ∀ i, i < len → t1 i = t2 i) (hw : ∀ i, i < wr → w1 i = w2 i) : slp pa pb pr len t1 wr w1 x y = slp qa qb pr len t2 wr w2 x y := by
  unfold slp
  by_cases e : len = wr
  · subst e
    have e1 : alw (slo pa pb pr t1 w1 x y) len = alw (slo qa qb pr t2 w2 x y) len := alwc (fun i hi => by unfold slo; rw [mxdc hp, ht i hi, hw i hi])
    have e2 : slc t1 w1 len = slc t2 w2 len := slcc (fun i hi => ⟨ht i hi, hw i hi⟩)
    rw [e1, e2]
  · rw [if_neg (fun z => e z.1), if_neg (fun z => e z.1)]
theorem slp_same {N : Nat → Nat → Nat} {nm nw c n x y : Nat} (hV : NV N nm c) (hP : PV N 0 nw c) (hW : WV N nm) (hn : n < c) : slp6 N nm nw n x y = slp7 N n x y := by
  obtain ⟨p1, p2, p3, p4, p5, p6, p7, p8, p9⟩ := hP
  simp only [Nat.zero_add] at p4 p5
  obtain ⟨a1, a2, a3, a4⟩ := hV n hn
  show slp (N (nw + 2)) (N (nw + 3)) (N nw 3) (N (nm + 1) n) (lt6 N nm n) (N nm 5) (N (nm + 5)) x y = slp (pa7 N) (pb7 N) (N 78 21) (N 79 (9 * n)) (c7 (N 79) n) (N 80 0) (wl7 N) x y
  rw [p4, a1, hW.1]
  exact slp_congr (fun k hk => ⟨(p5 k hk).1.symm, (p5 k hk).2.symm⟩) (fun i hi => (hV.c7 hn hi).symm) (fun i hi => by rw [← hW.2 i hi]; show N 80 (1 + i) = N 80 (i + 1); rw [Nat.add_comm])
theorem mnt_same {N : Nat → Nat → Nat} {nm nw c x y : Nat} (hV : NV N nm c) (hP : PV N 0 nw c) (hW : WV N nm) : mnt6 N nm nw c x y = mnt7 N c x y := mk_ext (fun n hn => by rw [slp_same hV hP hW hn])
theorem mor_same {N : Nat → Nat → Nat} {nm nw c k : Nat} (hV : NV N nm c) (hP : PV N 0 nw c) (hW : WV N nm) : mor6 N nm nw c k = mor7 N c k := by
  have e : (fun k => pc (mnt6 N nm nw c (k / 26) (k % 26)) 26) = (fun k => pc (mnt7 N c (k / 26) (k % 26)) 26) := by funext j; rw [mnt_same hV hP hW]
  show amax (fun k => decide (k / 26 < k % 26)) (fun k => pc (mnt6 N nm nw c (k / 26) (k % 26)) 26) (pc (mnt6 N nm nw c 4294967292 4294967292) 26) 4294967292 k = amax (fun k => decide (k / 26 < k % 26)) (fun k => pc (mnt7 N c (k / 26) (k % 26)) 26) (pc (mnt7 N c 4294967292 4294967292) 26) 4294967292 k
  rw [e, mnt_same hV hP hW]
/-- the laws: the class's number l is the model's 10 (l / 9) + l % 9 -/
theorem lw_same {N : Nat → Nat → Nat} {nm c m : Nat} (hV : NV N nm c) (hm : m % 10 ≤ 8) : lwv (N 79) c m = lw6 N nm c (9 * (m / 10) + m % 10) := by
  rw [lwv, if_pos hm, lw6, lw7, show (9 * (m / 10) + m % 10) / 9 = m / 10 by omega, show (9 * (m / 10) + m % 10) % 9 = m % 10 by omega, mk_all]
  exact cst_congr (fun g n hg hn => hV.nr hg hn) (fun _ => rfl) _
theorem bst_same {N : Nat → Nat → Nat} {nm c : Nat} (hV : NV N nm c) : ∀ m, (amin (lwv (N 79) c) 1000 m).1 = (amin (lw6 N nm c) 1000 (9 * (m / 10) + min (m % 10) 9)).1 ∧ (amin (lwv (N 79) c) 1000 m).2 = (amin (lw6 N nm c) 1000 (9 * (m / 10) + min (m % 10) 9)).2 / 9 * 10 + (amin (lw6 N nm c) 1000 (9 * (m / 10) + min (m % 10) 9)).2 % 9 := by
  intro m
  induction m with
  | zero => exact ⟨rfl, by show 0 = 0 / 9 * 10 + 0 % 9; decide⟩
  | succ m ih =>
    obtain ⟨i1, i2⟩ := ih
    by_cases h9 : m % 10 ≤ 8
    · have e1 : 9 * ((m + 1) / 10) + min ((m + 1) % 10) 9 = (9 * (m / 10) + m % 10) + 1 := by omega
      have e0 : 9 * (m / 10) + min (m % 10) 9 = 9 * (m / 10) + m % 10 := by omega
      rw [e0] at i1 i2
      rw [e1]
      show (if lwv (N 79) c m < (amin (lwv (N 79) c) 1000 m).1 then (lwv (N 79) c m, m) else amin (lwv (N 79) c) 1000 m).1 = (if lw6 N nm c (9 * (m / 10) + m % 10) < (amin (lw6 N nm c) 1000 (9 * (m / 10) + m % 10)).1 then (lw6 N nm c (9 * (m / 10) + m % 10), 9 * (m / 10) + m % 10) else amin (lw6 N nm c) 1000 (9 * (m / 10) + m % 10)).1 ∧ (if lwv (N 79) c m < (amin (lwv (N 79) c) 1000 m).1 then (lwv (N 79) c m, m) else amin (lwv (N 79) c) 1000 m).2 = (if lw6 N nm c (9 * (m / 10) + m % 10) < (amin (lw6 N nm c) 1000 (9 * (m / 10) + m % 10)).1 then (lw6 N nm c (9 * (m / 10) + m % 10), 9 * (m / 10) + m % 10) else amin (lw6 N nm c) 1000 (9 * (m / 10) + m % 10)).2 / 9 * 10 + (if lw6 N nm c (9 * (m / 10) + m % 10) < (amin (lw6 N nm c) 1000 (9 * (m / 10) + m % 10)).1 then (lw6 N nm c (9 * (m / 10) + m % 10), 9 * (m / 10) + m % 10) else amin (lw6 N nm c) 1000 (9 * (m / 10) + m % 10)).2 % 9
      rw [lw_same hV h9, i1]
      by_cases q : lw6 N nm c (9 * (m / 10) + m % 10) < (amin (lw6 N nm c) 1000 (9 * (m / 10) + m % 10)).1
      · rw [if_pos q, if_pos q]
        exact ⟨rfl, by show m = (9 * (m / 10) + m % 10) / 9 * 10 + (9 * (m / 10) + m % 10) % 9; omega⟩
      · rw [if_neg q, if_neg q]; exact ⟨i1, i2⟩
    · have e1 : 9 * ((m + 1) / 10) + min ((m + 1) % 10) 9 = 9 * (m / 10) + min (m % 10) 9 := by omega
      have e2 : lwv (N 79) c m = 1000 := by rw [lwv, if_neg h9]
      have e3 := amin_le (lwv (N 79) c) 1000 m
      have e4 : amin (lwv (N 79) c) 1000 (m + 1) = amin (lwv (N 79) c) 1000 m := if_neg (by omega)
      rw [e1, e4]; exact ⟨i1, i2⟩
theorem best_same {N : Nat → Nat → Nat} {nm c Y : Nat} (hV : NV N nm c) : bs6 N nm c Y = bst (N 79) c Y := by
  obtain ⟨h1, h2⟩ := bst_same hV 50
  rw [show 9 * (50 / 10) + min (50 % 10) 9 = 45 from rfl] at h1 h2
  unfold bs6 bst
  rw [h1, h2]
theorem lws_same {N : Nat → Nat → Nat} {nm c Y : Nat} (hV : NV N nm c) : ∀ m, cnt (fun law => decide (law % 10 ≤ 8 ∧ lw7 (N 79) c law ≤ Y)) m = cnt (fun l => decide (lw6 N nm c l ≤ Y)) (9 * (m / 10) + min (m % 10) 9) := by
  intro m
  induction m with
  | zero => rfl
  | succ m ih =>
    by_cases h9 : m % 10 ≤ 8
    · have e1 : 9 * ((m + 1) / 10) + min ((m + 1) % 10) 9 = (9 * (m / 10) + m % 10) + 1 := by omega
      have e0 : 9 * (m / 10) + min (m % 10) 9 = 9 * (m / 10) + m % 10 := by omega
      have e2 := lw_same hV h9
      rw [lwv, if_pos h9] at e2
      rw [e0] at ih
      rw [e1, cnt, cnt, ih, ← e2]
      congr 2
      exact decide_eq_decide.mpr ⟨fun q => q.2, fun q => ⟨h9, q⟩⟩
    · have e1 : 9 * ((m + 1) / 10) + min ((m + 1) % 10) 9 = 9 * (m / 10) + min (m % 10) 9 := by omega
      rw [e1, cnt, ih, decide_eq_false (fun q => h9 q.1)]
      rfl
theorem laws_same {N : Nat → Nat → Nat} {nm c Y : Nat} (hV : NV N nm c) : ls6 N nm c Y = lws (N 79) c Y := by
  have h := lws_same (Y := Y) hV 50
  rw [show 9 * (50 / 10) + min (50 % 10) 9 = 45 from rfl] at h
  unfold ls6 lws
  rw [h]
