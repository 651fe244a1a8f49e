theorem CX.eq {ad : Nat → Nat} {G : Nat → Nat → Option Nat} {N M : Nat → Nat → Nat} {nm nw c : Nat} {Rl : Nat → Nat → Bool} (h : CX ad G N nm nw c Rl) (e : ∀ a, (a < 33 ∨ a = 36 ∨ (51 ≤ a ∧ a ≤ 68)) → M a = N a) : CX ad G M nm nw c Rl := by
  obtain ⟨h1, h2, h3, h4, h5, h6, h7⟩ := h
  refine ⟨h1, h2, h3, h4, h5.eq (fun a q1 q2 => e a (by omega)), h6.eq (fun a q1 q2 => e a (by omega)), fun g hg => ?_⟩
  rw [e 36 (by omega)]; exact h7 g hg
theorem wp6_eq {N M : Nat → Nat → Nat} {nm nw : Nat} (h1 : isN nm) (h2 : isM nw) (e : ∀ a, (a < 33 ∨ a = 36 ∨ (51 ≤ a ∧ a ≤ 68)) → M a = N a) : wp6 M nm nw = wp6 N nm nw := by
  funext n
  have el : lt6 M nm n = lt6 N nm n := by funext i; show M (nm + 2) _ = N (nm + 2) _; rw [e (nm + 2) (by omega)]
  have em : mx6 M nw = mx6 N nw := by funext a b; show mxd (M (nw + 2)) (M (nw + 3)) (M nw 3) a b = mxd (N (nw + 2)) (N (nw + 3)) (N nw 3) a b; rw [e (nw + 2) (by omega), e (nw + 3) (by omega), e nw (by omega)]
  show wpv (mx6 M nw) (M (nm + 1) n) (lt6 M nm n) (M nm 5) (M (nm + 5)) = wpv (mx6 N nw) (N (nm + 1) n) (lt6 N nm n) (N nm 5) (N (nm + 5))
  rw [el, em, e (nm + 1) (by omega), e nm (by omega), e (nm + 5) (by omega)]
theorem cnt_ext {p q : Nat → Bool} {k : Nat} (h : ∀ i, i < k → p i = q i) : cnt p k = cnt q k := by
  induction k with
  | zero => rfl
  | succ k ih => simp only [cnt]; rw [ih (fun i hi => h i (by omega)), h k (by omega)]
theorem cnt_add {p q r : Nat → Bool} {k : Nat} (h : ∀ i, i < k → (r i).toNat = (p i).toNat + (q i).toNat) : cnt r k = cnt p k + cnt q k := by
  induction k with
  | zero => rfl
  | succ k ih => simp only [cnt]; rw [ih (fun i hi => h i (by omega)), h k (by omega)]; omega
theorem cnt_pos {p : Nat → Bool} {k i : Nat} (hi : i < k) (h : p i = true) : 0 < cnt p k := by
  induction k with
  | zero => omega
  | succ k ih =>
    simp only [cnt]
    by_cases e : i = k
    · subst e; rw [h]; exact Nat.succ_pos _
    · have := ih (by omega); omega
theorem cnt_ex {p : Nat → Bool} {k : Nat} (h : 0 < cnt p k) : ∃ i, i < k ∧ p i = true := by
  induction k with
  | zero => exact absurd h (Nat.lt_irrefl 0)
  | succ k ih =>
    cases hp : p k with
    | true => exact ⟨k, by omega, hp⟩
    | false =>
      simp only [cnt, hp] at h
      obtain ⟨i, h1, h2⟩ := ih h
      exact ⟨i, by omega, h2⟩
theorem pc_mk {p : Nat → Bool} {c k : Nat} (hk : k ≤ c) : pc (mk p c) k = cnt p k := by
  induction k with
  | zero => rfl
  | succ k ih => simp only [pc, cnt, div_bit2, mk_bit]; rw [ih (by omega), decide_eq_true (show k < c by omega), Bool.true_and]
theorem pc_mk26 {p : Nat → Bool} {c : Nat} (hc : c ≤ 26) : pc (mk p c) 26 = cnt p c := by
  rw [pc_hi (mk_lt p c) hc]; exact pc_mk (Nat.le_refl c)
theorem amax_spec (p : Nat → Bool) (f : Nat → Nat) (m0 w0 : Nat) (k : Nat) : (amax p f m0 w0 k = (m0, w0) ∧ ∀ j, j < k → p j = true → f j ≤ m0) ∨ (∃ x, x < k ∧ p x = true ∧ m0 < f x ∧ amax p f m0 w0 k = (f x, x) ∧ (∀ j, j < k → p j = true → f j ≤ f x) ∧ ∀ j, j < x → p j = true → f j < f x) := by
  induction k with
  | zero => exact .inl ⟨rfl, fun j hj => by omega⟩
  | succ k ih =>
    simp only [amax]
    rcases ih with ⟨e, h⟩ | ⟨x, h1, h2, h3, e, h4, h5⟩
    · rw [e]
      by_cases hq : p k = true ∧ f k > m0
      · rw [if_pos hq]
        refine .inr ⟨k, by omega, hq.1, hq.2, rfl, fun j hj hp => ?_, fun j hj hp => ?_⟩
        · by_cases ej : j = k
          · rw [ej]; exact Nat.le_refl _
          · have := h j (by omega) hp; have := hq.2; omega
        · have := h j hj hp; have := hq.2; omega
      · rw [if_neg hq]
        refine .inl ⟨rfl, fun j hj hp => ?_⟩
        by_cases ej : j = k
        · subst ej; exact Nat.le_of_not_lt (fun q => hq ⟨hp, q⟩)
        · exact h j (by omega) hp
    · rw [e]
      by_cases hq : p k = true ∧ f k > f x
      · rw [if_pos hq]
        have hq2 := hq.2
        refine .inr ⟨k, by omega, hq.1, by omega, rfl, fun j hj hp => ?_, fun j hj hp => ?_⟩
        · by_cases ej : j = k
          · rw [ej]; exact Nat.le_refl _
          · have := h4 j (by omega) hp; omega
        · have := h4 j hj hp; omega
      · rw [if_neg hq]
        refine .inr ⟨x, by omega, h2, h3, rfl, fun j hj hp => ?_, h5⟩
        by_cases ej : j = k
        · subst ej; exact Nat.le_of_not_lt (fun q => hq ⟨hp, q⟩)
        · exact h4 j (by omega) hp
/-- how many names the pair that name n wants would win -/
def won (wp : Nat → Nat) (c n : Nat) : Nat := if 0 < wp n ∧ wp n ≤ 675 then cnt (fun m => decide (wp m = wp n)) c else 0
def mrs (wp : Nat → Nat) (c : Nat) : Nat → Nat × Nat
  | 0 => (0, 0)
  | k + 1 => if won wp c k > (mrs wp c k).1 ∨ (won wp c k = (mrs wp c k).1 ∧ won wp c k > 0 ∧ wp k < (mrs wp c k).2) then (won wp c k, wp k) else mrs wp c k
theorem mrs_spec (wp : Nat → Nat) (c : Nat) (k : Nat) : (mrs wp c k = (0, 0) ∧ ∀ j, j < k → won wp c j = 0) ∨ (∃ x, x < k ∧ 0 < won wp c x ∧ mrs wp c k = (won wp c x, wp x) ∧ ∀ j, j < k → won wp c j ≤ won wp c x ∧ (won wp c j = won wp c x → wp x ≤ wp j)) := by
  induction k with
  | zero => exact .inl ⟨rfl, fun j hj => by omega⟩
  | succ k ih =>
    simp only [mrs]
    rcases ih with ⟨e, h⟩ | ⟨x, h1, h2, e, h4⟩
    · rw [e]
      by_cases hq : won wp c k > 0
      · rw [if_pos (.inl hq)]
        refine .inr ⟨k, by omega, hq, rfl, fun j hj => ?_⟩
        by_cases ej : j = k
        · rw [ej]; exact ⟨Nat.le_refl _, fun _ => Nat.le_refl _⟩
        · have := h j (by omega); exact ⟨by omega, fun q => by omega⟩
      · rw [if_neg (by omega)]
        refine .inl ⟨rfl, fun j hj => ?_⟩
        by_cases ej : j = k
        · rw [ej]; omega
        · exact h j (by omega)
    · rw [e]
      by_cases hq : won wp c k > won wp c x ∨ (won wp c k = won wp c x ∧ won wp c k > 0 ∧ wp k < wp x)
      · rw [if_pos hq]
        refine .inr ⟨k, by omega, by omega, rfl, fun j hj => ?_⟩
        by_cases ej : j = k
        · rw [ej]; exact ⟨Nat.le_refl _, fun _ => Nat.le_refl _⟩
        · have := h4 j (by omega); exact ⟨by omega, fun q => by omega⟩
      · rw [if_neg hq]
        refine .inr ⟨x, by omega, h2, rfl, fun j hj => ?_⟩
        by_cases ej : j = k
        · rw [ej]; exact ⟨by omega, fun q => by omega⟩
        · exact h4 j (by omega)
theorem more_eq {wp : Nat → Nat} {c m0 : Nat} {p : Nat → Bool} {f : Nat → Nat} (hf : ∀ k, k < 676 → p k = true → f k = m0 + cnt (fun m => decide (wp m = k)) c ∧ 0 < k) (hw : ∀ n, n < c → (0 < wp n ∧ wp n ≤ 675) → p (wp n) = true) : amax p f m0 4294967292 676 = if (mrs wp c c).1 = 0 then (m0, 4294967292) else (m0 + (mrs wp c c).1, (mrs wp c c).2) := by
  have hwon : ∀ n, n < c → (0 < wp n ∧ wp n ≤ 675) → 0 < won wp c n := fun n hn h => by
    unfold won; rw [if_pos h]; exact cnt_pos hn (decide_eq_true rfl)
  rcases mrs_spec wp c c with ⟨e, h⟩ | ⟨n, h1, h2, e, h4⟩
  · rw [e, if_pos rfl]
    rcases amax_spec p f m0 4294967292 676 with ⟨e2, _⟩ | ⟨x, g1, g2, g3, _⟩
    · exact e2
    · exfalso
      obtain ⟨q1, q2⟩ := hf x g1 g2
      obtain ⟨i, i1, i2⟩ := cnt_ex (p := fun m => decide (wp m = x)) (k := c) (by omega)
      have i3 : wp i = x := of_decide_eq_true i2
      have := hwon i i1 (by omega)
      have := h i i1
      omega
  · rw [e, if_neg (by show won wp c n ≠ 0; omega)]
    have hn : 0 < wp n ∧ wp n ≤ 675 := by
      unfold won at h2; by_cases q : 0 < wp n ∧ wp n ≤ 675
      · exact q
      · rw [if_neg q] at h2; omega
    have en : won wp c n = cnt (fun m => decide (wp m = wp n)) c := by unfold won; rw [if_pos hn]
    have fb := (hf (wp n) (by omega) (hw n h1 hn)).1
    rcases amax_spec p f m0 4294967292 676 with ⟨_, g⟩ | ⟨x, g1, g2, g3, e2, g4, g5⟩
    · exfalso; have := g (wp n) (by omega) (hw n h1 hn); omega
    · rw [e2]
      obtain ⟨q1, q2⟩ := hf x g1 g2
      obtain ⟨i, i1, i2⟩ := cnt_ex (p := fun m => decide (wp m = x)) (k := c) (by omega)
      have i3 : wp i = x := of_decide_eq_true i2
      have ei : won wp c i = cnt (fun m => decide (wp m = x)) c := by unfold won; rw [if_pos (by omega), i3]
      have k1 := g4 (wp n) (by omega) (hw n h1 hn)
      have k2 := h4 i i1
      have k3 : won wp c i = won wp c n := by omega
      have k4 := k2.2 k3
      have k5 : x = wp n := by
        rcases Nat.lt_or_ge (wp n) x with q | q
        · have := g5 (wp n) q (hw n h1 hn); omega
        · omega
      subst k5
      show (f (wp n), wp n) = (m0 + won wp c n, wp n)
      rw [fb, en]
