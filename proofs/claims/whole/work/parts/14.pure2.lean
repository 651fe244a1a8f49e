/-! parts of a set by an answer; the least cost of finding him -/
theorem pc_lt_of_sub {s t k g : Nat} (h : ∀ i, t.testBit i = true → s.testBit i = true) (hg : s.testBit g = true) (hn : t.testBit g = false) (hk : g < k) : pc t k < pc s k := by
  have le : ∀ j, pc t j ≤ pc s j := by
    intro j
    induction j with
    | zero => exact Nat.le_refl _
    | succ j ih =>
      simp only [pc, div_bit2]
      cases ht : t.testBit j with
      | true => rw [h j ht]; omega
      | false => simp; omega
  have key : ∀ j, g < j → pc t j < pc s j := by
    intro j hj
    induction j with
    | zero => omega
    | succ j ih =>
      simp only [pc, div_bit2]
      by_cases e : g = j
      · subst e
        rw [hg, hn]
        have := le g
        simp; omega
      · have h1 := ih (by omega)
        cases ht : t.testBit j with
        | true => rw [h j ht]; omega
        | false => simp; omega
  exact key k hk
theorem pc_le_of_sub {s t : Nat} (k : Nat) (h : ∀ i, t.testBit i = true → s.testBit i = true) : pc t k ≤ pc s k := by
  induction k with
  | zero => exact Nat.le_refl _
  | succ j ih =>
    simp only [pc, div_bit2]
    cases ht : t.testBit j with
    | true => rw [h j ht]; omega
    | false => simp; omega
/-- of s, those who would answer a to the guess g -/
def prt (Rl : Nat → Nat → Bool) (c s g a : Nat) : Nat := mk (fun n => s.testBit n && decide (aof Rl g n = a)) c
theorem prt_bit {Rl : Nat → Nat → Bool} {c s g a i : Nat} : (prt Rl c s g a).testBit i = (decide (i < c) && (s.testBit i && decide (aof Rl g i = a))) := mk_bit _ _ _
theorem prt_sub {Rl : Nat → Nat → Bool} {c s g a i : Nat} (h : (prt Rl c s g a).testBit i = true) : s.testBit i = true := by
  rw [prt_bit] at h
  simp only [Bool.and_eq_true] at h
  exact h.2.1
theorem le_of_bits {s t : Nat} (h : ∀ i, t.testBit i = true → s.testBit i = true) : t ≤ s := by
  have e : t &&& s = t := by
    apply bit_ext
    intro i
    rw [Nat.testBit_and]
    cases ht : t.testBit i with
    | true => rw [h i ht]; rfl
    | false => rfl
  rw [← e]
  exact Nat.and_le_right
theorem prt_le {Rl : Nat → Nat → Bool} {c s g a : Nat} : prt Rl c s g a ≤ s := le_of_bits (fun _ => prt_sub)
theorem prt_lt {Rl : Nat → Nat → Bool} {c s g a : Nat} : prt Rl c s g a < 2 ^ c := mk_lt _ _
theorem ansW_s {f : Nat → Nat} {Rl : Nat → Nat → Bool} {c s g a : Nat} (hs : s < 2 ^ c) (hc : c ≤ 32) (hf : f g = mk (fun m => decide (g ≠ m) && Rl g m) c) (ha : a ≤ 2) : ansW f s g a = prt Rl c s g a := by
  have := ansW_mk (p := s.testBit) hc hf ha
  rw [mk_of_lt hs] at this
  exact this
/-- a guess at one of them leaves fewer -/
theorem prt_mem {Rl : Nat → Nat → Bool} {c s g a : Nat} (hg : s.testBit g = true) (ha : a ≤ 1) : prt Rl c s g a < s := by
  rcases Nat.lt_or_eq_of_le (prt_le (Rl := Rl) (c := c) (s := s) (g := g) (a := a)) with h | h
  · exact h
  · exfalso
    have h1 : (prt Rl c s g a).testBit g = true := by rw [h]; exact hg
    rw [prt_bit] at h1
    simp only [aof, if_true, Bool.and_eq_true, decide_eq_true_eq] at h1
    omega
theorem amin_le (f : Nat → Nat) (b k : Nat) : (amin f b k).1 ≤ b := by
  induction k with
  | zero => exact Nat.le_refl _
  | succ k ih => simp only [amin]; split <;> omega
theorem amin_le_at (f : Nat → Nat) (b k g : Nat) (hg : g < k) : (amin f b k).1 ≤ f g := by
  induction k with
  | zero => omega
  | succ k ih =>
    simp only [amin]
    by_cases e : g = k
    · subst e; split <;> omega
    · have := ih (by omega)
      split <;> omega
theorem amin_which (f : Nat → Nat) (b k : Nat) (h : (amin f b k).1 < b) : (amin f b k).2 < k ∧ f (amin f b k).2 = (amin f b k).1 ∧ ∀ j, j < (amin f b k).2 → (amin f b k).1 < f j := by
  induction k with
  | zero => exact absurd h (Nat.lt_irrefl _)
  | succ k ih =>
    simp only [amin] at h ⊢
    by_cases hc : f k < (amin f b k).1
    · rw [if_pos hc] at h ⊢
      refine ⟨Nat.lt_succ_self k, rfl, fun j hj => ?_⟩
      exact Nat.lt_of_lt_of_le hc (amin_le_at f b k j hj)
    · rw [if_neg hc] at h ⊢
      obtain ⟨h1, h2, h3⟩ := ih h
      exact ⟨by omega, h2, h3⟩
theorem amin_congr {f g : Nat → Nat} {b k : Nat} (h : ∀ i, i < k → f i = g i) : amin f b k = amin g b k := by
  induction k with
  | zero => rfl
  | succ k ih =>
    simp only [amin]
    rw [ih (fun i hi => h i (by omega)), h k (by omega)]
/-- another beginning, beyond all values -/
theorem amin_init {f : Nat → Nat} {a b k : Nat} (h : ∀ i, i < k → f i < a ∧ f i < b) (hk : 0 < k) : amin f a k = amin f b k := by
  have key : ∀ j, 0 < j → j ≤ k → amin f a j = amin f b j := by
    intro j
    induction j with
    | zero => intro h0; omega
    | succ j ih =>
      intro _ hj
      by_cases e : j = 0
      · subst e
        have e1 : amin f a 1 = (f 0, 0) := if_pos (h 0 (by omega)).1
        have e2 : amin f b 1 = (f 0, 0) := if_pos (h 0 (by omega)).2
        exact e1.trans e2.symm
      · simp only [amin]
        rw [ih (by omega) (by omega)]
  exact key k hk (Nat.le_refl _)
/-- the least cost of finding him among s: a guess costs w, two parts by op -/
def cst (Rl : Nat → Nat → Bool) (c : Nat) (w : Nat → Nat) (op : Nat → Nat → Nat) (s : Nat) : Nat :=
  if s = 0 then 0 else (amin (fun g => if _h : prt Rl c s g 1 < s ∧ prt Rl c s g 0 < s then op (cst Rl c w op (prt Rl c s g 1)) (cst Rl c w op (prt Rl c s g 0)) else 1048576) 1048576 c).1 + w s
termination_by s
decreasing_by
  · exact _h.1
  · exact _h.2
def csv (Rl : Nat → Nat → Bool) (c : Nat) (w : Nat → Nat) (op : Nat → Nat → Nat) (s g : Nat) : Nat := if prt Rl c s g 1 < s ∧ prt Rl c s g 0 < s then op (cst Rl c w op (prt Rl c s g 1)) (cst Rl c w op (prt Rl c s g 0)) else 1048576
theorem cst_0 (Rl : Nat → Nat → Bool) (c : Nat) (w : Nat → Nat) (op : Nat → Nat → Nat) : cst Rl c w op 0 = 0 := by rw [cst]; rfl
theorem cst_s {Rl : Nat → Nat → Bool} {c : Nat} {w : Nat → Nat} {op : Nat → Nat → Nat} {s : Nat} (hs : s ≠ 0) : cst Rl c w op s = (amin (csv Rl c w op s) 1048576 c).1 + w s := by
  rw [cst, if_neg hs]
  rfl
theorem bit_of_ne {s c : Nat} (h : s ≠ 0) (hs : s < 2 ^ c) : ∃ g, g < c ∧ s.testBit g = true := by
  cases hx : (List.range c).find? (fun g => s.testBit g) with
  | some g =>
    have h1 := List.find?_some hx
    have h2 := List.mem_of_find?_eq_some hx
    exact ⟨g, List.mem_range.mp h2, h1⟩
  | none =>
    exfalso
    apply h
    apply bit_ext
    intro i
    rw [Nat.zero_testBit]
    by_cases hi : i < c
    · have := List.find?_eq_none.mp hx i (List.mem_range.mpr hi)
      simpa using this
    · exact Nat.testBit_lt_two_pow (Nat.lt_of_lt_of_le hs (Nat.pow_le_pow_right (by decide) (by omega)))
/-- among s some guess leads on; so the least is a true one -/
theorem csv_mem {Rl : Nat → Nat → Bool} {c : Nat} {w : Nat → Nat} {op : Nat → Nat → Nat} {s g : Nat} (hg : s.testBit g = true) : csv Rl c w op s g = op (cst Rl c w op (prt Rl c s g 1)) (cst Rl c w op (prt Rl c s g 0)) := if_pos ⟨prt_mem hg (by omega), prt_mem hg (by omega)⟩
/-- guesses at the worst: at most as many as they are -/
theorem few_le (Rl : Nat → Nat → Bool) (c : Nat) : ∀ s, s < 2 ^ c → cst Rl c (fun _ => 1) max s ≤ pc s c := by
  intro s
  induction s using Nat.strongRecOn with
  | ind s ih =>
    intro hs
    by_cases h0 : s = 0
    · subst h0; rw [cst_0]; exact Nat.zero_le _
    · obtain ⟨g, hg, hb⟩ := bit_of_ne h0 hs
      rw [cst_s h0]
      have h1 := amin_le_at (csv Rl c (fun _ => 1) max s) 1048576 c g hg
      rw [csv_mem hb] at h1
      have key : ∀ a, a ≤ 1 → cst Rl c (fun _ => 1) max (prt Rl c s g a) < pc s c := by
        intro a ha
        refine Nat.lt_of_le_of_lt (ih _ (prt_mem hb ha) prt_lt) ?_
        refine pc_lt_of_sub (g := g) (fun i => prt_sub) hb ?_ hg
        rw [prt_bit]
        have : aof Rl g g ≠ a := by simp only [aof, if_true]; omega
        simp [this]
      have k1 := key 1 (by omega)
      have k0 := key 0 (by omega)
      have hm : max (cst Rl c (fun _ => 1) max (prt Rl c s g 1)) (cst Rl c (fun _ => 1) max (prt Rl c s g 0)) < pc s c := Nat.max_lt.mpr ⟨k1, k0⟩
      omega
theorem ods_mono (f : Nat → Nat) {s t : Nat} (k : Nat) (h : ∀ i, t.testBit i = true → s.testBit i = true) : ods f t k ≤ ods f s k := by
  induction k with
  | zero => exact Nat.le_refl _
  | succ k ih =>
    simp only [ods]
    cases ht : t.testBit k with
    | true => rw [h k ht]; omega
    | false => simp; omega
/-- two parts that are apart have no more than the whole -/
theorem ods_parts (f : Nat → Nat) {s t u : Nat} (k : Nat) (ht : ∀ i, t.testBit i = true → s.testBit i = true) (hu : ∀ i, u.testBit i = true → s.testBit i = true) (hx : ∀ i, t.testBit i = true → u.testBit i = false) : ods f t k + ods f u k ≤ ods f s k := by
  induction k with
  | zero => exact Nat.le_refl _
  | succ k ih =>
    simp only [ods]
    cases h1 : t.testBit k with
    | true => rw [ht k h1, hx k h1]; simp; omega
    | false =>
      cases h2 : u.testBit k with
      | true => rw [hu k h2]; simp; omega
      | false => simp; omega
theorem prt_apart {Rl : Nat → Nat → Bool} {c s g i : Nat} (h : (prt Rl c s g 1).testBit i = true) : (prt Rl c s g 0).testBit i = false := by
  rw [prt_bit] at h ⊢
  simp only [Bool.and_eq_true, decide_eq_true_eq] at h
  have : aof Rl g i ≠ 0 := by omega
  simp [this]
/-- in the mean: at most their number times their odds -/
theorem sum_le (Rl : Nat → Nat → Bool) (c : Nat) (od : Nat → Nat) : ∀ s, s < 2 ^ c → cst Rl c (fun s => ods od s c) (fun a b => a + b) s ≤ pc s c * ods od s c := by
  intro s
  induction s using Nat.strongRecOn with
  | ind s ih =>
    intro hs
    by_cases h0 : s = 0
    · subst h0; rw [cst_0]; exact Nat.zero_le _
    · obtain ⟨g, hg, hb⟩ := bit_of_ne h0 hs
      rw [cst_s h0]
      have h1 := amin_le_at (csv Rl c (fun s => ods od s c) (fun a b => a + b) s) 1048576 c g hg
      rw [csv_mem hb] at h1
      have key : ∀ a, a ≤ 1 → cst Rl c (fun s => ods od s c) (fun a b => a + b) (prt Rl c s g a) ≤ (pc s c - 1) * ods od (prt Rl c s g a) c := by
        intro a ha
        refine Nat.le_trans (ih _ (prt_mem hb ha) prt_lt) (Nat.mul_le_mul_right _ ?_)
        have : pc (prt Rl c s g a) c < pc s c := by
          refine pc_lt_of_sub (g := g) (fun i => prt_sub) hb ?_ hg
          rw [prt_bit]
          have : aof Rl g g ≠ a := by simp only [aof, if_true]; omega
          simp [this]
        omega
      have k1 := key 1 (by omega)
      have k0 := key 0 (by omega)
      have hp := ods_parts od c (s := s) (t := prt Rl c s g 1) (u := prt Rl c s g 0) (fun i => prt_sub) (fun i => prt_sub) (fun i => prt_apart)
      have h3 : (pc s c - 1) * ods od (prt Rl c s g 1) c + (pc s c - 1) * ods od (prt Rl c s g 0) c ≤ (pc s c - 1) * ods od s c := by
        rw [← Nat.mul_add]; exact Nat.mul_le_mul_left _ hp
      have hpos := pc_pos h0 hs
      have h4 : pc s c * ods od s c = (pc s c - 1) * ods od s c + ods od s c := by
        rw [← Nat.succ_mul]; congr 1; omega
      omega
theorem ods_pos {f : Nat → Nat} {s k : Nat} (h0 : s ≠ 0) (hs : s < 2 ^ k) (h1 : ∀ i, i < k → 1 ≤ f i) : 0 < ods f s k := by
  obtain ⟨g, hg, hb⟩ := bit_of_ne h0 hs
  have key : ∀ j, g < j → j ≤ k → 0 < ods f s j := by
    intro j hj hk
    induction j with
    | zero => omega
    | succ j ih =>
      simp only [ods]
      by_cases e : g = j
      · subst e; rw [if_pos hb]; have := h1 g hg; omega
      · have := ih (by omega) (by omega); omega
  exact key k hg (Nat.le_refl _)
/-- likely(): part Y of the fraction, or what is refused -/
def lkl (c X Y s : Nat) (od : Nat → Nat) : Int := if X < c ∧ Y ≤ 1 then (if s = 0 then -2 else (((if Y = 0 then (if s.testBit X = true then od X else 0) else ods od s c) / Nat.gcd (if s.testBit X = true then od X else 0) (ods od s c) : Nat) : Int)) else -1
def wst (Rl : Nat → Nat → Bool) (c s g : Nat) : Nat := max (pc (prt Rl c s g 1) 26) (pc (prt Rl c s g 0) 26)
def nxt (Rl : Nat → Nat → Bool) (c Y s : Nat) : Nat := if Y ≤ 1 then (if s = 0 then 4294967294 else if Y = 0 then (amin (wst Rl c s) 1000 c).2 else (amin (wst Rl c s) 1000 c).1) else 4294967295
