theorem mxf_at {f : Nat → Nat} {k i : Nat} (h : i < k) : f i ≤ mxf f k := by
  induction k with
  | zero => omega
  | succ k ih =>
    simp only [mxf]
    by_cases e : i = k
    · subst e; split <;> omega
    · have := ih (by omega); split <;> omega
theorem mxf_lb {f : Nat → Nat} {k b : Nat} (h : ∀ i, i < k → f i ≤ b) : mxf f k ≤ b := by
  induction k with
  | zero => exact Nat.zero_le _
  | succ k ih => simp only [mxf]; split
                 · exact h k (by omega)
                 · exact ih (fun i hi => h i (by omega))
/-- how many of s answer as x does -/
abbrev clz (c s : Nat) (E : Nat → Nat → Bool) (x : Nat) : Nat := cnt (fun n => s.testBit n && E n x) c
/-- the greatest part of s -/
def gm (c s : Nat) (E : Nat → Nat → Bool) : Nat := mxf (fun x => if s.testBit x = true then clz c s E x else 0) c
theorem gm_congr {c s : Nat} {E F : Nat → Nat → Bool} (h : ∀ n x, n < c → x < c → E n x = F n x) : gm c s E = gm c s F := by
  apply Nat.le_antisymm
  · refine mxf_lb (fun x hx => ?_)
    refine Nat.le_trans (Nat.le_of_eq ?_) (mxf_at (f := fun x => if s.testBit x = true then clz c s F x else 0) hx)
    show (if s.testBit x = true then clz c s E x else 0) = (if s.testBit x = true then clz c s F x else 0)
    rw [show clz c s E x = clz c s F x from cnt_ext (fun n hn => by rw [h n x hn hx])]
  · refine mxf_lb (fun x hx => ?_)
    refine Nat.le_trans (Nat.le_of_eq ?_) (mxf_at (f := fun x => if s.testBit x = true then clz c s E x else 0) hx)
    show (if s.testBit x = true then clz c s F x else 0) = (if s.testBit x = true then clz c s E x else 0)
    rw [show clz c s E x = clz c s F x from cnt_ext (fun n hn => by rw [h n x hn hx])]
theorem gm_le {c s : Nat} {E : Nat → Nat → Bool} : gm c s E ≤ c := by
  refine mxf_lb (fun x _ => ?_)
  show (if s.testBit x = true then clz c s E x else 0) ≤ c
  split
  · exact cnt_le _ _
  · omega
/-- the greatest part by codes below K is the greatest part -/
theorem gm_codes {c s K : Nat} {f v : Nat → Nat} {E : Nat → Nat → Bool} (hE : ∀ n x, n < c → x < c → E n x = decide (v n = v x)) (hv : ∀ n, n < c → v n < K) (hf : ∀ a, a < K → f a = cnt (fun n => s.testBit n && decide (v n = a)) c) : mxf f K = gm c s E := by
  apply Nat.le_antisymm
  · refine mxf_lb (fun a ha => ?_)
    rw [hf a ha]
    rcases Nat.eq_zero_or_pos (cnt (fun n => s.testBit n && decide (v n = a)) c) with h0 | h0
    · omega
    · obtain ⟨x, hx, hb⟩ := cnt_ex h0
      rw [Bool.and_eq_true, decide_eq_true_eq] at hb
      refine Nat.le_trans (Nat.le_of_eq ?_) (mxf_at (f := fun x => if s.testBit x = true then clz c s E x else 0) hx)
      show _ = (if s.testBit x = true then clz c s E x else 0)
      rw [if_pos hb.1]
      exact cnt_ext (fun n hn => by rw [hE n x hn hx, hb.2])
  · refine mxf_lb (fun x hx => ?_)
    show (if s.testBit x = true then clz c s E x else 0) ≤ _
    split
    · refine Nat.le_trans (Nat.le_of_eq ?_) (mxf_at (f := f) (hv x hx))
      rw [hf _ (hv x hx)]
      exact cnt_ext (fun n hn => by rw [hE n x hn hx])
    · exact Nat.zero_le _
theorem aof_le {Rl : Nat → Nat → Bool} {g n : Nat} : aof Rl g n ≤ 2 := by
  simp only [aof]; split <;> (try split) <;> omega
/-- two names answer a row of guesses alike -/
def alk (Rl : Nat → Nat → Bool) (r : Nat → Nat) (n x y : Nat) : Bool := alw (fun k => decide (aof Rl (r k) x = aof Rl (r k) y)) n
/-- the answers to a row as a number -/
def cde (Rl : Nat → Nat → Bool) (r : Nat → Nat) : Nat → Nat → Nat
  | 0, _ => 0
  | k + 1, x => cde Rl r k x + 3 ^ k * aof Rl (r k) x
theorem cde_lt {Rl : Nat → Nat → Bool} {r : Nat → Nat} (n x : Nat) : cde Rl r n x < 3 ^ n := by
  induction n with
  | zero => simp [cde]
  | succ k ih =>
    simp only [cde]
    have := aof_le (Rl := Rl) (g := r k) (n := x)
    have h2 : 3 ^ k * aof Rl (r k) x ≤ 3 ^ k * 2 := Nat.mul_le_mul_left _ this
    rw [Nat.pow_succ]
    omega
theorem cde_eq {Rl : Nat → Nat → Bool} {r : Nat → Nat} (n x y : Nat) : alk Rl r n x y = decide (cde Rl r n x = cde Rl r n y) := by
  induction n with
  | zero => simp [alk, alw, cde]
  | succ k ih =>
    have e : alk Rl r (k + 1) x y = (alk Rl r k x y && decide (aof Rl (r k) x = aof Rl (r k) y)) := rfl
    rw [e, ih, ← Bool.decide_and]
    refine decide_eq_decide.mpr ?_
    simp only [cde]
    have l1 := cde_lt (Rl := Rl) (r := r) k x
    have l2 := cde_lt (Rl := Rl) (r := r) k y
    constructor
    · rintro ⟨h1, h2⟩; rw [h1, h2]
    · intro h
      have hp : 0 < 3 ^ k := Nat.pow_pos (by omega)
      have m1 : (cde Rl r k x + 3 ^ k * aof Rl (r k) x) % 3 ^ k = cde Rl r k x := by rw [Nat.add_mul_mod_self_left, Nat.mod_eq_of_lt l1]
      have m2 : (cde Rl r k y + 3 ^ k * aof Rl (r k) y) % 3 ^ k = cde Rl r k y := by rw [Nat.add_mul_mod_self_left, Nat.mod_eq_of_lt l2]
      have e1 : cde Rl r k x = cde Rl r k y := by rw [← m1, h, m2]
      refine ⟨e1, ?_⟩
      rw [e1] at h
      exact Nat.eq_of_mul_eq_mul_left hp (Nat.add_left_cancel h)
theorem gpt_2 {Rl : Nat → Nat → Bool} {c : Nat} {r : Nat → Nat} {s a : Nat} (k : Nat) : (gpt Rl c r s a k).2 = a / 3 ^ k := by
  induction k with
  | zero => simp [gpt]
  | succ k ih => simp only [gpt]; rw [ih, Nat.div_div_eq_div_mul, Nat.pow_succ]
theorem gpt_bit {Rl : Nat → Nat → Bool} {c : Nat} {r : Nat → Nat} {s a n : Nat} (hn : n < c) (k : Nat) : (gpt Rl c r s a k).1.testBit n = (s.testBit n && decide (cde Rl r k n = a % 3 ^ k)) := by
  induction k with
  | zero => simp [gpt, cde, Nat.mod_one]
  | succ k ih =>
    simp only [gpt]
    rw [prt_bit, ih, decide_eq_true hn, Bool.true_and, Bool.and_assoc, ← Bool.decide_and, gpt_2]
    congr 1
    refine decide_eq_decide.mpr ?_
    simp only [cde]
    have l1 := cde_lt (Rl := Rl) (r := r) k n
    have hp : 0 < 3 ^ k := Nat.pow_pos (by omega)
    rw [Nat.pow_succ, Nat.mod_mul]
    have l2 := Nat.mod_lt a hp
    constructor
    · rintro ⟨h1, h2⟩; rw [h1, h2]
    · intro h
      have m1 : (cde Rl r k n + 3 ^ k * aof Rl (r k) n) % 3 ^ k = cde Rl r k n := by rw [Nat.add_mul_mod_self_left, Nat.mod_eq_of_lt l1]
      have m2 : (a % 3 ^ k + 3 ^ k * (a / 3 ^ k % 3)) % 3 ^ k = a % 3 ^ k := by rw [Nat.add_mul_mod_self_left, Nat.mod_eq_of_lt l2]
      have e1 : cde Rl r k n = a % 3 ^ k := by rw [← m1, h, m2]
      refine ⟨e1, ?_⟩
      rw [e1] at h
      exact Nat.eq_of_mul_eq_mul_left hp (Nat.add_left_cancel h)
theorem grt_gm {Rl : Nat → Nat → Bool} {c : Nat} {r : Nat → Nat} {s n : Nat} (hc : c ≤ 9) (hs : s < 2 ^ c) (hn : n ≤ 3) : grt Rl c r s n = gm c s (alk Rl r n) := by
  have h27 : 3 ^ n ≤ 27 := by
    have := Nat.pow_le_pow_right (n := 3) (by omega) hn
    exact this
  refine gm_codes (v := cde Rl r n) (fun a b _ _ => cde_eq n a b) (fun x _ => Nat.lt_of_lt_of_le (cde_lt n x) h27) (fun a ha => ?_)
  have hl := gpt_lt (Rl := Rl) (r := r) (a := a) hs n
  simp only [gvl]
  rw [gpt_2]
  have hp : 0 < 3 ^ n := Nat.pow_pos (by omega)
  by_cases hb : a < 3 ^ n
  · rw [if_neg (by rw [Nat.div_eq_of_lt hb]; omega), ← mk_of_lt hl, pc_mk26 (by omega)]
    refine cnt_ext (fun x hx => ?_)
    rw [gpt_bit hx, Nat.mod_eq_of_lt hb]
  · rw [if_pos (Nat.div_pos (by omega) hp)]
    refine (cnt_0 (fun x _ => ?_)).symm
    have := cde_lt (Rl := Rl) (r := r) n x
    rw [decide_eq_false (by omega), Bool.and_false]
