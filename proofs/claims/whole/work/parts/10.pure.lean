/-! PURE: what the methods compute, in words of numbers and functions -/
theorem dn_loop {P : Nat → Prop} (b : Nat) (hx : P b) (hs : ∀ i, i < b → P (i + 1) → P i) : ∀ i, i ≤ b → P i := by
  have h : ∀ k i, i + k = b → P i := by
    intro k
    induction k with
    | zero => intro i hi; have : i = b := by omega
              subst this; exact hx
    | succ k ih => intro i hi; exact hs i (by omega) (ih (i + 1) (by omega))
  exact fun i hi => h (b - i) i (by omega)
abbrev RG (z : Int) : Prop := -4611686018427387904 ≤ z ∧ z < 4611686018427387904
theorem RG_s (a : Nat) : RG (z_s a) := by have := z_s_rng a; constructor <;> omega
/-- in how many of the first k places two names differ -/
def unl (lt : Nat → Nat → Nat) (n m : Nat) : Nat → Nat
  | 0 => 0
  | k + 1 => unl lt n m k + if lt n k = lt m k then 0 else 1
/-- the set of the first k letters -/
def lst (f : Nat → Nat) : Nat → Nat
  | 0 => 0
  | k + 1 => lst f k ||| 2 ^ f k
def vwl (x : Nat) : Nat := if x = 0 ∨ x = 4 ∨ x = 8 ∨ x = 14 ∨ x = 20 then 1 else 0
/-- how many of the first k letters sound -/
def vws (f : Nat → Nat) : Nat → Nat
  | 0 => 0
  | k + 1 => vws f k + vwl (f k)
def dst (a b : Nat) : Nat := if a < b then b - a else a - b
/-- how many of the lowest k bits -/
def pc (s : Nat) : Nat → Nat
  | 0 => 0
  | k + 1 => pc s k + s / 2 ^ k % 2
theorem unl_le (lt : Nat → Nat → Nat) (n m k : Nat) : unl lt n m k ≤ k := by
  induction k with
  | zero => exact Nat.le_refl _
  | succ k ih => simp only [unl]; split <;> omega
theorem vws_le (f : Nat → Nat) (k : Nat) : vws f k ≤ k := by
  induction k with
  | zero => exact Nat.le_refl _
  | succ k ih => simp only [vws, vwl]; split <;> omega
theorem pc_le (s k : Nat) : pc s k ≤ k := by
  induction k with
  | zero => exact Nat.le_refl _
  | succ k ih => simp only [pc]; omega
theorem lst_lt (f : Nat → Nat) (k : Nat) (h : ∀ i, i < k → f i < 26) : lst f k < 2 ^ 26 := by
  induction k with
  | zero => exact Nat.two_pow_pos _
  | succ k ih =>
    simp only [lst]
    exact Nat.or_lt_two_pow (ih (fun i hi => h i (by omega))) (Nat.pow_lt_pow_of_lt (by omega) (h k (by omega)))
/-- near, by a law -/
def nr (kd ms : Nat) (ln : Nat → Nat) (lt : Nat → Nat → Nat) (ls vw : Nat → Nat) (n m : Nat) : Bool :=
  match kd with
  | 0 => decide (ln n = ln m ∧ unl lt n m (ln n) ≤ ms)
  | 1 => decide (ms ≤ ln n ∧ ms ≤ ln m ∧ unl lt n m ms = 0)
  | 2 => decide (dst (ln n) (ln m) ≤ ms)
  | 3 => decide (ms ≤ pc (ls n &&& ls m) 26)
  | _ => decide (dst (vw n) (vw m) ≤ ms)
/-- the set of those below k of which p holds -/
def mk (p : Nat → Bool) : Nat → Nat
  | 0 => 0
  | k + 1 => mk p k ||| (if p k = true then 2 ^ k else 0)
theorem mk_lt (p : Nat → Bool) (k : Nat) : mk p k < 2 ^ k := by
  induction k with
  | zero => exact Nat.two_pow_pos _
  | succ k ih =>
    simp only [mk]
    refine Nat.or_lt_two_pow (Nat.lt_trans ih (Nat.pow_lt_pow_of_lt (by omega) (by omega))) ?_
    split
    · exact Nat.pow_lt_pow_of_lt (by omega) (by omega)
    · exact Nat.two_pow_pos _
theorem mk_bit (p : Nat → Bool) (k i : Nat) : (mk p k).testBit i = (decide (i < k) && p i) := by
  induction k with
  | zero => simp [mk]
  | succ k ih =>
    simp only [mk, Nat.testBit_or, ih]
    by_cases hp : p k = true
    · rw [if_pos hp, Nat.testBit_two_pow]
      by_cases hi : k = i
      · subst hi; simp [hp]
      · have : decide (i < k + 1) = decide (i < k) := by rw [decide_eq_decide]; omega
        simp [hi, this]
    · rw [if_neg hp]
      by_cases hi : k = i
      · subst hi; simp [hp]
      · have : decide (i < k + 1) = decide (i < k) := by rw [decide_eq_decide]; omega
        simp [this]
theorem bit_ext {a b : Nat} (h : ∀ i, a.testBit i = b.testBit i) : a = b := Nat.eq_of_testBit_eq h
theorem mk_ext {p q : Nat → Bool} {k : Nat} (h : ∀ i, i < k → p i = q i) : mk p k = mk q k := by
  apply bit_ext
  intro i
  rw [mk_bit, mk_bit]
  by_cases hi : i < k
  · rw [h i hi]
  · simp [hi]
theorem mk_all (k : Nat) : mk (fun _ => true) k = 2 ^ k - 1 := by
  apply bit_ext
  intro i
  rw [mk_bit, Nat.testBit_two_pow_sub_one]
  simp
theorem mk_of_lt {s k : Nat} (h : s < 2 ^ k) : mk s.testBit k = s := by
  apply bit_ext
  intro i
  rw [mk_bit]
  by_cases hi : i < k
  · simp [hi]
  · have : s.testBit i = false := Nat.testBit_lt_two_pow (Nat.lt_of_lt_of_le h (Nat.pow_le_pow_right (by decide) (by omega)))
    simp [this]
theorem M32_bit (i : Nat) : (4294967295 : Nat).testBit i = decide (i < 32) := by
  rw [show (4294967295 : Nat) = 2 ^ 32 - 1 from rfl, Nat.testBit_two_pow_sub_one]
theorem mk_and (p q : Nat → Bool) (k : Nat) : mk p k &&& mk q k = mk (fun i => p i && q i) k := by
  apply bit_ext
  intro i
  simp only [Nat.testBit_and, mk_bit]
  cases decide (i < k) <;> simp
theorem mk_andN (p q : Nat → Bool) {k : Nat} (hk : k ≤ 32) : mk p k &&& (mk q k ^^^ 4294967295) = mk (fun i => p i && !q i) k := by
  apply bit_ext
  intro i
  simp only [Nat.testBit_and, Nat.testBit_xor, mk_bit, M32_bit]
  by_cases hi : i < k
  · have : i < 32 := by omega
    simp [hi, this]
  · simp [hi]
theorem pow_bit (g i : Nat) : (1 * 2 ^ g).testBit i = decide (g = i) := by rw [Nat.one_mul, Nat.testBit_two_pow]
theorem div_bit (s k : Nat) : (s / 2 ^ k) &&& 1 = (s.testBit k).toNat := by
  rw [Nat.testBit_eq_decide_div_mod_eq, Nat.and_one_is_mod]
  rcases Nat.mod_two_eq_zero_or_one (s / 2 ^ k) with h | h <;> simp [h]
theorem div_bit2 (s k : Nat) : s / 2 ^ k % 2 = (s.testBit k).toNat := by rw [← div_bit, Nat.and_one_is_mod]
theorem lt_of_sub_mask {s t k : Nat} (h : t < 2 ^ k) : s &&& t < 2 ^ k := Nat.lt_of_le_of_lt Nat.and_le_right h
theorem pc_ext {s t k : Nat} (h : ∀ i, i < k → s.testBit i = t.testBit i) : pc s k = pc t k := by
  induction k with
  | zero => rfl
  | succ k ih => simp only [pc, div_bit2]; rw [ih (fun i hi => h i (by omega)), h k (by omega)]
theorem pc_hi {s k j : Nat} (hs : s < 2 ^ k) (hk : k ≤ j) : pc s j = pc s k := by
  induction j with
  | zero => have : k = 0 := by omega
            subst this; rfl
  | succ j ih =>
    by_cases h : k = j + 1
    · rw [h]
    · simp only [pc, div_bit2]
      rw [ih (by omega), Nat.testBit_lt_two_pow (Nat.lt_of_lt_of_le hs (Nat.pow_le_pow_right (by decide) (by omega)))]
      rfl
theorem pc_pos {s k : Nat} (h : s ≠ 0) (hs : s < 2 ^ k) : 0 < pc s k := by
  rcases Nat.eq_zero_or_pos (pc s k) with h0 | h0
  · exfalso
    have all : ∀ j, j ≤ k → pc s j = 0 := by
      have mono : ∀ j, pc s j ≤ pc s (j + 1) := fun j => by simp only [pc]; omega
      have mono2 : ∀ d j, pc s j ≤ pc s (j + d) := by
        intro d
        induction d with
        | zero => intro j; exact Nat.le_refl _
        | succ d ih => intro j; exact Nat.le_trans (ih j) (mono (j + d))
      intro j hj
      have := mono2 (k - j) j
      rw [show j + (k - j) = k by omega] at this
      omega
    apply h
    apply bit_ext
    intro i
    rw [Nat.zero_testBit]
    by_cases hi : i < k
    · have h1 := all (i + 1) (by omega)
      simp only [pc, div_bit2] at h1
      cases hb : s.testBit i with
      | false => rfl
      | true => rw [hb] at h1; simp at h1
    · exact Nat.testBit_lt_two_pow (Nat.lt_of_lt_of_le hs (Nat.pow_le_pow_right (by decide) (by omega)))
  · exact h0
/-! Integer.bitCount -/
theorem and_split {a b m n : Nat} (ha : a < 256) (hm : m < 256) : (a + 256 * b) &&& (m + 256 * n) = (a &&& m) + 256 * (b &&& n) := by
  have e : ∀ x y : Nat, x < 256 → x + 256 * y = 2 ^ 8 * y + x := fun x y _ => by omega
  have hm2 : a &&& m < 256 := Nat.lt_of_le_of_lt Nat.and_le_left ha
  rw [e a b ha, e m n hm, e _ _ hm2]
  apply bit_ext
  intro i
  rw [Nat.testBit_and, Nat.testBit_two_pow_mul_add _ ha, Nat.testBit_two_pow_mul_add _ hm, Nat.testBit_two_pow_mul_add _ hm2]
  by_cases hi : i < 8 <;> simp [hi]
theorem b5_1 : ∀ a, a < 256 → ∀ c, c < 2 → (a / 2 + 128 * c) &&& 85 = (a / 2) &&& 85 := by decide +kernel
theorem b3_1 : ∀ a, a < 256 → ∀ c, c < 4 → (a / 4 + 64 * c) &&& 51 = (a / 4) &&& 51 := by decide +kernel
theorem bf_1 : ∀ a, a < 69 → ∀ c, c < 16 → (a + a / 16 + 16 * c) &&& 15 = (a + a / 16) &&& 15 := by decide +kernel
theorem b5_split {a b n : Nat} (ha : a < 256) : ((a + 256 * b) / 2) &&& (85 + 256 * n) = ((a / 2) &&& 85) + 256 * ((b / 2) &&& n) := by
  rw [show (a + 256 * b) / 2 = (a / 2 + 128 * (b % 2)) + 256 * (b / 2) by omega, and_split (by omega) (by omega), b5_1 a ha _ (by omega)]
theorem b3_split {a b n : Nat} (ha : a < 256) : ((a + 256 * b) / 4) &&& (51 + 256 * n) = ((a / 4) &&& 51) + 256 * ((b / 4) &&& n) := by
  rw [show (a + 256 * b) / 4 = (a / 4 + 64 * (b % 4)) + 256 * (b / 4) by omega, and_split (by omega) (by omega), b3_1 a ha _ (by omega)]
def c1 (a : Nat) : Nat := a - ((a / 2) &&& 85)
def c2 (a : Nat) : Nat := (c1 a &&& 51) + ((c1 a / 4) &&& 51)
def c3 (a : Nat) : Nat := (c2 a + c2 a / 16) &&& 15
theorem c_ok : ∀ a, a < 256 → ((a / 2) &&& 85 ≤ a ∧ c1 a < 256) ∧ (c2 a < 69 ∧ (c2 a / 16 ≤ 4 ∧ (c3 a = pc a 8 ∧ c3 a ≤ 8))) := by decide +kernel
theorem pc_split {a b k : Nat} (ha : a < 256) : pc (a + 256 * b) (8 + k) = pc a 8 + pc b k := by
  have e : a + 256 * b = 2 ^ 8 * b + a := by omega
  induction k with
  | zero =>
    show pc _ 8 = pc a 8 + 0
    rw [Nat.add_zero]
    apply pc_ext
    intro i hi
    rw [e, Nat.testBit_two_pow_mul_add _ ha]
    simp [hi]
  | succ k ih =>
    show pc (a + 256 * b) (8 + k) + (a + 256 * b) / 2 ^ (8 + k) % 2 = pc a 8 + (pc b k + b / 2 ^ k % 2)
    rw [ih, div_bit2, div_bit2, e, Nat.testBit_two_pow_mul_add _ ha]
    rw [if_neg (by omega), show 8 + k - 8 = k by omega]
    omega
theorem bc_fin (p q r t : Nat) (hp : p ≤ 8) (hq : q ≤ 8) (hr : r ≤ 8) (ht : t ≤ 8) : (p + 256 * (q + 256 * (r + 256 * t)) + (p + 256 * (q + 256 * (r + 256 * t))) / 2 ^ 8 + (p + 256 * (q + 256 * (r + 256 * t)) + (p + 256 * (q + 256 * (r + 256 * t))) / 2 ^ 8) / 2 ^ 16) % 2 ^ 6 = p + (q + (r + t)) := by
  have e1 : (p + 256 * (q + 256 * (r + 256 * t))) / 2 ^ 8 = q + 256 * (r + 256 * t) := by omega
  rw [e1]
  have e2 : (p + 256 * (q + 256 * (r + 256 * t)) + (q + 256 * (r + 256 * t))) / 2 ^ 16 = (r + t) + 256 * t := by omega
  rw [e2]
  omega
/-- the numbers of bitCount's road, for x below 2^26 -/
theorem bc_road (x : Nat) (hx : x < 67108864) : ∃ x1 x2 x3 : Nat, (x / 2 ^ 1) &&& 1431655765 ≤ x ∧ x - ((x / 2 ^ 1) &&& 1431655765) = x1 ∧ x1 < 4294967296 ∧ (x1 &&& 858993459) + ((x1 / 2 ^ 2) &&& 858993459) = x2 ∧ x2 < 2147483648 ∧ (x2 + x2 / 2 ^ 4) &&& 252645135 = x3 ∧ x3 < 252645136 ∧ (x3 + x3 / 2 ^ 8 + (x3 + x3 / 2 ^ 8) / 2 ^ 16) &&& 63 = pc x 26 := by
  obtain ⟨a, b, c, d, ha, hb, hc, hd, hxe⟩ : ∃ a b c d : Nat, a < 256 ∧ b < 256 ∧ c < 256 ∧ d < 4 ∧ x = a + 256 * (b + 256 * (c + 256 * d)) := ⟨x % 256, x / 256 % 256, x / 65536 % 256, x / 16777216, by omega, by omega, by omega, by omega, by omega⟩
  have hd' : d < 256 := by omega
  obtain ⟨⟨qa1, qa2⟩, qa3, qa4, qa5, qa6⟩ := c_ok a ha
  obtain ⟨⟨qb1, qb2⟩, qb3, qb4, qb5, qb6⟩ := c_ok b hb
  obtain ⟨⟨qc1, qc2⟩, qc3, qc4, qc5, qc6⟩ := c_ok c hc
  obtain ⟨⟨qd1, qd2⟩, qd3, qd4, qd5, qd6⟩ := c_ok d hd'
  have e1 : (x / 2 ^ 1) &&& 1431655765 = ((a / 2) &&& 85) + 256 * (((b / 2) &&& 85) + 256 * (((c / 2) &&& 85) + 256 * ((d / 2) &&& 85))) := by
    rw [hxe, show (2 : Nat) ^ 1 = 2 from rfl, show (1431655765 : Nat) = 85 + 256 * (85 + 256 * (85 + 256 * 85)) from rfl, b5_split ha, b5_split hb, b5_split hc]
  have f1 : x - ((x / 2 ^ 1) &&& 1431655765) = c1 a + 256 * (c1 b + 256 * (c1 c + 256 * c1 d)) := by
    rw [e1, hxe]; simp only [c1]; omega
  have f2 : ((c1 a + 256 * (c1 b + 256 * (c1 c + 256 * c1 d))) &&& 858993459) + (((c1 a + 256 * (c1 b + 256 * (c1 c + 256 * c1 d))) / 2 ^ 2) &&& 858993459) = c2 a + 256 * (c2 b + 256 * (c2 c + 256 * c2 d)) := by
    rw [show (2 : Nat) ^ 2 = 4 from rfl, show (858993459 : Nat) = 51 + 256 * (51 + 256 * (51 + 256 * 51)) from rfl, b3_split qa2, b3_split qb2, b3_split qc2, and_split qa2 (by omega), and_split qb2 (by omega), and_split qc2 (by omega)]
    simp only [c2]; omega
  have f3 : ((c2 a + 256 * (c2 b + 256 * (c2 c + 256 * c2 d))) + (c2 a + 256 * (c2 b + 256 * (c2 c + 256 * c2 d))) / 2 ^ 4) &&& 252645135 = c3 a + 256 * (c3 b + 256 * (c3 c + 256 * c3 d)) := by
    rw [show (2 : Nat) ^ 4 = 16 from rfl]
    rw [show (c2 a + 256 * (c2 b + 256 * (c2 c + 256 * c2 d))) + (c2 a + 256 * (c2 b + 256 * (c2 c + 256 * c2 d))) / 16 = (c2 a + c2 a / 16 + 16 * (c2 b % 16)) + 256 * ((c2 b + c2 b / 16 + 16 * (c2 c % 16)) + 256 * ((c2 c + c2 c / 16 + 16 * (c2 d % 16)) + 256 * (c2 d + c2 d / 16))) by omega]
    by_cases h1 : c2 a + c2 a / 16 + 16 * (c2 b % 16) < 256
    · by_cases h2 : c2 b + c2 b / 16 + 16 * (c2 c % 16) < 256
      · by_cases h3 : c2 c + c2 c / 16 + 16 * (c2 d % 16) < 256
        · rw [show (252645135 : Nat) = 15 + 256 * (15 + 256 * (15 + 256 * 15)) from rfl, and_split h1 (by omega), and_split h2 (by omega), and_split h3 (by omega), bf_1 _ qa3 _ (by omega), bf_1 _ qb3 _ (by omega), bf_1 _ qc3 _ (by omega)]
          rfl
        · exfalso; have : c2 d % 16 ≤ 4 := (by decide +kernel : ∀ d, d < 256 → c2 d % 16 ≤ 4) d hd'; omega
      · exfalso; have : c2 c % 16 ≤ 4 := (by decide +kernel : ∀ d, d < 256 → c2 d % 16 ≤ 4) c hc; omega
    · exfalso; have : c2 b % 16 ≤ 4 := (by decide +kernel : ∀ d, d < 256 → c2 d % 16 ≤ 4) b hb; omega
  refine ⟨_, _, _, ?_, f1, ?_, f2, ?_, f3, ?_, ?_⟩
  · rw [e1, hxe]; omega
  · omega
  · omega
  · omega
  · rw [show (63 : Nat) = 2 ^ 6 - 1 from rfl, Nat.and_two_pow_sub_one_eq_mod]
    have hp : pc x 32 = pc x 26 := pc_hi (k := 26) (by simpa using hx) (by omega)
    rw [← hp, hxe, show 32 = 8 + (8 + (8 + 8)) from rfl, pc_split ha, pc_split hb, pc_split hc, ← qa5, ← qb5, ← qc5, ← qd5]
    exact bc_fin _ _ _ _ qa6 qb6 qc6 qd6
/-! the place of a bit among those of a set -/
def kth (s k : Nat) : Nat := ((List.range 9).find? (fun n => s.testBit n && pc s n == k)).getD 0
theorem pc_mono {s i j : Nat} (h : i ≤ j) : pc s i ≤ pc s j := by
  induction j with
  | zero => have : i = 0 := by omega
            subst this; exact Nat.le_refl _
  | succ j ih =>
    by_cases e : i = j + 1
    · rw [e]; exact Nat.le_refl _
    · exact Nat.le_trans (ih (by omega)) (by simp only [pc]; omega)
theorem pc_inj {s i j : Nat} (hi : s.testBit i = true) (hj : s.testBit j = true) (h : pc s i = pc s j) : i = j := by
  have key : ∀ a b : Nat, s.testBit a = true → a < b → pc s a < pc s b := by
    intro a b ha hab
    have h1 : pc s (a + 1) = pc s a + 1 := by simp only [pc, div_bit2, ha]; rfl
    have h2 := pc_mono (s := s) (i := a + 1) (j := b) (by omega)
    omega
  rcases Nat.lt_trichotomy i j with q | q | q
  · have := key i j hi q; omega
  · exact q
  · have := key j i hj q; omega
theorem kth_eq {s k n : Nat} (hn : n < 9) (hb : s.testBit n = true) (hk : pc s n = k) : kth s k = n := by
  unfold kth
  cases hf : (List.range 9).find? (fun n => s.testBit n && pc s n == k) with
  | none =>
    have := List.find?_eq_none.mp hf n (List.mem_range.mpr hn)
    simp [hb, hk] at this
  | some m =>
    have h1 := List.find?_some hf
    simp only [Bool.and_eq_true, beq_iff_eq] at h1
    exact pc_inj h1.1 hb (h1.2.trans hk.symm)
