/-! NUMBERS: an int as nI of a natural below 2^32; a long as lZ of an integer -/
theorem z_and (a b : Nat) : nI a &&& nI b = nI (a &&& b) := by
  apply Int32.toBitVec_inj.1
  show BitVec.ofNat 32 a &&& BitVec.ofNat 32 b = BitVec.ofNat 32 (a &&& b)
  apply BitVec.eq_of_getLsbD_eq
  intro i hi
  simp [hi]
theorem z_or (a b : Nat) : nI a ||| nI b = nI (a ||| b) := by
  apply Int32.toBitVec_inj.1
  show BitVec.ofNat 32 a ||| BitVec.ofNat 32 b = BitVec.ofNat 32 (a ||| b)
  apply BitVec.eq_of_getLsbD_eq
  intro i hi
  simp [hi]
theorem z_xor (a b : Nat) : nI a ^^^ nI b = nI (a ^^^ b) := by
  apply Int32.toBitVec_inj.1
  show BitVec.ofNat 32 a ^^^ BitVec.ofNat 32 b = BitVec.ofNat 32 (a ^^^ b)
  apply BitVec.eq_of_getLsbD_eq
  intro i hi
  simp [hi]
theorem z_mod (a : Nat) : nI (a % 4294967296) = nI a := by
  apply Int32.toBitVec_inj.1
  show BitVec.ofNat 32 (a % 4294967296) = BitVec.ofNat 32 a
  apply BitVec.eq_of_toNat_eq
  simp
theorem z_eq {a b : Nat} (ha : a < 4294967296) (hb : b < 4294967296) : nI a = nI b ↔ a = b := by
  constructor
  · intro h
    have h1 := congrArg (fun x : Int32 => x.toBitVec.toNat) h
    simp only [pk_tn (n := a) (by omega), pk_tn (n := b) (by omega)] at h1
    exact h1
  · intro h; rw [h]
theorem z_of (x : Int32) : ∃ n, n < 4294967296 ∧ x = nI n := by
  refine ⟨x.toBitVec.toNat, x.toBitVec.isLt, ?_⟩
  apply Int32.toBitVec_inj.1
  show x.toBitVec = BitVec.ofNat 32 x.toBitVec.toNat
  simp
/-- the signed value -/
def z_s (a : Nat) : Int := (nI a).toInt
theorem z_s_lo {a : Nat} (h : a < 2147483648) : z_s a = a := nI_toInt h
theorem z_s_hi {a : Nat} (h : 2147483648 ≤ a) (h2 : a < 4294967296) : z_s a = (a : Int) - 4294967296 := by
  show (BitVec.ofNat 32 a).toInt = _
  rw [BitVec.toInt_eq_toNat_cond, BitVec.toNat_ofNat]
  rw [Nat.mod_eq_of_lt (by omega), if_neg (by omega)]
  rfl
theorem z_lt {a b : Nat} : nI a < nI b ↔ z_s a < z_s b := Int32.lt_iff_toInt_lt
theorem z_le {a b : Nat} : nI a ≤ nI b ↔ z_s a ≤ z_s b := Int32.le_iff_toInt_le
theorem z_s_rng (a : Nat) : -2147483648 ≤ z_s a ∧ z_s a < 2147483648 := by
  have h1 := Int32.le_toInt (nI a)
  have h2 := Int32.toInt_lt (nI a)
  exact ⟨by simpa [z_s] using h1, by simpa [z_s] using h2⟩
theorem z_sub (a b : Nat) (hb : b ≤ 4294967296) : nI a - nI b = nI (a + 4294967296 - b) := by
  have e : nI (a + 4294967296) = nI a := by rw [← z_mod (a + 4294967296), Nat.add_mod_right, z_mod]
  rw [← e]
  exact pk_sub (by omega)
theorem z_neg (b : Nat) (hb : b ≤ 4294967296) : - nI b = nI (4294967296 - b) := by
  have h := z_sub 0 b hb
  rw [show 0 + 4294967296 - b = 4294967296 - b by omega] at h
  rw [← h]
  show - nI b = 0 - nI b
  simp
theorem z_shl (a : Nat) {b : Nat} (hb : b < 32) : nI a <<< (nI b &&& 31) = nI (a * 2 ^ b) := by
  have hs : ∀ n, n < 32 → ((nI n &&& 31).toBitVec.smod 32).toNat = n := by decide +kernel
  apply Int32.toBitVec_inj.mp
  apply BitVec.eq_of_toNat_eq
  rw [pk_shl _ _ b (hs b hb)]
  show (BitVec.ofNat 32 a).toNat * 2 ^ b % 2 ^ 32 = (BitVec.ofNat 32 (a * 2 ^ b)).toNat
  rw [BitVec.toNat_ofNat, BitVec.toNat_ofNat, Nat.mod_mul_mod]
theorem z_shr {a b : Nat} (ha : a < 2147483648) (hb : b < 32) : nI a >>> (nI b &&& 31) = nI (a / 2 ^ b) := by
  have hs : ∀ n, n < 32 → ((nI n &&& 31).toBitVec.smod 32).toNat = n := by decide +kernel
  exact pk_shrN ha _ b (hs b hb)
theorem z_ushr {a b : Nat} (ha : a < 4294967296) (hb : b < 32) : ((nI a).toUInt32 >>> ((nI b).toUInt32 &&& Int32.toUInt32 31)).toInt32 = nI (a / 2 ^ b) := by
  have hs : ∀ n, n < 32 → (((nI n).toUInt32 &&& Int32.toUInt32 31).toBitVec % 32).toNat = n := by decide +kernel
  exact pk_ushrN ha _ b (hs b hb)
-- longs
def lZ (z : Int) : Int64 := Int64.ofInt z
theorem lZ_of (x : Int64) : x = lZ x.toInt := (Int64.ofInt_toInt x).symm
theorem lZ_toInt {z : Int} (h1 : -9223372036854775808 ≤ z) (h2 : z < 9223372036854775808) : (lZ z).toInt = z := Int64.toInt_ofInt_of_le (by simpa using h1) (by simpa using h2)
theorem z_i2l (a : Nat) : (nI a).toInt64 = lZ (z_s a) := by
  apply Int64.toInt_inj.mp
  have h := z_s_rng a
  rw [lZ_toInt (by omega) (by omega), Int32.toInt_toInt64]
  rfl
theorem lZ_add (a b : Int) : lZ a + lZ b = lZ (a + b) := (Int64.ofInt_add a b).symm
theorem lZ_sub (a b : Int) : lZ a - lZ b = lZ (a - b) := (Int64.ofInt_sub a b).symm
theorem lZ_mul (a b : Int) : lZ a * lZ b = lZ (a * b) := (Int64.ofInt_mul a b).symm
theorem lZ_eq {a b : Int} (ha : -4611686018427387904 ≤ a ∧ a < 4611686018427387904) (hb : -4611686018427387904 ≤ b ∧ b < 4611686018427387904) : lZ a = lZ b ↔ a = b := by
  rw [← Int64.toInt_inj, lZ_toInt (by omega) (by omega), lZ_toInt (by omega) (by omega)]
theorem lZ_lt {a b : Int} (ha : -4611686018427387904 ≤ a ∧ a < 4611686018427387904) (hb : -4611686018427387904 ≤ b ∧ b < 4611686018427387904) : lZ a < lZ b ↔ a < b := by
  rw [Int64.lt_iff_toInt_lt, lZ_toInt (by omega) (by omega), lZ_toInt (by omega) (by omega)]
theorem lZ_nat (n : Nat) : lZ (n : Int) = lN n := by
  first | rfl | exact Int64.ofInt_eq_ofNat | (apply Int64.toBitVec_inj.mp; simp [lZ, lN]; done)
theorem lZ_i {n : Nat} : (lZ (n : Int)).toInt32 = nI n := by rw [lZ_nat, lN_i]
theorem lZ_div {a b : Nat} (ha : a < 2 ^ 63) (h0 : 0 < b) (hb : b < 2 ^ 63) : lZ (a : Int) / lZ (b : Int) = lZ ((a / b : Nat) : Int) := by
  rw [lZ_nat, lZ_nat, lZ_nat, pk_lDiv ha h0 hb]
theorem lZ_rem {a b : Nat} (ha : a < 2 ^ 63) (h0 : 0 < b) (hb : b < 2 ^ 63) : lZ (a : Int) - lZ (a : Int) / lZ (b : Int) * lZ (b : Int) = lZ ((a % b : Nat) : Int) := by
  rw [lZ_nat, lZ_nat, lZ_nat, pk_lRem ha h0 hb]
theorem lZ_cmp {a b : Int} (ha : -4611686018427387904 ≤ a ∧ a < 4611686018427387904) (hb : -4611686018427387904 ≤ b ∧ b < 4611686018427387904) : lg_cmp (lZ a) (lZ b) = if b < a then 1 else if a = b then 0 else -1 := by
  simp only [lg_cmp, gt_iff_lt, lZ_lt hb ha, lZ_eq ha hb]
