def alw (p : Nat → Bool) : Nat → Bool
  | 0 => true
  | k + 1 => alw p k && p k
def anw (p : Nat → Bool) : Nat → Bool
  | 0 => false
  | k + 1 => anw p k || p k
def smf (f : Nat → Nat) : Nat → Nat
  | 0 => 0
  | k + 1 => smf f k + f k
theorem cnt_0 {p : Nat → Bool} {k : Nat} (h : ∀ j, j < k → p j = false) : cnt p k = 0 := by
  induction k with
  | zero => rfl
  | succ k ih => simp only [cnt]; rw [ih (fun j hj => h j (by omega)), h k (by omega)]; rfl
/-- that a and b, both of s, are told apart by no other guess -/
def twp (Rl : Nat → Nat → Bool) (a b g : Nat) : Bool := decide (g = a) || (decide (g = b) || (Rl g a == Rl g b))
def twa (Rl : Nat → Nat → Bool) (c s a b : Nat) : Bool := (s.testBit a && s.testBit b) && alw (twp Rl a b) c
def twn (Rl : Nat → Nat → Bool) (c s : Nat) : Nat := smf (fun a => cnt (fun b => decide (a < b) && twa Rl c s a b) c) c
theorem mk_sh {p : Nat → Bool} {c k : Nat} : (mk p c / 2 ^ k) &&& 1 = (decide (k < c) && p k).toNat := by rw [div_bit, mk_bit]
theorem smf_le {f : Nat → Nat} {b : Nat} (h : ∀ i, f i ≤ b) (k : Nat) : smf f k ≤ k * b := by
  induction k with
  | zero => exact Nat.zero_le _
  | succ k ih => simp only [smf, Nat.succ_mul]; have := h k; omega
/-- taken for one another -/
def mxp (pa pb : Nat → Nat) (a b k : Nat) : Bool := decide ((pa k = a ∧ pb k = b) ∨ (pa k = b ∧ pb k = a))
def mxd (pa pb : Nat → Nat) (pr a b : Nat) : Bool := decide (a = b) || anw (mxp pa pb a b) pr
def slo (pa pb : Nat → Nat) (pr : Nat) (lt wl : Nat → Nat) (x y i : Nat) : Bool := mxd pa pb pr (lt i) (wl i) || decide ((lt i = x ∧ wl i = y) ∨ (lt i = y ∧ wl i = x))
def slc (lt wl : Nat → Nat) : Nat → Nat
  | 0 => 0
  | k + 1 => slc lt wl k + if lt k = wl k then 0 else 1
/-- by how many slips a name (its length len, its letters lt) was written (wr letters wl), the pair x y taken along; NONE if it can't -/
def slp (pa pb : Nat → Nat) (pr : Nat) (len : Nat) (lt : Nat → Nat) (wr : Nat) (wl : Nat → Nat) (x y : Nat) : Nat := if len = wr ∧ alw (slo pa pb pr lt wl x y) wr = true then slc lt wl wr else 4294967292
theorem slc_le (lt wl : Nat → Nat) (k : Nat) : slc lt wl k ≤ k := by
  induction k with
  | zero => exact Nat.le_refl _
  | succ k ih => simp only [slc]; split <;> omega
theorem alw_le {p : Nat → Bool} {j k : Nat} (h : j ≤ k) (hk : alw p k = true) : alw p j = true := by
  induction k with
  | zero => have : j = 0 := by omega
            subst this; exact hk
  | succ k ih =>
    by_cases e : j = k + 1
    · rw [e]; exact hk
    · simp only [alw, Bool.and_eq_true] at hk
      exact ih (by omega) hk.1
theorem alw_at {p : Nat → Bool} {j k : Nat} (h : j < k) (hk : alw p k = true) : p j = true := by
  have := alw_le (j := j + 1) h hk
  simp only [alw, Bool.and_eq_true] at this
  exact this.2
/-- the first of f's greatest, from (most, which) on, among those of which p holds -/
def amax (p : Nat → Bool) (f : Nat → Nat) (most which : Nat) : Nat → Nat × Nat
  | 0 => (most, which)
  | k + 1 => if p k = true ∧ f k > (amax p f most which k).1 then (f k, k) else amax p f most which k
theorem tb_11 {s a i : Nat} (h1 : (s / 2 ^ a) &&& 1 = 1) (h2 : (s / 2 ^ i) &&& 1 = 1) : 1 = (s.testBit a && s.testBit i).toNat := by
  rw [div_bit] at h1 h2
  cases ha : s.testBit a with
  | false => rw [ha] at h1; cases h1
  | true => rw [Bool.true_and, h2]
theorem tb_10 {s a i : Nat} (h1 : (s / 2 ^ a) &&& 1 = 1) (h2 : (s / 2 ^ i) &&& 1 ≠ 1) : 0 = (s.testBit a && s.testBit i).toNat := by
  rw [div_bit] at h1 h2
  cases ha : s.testBit i with
  | true => rw [ha] at h2; exact absurd rfl h2
  | false => rw [Bool.and_false]; rfl
theorem tb_0 {s a i : Nat} (h1 : (s / 2 ^ a) &&& 1 ≠ 1) : 0 = (s.testBit a && s.testBit i).toNat := by
  rw [div_bit] at h1
  cases ha : s.testBit a with
  | true => rw [ha] at h1; exact absurd rfl h1
  | false => rw [Bool.false_and]; rfl
section
variable {Γ : q_G} {ad : Nat → Nat} {N : Nat → Nat → Nat} {L : Nat → Nat → Int} {G : Nat → Nat → Option Nat}
theorem twins_g {rm : Room} {Z : q_Zt} {t a b : Nat} {c s : Nat} {Rl : Nat → Nat → Bool} (hG : GF ad G) (hc : N 77 2 = c) (hc9 : c ≤ 9) (hnx : ∀ g, g < c → N 87 g = mk (fun m => decide (g ≠ m) && Rl g m) c) (hs : s < 512) (ha : a < c) (hb : b < c) (hx : q_R Γ mX7_twins rm Z 0 0 126 [(0, .ref (ad 77)), (1, .int (nI s)), (2, .int (nI t)), (3, .int (nI a)), (4, .int (nI b)), (5, .int (nI (((s.testBit a && s.testBit b) && alw (twp Rl a b) (c)).toNat)))] [] (LT ad, N, L, G)) : ∀ i, i ≤ c →  ∀ r : Nat, r = ((s.testBit a && s.testBit b) && alw (twp Rl a b) i).toNat → q_R Γ mX7_twins rm Z 0 0 60 [(0, .ref (ad 77)), (1, .int (nI s)), (2, .int (nI t)), (3, .int (nI a)), (4, .int (nI b)), (5, .int (nI r)), (6, .int (nI i))] [] (LT ad, N, L, G) := by
  refine dn_loop (c) ?_ ?_
  · intro r h_r
    refine q_iload 62 rfl rfl dX7_twins_60 ?_
    refine q_aload_n 63 rfl rfl dX7_twins_62 ?_
    refine q_getI 66 rfl fX7_155 rfl 77 t_77 dX7_twins_63 ?_
    refine q_icmp_ge 69 rfl 126 (by decide) (by omega) (by omega) dX7_twins_66 (fun h66 => ?_) (fun h66 => ?_)
    · subst h_r
      exact q_loc hx (q_sub1 rfl (q_sub1 rfl (q_sub1 rfl (q_sub1 rfl (q_sub1 rfl (q_sub1 rfl q_sub0))))))
    · exfalso; omega
  · intro i h_i ih r h_r
    have q1 := hnx i h_i
    have p9 := p2_9 hc9
    have q2 := mk_lt (fun m => decide (i ≠ m) && Rl i m) c
    have q3 : r ≤ 1 := by rw [h_r]; cases ((s.testBit a && s.testBit b) && alw (twp Rl a b) i) <;> decide
    refine q_iload 62 rfl rfl dX7_twins_60 ?_
    refine q_aload_n 63 rfl rfl dX7_twins_62 ?_
    refine q_getI 66 rfl fX7_155 rfl 77 t_77 dX7_twins_63 ?_
    refine q_icmp_ge 69 rfl 126 (by decide) (by omega) (by omega) dX7_twins_66 (fun h66 => ?_) (fun h66 => ?_)
    · exfalso; omega
    · refine q_iload 71 rfl rfl dX7_twins_69 ?_
      refine q_if_eq 74 rfl 117 (by decide) (by omega) dX7_twins_71 (fun h71 => ?_) (fun h71 => ?_)
      · refine q_iconst 118 rfl 0 k_i0 dX7_twins_117 ?_
        refine q_istore 120 rfl (by decide) dX7_twins_118 ?_
        refine q_iinc1 123 rfl 1 k_i1 rfl (by decide) dX7_twins_120 ?_
        refine q_goto 60 (by decide) dX7_twins_123 ?_
        refine q_loc (ih _ ?_) (q_sub1 rfl (q_sub1 rfl (q_sub1 rfl (q_sub1 rfl (q_sub1 rfl (q_sub1 rfl (q_sub1 rfl q_sub0)))))))
        · have e0 : alw (twp Rl a b) (i + 1) = (alw (twp Rl a b) i && twp Rl a b i) := rfl
          rw [e0, ← Bool.and_assoc]
          generalize hz : ((s.testBit a && s.testBit b) && alw (twp Rl a b) i) = z at *
          cases z with
          | false => simp_all
          | true =>
            have : twp Rl a b i = (decide (i = a) || (decide (i = b) || (Rl i a == Rl i b))) := rfl
            cases h1 : Rl i a <;> cases h2 : Rl i b <;> simp_all
      · refine q_iload 76 rfl rfl dX7_twins_74 ?_
        refine q_iload_n 77 rfl rfl dX7_twins_76 ?_
        refine q_icmp_eq 80 rfl 113 (by decide) (by omega) (by omega) dX7_twins_77 (fun h77 => ?_) (fun h77 => ?_)
        · refine q_iconst 114 rfl 1 k_i1 dX7_twins_113 ?_
          refine q_goto 118 (by decide) dX7_twins_114 ?_
          refine q_istore 120 rfl (by decide) dX7_twins_118 ?_
          refine q_iinc1 123 rfl 1 k_i1 rfl (by decide) dX7_twins_120 ?_
          refine q_goto 60 (by decide) dX7_twins_123 ?_
          refine q_loc (ih _ ?_) (q_sub1 rfl (q_sub1 rfl (q_sub1 rfl (q_sub1 rfl (q_sub1 rfl (q_sub1 rfl (q_sub1 rfl q_sub0)))))))
          · have e0 : alw (twp Rl a b) (i + 1) = (alw (twp Rl a b) i && twp Rl a b i) := rfl
            rw [e0, ← Bool.and_assoc]
            generalize hz : ((s.testBit a && s.testBit b) && alw (twp Rl a b) i) = z at *
            cases z with
            | false => simp_all
            | true =>
              have : twp Rl a b i = (decide (i = a) || (decide (i = b) || (Rl i a == Rl i b))) := rfl
              cases h1 : Rl i a <;> cases h2 : Rl i b <;> simp_all
        · refine q_iload 82 rfl rfl dX7_twins_80 ?_
          refine q_iload 84 rfl rfl dX7_twins_82 ?_
          refine q_icmp_eq 87 rfl 113 (by decide) (by omega) (by omega) dX7_twins_84 (fun h84 => ?_) (fun h84 => ?_)
          · refine q_iconst 114 rfl 1 k_i1 dX7_twins_113 ?_
            refine q_goto 118 (by decide) dX7_twins_114 ?_
            refine q_istore 120 rfl (by decide) dX7_twins_118 ?_
            refine q_iinc1 123 rfl 1 k_i1 rfl (by decide) dX7_twins_120 ?_
            refine q_goto 60 (by decide) dX7_twins_123 ?_
            refine q_loc (ih _ ?_) (q_sub1 rfl (q_sub1 rfl (q_sub1 rfl (q_sub1 rfl (q_sub1 rfl (q_sub1 rfl (q_sub1 rfl q_sub0)))))))
            · have e0 : alw (twp Rl a b) (i + 1) = (alw (twp Rl a b) i && twp Rl a b i) := rfl
              rw [e0, ← Bool.and_assoc]
              generalize hz : ((s.testBit a && s.testBit b) && alw (twp Rl a b) i) = z at *
              cases z with
              | false => simp_all
              | true =>
                have : twp Rl a b i = (decide (i = a) || (decide (i = b) || (Rl i a == Rl i b))) := rfl
                cases h1 : Rl i a <;> cases h2 : Rl i b <;> simp_all
          · refine q_aload_n 88 rfl rfl dX7_twins_87 ?_
            refine q_getR 91 rfl fX7_37 rfl 77 t_77 (g_77_20 hG) dX7_twins_88 ?_
            refine q_iload 93 rfl rfl dX7_twins_91 ?_
            refine q_iald 94 rfl 87 t_87 (by omega) (by decide) dX7_twins_93 ?_
            refine q_iload_n 95 rfl rfl dX7_twins_94 ?_
            refine q_ishr 96 rfl (by omega) (by omega) dX7_twins_95 ?_
            refine q_iconst 97 rfl 1 k_i1 dX7_twins_96 ?_
            refine q_iand 98 rfl dX7_twins_97 ?_
            rw [q1, mk_sh, decide_eq_true ha, Bool.true_and]
            refine q_aload_n 99 rfl rfl dX7_twins_98 ?_
            refine q_getR 102 rfl fX7_37 rfl 77 t_77 (g_77_20 hG) dX7_twins_99 ?_
            refine q_iload 104 rfl rfl dX7_twins_102 ?_
            refine q_iald 105 rfl 87 t_87 (by omega) (by decide) dX7_twins_104 ?_
            refine q_iload 107 rfl rfl dX7_twins_105 ?_
            refine q_ishr 108 rfl (by omega) (by omega) dX7_twins_107 ?_
            refine q_iconst 109 rfl 1 k_i1 dX7_twins_108 ?_
            refine q_iand 110 rfl dX7_twins_109 ?_
            rw [q1, mk_sh, decide_eq_true hb, Bool.true_and]
            refine q_icmp_ne 113 rfl 117 (by decide) (by exact Nat.lt_of_le_of_lt (Bool.toNat_le _) (by omega)) (by exact Nat.lt_of_le_of_lt (Bool.toNat_le _) (by omega)) dX7_twins_110 (fun h110 => ?_) (fun h110 => ?_)
            · refine q_iconst 118 rfl 0 k_i0 dX7_twins_117 ?_
              refine q_istore 120 rfl (by decide) dX7_twins_118 ?_
              refine q_iinc1 123 rfl 1 k_i1 rfl (by decide) dX7_twins_120 ?_
              refine q_goto 60 (by decide) dX7_twins_123 ?_
              refine q_loc (ih _ ?_) (q_sub1 rfl (q_sub1 rfl (q_sub1 rfl (q_sub1 rfl (q_sub1 rfl (q_sub1 rfl (q_sub1 rfl q_sub0)))))))
              · have e0 : alw (twp Rl a b) (i + 1) = (alw (twp Rl a b) i && twp Rl a b i) := rfl
                rw [e0, ← Bool.and_assoc]
                generalize hz : ((s.testBit a && s.testBit b) && alw (twp Rl a b) i) = z at *
                cases z with
                | false => simp_all
                | true =>
                  have : twp Rl a b i = (decide (i = a) || (decide (i = b) || (Rl i a == Rl i b))) := rfl
                  cases h1 : Rl i a <;> cases h2 : Rl i b <;> simp_all
            · refine q_iconst 114 rfl 1 k_i1 dX7_twins_113 ?_
              refine q_goto 118 (by decide) dX7_twins_114 ?_
              refine q_istore 120 rfl (by decide) dX7_twins_118 ?_
              refine q_iinc1 123 rfl 1 k_i1 rfl (by decide) dX7_twins_120 ?_
              refine q_goto 60 (by decide) dX7_twins_123 ?_
              refine q_loc (ih _ ?_) (q_sub1 rfl (q_sub1 rfl (q_sub1 rfl (q_sub1 rfl (q_sub1 rfl (q_sub1 rfl (q_sub1 rfl q_sub0)))))))
              · have e0 : alw (twp Rl a b) (i + 1) = (alw (twp Rl a b) i && twp Rl a b i) := rfl
                rw [e0, ← Bool.and_assoc]
                generalize hz : ((s.testBit a && s.testBit b) && alw (twp Rl a b) i) = z at *
                cases z with
                | false => simp_all
                | true =>
                  have : twp Rl a b i = (decide (i = a) || (decide (i = b) || (Rl i a == Rl i b))) := rfl
                  cases h1 : Rl i a <;> cases h2 : Rl i b <;> simp_all
theorem twins_b {rm : Room} {Z : q_Zt} {t0 a : Nat} {c s : Nat} {Rl : Nat → Nat → Bool} (hG : GF ad G) (hc : N 77 2 = c) (hc9 : c ≤ 9) (hnx : ∀ g, g < c → N 87 g = mk (fun m => decide (g ≠ m) && Rl g m) c) (hs : s < 512) (ha : a < c) (hx : q_R Γ mX7_twins rm Z 0 0 145 [(0, .ref (ad 77)), (1, .int (nI s)), (2, .int (nI (t0 + cnt (fun b => decide (a < b) && twa Rl c s a b) (c)))), (3, .int (nI a))] [] (LT ad, N, L, G)) : ∀ i, i ≤ c → a < i →  ∀ t : Nat, t = t0 + cnt (fun b => decide (a < b) && twa Rl c s a b) i → q_R Γ mX7_twins rm Z 0 0 22 [(0, .ref (ad 77)), (1, .int (nI s)), (2, .int (nI t)), (3, .int (nI a)), (4, .int (nI i))] [] (LT ad, N, L, G) := by
  refine dn_loop (c) ?_ ?_
  · intro h_ex t h_t
    refine q_iload 24 rfl rfl dX7_twins_22 ?_
    refine q_aload_n 25 rfl rfl dX7_twins_24 ?_
    refine q_getI 28 rfl fX7_155 rfl 77 t_77 dX7_twins_25 ?_
    refine q_icmp_ge 31 rfl 145 (by decide) (by omega) (by omega) dX7_twins_28 (fun h28 => ?_) (fun h28 => ?_)
    · subst h_t
      exact q_loc hx (q_sub1 rfl (q_sub1 rfl (q_sub1 rfl (q_sub1 rfl q_sub0))))
    · exfalso; omega
  · intro i h_i ih h_ex t h_t
    have e1 := div_bit s a
    have e2 := div_bit s i
    have bt := Bool.toNat_le (twa Rl c s a i)
    refine q_iload 24 rfl rfl dX7_twins_22 ?_
    refine q_aload_n 25 rfl rfl dX7_twins_24 ?_
    refine q_getI 28 rfl fX7_155 rfl 77 t_77 dX7_twins_25 ?_
    refine q_icmp_ge 31 rfl 145 (by decide) (by omega) (by omega) dX7_twins_28 (fun h28 => ?_) (fun h28 => ?_)
    · exfalso; omega
    · refine q_iload_n 32 rfl rfl dX7_twins_31 ?_
      refine q_iload_n 33 rfl rfl dX7_twins_32 ?_
      refine q_ishr 34 rfl (by omega) (by omega) dX7_twins_33 ?_
      refine q_iconst 35 rfl 1 k_i1 dX7_twins_34 ?_
      refine q_iand 36 rfl dX7_twins_35 ?_
      refine q_iconst 37 rfl 1 k_i1 dX7_twins_36 ?_
      refine q_icmp_ne 40 rfl 54 (by decide) (by rw [div_bit]; exact Nat.lt_of_le_of_lt (Bool.toNat_le _) (by omega)) (by omega) dX7_twins_37 (fun h37 => ?_) (fun h37 => ?_)
      · refine q_iconst 55 rfl 0 k_i0 dX7_twins_54 ?_
        refine q_istore 57 rfl (by decide) dX7_twins_55 ?_
        refine q_iconst 58 rfl 0 k_i0 dX7_twins_57 ?_
        refine q_istore 60 rfl (by decide) dX7_twins_58 ?_
        have hr0 : ∀ r, r = (s.testBit a && s.testBit i).toNat → r = ((s.testBit a && s.testBit i) && alw (twp Rl a i) 0).toNat := fun r h => by rw [h]; simp [alw]
        refine q_loc (twins_g (Rl := Rl) hG hc hc9 hnx hs ha h_i ?_ 0 (by omega) _ (hr0 _ ?_)) (q_sub1 rfl (q_sub1 rfl (q_sub1 rfl (q_sub1 rfl (q_sub1 rfl (q_sub1 rfl (q_sub1 rfl q_sub0)))))))
        rotate_left
        · first
          | exact tb_11 (by assumption) (by assumption)
          | exact tb_10 (by assumption) (by assumption)
          | exact tb_0 (by assumption)
        rw [show ((s.testBit a && s.testBit i) && alw (twp Rl a i) c).toNat = (twa Rl c s a i).toNat from rfl]
        refine q_iload_n 127 rfl rfl dX7_twins_126 ?_
        refine q_iload 129 rfl rfl dX7_twins_127 ?_
        refine q_if_eq 132 rfl 136 (by decide) (by omega) dX7_twins_129 (fun h129 => ?_) (fun h129 => ?_)
        · refine q_iconst 137 rfl 0 k_i0 dX7_twins_136 ?_
          refine q_iadd 138 rfl dX7_twins_137 ?_
          refine q_istore_n 139 rfl (by decide) dX7_twins_138 ?_
          refine q_iinc1 142 rfl 1 k_i1 rfl (by decide) dX7_twins_139 ?_
          refine q_goto 22 (by decide) dX7_twins_142 ?_
          refine q_loc (ih (by omega) _ ?_) (q_sub1 rfl (q_sub1 rfl (q_sub1 rfl (q_sub1 rfl (q_sub1 rfl q_sub0)))))
          · rw [h_t]
            simp only [cnt]
            rw [decide_eq_true (show a < i by omega), Bool.true_and]
            omega
        · refine q_iconst 133 rfl 1 k_i1 dX7_twins_132 ?_
          refine q_goto 137 (by decide) dX7_twins_133 ?_
          refine q_iadd 138 rfl dX7_twins_137 ?_
          refine q_istore_n 139 rfl (by decide) dX7_twins_138 ?_
          refine q_iinc1 142 rfl 1 k_i1 rfl (by decide) dX7_twins_139 ?_
          refine q_goto 22 (by decide) dX7_twins_142 ?_
          refine q_loc (ih (by omega) _ ?_) (q_sub1 rfl (q_sub1 rfl (q_sub1 rfl (q_sub1 rfl (q_sub1 rfl q_sub0)))))
          · rw [h_t]
            simp only [cnt]
            rw [decide_eq_true (show a < i by omega), Bool.true_and]
            omega
      · refine q_iload_n 41 rfl rfl dX7_twins_40 ?_
        refine q_iload 43 rfl rfl dX7_twins_41 ?_
        refine q_ishr 44 rfl (by omega) (by omega) dX7_twins_43 ?_
        refine q_iconst 45 rfl 1 k_i1 dX7_twins_44 ?_
        refine q_iand 46 rfl dX7_twins_45 ?_
        refine q_iconst 47 rfl 1 k_i1 dX7_twins_46 ?_
        refine q_icmp_ne 50 rfl 54 (by decide) (by rw [div_bit]; exact Nat.lt_of_le_of_lt (Bool.toNat_le _) (by omega)) (by omega) dX7_twins_47 (fun h47 => ?_) (fun h47 => ?_)
        · refine q_iconst 55 rfl 0 k_i0 dX7_twins_54 ?_
          refine q_istore 57 rfl (by decide) dX7_twins_55 ?_
          refine q_iconst 58 rfl 0 k_i0 dX7_twins_57 ?_
          refine q_istore 60 rfl (by decide) dX7_twins_58 ?_
          have hr0 : ∀ r, r = (s.testBit a && s.testBit i).toNat → r = ((s.testBit a && s.testBit i) && alw (twp Rl a i) 0).toNat := fun r h => by rw [h]; simp [alw]
          refine q_loc (twins_g (Rl := Rl) hG hc hc9 hnx hs ha h_i ?_ 0 (by omega) _ (hr0 _ ?_)) (q_sub1 rfl (q_sub1 rfl (q_sub1 rfl (q_sub1 rfl (q_sub1 rfl (q_sub1 rfl (q_sub1 rfl q_sub0)))))))
          rotate_left
          · first
            | exact tb_11 (by assumption) (by assumption)
            | exact tb_10 (by assumption) (by assumption)
            | exact tb_0 (by assumption)
          rw [show ((s.testBit a && s.testBit i) && alw (twp Rl a i) c).toNat = (twa Rl c s a i).toNat from rfl]
          refine q_iload_n 127 rfl rfl dX7_twins_126 ?_
          refine q_iload 129 rfl rfl dX7_twins_127 ?_
          refine q_if_eq 132 rfl 136 (by decide) (by omega) dX7_twins_129 (fun h129 => ?_) (fun h129 => ?_)
          · refine q_iconst 137 rfl 0 k_i0 dX7_twins_136 ?_
            refine q_iadd 138 rfl dX7_twins_137 ?_
            refine q_istore_n 139 rfl (by decide) dX7_twins_138 ?_
            refine q_iinc1 142 rfl 1 k_i1 rfl (by decide) dX7_twins_139 ?_
            refine q_goto 22 (by decide) dX7_twins_142 ?_
            refine q_loc (ih (by omega) _ ?_) (q_sub1 rfl (q_sub1 rfl (q_sub1 rfl (q_sub1 rfl (q_sub1 rfl q_sub0)))))
            · rw [h_t]
              simp only [cnt]
              rw [decide_eq_true (show a < i by omega), Bool.true_and]
              omega
          · refine q_iconst 133 rfl 1 k_i1 dX7_twins_132 ?_
            refine q_goto 137 (by decide) dX7_twins_133 ?_
            refine q_iadd 138 rfl dX7_twins_137 ?_
            refine q_istore_n 139 rfl (by decide) dX7_twins_138 ?_
            refine q_iinc1 142 rfl 1 k_i1 rfl (by decide) dX7_twins_139 ?_
            refine q_goto 22 (by decide) dX7_twins_142 ?_
            refine q_loc (ih (by omega) _ ?_) (q_sub1 rfl (q_sub1 rfl (q_sub1 rfl (q_sub1 rfl (q_sub1 rfl q_sub0)))))
            · rw [h_t]
              simp only [cnt]
              rw [decide_eq_true (show a < i by omega), Bool.true_and]
              omega
        · refine q_iconst 51 rfl 1 k_i1 dX7_twins_50 ?_
          refine q_goto 55 (by decide) dX7_twins_51 ?_
          refine q_istore 57 rfl (by decide) dX7_twins_55 ?_
          refine q_iconst 58 rfl 0 k_i0 dX7_twins_57 ?_
          refine q_istore 60 rfl (by decide) dX7_twins_58 ?_
          have hr0 : ∀ r, r = (s.testBit a && s.testBit i).toNat → r = ((s.testBit a && s.testBit i) && alw (twp Rl a i) 0).toNat := fun r h => by rw [h]; simp [alw]
          refine q_loc (twins_g (Rl := Rl) hG hc hc9 hnx hs ha h_i ?_ 0 (by omega) _ (hr0 _ ?_)) (q_sub1 rfl (q_sub1 rfl (q_sub1 rfl (q_sub1 rfl (q_sub1 rfl (q_sub1 rfl (q_sub1 rfl q_sub0)))))))
          rotate_left
          · first
            | exact tb_11 (by assumption) (by assumption)
            | exact tb_10 (by assumption) (by assumption)
            | exact tb_0 (by assumption)
          rw [show ((s.testBit a && s.testBit i) && alw (twp Rl a i) c).toNat = (twa Rl c s a i).toNat from rfl]
          refine q_iload_n 127 rfl rfl dX7_twins_126 ?_
          refine q_iload 129 rfl rfl dX7_twins_127 ?_
          refine q_if_eq 132 rfl 136 (by decide) (by omega) dX7_twins_129 (fun h129 => ?_) (fun h129 => ?_)
          · refine q_iconst 137 rfl 0 k_i0 dX7_twins_136 ?_
            refine q_iadd 138 rfl dX7_twins_137 ?_
            refine q_istore_n 139 rfl (by decide) dX7_twins_138 ?_
            refine q_iinc1 142 rfl 1 k_i1 rfl (by decide) dX7_twins_139 ?_
            refine q_goto 22 (by decide) dX7_twins_142 ?_
            refine q_loc (ih (by omega) _ ?_) (q_sub1 rfl (q_sub1 rfl (q_sub1 rfl (q_sub1 rfl (q_sub1 rfl q_sub0)))))
            · rw [h_t]
              simp only [cnt]
              rw [decide_eq_true (show a < i by omega), Bool.true_and]
              omega
          · refine q_iconst 133 rfl 1 k_i1 dX7_twins_132 ?_
            refine q_goto 137 (by decide) dX7_twins_133 ?_
            refine q_iadd 138 rfl dX7_twins_137 ?_
            refine q_istore_n 139 rfl (by decide) dX7_twins_138 ?_
            refine q_iinc1 142 rfl 1 k_i1 rfl (by decide) dX7_twins_139 ?_
            refine q_goto 22 (by decide) dX7_twins_142 ?_
            refine q_loc (ih (by omega) _ ?_) (q_sub1 rfl (q_sub1 rfl (q_sub1 rfl (q_sub1 rfl (q_sub1 rfl q_sub0)))))
            · rw [h_t]
              simp only [cnt]
              rw [decide_eq_true (show a < i by omega), Bool.true_and]
              omega
theorem twins_a {rm : Room} {Z : q_Zt} {c s : Nat} {Rl : Nat → Nat → Bool} (hG : GF ad G) (hc : N 77 2 = c) (hc9 : c ≤ 9) (hnx : ∀ g, g < c → N 87 g = mk (fun m => decide (g ≠ m) && Rl g m) c) (hs : s < 512) (hx : q_R Γ mX7_twins rm Z 0 0 151 [(2, .int (nI (smf (fun a => cnt (fun b => decide (a < b) && twa Rl c s a b) c) (c))))] [] (LT ad, N, L, G)) : ∀ i, i ≤ c →  ∀ t : Nat, t = smf (fun a => cnt (fun b => decide (a < b) && twa Rl c s a b) c) i → q_R Γ mX7_twins rm Z 0 0 9 [(0, .ref (ad 77)), (1, .int (nI s)), (2, .int (nI t)), (3, .int (nI i))] [] (LT ad, N, L, G) := by
  refine dn_loop (c) ?_ ?_
  · intro t h_t
    refine q_iload_n 10 rfl rfl dX7_twins_9 ?_
    refine q_aload_n 11 rfl rfl dX7_twins_10 ?_
    refine q_getI 14 rfl fX7_155 rfl 77 t_77 dX7_twins_11 ?_
    refine q_icmp_ge 17 rfl 151 (by decide) (by omega) (by omega) dX7_twins_14 (fun h14 => ?_) (fun h14 => ?_)
    · subst h_t
      exact q_loc hx (q_sub1 rfl q_sub0)
    · exfalso; omega
  · intro i h_i ih t h_t
    refine q_iload_n 10 rfl rfl dX7_twins_9 ?_
    refine q_aload_n 11 rfl rfl dX7_twins_10 ?_
    refine q_getI 14 rfl fX7_155 rfl 77 t_77 dX7_twins_11 ?_
    refine q_icmp_ge 17 rfl 151 (by decide) (by omega) (by omega) dX7_twins_14 (fun h14 => ?_) (fun h14 => ?_)
    · exfalso; omega
    · refine q_iload_n 18 rfl rfl dX7_twins_17 ?_
      refine q_iconst 19 rfl 1 k_i1 dX7_twins_18 ?_
      refine q_iadd 20 rfl dX7_twins_19 ?_
      refine q_istore 22 rfl (by decide) dX7_twins_20 ?_
      refine q_loc (twins_b (Rl := Rl) (t0 := t) hG hc hc9 hnx hs h_i ?_ (i + 1) (by omega) (by omega) _ ?_) (q_sub1 rfl (q_sub1 rfl (q_sub1 rfl (q_sub1 rfl (q_sub1 rfl q_sub0)))))
      rotate_left
      · rw [cnt_0 (fun j hj => by rw [decide_eq_false (by omega), Bool.false_and])]; rfl
      refine q_iinc1 148 rfl 1 k_i1 rfl (by decide) dX7_twins_145 ?_
      refine q_goto 9 (by decide) dX7_twins_148 ?_
      refine q_loc (ih _ ?_) (q_sub1 rfl (q_sub1 rfl (q_sub1 rfl (q_sub1 rfl q_sub0))))
      · rw [h_t]; rfl
theorem k_twins7 {c : Nat} (hG : GF ad G) (hM : MS N c) : q_Con Γ mX7_twins 6 0 0 [.ref (ad 77)] (LT ad, N, L, G) (q_sc ad N G (.int (nI (twn (R7 N) c (can7 N c (R7 N) (N 78 40)))))) := by
  obtain ⟨hc, hc9, hb, hl, hs, hk, hms, hpr, hg9, hh, hgn, hga, hod, ho1⟩ := id hM
  have hcl : can7 N c (R7 N) (N 78 40) < 512 := can_lt hc9
  generalize hsd : can7 N c (R7 N) (N 78 40) = s at *
  refine q_con (by decide) rfl rfl (Nat.le_of_ble_eq_true rfl) ?_
  refine q_aload_n 1 rfl rfl dX7_twins_0 ?_
  refine q_cV0 4 rfl lX7_221 (by have := k_canNow (Γ := Γ) (L := L) hG hM; rw [hsd] at this; exact this) rfl 77 t_77 rfl rfl rfl dX7_twins_1 ?_
  refine q_istore_n 5 rfl (by decide) dX7_twins_4 ?_
  refine q_iconst 6 rfl 0 k_i0 dX7_twins_5 ?_
  refine q_istore_n 7 rfl (by decide) dX7_twins_6 ?_
  refine q_iconst 8 rfl 0 k_i0 dX7_twins_7 ?_
  refine q_istore_n 9 rfl (by decide) dX7_twins_8 ?_
  refine q_loc (twins_a (N := now7 N c) (Rl := R7 N) hG hc hc9 (fun g hg => now7_87 hg) hcl ?_ 0 (by omega) _ rfl) (q_sub1 rfl (q_sub1 rfl (q_sub1 rfl (q_sub1 rfl q_sub0))))
  refine q_iload_n 152 rfl rfl dX7_twins_151 ?_
  refine q_iret rfl dX7_twins_152 ?_
  exact ⟨rfl, _, _, rfl, Sc.now⟩
abbrev pa7 (N : Nat → Nat → Nat) (k : Nat) : Nat := N 78 (11 + 2 * k)
abbrev pb7 (N : Nat → Nat → Nat) (k : Nat) : Nat := N 78 (11 + 2 * k + 1)
theorem areMixed_lp {rm : Room} {Z : q_Zt} {a b : Nat} (hG : GF ad G) (hs : ∀ i, i < 240 → N 78 i < 26) (hpr : N 78 21 ≤ 5) (ha : a < 4294967296) (hb : b < 4294967296) (hx : q_R Γ mX7_areMixed rm Z 0 0 96 [(3, .int (nI ((decide (a = b) || anw (mxp (pa7 N) (pb7 N) a b) (N 78 21)).toNat)))] [] (LT ad, N, L, G)) : ∀ i, i ≤ N 78 21 →  ∀ r : Nat, r = (decide (a = b) || anw (mxp (pa7 N) (pb7 N) a b) i).toNat → q_R Γ mX7_areMixed rm Z 0 0 14 [(0, .ref (ad 77)), (1, .int (nI a)), (2, .int (nI b)), (3, .int (nI r)), (4, .int (nI i))] [] (LT ad, N, L, G) := by
  refine dn_loop (N 78 21) ?_ ?_
  · intro r h_r
    refine q_iload 16 rfl rfl dX7_areMixed_14 ?_
    refine q_aload_n 17 rfl rfl dX7_areMixed_16 ?_
    refine q_getR 20 rfl fX7_7 rfl 77 t_77 (g_77_0 hG) dX7_areMixed_17 ?_
    refine q_bipush 22 rfl 21 k_b21 dX7_areMixed_20 ?_
    refine q_iald 23 rfl 78 t_78 (by omega) (by decide) dX7_areMixed_22 ?_
    refine q_icmp_ge 26 rfl 96 (by decide) (by omega) (by omega) dX7_areMixed_23 (fun h23 => ?_) (fun h23 => ?_)
    · subst h_r
      exact q_loc hx (q_sub1 rfl q_sub0)
    · exfalso; omega
  · intro i h_i ih r h_r
    have q1 := hs (11 + 2 * i) (by omega)
    have q2 := hs (11 + 2 * i + 1) (by omega)
    have q3 := Bool.toNat_le (decide (a = b) || anw (mxp (pa7 N) (pb7 N) a b) i)
    have q4 : anw (mxp (pa7 N) (pb7 N) a b) (i + 1) = (anw (mxp (pa7 N) (pb7 N) a b) i || mxp (pa7 N) (pb7 N) a b i) := rfl
    refine q_iload 16 rfl rfl dX7_areMixed_14 ?_
    refine q_aload_n 17 rfl rfl dX7_areMixed_16 ?_
    refine q_getR 20 rfl fX7_7 rfl 77 t_77 (g_77_0 hG) dX7_areMixed_17 ?_
    refine q_bipush 22 rfl 21 k_b21 dX7_areMixed_20 ?_
    refine q_iald 23 rfl 78 t_78 (by omega) (by decide) dX7_areMixed_22 ?_
    refine q_icmp_ge 26 rfl 96 (by decide) (by omega) (by omega) dX7_areMixed_23 (fun h23 => ?_) (fun h23 => ?_)
    · exfalso; omega
    · refine q_aload_n 27 rfl rfl dX7_areMixed_26 ?_
      refine q_getR 30 rfl fX7_7 rfl 77 t_77 (g_77_0 hG) dX7_areMixed_27 ?_
      refine q_bipush 32 rfl 11 k_b11 dX7_areMixed_30 ?_
      refine q_iconst 33 rfl 2 k_i2 dX7_areMixed_32 ?_
      refine q_iload 35 rfl rfl dX7_areMixed_33 ?_
      refine q_imul 36 rfl dX7_areMixed_35 ?_
      refine q_iadd 37 rfl dX7_areMixed_36 ?_
      refine q_iald 38 rfl 78 t_78 (by omega) (by decide) dX7_areMixed_37 ?_
      refine q_istore 40 rfl (by decide) dX7_areMixed_38 ?_
      refine q_aload_n 41 rfl rfl dX7_areMixed_40 ?_
      refine q_getR 44 rfl fX7_7 rfl 77 t_77 (g_77_0 hG) dX7_areMixed_41 ?_
      refine q_bipush 46 rfl 11 k_b11 dX7_areMixed_44 ?_
      refine q_iconst 47 rfl 2 k_i2 dX7_areMixed_46 ?_
      refine q_iload 49 rfl rfl dX7_areMixed_47 ?_
      refine q_imul 50 rfl dX7_areMixed_49 ?_
      refine q_iadd 51 rfl dX7_areMixed_50 ?_
      refine q_iconst 52 rfl 1 k_i1 dX7_areMixed_51 ?_
      refine q_iadd 53 rfl dX7_areMixed_52 ?_
      refine q_iald 54 rfl 78 t_78 (by omega) (by decide) dX7_areMixed_53 ?_
      refine q_istore 56 rfl (by decide) dX7_areMixed_54 ?_
      refine q_iload_n 57 rfl rfl dX7_areMixed_56 ?_
      refine q_if_ne 60 rfl 84 (by decide) (by omega) dX7_areMixed_57 (fun h57 => ?_) (fun h57 => ?_)
      · refine q_iconst 85 rfl 1 k_i1 dX7_areMixed_84 ?_
        refine q_goto 89 (by decide) dX7_areMixed_85 ?_
        refine q_istore_n 90 rfl (by decide) dX7_areMixed_89 ?_
        refine q_iinc1 93 rfl 1 k_i1 rfl (by decide) dX7_areMixed_90 ?_
        refine q_goto 14 (by decide) dX7_areMixed_93 ?_
        refine q_loc (ih _ ?_) (q_sub1 rfl (q_sub1 rfl (q_sub1 rfl (q_sub1 rfl (q_sub1 rfl q_sub0)))))
        · rw [q4, ← Bool.or_assoc]
          first
            | (rw [show mxp (pa7 N) (pb7 N) a b i = true from decide_eq_true (show (N 78 (11 + 2 * i) = a ∧ N 78 (11 + 2 * i + 1) = b) ∨ (N 78 (11 + 2 * i) = b ∧ N 78 (11 + 2 * i + 1) = a) by omega), Bool.or_true]; rfl)
            | (rw [show mxp (pa7 N) (pb7 N) a b i = false from decide_eq_false (show ¬ ((N 78 (11 + 2 * i) = a ∧ N 78 (11 + 2 * i + 1) = b) ∨ (N 78 (11 + 2 * i) = b ∧ N 78 (11 + 2 * i + 1) = a)) by omega), Bool.or_false]; omega)
            | (cases hz : (decide (a = b) || anw (mxp (pa7 N) (pb7 N) a b) i) with
               | true => rw [Bool.true_or]; rfl
               | false => rw [hz] at h_r; exact absurd h_r (by assumption))
      · refine q_iload 62 rfl rfl dX7_areMixed_60 ?_
        refine q_iload_n 63 rfl rfl dX7_areMixed_62 ?_
        refine q_icmp_ne 66 rfl 72 (by decide) (by omega) (by omega) dX7_areMixed_63 (fun h63 => ?_) (fun h63 => ?_)
        · refine q_iload 74 rfl rfl dX7_areMixed_72 ?_
          refine q_iload_n 75 rfl rfl dX7_areMixed_74 ?_
          refine q_icmp_ne 78 rfl 88 (by decide) (by omega) (by omega) dX7_areMixed_75 (fun h75 => ?_) (fun h75 => ?_)
          · refine q_iconst 89 rfl 0 k_i0 dX7_areMixed_88 ?_
            refine q_istore_n 90 rfl (by decide) dX7_areMixed_89 ?_
            refine q_iinc1 93 rfl 1 k_i1 rfl (by decide) dX7_areMixed_90 ?_
            refine q_goto 14 (by decide) dX7_areMixed_93 ?_
            refine q_loc (ih _ ?_) (q_sub1 rfl (q_sub1 rfl (q_sub1 rfl (q_sub1 rfl (q_sub1 rfl q_sub0)))))
            · rw [q4, ← Bool.or_assoc]
              first
                | (rw [show mxp (pa7 N) (pb7 N) a b i = true from decide_eq_true (show (N 78 (11 + 2 * i) = a ∧ N 78 (11 + 2 * i + 1) = b) ∨ (N 78 (11 + 2 * i) = b ∧ N 78 (11 + 2 * i + 1) = a) by omega), Bool.or_true]; rfl)
                | (rw [show mxp (pa7 N) (pb7 N) a b i = false from decide_eq_false (show ¬ ((N 78 (11 + 2 * i) = a ∧ N 78 (11 + 2 * i + 1) = b) ∨ (N 78 (11 + 2 * i) = b ∧ N 78 (11 + 2 * i + 1) = a)) by omega), Bool.or_false]; omega)
                | (cases hz : (decide (a = b) || anw (mxp (pa7 N) (pb7 N) a b) i) with
                   | true => rw [Bool.true_or]; rfl
                   | false => rw [hz] at h_r; exact absurd h_r (by assumption))
          · refine q_iload 80 rfl rfl dX7_areMixed_78 ?_
            refine q_iload_n 81 rfl rfl dX7_areMixed_80 ?_
            refine q_icmp_ne 84 rfl 88 (by decide) (by omega) (by omega) dX7_areMixed_81 (fun h81 => ?_) (fun h81 => ?_)
            · refine q_iconst 89 rfl 0 k_i0 dX7_areMixed_88 ?_
              refine q_istore_n 90 rfl (by decide) dX7_areMixed_89 ?_
              refine q_iinc1 93 rfl 1 k_i1 rfl (by decide) dX7_areMixed_90 ?_
              refine q_goto 14 (by decide) dX7_areMixed_93 ?_
              refine q_loc (ih _ ?_) (q_sub1 rfl (q_sub1 rfl (q_sub1 rfl (q_sub1 rfl (q_sub1 rfl q_sub0)))))
              · rw [q4, ← Bool.or_assoc]
                first
                  | (rw [show mxp (pa7 N) (pb7 N) a b i = true from decide_eq_true (show (N 78 (11 + 2 * i) = a ∧ N 78 (11 + 2 * i + 1) = b) ∨ (N 78 (11 + 2 * i) = b ∧ N 78 (11 + 2 * i + 1) = a) by omega), Bool.or_true]; rfl)
                  | (rw [show mxp (pa7 N) (pb7 N) a b i = false from decide_eq_false (show ¬ ((N 78 (11 + 2 * i) = a ∧ N 78 (11 + 2 * i + 1) = b) ∨ (N 78 (11 + 2 * i) = b ∧ N 78 (11 + 2 * i + 1) = a)) by omega), Bool.or_false]; omega)
                  | (cases hz : (decide (a = b) || anw (mxp (pa7 N) (pb7 N) a b) i) with
                     | true => rw [Bool.true_or]; rfl
                     | false => rw [hz] at h_r; exact absurd h_r (by assumption))
            · refine q_iconst 85 rfl 1 k_i1 dX7_areMixed_84 ?_
              refine q_goto 89 (by decide) dX7_areMixed_85 ?_
              refine q_istore_n 90 rfl (by decide) dX7_areMixed_89 ?_
              refine q_iinc1 93 rfl 1 k_i1 rfl (by decide) dX7_areMixed_90 ?_
              refine q_goto 14 (by decide) dX7_areMixed_93 ?_
              refine q_loc (ih _ ?_) (q_sub1 rfl (q_sub1 rfl (q_sub1 rfl (q_sub1 rfl (q_sub1 rfl q_sub0)))))
              · rw [q4, ← Bool.or_assoc]
                first
                  | (rw [show mxp (pa7 N) (pb7 N) a b i = true from decide_eq_true (show (N 78 (11 + 2 * i) = a ∧ N 78 (11 + 2 * i + 1) = b) ∨ (N 78 (11 + 2 * i) = b ∧ N 78 (11 + 2 * i + 1) = a) by omega), Bool.or_true]; rfl)
                  | (rw [show mxp (pa7 N) (pb7 N) a b i = false from decide_eq_false (show ¬ ((N 78 (11 + 2 * i) = a ∧ N 78 (11 + 2 * i + 1) = b) ∨ (N 78 (11 + 2 * i) = b ∧ N 78 (11 + 2 * i + 1) = a)) by omega), Bool.or_false]; omega)
                  | (cases hz : (decide (a = b) || anw (mxp (pa7 N) (pb7 N) a b) i) with
                     | true => rw [Bool.true_or]; rfl
                     | false => rw [hz] at h_r; exact absurd h_r (by assumption))
        · refine q_iload 68 rfl rfl dX7_areMixed_66 ?_
          refine q_iload_n 69 rfl rfl dX7_areMixed_68 ?_
          refine q_icmp_eq 72 rfl 84 (by decide) (by omega) (by omega) dX7_areMixed_69 (fun h69 => ?_) (fun h69 => ?_)
          · refine q_iconst 85 rfl 1 k_i1 dX7_areMixed_84 ?_
            refine q_goto 89 (by decide) dX7_areMixed_85 ?_
            refine q_istore_n 90 rfl (by decide) dX7_areMixed_89 ?_
            refine q_iinc1 93 rfl 1 k_i1 rfl (by decide) dX7_areMixed_90 ?_
            refine q_goto 14 (by decide) dX7_areMixed_93 ?_
            refine q_loc (ih _ ?_) (q_sub1 rfl (q_sub1 rfl (q_sub1 rfl (q_sub1 rfl (q_sub1 rfl q_sub0)))))
            · rw [q4, ← Bool.or_assoc]
              first
                | (rw [show mxp (pa7 N) (pb7 N) a b i = true from decide_eq_true (show (N 78 (11 + 2 * i) = a ∧ N 78 (11 + 2 * i + 1) = b) ∨ (N 78 (11 + 2 * i) = b ∧ N 78 (11 + 2 * i + 1) = a) by omega), Bool.or_true]; rfl)
                | (rw [show mxp (pa7 N) (pb7 N) a b i = false from decide_eq_false (show ¬ ((N 78 (11 + 2 * i) = a ∧ N 78 (11 + 2 * i + 1) = b) ∨ (N 78 (11 + 2 * i) = b ∧ N 78 (11 + 2 * i + 1) = a)) by omega), Bool.or_false]; omega)
                | (cases hz : (decide (a = b) || anw (mxp (pa7 N) (pb7 N) a b) i) with
                   | true => rw [Bool.true_or]; rfl
                   | false => rw [hz] at h_r; exact absurd h_r (by assumption))
          · refine q_iload 74 rfl rfl dX7_areMixed_72 ?_
            refine q_iload_n 75 rfl rfl dX7_areMixed_74 ?_
            refine q_icmp_ne 78 rfl 88 (by decide) (by omega) (by omega) dX7_areMixed_75 (fun h75 => ?_) (fun h75 => ?_)
            · refine q_iconst 89 rfl 0 k_i0 dX7_areMixed_88 ?_
              refine q_istore_n 90 rfl (by decide) dX7_areMixed_89 ?_
              refine q_iinc1 93 rfl 1 k_i1 rfl (by decide) dX7_areMixed_90 ?_
              refine q_goto 14 (by decide) dX7_areMixed_93 ?_
              refine q_loc (ih _ ?_) (q_sub1 rfl (q_sub1 rfl (q_sub1 rfl (q_sub1 rfl (q_sub1 rfl q_sub0)))))
              · rw [q4, ← Bool.or_assoc]
                first
                  | (rw [show mxp (pa7 N) (pb7 N) a b i = true from decide_eq_true (show (N 78 (11 + 2 * i) = a ∧ N 78 (11 + 2 * i + 1) = b) ∨ (N 78 (11 + 2 * i) = b ∧ N 78 (11 + 2 * i + 1) = a) by omega), Bool.or_true]; rfl)
                  | (rw [show mxp (pa7 N) (pb7 N) a b i = false from decide_eq_false (show ¬ ((N 78 (11 + 2 * i) = a ∧ N 78 (11 + 2 * i + 1) = b) ∨ (N 78 (11 + 2 * i) = b ∧ N 78 (11 + 2 * i + 1) = a)) by omega), Bool.or_false]; omega)
                  | (cases hz : (decide (a = b) || anw (mxp (pa7 N) (pb7 N) a b) i) with
                     | true => rw [Bool.true_or]; rfl
                     | false => rw [hz] at h_r; exact absurd h_r (by assumption))
            · refine q_iload 80 rfl rfl dX7_areMixed_78 ?_
              refine q_iload_n 81 rfl rfl dX7_areMixed_80 ?_
              refine q_icmp_ne 84 rfl 88 (by decide) (by omega) (by omega) dX7_areMixed_81 (fun h81 => ?_) (fun h81 => ?_)
              · refine q_iconst 89 rfl 0 k_i0 dX7_areMixed_88 ?_
                refine q_istore_n 90 rfl (by decide) dX7_areMixed_89 ?_
                refine q_iinc1 93 rfl 1 k_i1 rfl (by decide) dX7_areMixed_90 ?_
                refine q_goto 14 (by decide) dX7_areMixed_93 ?_
                refine q_loc (ih _ ?_) (q_sub1 rfl (q_sub1 rfl (q_sub1 rfl (q_sub1 rfl (q_sub1 rfl q_sub0)))))
                · rw [q4, ← Bool.or_assoc]
                  first
                    | (rw [show mxp (pa7 N) (pb7 N) a b i = true from decide_eq_true (show (N 78 (11 + 2 * i) = a ∧ N 78 (11 + 2 * i + 1) = b) ∨ (N 78 (11 + 2 * i) = b ∧ N 78 (11 + 2 * i + 1) = a) by omega), Bool.or_true]; rfl)
                    | (rw [show mxp (pa7 N) (pb7 N) a b i = false from decide_eq_false (show ¬ ((N 78 (11 + 2 * i) = a ∧ N 78 (11 + 2 * i + 1) = b) ∨ (N 78 (11 + 2 * i) = b ∧ N 78 (11 + 2 * i + 1) = a)) by omega), Bool.or_false]; omega)
                    | (cases hz : (decide (a = b) || anw (mxp (pa7 N) (pb7 N) a b) i) with
                       | true => rw [Bool.true_or]; rfl
                       | false => rw [hz] at h_r; exact absurd h_r (by assumption))
              · refine q_iconst 85 rfl 1 k_i1 dX7_areMixed_84 ?_
                refine q_goto 89 (by decide) dX7_areMixed_85 ?_
                refine q_istore_n 90 rfl (by decide) dX7_areMixed_89 ?_
                refine q_iinc1 93 rfl 1 k_i1 rfl (by decide) dX7_areMixed_90 ?_
                refine q_goto 14 (by decide) dX7_areMixed_93 ?_
                refine q_loc (ih _ ?_) (q_sub1 rfl (q_sub1 rfl (q_sub1 rfl (q_sub1 rfl (q_sub1 rfl q_sub0)))))
                · rw [q4, ← Bool.or_assoc]
                  first
                    | (rw [show mxp (pa7 N) (pb7 N) a b i = true from decide_eq_true (show (N 78 (11 + 2 * i) = a ∧ N 78 (11 + 2 * i + 1) = b) ∨ (N 78 (11 + 2 * i) = b ∧ N 78 (11 + 2 * i + 1) = a) by omega), Bool.or_true]; rfl)
                    | (rw [show mxp (pa7 N) (pb7 N) a b i = false from decide_eq_false (show ¬ ((N 78 (11 + 2 * i) = a ∧ N 78 (11 + 2 * i + 1) = b) ∨ (N 78 (11 + 2 * i) = b ∧ N 78 (11 + 2 * i + 1) = a)) by omega), Bool.or_false]; omega)
                    | (cases hz : (decide (a = b) || anw (mxp (pa7 N) (pb7 N) a b) i) with
                       | true => rw [Bool.true_or]; rfl
                       | false => rw [hz] at h_r; exact absurd h_r (by assumption))
theorem k_areMixed {a b : Nat} (hG : GF ad G) (hs : ∀ i, i < 240 → N 78 i < 26) (hpr : N 78 21 ≤ 5) (ha : a < 4294967296) (hb : b < 4294967296) : q_Con Γ mX7_areMixed 0 0 0 [.ref (ad 77), .int (nI a), .int (nI b)] (LT ad, N, L, G) (q_is (some (.int (nI ((mxd (pa7 N) (pb7 N) (N 78 21) a b).toNat)))) (LT ad, N, L, G)) := by
  refine q_con (by decide) rfl rfl (Nat.le_of_ble_eq_true rfl) ?_
  refine q_iload_n 1 rfl rfl dX7_areMixed_0 ?_
  refine q_iload_n 2 rfl rfl dX7_areMixed_1 ?_
  refine q_icmp_ne 5 rfl 9 (by decide) (by omega) (by omega) dX7_areMixed_2 (fun h2 => ?_) (fun h2 => ?_)
  · refine q_iconst 10 rfl 0 k_i0 dX7_areMixed_9 ?_
    refine q_istore_n 11 rfl (by decide) dX7_areMixed_10 ?_
    refine q_iconst 12 rfl 0 k_i0 dX7_areMixed_11 ?_
    refine q_istore 14 rfl (by decide) dX7_areMixed_12 ?_
    refine q_loc (areMixed_lp hG hs hpr ha hb ?_ 0 (by omega) _ ?_) (q_sub1 rfl (q_sub1 rfl (q_sub1 rfl (q_sub1 rfl (q_sub1 rfl q_sub0)))))
    rotate_left
    · first
      | (rw [decide_eq_true (by assumption)]; rfl)
      | (rw [decide_eq_false (by assumption)]; rfl)
    refine q_iload_n 97 rfl rfl dX7_areMixed_96 ?_
    refine q_zret rfl (by first | exact q_n0 | exact q_n1 | exact q_nb _) dX7_areMixed_97 ?_
    exact ⟨rfl, rfl⟩
  · refine q_iconst 6 rfl 1 k_i1 dX7_areMixed_5 ?_
    refine q_goto 10 (by decide) dX7_areMixed_6 ?_
    refine q_istore_n 11 rfl (by decide) dX7_areMixed_10 ?_
    refine q_iconst 12 rfl 0 k_i0 dX7_areMixed_11 ?_
    refine q_istore 14 rfl (by decide) dX7_areMixed_12 ?_
    refine q_loc (areMixed_lp hG hs hpr ha hb ?_ 0 (by omega) _ ?_) (q_sub1 rfl (q_sub1 rfl (q_sub1 rfl (q_sub1 rfl (q_sub1 rfl q_sub0)))))
    rotate_left
    · first
      | (rw [decide_eq_true (by assumption)]; rfl)
      | (rw [decide_eq_false (by assumption)]; rfl)
    refine q_iload_n 97 rfl rfl dX7_areMixed_96 ?_
    refine q_zret rfl (by first | exact q_n0 | exact q_n1 | exact q_nb _) dX7_areMixed_97 ?_
    exact ⟨rfl, rfl⟩
abbrev wl7 (N : Nat → Nat → Nat) (i : Nat) : Nat := N 80 (i + 1)
abbrev slo7 (N : Nat → Nat → Nat) (n x y : Nat) : Nat → Bool := slo (pa7 N) (pb7 N) (N 78 21) (c7 (N 79) n) (wl7 N) x y
abbrev slp7 (N : Nat → Nat → Nat) (n x y : Nat) : Nat := slp (pa7 N) (pb7 N) (N 78 21) (N 79 (9 * n)) (c7 (N 79) n) (N 80 0) (wl7 N) x y
theorem slp7_ok {N : Nat → Nat → Nat} {n x y : Nat} (h1 : N 79 (9 * n) = N 80 0) (h2 : alw (slo7 N n x y) (N 80 0) = true) : slp7 N n x y = slc (c7 (N 79) n) (wl7 N) (N 80 0) := if_pos ⟨h1, h2⟩
theorem slp7_no {N : Nat → Nat → Nat} {n x y : Nat} (h : ¬ (N 79 (9 * n) = N 80 0 ∧ alw (slo7 N n x y) (N 80 0) = true)) : slp7 N n x y = 4294967292 := if_neg h
theorem slipsOf_lp  {mc mz : Nat} {n x y : Nat} (hG : GF ad G) (hs : ∀ i, i < 240 → N 78 i < 26) (hpr : N 78 21 ≤ 5) (hb : ∀ i, i < 81 → N 79 i < 26) (hw : ∀ i, i < 9 → N 80 i < 26) (hw0 : N 80 0 ≤ 8) (hn : n < 9) (hx1 : x < 4294967296) (hy1 : y < 4294967296) (hlen : N 79 (9 * n) = N 80 0)  : ∀ i, i ≤ N 80 0 + 1 → 1 ≤ i ∧ alw (slo7 N n x y) (i - 1) = true →  ∀ t : Nat, t = slc (c7 (N 79) n) (wl7 N) (i - 1) → q_R Γ mX7_slipsOf (q_room 1 mc mz) (q_Z Γ (q_is (some (.int (nI (slp7 N n x y)))) (LT ad, N, L, G)) 0 0) 0 0 27 [(0, .ref (ad 77)), (1, .int (nI n)), (2, .int (nI x)), (3, .int (nI y)), (4, .int (nI t)), (5, .int (nI i))] [] (LT ad, N, L, G) := by
  refine dn_loop (N 80 0 + 1) ?_ ?_
  · intro h_ex t h_t
    have e1 : N 80 0 + 1 - 1 = N 80 0 := by omega
    rw [e1] at h_ex h_t
    refine q_iload 29 rfl rfl dX7_slipsOf_27 ?_
    refine q_aload_n 30 rfl rfl dX7_slipsOf_29 ?_
    refine q_getR 33 rfl fX7_16 rfl 77 t_77 (g_77_3 hG) dX7_slipsOf_30 ?_
    refine q_iconst 34 rfl 0 k_i0 dX7_slipsOf_33 ?_
    refine q_iald 35 rfl 80 t_80 (by omega) (by decide) dX7_slipsOf_34 ?_
    refine q_icmp_gt 38 rfl 122 (by decide) (by omega) (by omega) dX7_slipsOf_35 (fun h35 => ?_) (fun h35 => ?_)
    · refine q_iload 124 rfl rfl dX7_slipsOf_122 ?_
      refine q_iret rfl dX7_slipsOf_124 ?_
      rw [h_t, slp7_ok hlen h_ex.2]
      exact ⟨rfl, rfl⟩
    · exfalso; omega
  · intro i h_i ih h_ex t h_t
    obtain ⟨j, rfl⟩ : ∃ j, i = j + 1 := ⟨i - 1, by omega⟩
    simp only [Nat.add_sub_cancel] at h_ex h_t ih
    have q1 := hb (9 * n + (j + 1)) (by omega)
    have q2 := hw (j + 1) (by omega)
    have q3 : slc (c7 (N 79) n) (wl7 N) (j + 1) = slc (c7 (N 79) n) (wl7 N) j + if N 79 (9 * n + (j + 1)) = N 80 (j + 1) then 0 else 1 := rfl
    have q4 : slo7 N n x y j = (mxd (pa7 N) (pb7 N) (N 78 21) (N 79 (9 * n + (j + 1))) (N 80 (j + 1)) || decide ((N 79 (9 * n + (j + 1)) = x ∧ N 80 (j + 1) = y) ∨ (N 79 (9 * n + (j + 1)) = y ∧ N 80 (j + 1) = x))) := rfl
    have q5 : alw (slo7 N n x y) (j + 1) = (alw (slo7 N n x y) j && slo7 N n x y j) := rfl
    refine q_iload 29 rfl rfl dX7_slipsOf_27 ?_
    refine q_aload_n 30 rfl rfl dX7_slipsOf_29 ?_
    refine q_getR 33 rfl fX7_16 rfl 77 t_77 (g_77_3 hG) dX7_slipsOf_30 ?_
    refine q_iconst 34 rfl 0 k_i0 dX7_slipsOf_33 ?_
    refine q_iald 35 rfl 80 t_80 (by omega) (by decide) dX7_slipsOf_34 ?_
    refine q_icmp_gt 38 rfl 122 (by decide) (by omega) (by omega) dX7_slipsOf_35 (fun h35 => ?_) (fun h35 => ?_)
    · exfalso; omega
    · refine q_aload_n 39 rfl rfl dX7_slipsOf_38 ?_
      refine q_getR 42 rfl fX7_13 rfl 77 t_77 (g_77_1 hG) dX7_slipsOf_39 ?_
      refine q_bipush 44 rfl 9 k_b9 dX7_slipsOf_42 ?_
      refine q_iload_n 45 rfl rfl dX7_slipsOf_44 ?_
      refine q_imul 46 rfl dX7_slipsOf_45 ?_
      refine q_iload 48 rfl rfl dX7_slipsOf_46 ?_
      refine q_iadd 49 rfl dX7_slipsOf_48 ?_
      refine q_iald 50 rfl 79 t_79 (by omega) (by decide) dX7_slipsOf_49 ?_
      refine q_istore 52 rfl (by decide) dX7_slipsOf_50 ?_
      refine q_aload_n 53 rfl rfl dX7_slipsOf_52 ?_
      refine q_getR 56 rfl fX7_16 rfl 77 t_77 (g_77_3 hG) dX7_slipsOf_53 ?_
      refine q_iload 58 rfl rfl dX7_slipsOf_56 ?_
      refine q_iald 59 rfl 80 t_80 (by omega) (by decide) dX7_slipsOf_58 ?_
      refine q_istore 61 rfl (by decide) dX7_slipsOf_59 ?_
      refine q_aload_n 62 rfl rfl dX7_slipsOf_61 ?_
      refine q_iload 64 rfl rfl dX7_slipsOf_62 ?_
      refine q_iload 66 rfl rfl dX7_slipsOf_64 ?_
      refine q_cV2 69 rfl lX7_258 (k_areMixed hG hs hpr (by omega) (by omega)) rfl 77 t_77 rfl rfl rfl dX7_slipsOf_66 ?_
      refine q_if_neB 72 rfl 99 (by decide) dX7_slipsOf_69 (fun h69 => ?_) (fun h69 => ?_)
      · refine q_iload 101 rfl rfl dX7_slipsOf_99 ?_
        refine q_iload 103 rfl rfl dX7_slipsOf_101 ?_
        refine q_iload 105 rfl rfl dX7_slipsOf_103 ?_
        refine q_icmp_ne 108 rfl 112 (by decide) (by omega) (by omega) dX7_slipsOf_105 (fun h105 => ?_) (fun h105 => ?_)
        · refine q_iconst 113 rfl 1 k_i1 dX7_slipsOf_112 ?_
          refine q_iadd 114 rfl dX7_slipsOf_113 ?_
          refine q_istore 116 rfl (by decide) dX7_slipsOf_114 ?_
          refine q_iinc1 119 rfl 1 k_i1 rfl (by decide) dX7_slipsOf_116 ?_
          refine q_goto 27 (by decide) dX7_slipsOf_119 ?_
          have q6 : slo7 N n x y j = true := by
            rw [q4]
            first
              | (rw [h69, Bool.true_or]; done)
              | (rw [decide_eq_true (by omega), Bool.or_true]; done)
          refine q_loc (ih ⟨by omega, by rw [q5, h_ex.2, q6]; rfl⟩ _ ?_) (q_sub1 rfl (q_sub1 rfl (q_sub1 rfl (q_sub1 rfl (q_sub1 rfl (q_sub1 rfl q_sub0))))))
          rw [q3, h_t]
          first
            | (rw [if_pos (by omega)]; done)
            | (rw [if_neg (by omega)]; done)
        · refine q_iconst 109 rfl 0 k_i0 dX7_slipsOf_108 ?_
          refine q_goto 113 (by decide) dX7_slipsOf_109 ?_
          refine q_iadd 114 rfl dX7_slipsOf_113 ?_
          refine q_istore 116 rfl (by decide) dX7_slipsOf_114 ?_
          refine q_iinc1 119 rfl 1 k_i1 rfl (by decide) dX7_slipsOf_116 ?_
          refine q_goto 27 (by decide) dX7_slipsOf_119 ?_
          have q6 : slo7 N n x y j = true := by
            rw [q4]
            first
              | (rw [h69, Bool.true_or]; done)
              | (rw [decide_eq_true (by omega), Bool.or_true]; done)
          refine q_loc (ih ⟨by omega, by rw [q5, h_ex.2, q6]; rfl⟩ _ ?_) (q_sub1 rfl (q_sub1 rfl (q_sub1 rfl (q_sub1 rfl (q_sub1 rfl (q_sub1 rfl q_sub0))))))
          rw [q3, h_t]
          first
            | (rw [if_pos (by omega)]; done)
            | (rw [if_neg (by omega)]; done)
      · refine q_iload 74 rfl rfl dX7_slipsOf_72 ?_
        refine q_iload_n 75 rfl rfl dX7_slipsOf_74 ?_
        refine q_icmp_ne 78 rfl 84 (by decide) (by omega) (by omega) dX7_slipsOf_75 (fun h75 => ?_) (fun h75 => ?_)
        · refine q_iload 86 rfl rfl dX7_slipsOf_84 ?_
          refine q_iload_n 87 rfl rfl dX7_slipsOf_86 ?_
          refine q_icmp_ne 90 rfl 96 (by decide) (by omega) (by omega) dX7_slipsOf_87 (fun h87 => ?_) (fun h87 => ?_)
          · refine q_bipush 98 rfl 4294967292 k_bm4 dX7_slipsOf_96 ?_
            refine q_iret rfl dX7_slipsOf_98 ?_
            have q6 : slo7 N n x y j = false := by rw [q4, h69, Bool.false_or]; exact decide_eq_false (by omega)
            rw [slp7_no (fun q => by have := alw_at (show j < N 80 0 by omega) q.2; rw [q6] at this; cases this)]
            exact ⟨rfl, rfl⟩
          · refine q_iload 92 rfl rfl dX7_slipsOf_90 ?_
            refine q_iload_n 93 rfl rfl dX7_slipsOf_92 ?_
            refine q_icmp_eq 96 rfl 99 (by decide) (by omega) (by omega) dX7_slipsOf_93 (fun h93 => ?_) (fun h93 => ?_)
            · refine q_iload 101 rfl rfl dX7_slipsOf_99 ?_
              refine q_iload 103 rfl rfl dX7_slipsOf_101 ?_
              refine q_iload 105 rfl rfl dX7_slipsOf_103 ?_
              refine q_icmp_ne 108 rfl 112 (by decide) (by omega) (by omega) dX7_slipsOf_105 (fun h105 => ?_) (fun h105 => ?_)
              · refine q_iconst 113 rfl 1 k_i1 dX7_slipsOf_112 ?_
                refine q_iadd 114 rfl dX7_slipsOf_113 ?_
                refine q_istore 116 rfl (by decide) dX7_slipsOf_114 ?_
                refine q_iinc1 119 rfl 1 k_i1 rfl (by decide) dX7_slipsOf_116 ?_
                refine q_goto 27 (by decide) dX7_slipsOf_119 ?_
                have q6 : slo7 N n x y j = true := by
                  rw [q4]
                  first
                    | (rw [h69, Bool.true_or]; done)
                    | (rw [decide_eq_true (by omega), Bool.or_true]; done)
                refine q_loc (ih ⟨by omega, by rw [q5, h_ex.2, q6]; rfl⟩ _ ?_) (q_sub1 rfl (q_sub1 rfl (q_sub1 rfl (q_sub1 rfl (q_sub1 rfl (q_sub1 rfl q_sub0))))))
                rw [q3, h_t]
                first
                  | (rw [if_pos (by omega)]; done)
                  | (rw [if_neg (by omega)]; done)
              · refine q_iconst 109 rfl 0 k_i0 dX7_slipsOf_108 ?_
                refine q_goto 113 (by decide) dX7_slipsOf_109 ?_
                refine q_iadd 114 rfl dX7_slipsOf_113 ?_
                refine q_istore 116 rfl (by decide) dX7_slipsOf_114 ?_
                refine q_iinc1 119 rfl 1 k_i1 rfl (by decide) dX7_slipsOf_116 ?_
                refine q_goto 27 (by decide) dX7_slipsOf_119 ?_
                have q6 : slo7 N n x y j = true := by
                  rw [q4]
                  first
                    | (rw [h69, Bool.true_or]; done)
                    | (rw [decide_eq_true (by omega), Bool.or_true]; done)
                refine q_loc (ih ⟨by omega, by rw [q5, h_ex.2, q6]; rfl⟩ _ ?_) (q_sub1 rfl (q_sub1 rfl (q_sub1 rfl (q_sub1 rfl (q_sub1 rfl (q_sub1 rfl q_sub0))))))
                rw [q3, h_t]
                first
                  | (rw [if_pos (by omega)]; done)
                  | (rw [if_neg (by omega)]; done)
            · refine q_bipush 98 rfl 4294967292 k_bm4 dX7_slipsOf_96 ?_
              refine q_iret rfl dX7_slipsOf_98 ?_
              have q6 : slo7 N n x y j = false := by rw [q4, h69, Bool.false_or]; exact decide_eq_false (by omega)
              rw [slp7_no (fun q => by have := alw_at (show j < N 80 0 by omega) q.2; rw [q6] at this; cases this)]
              exact ⟨rfl, rfl⟩
        · refine q_iload 80 rfl rfl dX7_slipsOf_78 ?_
          refine q_iload_n 81 rfl rfl dX7_slipsOf_80 ?_
          refine q_icmp_eq 84 rfl 99 (by decide) (by omega) (by omega) dX7_slipsOf_81 (fun h81 => ?_) (fun h81 => ?_)
          · refine q_iload 101 rfl rfl dX7_slipsOf_99 ?_
            refine q_iload 103 rfl rfl dX7_slipsOf_101 ?_
            refine q_iload 105 rfl rfl dX7_slipsOf_103 ?_
            refine q_icmp_ne 108 rfl 112 (by decide) (by omega) (by omega) dX7_slipsOf_105 (fun h105 => ?_) (fun h105 => ?_)
            · refine q_iconst 113 rfl 1 k_i1 dX7_slipsOf_112 ?_
              refine q_iadd 114 rfl dX7_slipsOf_113 ?_
              refine q_istore 116 rfl (by decide) dX7_slipsOf_114 ?_
              refine q_iinc1 119 rfl 1 k_i1 rfl (by decide) dX7_slipsOf_116 ?_
              refine q_goto 27 (by decide) dX7_slipsOf_119 ?_
              have q6 : slo7 N n x y j = true := by
                rw [q4]
                first
                  | (rw [h69, Bool.true_or]; done)
                  | (rw [decide_eq_true (by omega), Bool.or_true]; done)
              refine q_loc (ih ⟨by omega, by rw [q5, h_ex.2, q6]; rfl⟩ _ ?_) (q_sub1 rfl (q_sub1 rfl (q_sub1 rfl (q_sub1 rfl (q_sub1 rfl (q_sub1 rfl q_sub0))))))
              rw [q3, h_t]
              first
                | (rw [if_pos (by omega)]; done)
                | (rw [if_neg (by omega)]; done)
            · refine q_iconst 109 rfl 0 k_i0 dX7_slipsOf_108 ?_
              refine q_goto 113 (by decide) dX7_slipsOf_109 ?_
              refine q_iadd 114 rfl dX7_slipsOf_113 ?_
              refine q_istore 116 rfl (by decide) dX7_slipsOf_114 ?_
              refine q_iinc1 119 rfl 1 k_i1 rfl (by decide) dX7_slipsOf_116 ?_
              refine q_goto 27 (by decide) dX7_slipsOf_119 ?_
              have q6 : slo7 N n x y j = true := by
                rw [q4]
                first
                  | (rw [h69, Bool.true_or]; done)
                  | (rw [decide_eq_true (by omega), Bool.or_true]; done)
              refine q_loc (ih ⟨by omega, by rw [q5, h_ex.2, q6]; rfl⟩ _ ?_) (q_sub1 rfl (q_sub1 rfl (q_sub1 rfl (q_sub1 rfl (q_sub1 rfl (q_sub1 rfl q_sub0))))))
              rw [q3, h_t]
              first
                | (rw [if_pos (by omega)]; done)
                | (rw [if_neg (by omega)]; done)
          · refine q_iload 86 rfl rfl dX7_slipsOf_84 ?_
            refine q_iload_n 87 rfl rfl dX7_slipsOf_86 ?_
            refine q_icmp_ne 90 rfl 96 (by decide) (by omega) (by omega) dX7_slipsOf_87 (fun h87 => ?_) (fun h87 => ?_)
            · refine q_bipush 98 rfl 4294967292 k_bm4 dX7_slipsOf_96 ?_
              refine q_iret rfl dX7_slipsOf_98 ?_
              have q6 : slo7 N n x y j = false := by rw [q4, h69, Bool.false_or]; exact decide_eq_false (by omega)
              rw [slp7_no (fun q => by have := alw_at (show j < N 80 0 by omega) q.2; rw [q6] at this; cases this)]
              exact ⟨rfl, rfl⟩
            · refine q_iload 92 rfl rfl dX7_slipsOf_90 ?_
              refine q_iload_n 93 rfl rfl dX7_slipsOf_92 ?_
              refine q_icmp_eq 96 rfl 99 (by decide) (by omega) (by omega) dX7_slipsOf_93 (fun h93 => ?_) (fun h93 => ?_)
              · refine q_iload 101 rfl rfl dX7_slipsOf_99 ?_
                refine q_iload 103 rfl rfl dX7_slipsOf_101 ?_
                refine q_iload 105 rfl rfl dX7_slipsOf_103 ?_
                refine q_icmp_ne 108 rfl 112 (by decide) (by omega) (by omega) dX7_slipsOf_105 (fun h105 => ?_) (fun h105 => ?_)
                · refine q_iconst 113 rfl 1 k_i1 dX7_slipsOf_112 ?_
                  refine q_iadd 114 rfl dX7_slipsOf_113 ?_
                  refine q_istore 116 rfl (by decide) dX7_slipsOf_114 ?_
                  refine q_iinc1 119 rfl 1 k_i1 rfl (by decide) dX7_slipsOf_116 ?_
                  refine q_goto 27 (by decide) dX7_slipsOf_119 ?_
                  have q6 : slo7 N n x y j = true := by
                    rw [q4]
                    first
                      | (rw [h69, Bool.true_or]; done)
                      | (rw [decide_eq_true (by omega), Bool.or_true]; done)
                  refine q_loc (ih ⟨by omega, by rw [q5, h_ex.2, q6]; rfl⟩ _ ?_) (q_sub1 rfl (q_sub1 rfl (q_sub1 rfl (q_sub1 rfl (q_sub1 rfl (q_sub1 rfl q_sub0))))))
                  rw [q3, h_t]
                  first
                    | (rw [if_pos (by omega)]; done)
                    | (rw [if_neg (by omega)]; done)
                · refine q_iconst 109 rfl 0 k_i0 dX7_slipsOf_108 ?_
                  refine q_goto 113 (by decide) dX7_slipsOf_109 ?_
                  refine q_iadd 114 rfl dX7_slipsOf_113 ?_
                  refine q_istore 116 rfl (by decide) dX7_slipsOf_114 ?_
                  refine q_iinc1 119 rfl 1 k_i1 rfl (by decide) dX7_slipsOf_116 ?_
                  refine q_goto 27 (by decide) dX7_slipsOf_119 ?_
                  have q6 : slo7 N n x y j = true := by
                    rw [q4]
                    first
                      | (rw [h69, Bool.true_or]; done)
                      | (rw [decide_eq_true (by omega), Bool.or_true]; done)
                  refine q_loc (ih ⟨by omega, by rw [q5, h_ex.2, q6]; rfl⟩ _ ?_) (q_sub1 rfl (q_sub1 rfl (q_sub1 rfl (q_sub1 rfl (q_sub1 rfl (q_sub1 rfl q_sub0))))))
                  rw [q3, h_t]
                  first
                    | (rw [if_pos (by omega)]; done)
                    | (rw [if_neg (by omega)]; done)
              · refine q_bipush 98 rfl 4294967292 k_bm4 dX7_slipsOf_96 ?_
                refine q_iret rfl dX7_slipsOf_98 ?_
                have q6 : slo7 N n x y j = false := by rw [q4, h69, Bool.false_or]; exact decide_eq_false (by omega)
                rw [slp7_no (fun q => by have := alw_at (show j < N 80 0 by omega) q.2; rw [q6] at this; cases this)]
                exact ⟨rfl, rfl⟩
theorem k_slipsOf {n x y : Nat} (hG : GF ad G) (hs : ∀ i, i < 240 → N 78 i < 26) (hpr : N 78 21 ≤ 5) (hb : ∀ i, i < 81 → N 79 i < 26) (hw : ∀ i, i < 9 → N 80 i < 26) (hw0 : N 80 0 ≤ 8) (hn : n < 9) (hx1 : x < 4294967296) (hy1 : y < 4294967296) : q_Con Γ mX7_slipsOf 1 0 0 [.ref (ad 77), .int (nI n), .int (nI x), .int (nI y)] (LT ad, N, L, G) (q_is (some (.int (nI (slp7 N n x y)))) (LT ad, N, L, G)) := by
  refine q_con (by decide) rfl rfl (Nat.le_of_ble_eq_true rfl) ?_
  refine q_aload_n 1 rfl rfl dX7_slipsOf_0 ?_
  refine q_getR 4 rfl fX7_13 rfl 77 t_77 (g_77_1 hG) dX7_slipsOf_1 ?_
  refine q_bipush 6 rfl 9 k_b9 dX7_slipsOf_4 ?_
  refine q_iload_n 7 rfl rfl dX7_slipsOf_6 ?_
  refine q_imul 8 rfl dX7_slipsOf_7 ?_
  refine q_iald 9 rfl 79 t_79 (by omega) (by decide) dX7_slipsOf_8 ?_
  refine q_aload_n 10 rfl rfl dX7_slipsOf_9 ?_
  refine q_getR 13 rfl fX7_16 rfl 77 t_77 (g_77_3 hG) dX7_slipsOf_10 ?_
  refine q_iconst 14 rfl 0 k_i0 dX7_slipsOf_13 ?_
  refine q_iald 15 rfl 80 t_80 (by omega) (by decide) dX7_slipsOf_14 ?_
  have q1 := hb (9 * n) (by omega)
  refine q_icmp_eq 18 rfl 21 (by decide) (by omega) (by omega) dX7_slipsOf_15 (fun h15 => ?_) (fun h15 => ?_)
  · refine q_iconst 22 rfl 0 k_i0 dX7_slipsOf_21 ?_
    refine q_istore 24 rfl (by decide) dX7_slipsOf_22 ?_
    refine q_iconst 25 rfl 1 k_i1 dX7_slipsOf_24 ?_
    refine q_istore 27 rfl (by decide) dX7_slipsOf_25 ?_
    exact q_loc (slipsOf_lp hG hs hpr hb hw hw0 hn hx1 hy1 (by assumption) 1 (by omega) ⟨by omega, rfl⟩ _ rfl) (q_sub1 rfl (q_sub1 rfl (q_sub1 rfl (q_sub1 rfl (q_sub1 rfl (q_sub1 rfl q_sub0))))))
  · refine q_bipush 20 rfl 4294967292 k_bm4 dX7_slipsOf_18 ?_
    refine q_iret rfl dX7_slipsOf_20 ?_
    rw [slp7_no (fun q => (by assumption : ¬ N 79 (9 * n) = N 80 0) q.1)]
    exact ⟨rfl, rfl⟩
abbrev mnt7 (N : Nat → Nat → Nat) (c x y : Nat) : Nat := mk (fun n => decide (slp7 N n x y ≠ 4294967292)) c
theorem meantBy_lp {Z : q_Zt} {mc mz : Nat} {c x y : Nat} (hG : GF ad G) (hs : ∀ i, i < 240 → N 78 i < 26) (hpr : N 78 21 ≤ 5) (hc : N 77 2 = c) (hc9 : c ≤ 9) (hb : ∀ i, i < 81 → N 79 i < 26) (hw : ∀ i, i < 9 → N 80 i < 26) (hw0 : N 80 0 ≤ 8) (hx1 : x < 4294967296) (hy1 : y < 4294967296) (hx : q_R Γ mX7_meantBy (q_room 2 mc mz) Z 0 0 44 [(3, .int (nI (mk (fun n => decide (slp7 N n x y ≠ 4294967292)) (c))))] [] (LT ad, N, L, G)) : ∀ i, i ≤ c →  ∀ s : Nat, s = mk (fun n => decide (slp7 N n x y ≠ 4294967292)) i → q_R Γ mX7_meantBy (q_room 2 mc mz) Z 0 0 5 [(0, .ref (ad 77)), (1, .int (nI x)), (2, .int (nI y)), (3, .int (nI s)), (4, .int (nI i))] [] (LT ad, N, L, G) := by
  refine dn_loop (c) ?_ ?_
  · intro s h_s
    refine q_iload 7 rfl rfl dX7_meantBy_5 ?_
    refine q_aload_n 8 rfl rfl dX7_meantBy_7 ?_
    refine q_getI 11 rfl fX7_155 rfl 77 t_77 dX7_meantBy_8 ?_
    refine q_icmp_ge 14 rfl 44 (by decide) (by omega) (by omega) dX7_meantBy_11 (fun h11 => ?_) (fun h11 => ?_)
    · subst h_s
      exact q_loc hx (q_sub1 rfl q_sub0)
    · exfalso; omega
  · intro i h_i ih s h_s
    have q1 : slp7 N i x y < 4294967296 := by
      simp only [slp7, slp]
      have := slc_le (c7 (N 79) i) (wl7 N) (N 80 0)
      split <;> omega
    refine q_iload 7 rfl rfl dX7_meantBy_5 ?_
    refine q_aload_n 8 rfl rfl dX7_meantBy_7 ?_
    refine q_getI 11 rfl fX7_155 rfl 77 t_77 dX7_meantBy_8 ?_
    refine q_icmp_ge 14 rfl 44 (by decide) (by omega) (by omega) dX7_meantBy_11 (fun h11 => ?_) (fun h11 => ?_)
    · exfalso; omega
    · refine q_iload_n 15 rfl rfl dX7_meantBy_14 ?_
      refine q_aload_n 16 rfl rfl dX7_meantBy_15 ?_
      refine q_iload 18 rfl rfl dX7_meantBy_16 ?_
      refine q_iload_n 19 rfl rfl dX7_meantBy_18 ?_
      refine q_iload_n 20 rfl rfl dX7_meantBy_19 ?_
      refine q_cV3 23 rfl lX7_262 (k_slipsOf hG hs hpr hb hw hw0 (by omega) hx1 hy1) rfl 77 t_77 rfl rfl rfl dX7_meantBy_20 ?_
      refine q_bipush 25 rfl 4294967292 k_bm4 dX7_meantBy_23 ?_
      refine q_icmp_eq 28 rfl 35 (by decide) (by omega) (by omega) dX7_meantBy_25 (fun h25 => ?_) (fun h25 => ?_)
      · refine q_iconst 36 rfl 0 k_i0 dX7_meantBy_35 ?_
        refine q_ior 37 rfl dX7_meantBy_36 ?_
        refine q_istore_n 38 rfl (by decide) dX7_meantBy_37 ?_
        refine q_iinc1 41 rfl 1 k_i1 rfl (by decide) dX7_meantBy_38 ?_
        refine q_goto 5 (by decide) dX7_meantBy_41 ?_
        refine q_loc (ih _ ?_) (q_sub1 rfl (q_sub1 rfl (q_sub1 rfl (q_sub1 rfl (q_sub1 rfl q_sub0)))))
        · rw [h_s]
          simp only [mk]
          first
            | (rw [if_pos (decide_eq_true (by assumption)), Nat.one_mul]; done)
            | (rw [if_neg (show ¬ (decide (slp7 N i x y ≠ 4294967292) = true) from fun q => absurd (by assumption) (of_decide_eq_true q))]; done)
      · refine q_iconst 29 rfl 1 k_i1 dX7_meantBy_28 ?_
        refine q_iload 31 rfl rfl dX7_meantBy_29 ?_
        refine q_ishl 32 rfl (by omega) dX7_meantBy_31 ?_
        refine q_goto 36 (by decide) dX7_meantBy_32 ?_
        refine q_ior 37 rfl dX7_meantBy_36 ?_
        refine q_istore_n 38 rfl (by decide) dX7_meantBy_37 ?_
        refine q_iinc1 41 rfl 1 k_i1 rfl (by decide) dX7_meantBy_38 ?_
        refine q_goto 5 (by decide) dX7_meantBy_41 ?_
        refine q_loc (ih _ ?_) (q_sub1 rfl (q_sub1 rfl (q_sub1 rfl (q_sub1 rfl (q_sub1 rfl q_sub0)))))
        · rw [h_s]
          simp only [mk]
          first
            | (rw [if_pos (decide_eq_true (by assumption)), Nat.one_mul]; done)
            | (rw [if_neg (show ¬ (decide (slp7 N i x y ≠ 4294967292) = true) from fun q => absurd (by assumption) (of_decide_eq_true q))]; done)
theorem k_meantBy {c x y : Nat} (hG : GF ad G) (hs : ∀ i, i < 240 → N 78 i < 26) (hpr : N 78 21 ≤ 5) (hc : N 77 2 = c) (hc9 : c ≤ 9) (hb : ∀ i, i < 81 → N 79 i < 26) (hw : ∀ i, i < 9 → N 80 i < 26) (hw0 : N 80 0 ≤ 8) (hx1 : x < 4294967296) (hy1 : y < 4294967296) : q_Con Γ mX7_meantBy 2 0 0 [.ref (ad 77), .int (nI x), .int (nI y)] (LT ad, N, L, G) (q_is (some (.int (nI (mnt7 N c x y)))) (LT ad, N, L, G)) := by
  refine q_con (by decide) rfl rfl (Nat.le_of_ble_eq_true rfl) ?_
  refine q_iconst 1 rfl 0 k_i0 dX7_meantBy_0 ?_
  refine q_istore_n 2 rfl (by decide) dX7_meantBy_1 ?_
  refine q_iconst 3 rfl 0 k_i0 dX7_meantBy_2 ?_
  refine q_istore 5 rfl (by decide) dX7_meantBy_3 ?_
  refine q_loc (meantBy_lp hG hs hpr hc hc9 hb hw hw0 hx1 hy1 ?_ 0 (by omega) _ rfl) (q_sub1 rfl (q_sub1 rfl (q_sub1 rfl (q_sub1 rfl (q_sub1 rfl q_sub0)))))
  refine q_iload_n 45 rfl rfl dX7_meantBy_44 ?_
  refine q_iret rfl dX7_meantBy_45 ?_
  exact ⟨rfl, rfl⟩
theorem k_meant7 {c : Nat} (hG : GF ad G) (hM : MS N c) (hw : ∀ i, i < 9 → N 80 i < 26) (hw0 : N 80 0 ≤ 8) : q_Con Γ mX7_meant 3 0 0 [.ref (ad 77)] (LT ad, N, L, G) (q_is (some (.int (nI (mnt7 N c 4294967292 4294967292)))) (LT ad, N, L, G)) := by
  obtain ⟨hc, hc9, hb, hl, hs, hk, hms, hpr, hg9, hh, hgn, hga, hod, ho1⟩ := id hM
  refine q_con (by decide) rfl rfl (Nat.le_of_ble_eq_true rfl) ?_
  refine q_aload_n 1 rfl rfl dX7_meant_0 ?_
  refine q_bipush 3 rfl 4294967292 k_bm4 dX7_meant_1 ?_
  refine q_bipush 5 rfl 4294967292 k_bm4 dX7_meant_3 ?_
  refine q_cV2 8 rfl lX7_265 (k_meantBy hG hs hpr hc hc9 hb hw hw0 (by omega) (by omega)) rfl 77 t_77 rfl rfl rfl dX7_meant_5 ?_
  refine q_iret rfl dX7_meant_8 ?_
  exact ⟨rfl, rfl⟩
theorem k_slips7 {X : Nat} {c : Nat} (hG : GF ad G) (hM : MS N c) (hw : ∀ i, i < 9 → N 80 i < 26) (hw0 : N 80 0 ≤ 8) (hX : X < 4294967296) : q_Con Γ mX7_slips 2 0 0 [.ref (ad 77), .int (nI X)] (LT ad, N, L, G) (q_is (some (.int (nI (if X < c then slp7 N X 4294967292 4294967292 else 4294967295)))) (LT ad, N, L, G)) := by
  obtain ⟨hc, hc9, hb, hl, hs, hk, hms, hpr, hg9, hh, hgn, hga, hod, ho1⟩ := id hM
  refine q_con (by decide) rfl rfl (Nat.le_of_ble_eq_true rfl) ?_
  refine q_aload_n 1 rfl rfl dX7_slips_0 ?_
  refine q_iload_n 2 rfl rfl dX7_slips_1 ?_
  refine q_cV1 5 rfl lX7_160 (k_isName7 hG hc hc9 hX) rfl 77 t_77 rfl rfl rfl dX7_slips_2 ?_
  refine q_if_eqD 8 rfl 20 (by decide) dX7_slips_5 (fun h5 => ?_) (fun h5 => ?_)
  · refine q_iconst 21 rfl 4294967295 k_im1 dX7_slips_20 ?_
    refine q_iret rfl dX7_slips_21 ?_
    first
      | (rw [if_pos (by assumption)]; exact ⟨rfl, rfl⟩)
      | (rw [if_neg (by assumption)]; exact ⟨rfl, rfl⟩)
  · refine q_aload_n 9 rfl rfl dX7_slips_8 ?_
    refine q_iload_n 10 rfl rfl dX7_slips_9 ?_
    refine q_bipush 12 rfl 4294967292 k_bm4 dX7_slips_10 ?_
    refine q_bipush 14 rfl 4294967292 k_bm4 dX7_slips_12 ?_
    refine q_cV3 17 rfl lX7_262 (k_slipsOf hG hs hpr hb hw hw0 (by omega) (by omega) (by omega)) rfl 77 t_77 rfl rfl rfl dX7_slips_14 ?_
    refine q_goto 21 (by decide) dX7_slips_17 ?_
    refine q_iret rfl dX7_slips_21 ?_
    first
      | (rw [if_pos (by assumption)]; exact ⟨rfl, rfl⟩)
      | (rw [if_neg (by assumption)]; exact ⟨rfl, rfl⟩)
abbrev mor7 (N : Nat → Nat → Nat) (c : Nat) : Nat → Nat × Nat := amax (fun k => decide (k / 26 < k % 26)) (fun k => pc (mnt7 N c (k / 26) (k % 26)) 26) (pc (mnt7 N c 4294967292 4294967292) 26) 4294967292
def mov (q : Nat × Nat) (Y : Nat) : Nat := if Y ≤ 1 then (if q.2 = 4294967292 ∨ Y = 0 then q.2 else q.1) else 4294967295
theorem amax_le {p : Nat → Bool} {f : Nat → Nat} {m w b : Nat} (hf : ∀ i, f i ≤ b) (hm : m ≤ b) (k : Nat) : (amax p f m w k).1 ≤ b := by
  induction k with
  | zero => exact hm
  | succ k ih => simp only [amax]; split
                 · exact hf k
                 · exact ih
theorem amax_w {p : Nat → Bool} {f : Nat → Nat} {m w b : Nat} (hw : w ≤ b) (k : Nat) (hk : k ≤ b) : (amax p f m w k).2 ≤ b := by
  induction k with
  | zero => exact hw
  | succ k ih => simp only [amax]; split
                 · show k ≤ b; omega
                 · exact ih (by omega)
theorem more7_lp {Z : q_Zt} {Y mc mz : Nat} {c : Nat} (hG : GF ad G) (hs : ∀ i, i < 240 → N 78 i < 26) (hpr : N 78 21 ≤ 5) (hc : N 77 2 = c) (hc9 : c ≤ 9) (hb : ∀ i, i < 81 → N 79 i < 26) (hw : ∀ i, i < 9 → N 80 i < 26) (hw0 : N 80 0 ≤ 8) (hx : q_R Γ mX7_more (q_room 3 mc mz) Z 0 0 102 [(1, .int (nI Y)), (2, .int (nI ((mor7 N c (676)).1))), (3, .int (nI ((mor7 N c (676)).2)))] [] (LT ad, N, L, G)) : ∀ i, i ≤ 676 →  ∀ a : Nat, a = (mor7 N c i).1 → ∀ b : Nat, b = (mor7 N c i).2 → q_R Γ mX7_more (q_room 3 mc mz) Z 0 0 30 [(0, .ref (ad 77)), (1, .int (nI Y)), (2, .int (nI a)), (3, .int (nI b)), (4, .int (nI i))] [] (LT ad, N, L, G) := by
  refine dn_loop (676) ?_ ?_
  · intro a h_a b h_b
    refine q_iload 32 rfl rfl dX7_more_30 ?_
    refine q_sipush 35 rfl 676 k_s676 dX7_more_32 ?_
    refine q_icmp_ge 38 rfl 102 (by decide) (by omega) (by omega) dX7_more_35 (fun h35 => ?_) (fun h35 => ?_)
    · rw [h_a]
      rw [h_b]
      exact q_loc hx (q_sub1 rfl (q_sub1 rfl (q_sub1 rfl q_sub0)))
    · exfalso; omega
  · intro i h_i ih a h_a b h_b
    have p9 := p2_9 hc9
    have q1 := pc_le (mnt7 N c (i / 26) (i % 26)) 26
    have q2 := mk_lt (fun n => decide (slp7 N n (i / 26) (i % 26) ≠ 4294967292)) c
    have q3 : (mor7 N c i).1 ≤ 26 := amax_le (fun _ => pc_le _ _) (pc_le _ _) i
    have q4 : mor7 N c (i + 1) = if decide (i / 26 < i % 26) = true ∧ pc (mnt7 N c (i / 26) (i % 26)) 26 > (mor7 N c i).1 then (pc (mnt7 N c (i / 26) (i % 26)) 26, i) else mor7 N c i := rfl
    refine q_iload 32 rfl rfl dX7_more_30 ?_
    refine q_sipush 35 rfl 676 k_s676 dX7_more_32 ?_
    refine q_icmp_ge 38 rfl 102 (by decide) (by omega) (by omega) dX7_more_35 (fun h35 => ?_) (fun h35 => ?_)
    · exfalso; omega
    · refine q_iload 40 rfl rfl dX7_more_38 ?_
      refine q_bipush 42 rfl 26 k_b26 dX7_more_40 ?_
      refine q_idiv 43 rfl (by omega) (by omega) (by omega) dX7_more_42 ?_
      refine q_iload 45 rfl rfl dX7_more_43 ?_
      refine q_bipush 47 rfl 26 k_b26 dX7_more_45 ?_
      refine q_irem 48 rfl (by omega) (by omega) (by omega) dX7_more_47 ?_
      refine q_icmp_ge 51 rfl 96 (by decide) (by omega) (by omega) dX7_more_48 (fun h48 => ?_) (fun h48 => ?_)
      · refine q_iinc1 99 rfl 1 k_i1 rfl (by decide) dX7_more_96 ?_
        refine q_goto 30 (by decide) dX7_more_99 ?_
        refine q_loc (ih _ ?_ _ ?_) (q_sub1 rfl (q_sub1 rfl (q_sub1 rfl (q_sub1 rfl (q_sub1 rfl q_sub0)))))
        · rw [q4]
          first
            | (rw [if_pos ⟨decide_eq_true (by omega), by omega⟩]; done)
            | (rw [if_neg (fun q => by have := of_decide_eq_true q.1; omega)]; exact h_a)
        · rw [q4]
          first
            | (rw [if_pos ⟨decide_eq_true (by omega), by omega⟩]; done)
            | (rw [if_neg (fun q => by have := of_decide_eq_true q.1; omega)]; exact h_b)
      · refine q_aload_n 52 rfl rfl dX7_more_51 ?_
        refine q_iload 54 rfl rfl dX7_more_52 ?_
        refine q_bipush 56 rfl 26 k_b26 dX7_more_54 ?_
        refine q_idiv 57 rfl (by omega) (by omega) (by omega) dX7_more_56 ?_
        refine q_iload 59 rfl rfl dX7_more_57 ?_
        refine q_bipush 61 rfl 26 k_b26 dX7_more_59 ?_
        refine q_irem 62 rfl (by omega) (by omega) (by omega) dX7_more_61 ?_
        refine q_cV2 65 rfl lX7_265 (k_meantBy hG hs hpr hc hc9 hb hw hw0 (by omega) (by omega)) rfl 77 t_77 rfl rfl rfl dX7_more_62 ?_
        refine q_cS1 68 rfl lX7_191 (k_bitsOf (Nat.lt_trans q2 (by omega))) rfl rfl rfl dX7_more_65 ?_
        refine q_istore 70 rfl (by decide) dX7_more_68 ?_
        refine q_iload 72 rfl rfl dX7_more_70 ?_
        refine q_iload_n 73 rfl rfl dX7_more_72 ?_
        refine q_icmp_le 76 rfl 81 (by decide) (by omega) (by omega) dX7_more_73 (fun h73 => ?_) (fun h73 => ?_)
        · first
          | (exfalso; omega)
          | (refine q_iload_n 82 rfl rfl dX7_more_81 ?_
             refine q_istore_n 83 rfl (by decide) dX7_more_82 ?_
             refine q_iload 85 rfl rfl dX7_more_83 ?_
             refine q_iload_n 86 rfl rfl dX7_more_85 ?_
             refine q_icmp_le 89 rfl 94 (by decide) (by omega) (by omega) dX7_more_86 (fun h86 => ?_) (fun h86 => ?_)
             · first
               | (exfalso; omega)
               | (refine q_iload_n 95 rfl rfl dX7_more_94 ?_
                  refine q_istore_n 96 rfl (by decide) dX7_more_95 ?_
                  refine q_iinc1 99 rfl 1 k_i1 rfl (by decide) dX7_more_96 ?_
                  refine q_goto 30 (by decide) dX7_more_99 ?_
                  refine q_loc (ih _ ?_ _ ?_) (q_sub1 rfl (q_sub1 rfl (q_sub1 rfl (q_sub1 rfl (q_sub1 rfl q_sub0)))))
                  · rw [q4]
                    first
                      | (rw [if_pos ⟨decide_eq_true (by omega), by omega⟩]; done)
                      | (rw [if_neg (fun q => by have := of_decide_eq_true q.1; omega)]; exact h_a)
                  · rw [q4]
                    first
                      | (rw [if_pos ⟨decide_eq_true (by omega), by omega⟩]; done)
                      | (rw [if_neg (fun q => by have := of_decide_eq_true q.1; omega)]; exact h_b))
             · first
               | (exfalso; omega)
               | (refine q_iload 91 rfl rfl dX7_more_89 ?_
                  refine q_goto 95 (by decide) dX7_more_91 ?_
                  refine q_istore_n 96 rfl (by decide) dX7_more_95 ?_
                  refine q_iinc1 99 rfl 1 k_i1 rfl (by decide) dX7_more_96 ?_
                  refine q_goto 30 (by decide) dX7_more_99 ?_
                  refine q_loc (ih _ ?_ _ ?_) (q_sub1 rfl (q_sub1 rfl (q_sub1 rfl (q_sub1 rfl (q_sub1 rfl q_sub0)))))
                  · rw [q4]
                    first
                      | (rw [if_pos ⟨decide_eq_true (by omega), by omega⟩]; done)
                      | (rw [if_neg (fun q => by have := of_decide_eq_true q.1; omega)]; exact h_a)
                  · rw [q4]
                    first
                      | (rw [if_pos ⟨decide_eq_true (by omega), by omega⟩]; done)
                      | (rw [if_neg (fun q => by have := of_decide_eq_true q.1; omega)]; exact h_b)))
        · first
          | (exfalso; omega)
          | (refine q_iload 78 rfl rfl dX7_more_76 ?_
             refine q_goto 82 (by decide) dX7_more_78 ?_
             refine q_istore_n 83 rfl (by decide) dX7_more_82 ?_
             refine q_iload 85 rfl rfl dX7_more_83 ?_
             refine q_iload_n 86 rfl rfl dX7_more_85 ?_
             refine q_icmp_le 89 rfl 94 (by decide) (by omega) (by omega) dX7_more_86 (fun h86 => ?_) (fun h86 => ?_)
             · first
               | (exfalso; omega)
               | (refine q_iload_n 95 rfl rfl dX7_more_94 ?_
                  refine q_istore_n 96 rfl (by decide) dX7_more_95 ?_
                  refine q_iinc1 99 rfl 1 k_i1 rfl (by decide) dX7_more_96 ?_
                  refine q_goto 30 (by decide) dX7_more_99 ?_
                  refine q_loc (ih _ ?_ _ ?_) (q_sub1 rfl (q_sub1 rfl (q_sub1 rfl (q_sub1 rfl (q_sub1 rfl q_sub0)))))
                  · rw [q4]
                    first
                      | (rw [if_pos ⟨decide_eq_true (by omega), by omega⟩]; done)
                      | (rw [if_neg (fun q => by have := of_decide_eq_true q.1; omega)]; exact h_a)
                  · rw [q4]
                    first
                      | (rw [if_pos ⟨decide_eq_true (by omega), by omega⟩]; done)
                      | (rw [if_neg (fun q => by have := of_decide_eq_true q.1; omega)]; exact h_b))
             · first
               | (exfalso; omega)
               | (refine q_iload 91 rfl rfl dX7_more_89 ?_
                  refine q_goto 95 (by decide) dX7_more_91 ?_
                  refine q_istore_n 96 rfl (by decide) dX7_more_95 ?_
                  refine q_iinc1 99 rfl 1 k_i1 rfl (by decide) dX7_more_96 ?_
                  refine q_goto 30 (by decide) dX7_more_99 ?_
                  refine q_loc (ih _ ?_ _ ?_) (q_sub1 rfl (q_sub1 rfl (q_sub1 rfl (q_sub1 rfl (q_sub1 rfl q_sub0)))))
                  · rw [q4]
                    first
                      | (rw [if_pos ⟨decide_eq_true (by omega), by omega⟩]; done)
                      | (rw [if_neg (fun q => by have := of_decide_eq_true q.1; omega)]; exact h_a)
                  · rw [q4]
                    first
                      | (rw [if_pos ⟨decide_eq_true (by omega), by omega⟩]; done)
                      | (rw [if_neg (fun q => by have := of_decide_eq_true q.1; omega)]; exact h_b)))
theorem k_more7 {Y : Nat} {c : Nat} (hG : GF ad G) (hM : MS N c) (hw : ∀ i, i < 9 → N 80 i < 26) (hw0 : N 80 0 ≤ 8) (hY : Y < 4294967296) : q_Con Γ mX7_more 3 0 0 [.ref (ad 77), .int (nI Y)] (LT ad, N, L, G) (q_is (some (.int (nI (mov (mor7 N c 676) Y)))) (LT ad, N, L, G)) := by
  obtain ⟨hc, hc9, hb, hl, hs, hk, hms, hpr, hg9, hh, hgn, hga, hod, ho1⟩ := id hM
  have p9 := p2_9 hc9
  have q2 := mk_lt (fun n => decide (slp7 N n 4294967292 4294967292 ≠ 4294967292)) c
  have q5 : (mor7 N c 676).2 ≤ 4294967292 := amax_w (by omega) 676 (by omega)
  refine q_con (by decide) rfl rfl (Nat.le_of_ble_eq_true rfl) ?_
  refine q_iload_n 1 rfl rfl dX7_more_0 ?_
  refine q_i2l 2 rfl dX7_more_1 ?_
  refine q_lconst 3 rfl 0 lN0 dX7_more_2 ?_
  refine q_lconst 4 rfl 1 lN1 dX7_more_3 ?_
  refine q_cS3 7 rfl lX7_68 (k_in hY (by omega) (by omega) rfl (by omega) (by omega)) rfl rfl rfl dX7_more_4 ?_
  refine q_if_neD 10 rfl 12 (by decide) dX7_more_7 (fun h7 => ?_) (fun h7 => ?_)
  · refine q_aload_n 13 rfl rfl dX7_more_12 ?_
    refine q_bipush 15 rfl 4294967292 k_bm4 dX7_more_13 ?_
    refine q_bipush 17 rfl 4294967292 k_bm4 dX7_more_15 ?_
    refine q_cV2 20 rfl lX7_265 (k_meantBy hG hs hpr hc hc9 hb hw hw0 (by omega) (by omega)) rfl 77 t_77 rfl rfl rfl dX7_more_17 ?_
    refine q_cS1 23 rfl lX7_191 (k_bitsOf (Nat.lt_trans q2 (by omega))) rfl rfl rfl dX7_more_20 ?_
    refine q_istore_n 24 rfl (by decide) dX7_more_23 ?_
    refine q_bipush 26 rfl 4294967292 k_bm4 dX7_more_24 ?_
    refine q_istore_n 27 rfl (by decide) dX7_more_26 ?_
    refine q_iconst 28 rfl 0 k_i0 dX7_more_27 ?_
    refine q_istore 30 rfl (by decide) dX7_more_28 ?_
    refine q_loc (more7_lp (N := N) hG hs hpr hc hc9 hb hw hw0 ?_ 0 (by omega) _ rfl _ rfl) (q_sub1 rfl (q_sub1 rfl (q_sub1 rfl (q_sub1 rfl (q_sub1 rfl q_sub0)))))
    generalize mor7 N c 676 = qq at *
    refine q_iload_n 103 rfl rfl dX7_more_102 ?_
    refine q_bipush 105 rfl 4294967292 k_bm4 dX7_more_103 ?_
    refine q_icmp_eq 108 rfl 112 (by decide) (by omega) (by omega) dX7_more_105 (fun h105 => ?_) (fun h105 => ?_)
    · refine q_iload_n 113 rfl rfl dX7_more_112 ?_
      refine q_goto 117 (by decide) dX7_more_113 ?_
      refine q_iret rfl dX7_more_117 ?_
      first
        | (rw [mov, if_neg (by omega)]; exact ⟨rfl, rfl⟩)
        | (rw [mov, if_pos (by omega), if_pos (by omega)]; exact ⟨rfl, rfl⟩)
        | (rw [mov, if_pos (by omega), if_neg (by omega)]; exact ⟨rfl, rfl⟩)
    · refine q_iload_n 109 rfl rfl dX7_more_108 ?_
      refine q_if_ne 112 rfl 116 (by decide) (by omega) dX7_more_109 (fun h109 => ?_) (fun h109 => ?_)
      · refine q_iload_n 117 rfl rfl dX7_more_116 ?_
        refine q_iret rfl dX7_more_117 ?_
        first
          | (rw [mov, if_neg (by omega)]; exact ⟨rfl, rfl⟩)
          | (rw [mov, if_pos (by omega), if_pos (by omega)]; exact ⟨rfl, rfl⟩)
          | (rw [mov, if_pos (by omega), if_neg (by omega)]; exact ⟨rfl, rfl⟩)
      · refine q_iload_n 113 rfl rfl dX7_more_112 ?_
        refine q_goto 117 (by decide) dX7_more_113 ?_
        refine q_iret rfl dX7_more_117 ?_
        first
          | (rw [mov, if_neg (by omega)]; exact ⟨rfl, rfl⟩)
          | (rw [mov, if_pos (by omega), if_pos (by omega)]; exact ⟨rfl, rfl⟩)
          | (rw [mov, if_pos (by omega), if_neg (by omega)]; exact ⟨rfl, rfl⟩)
  · refine q_iconst 11 rfl 4294967295 k_im1 dX7_more_10 ?_
    refine q_iret rfl dX7_more_11 ?_
    first
      | (rw [mov, if_neg (by omega)]; exact ⟨rfl, rfl⟩)
      | (rw [mov, if_pos (by omega), if_pos (by omega)]; exact ⟨rfl, rfl⟩)
      | (rw [mov, if_pos (by omega), if_neg (by omega)]; exact ⟨rfl, rfl⟩)
end
