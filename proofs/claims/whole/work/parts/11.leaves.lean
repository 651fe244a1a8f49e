section
variable {Γ : q_G} {m : q_M} {rm : Room} {Z : q_Zt} {k n pc : Nat} {lv : List (Nat × Value)} {st : List Value} {h : q_H}
theorem q_if_eqD (pc' : Nat) (hp : pc + 3 = pc') (tgt : Nat) {off : Int} (ht : (pc : Int) + off = (tgt : Int)) {p : Prop} [Decidable p] (hd : decode m.2.2.1 pc = .ok (.ifCond .eq off, 3)) (kt : ¬ p → q_R Γ m rm Z k n tgt lv st h) (kf : p → q_R Γ m rm Z k n pc' lv st h) : q_R Γ m rm Z k n pc lv (.int (nI (decide p).toNat) :: st) h :=
  q_if_eqB pc' hp tgt ht hd (fun q => kt (of_decide_eq_false q)) (fun q => kf (of_decide_eq_true q))
theorem q_if_neD (pc' : Nat) (hp : pc + 3 = pc') (tgt : Nat) {off : Int} (ht : (pc : Int) + off = (tgt : Int)) {p : Prop} [Decidable p] (hd : decode m.2.2.1 pc = .ok (.ifCond .ne off, 3)) (kt : p → q_R Γ m rm Z k n tgt lv st h) (kf : ¬ p → q_R Γ m rm Z k n pc' lv st h) : q_R Γ m rm Z k n pc lv (.int (nI (decide p).toNat) :: st) h :=
  q_if_neB pc' hp tgt ht hd (fun q => kt (of_decide_eq_true q)) (fun q => kf (of_decide_eq_false q))
end
theorem z_s_pred {c : Nat} (h : c < 2147483648) : z_s (c + 4294967296 - 1) = (c : Int) - 1 := by
  by_cases h0 : c = 0
  · subst h0; decide
  · have e : nI (c + 4294967296 - 1) = nI (c - 1) := by rw [← z_mod]; exact congrArg nI (by omega)
    show (nI (c + 4294967296 - 1)).toInt = _
    rw [e, nI_toInt (by omega)]
    omega
theorem z_s_0 : z_s 0 = 0 := rfl
/-- signed comparisons with small bounds -/
theorem z_in {X : Nat} (hX : X < 4294967296) {lo hi : Int} (h0 : 0 ≤ lo) (h1 : hi < 2147483648) : (lo ≤ z_s X ∧ z_s X ≤ hi) ↔ (lo ≤ (X : Int) ∧ (X : Int) ≤ hi) := by
  by_cases h : X < 2147483648
  · rw [z_s_lo h]
  · rw [z_s_hi (by omega) hX]; constructor <;> intro q <;> omega
theorem vp_b {v : Nat} (h : v < 128) : vp_nar .byte (nI v) = nI v := by
  rw [vp_nar_byte]
  revert v
  decide +kernel
theorem vp_z {v : Nat} (h : v < 2) : vp_nar .boolean (nI v) = nI v := by
  rcases (show v = 0 ∨ v = 1 by omega) with rfl | rfl <;> decide
section
variable {Γ : q_G} {ad : Nat → Nat} {N : Nat → Nat → Nat} {L : Nat → Nat → Int} {G : Nat → Nat → Option Nat}
theorem k_bitCount {h : q_H} {x : Nat} (hx : x < 67108864) : q_Con Γ mJ6_bitCount_0f7a4 0 0 0 [.int (nI x)] h (q_is (some (.int (nI (pc x 26)))) h) := by
  obtain ⟨x1, x2, x3, h1, f1, h2, f2, h3, f3, h4, f5⟩ := bc_road x hx
  refine q_con (by decide) rfl rfl (Nat.le_of_ble_eq_true rfl) ?_
  refine q_iload_n 1 rfl rfl dJ6_bitCount_0f7a4_0 ?_
  refine q_iload_n 2 rfl rfl dJ6_bitCount_0f7a4_1 ?_
  refine q_iconst 3 rfl 1 k_i1 dJ6_bitCount_0f7a4_2 ?_
  refine q_iushr 4 rfl (by omega) (by omega) dJ6_bitCount_0f7a4_3 ?_
  refine q_ldcw 7 rfl 1431655765 kcJ6_265 rfl dJ6_bitCount_0f7a4_4 ?_
  refine q_iand 8 rfl dJ6_bitCount_0f7a4_7 ?_
  refine q_isub 9 rfl (by exact h1) dJ6_bitCount_0f7a4_8 ?_
  rw [f1]
  refine q_istore_n 10 rfl (by decide) dJ6_bitCount_0f7a4_9 ?_
  refine q_iload_n 11 rfl rfl dJ6_bitCount_0f7a4_10 ?_
  refine q_ldcw 14 rfl 858993459 kcJ6_266 rfl dJ6_bitCount_0f7a4_11 ?_
  refine q_iand 15 rfl dJ6_bitCount_0f7a4_14 ?_
  refine q_iload_n 16 rfl rfl dJ6_bitCount_0f7a4_15 ?_
  refine q_iconst 17 rfl 2 k_i2 dJ6_bitCount_0f7a4_16 ?_
  refine q_iushr 18 rfl (by omega) (by omega) dJ6_bitCount_0f7a4_17 ?_
  refine q_ldcw 21 rfl 858993459 kcJ6_266 rfl dJ6_bitCount_0f7a4_18 ?_
  refine q_iand 22 rfl dJ6_bitCount_0f7a4_21 ?_
  refine q_iadd 23 rfl dJ6_bitCount_0f7a4_22 ?_
  rw [f2]
  refine q_istore_n 24 rfl (by decide) dJ6_bitCount_0f7a4_23 ?_
  refine q_iload_n 25 rfl rfl dJ6_bitCount_0f7a4_24 ?_
  refine q_iload_n 26 rfl rfl dJ6_bitCount_0f7a4_25 ?_
  refine q_iconst 27 rfl 4 k_i4 dJ6_bitCount_0f7a4_26 ?_
  refine q_iushr 28 rfl (by omega) (by omega) dJ6_bitCount_0f7a4_27 ?_
  refine q_iadd 29 rfl dJ6_bitCount_0f7a4_28 ?_
  refine q_ldcw 32 rfl 252645135 kcJ6_267 rfl dJ6_bitCount_0f7a4_29 ?_
  refine q_iand 33 rfl dJ6_bitCount_0f7a4_32 ?_
  rw [f3]
  refine q_istore_n 34 rfl (by decide) dJ6_bitCount_0f7a4_33 ?_
  refine q_iload_n 35 rfl rfl dJ6_bitCount_0f7a4_34 ?_
  refine q_iload_n 36 rfl rfl dJ6_bitCount_0f7a4_35 ?_
  refine q_bipush 38 rfl 8 k_b8 dJ6_bitCount_0f7a4_36 ?_
  refine q_iushr 39 rfl (by omega) (by omega) dJ6_bitCount_0f7a4_38 ?_
  refine q_iadd 40 rfl dJ6_bitCount_0f7a4_39 ?_
  refine q_istore_n 41 rfl (by decide) dJ6_bitCount_0f7a4_40 ?_
  refine q_iload_n 42 rfl rfl dJ6_bitCount_0f7a4_41 ?_
  refine q_iload_n 43 rfl rfl dJ6_bitCount_0f7a4_42 ?_
  refine q_bipush 45 rfl 16 k_b16 dJ6_bitCount_0f7a4_43 ?_
  refine q_iushr 46 rfl (by omega) (by omega) dJ6_bitCount_0f7a4_45 ?_
  refine q_iadd 47 rfl dJ6_bitCount_0f7a4_46 ?_
  refine q_istore_n 48 rfl (by decide) dJ6_bitCount_0f7a4_47 ?_
  refine q_iload_n 49 rfl rfl dJ6_bitCount_0f7a4_48 ?_
  refine q_bipush 51 rfl 63 k_b63 dJ6_bitCount_0f7a4_49 ?_
  refine q_iand 52 rfl dJ6_bitCount_0f7a4_51 ?_
  refine q_iret rfl dJ6_bitCount_0f7a4_52 ?_
  rw [f5]
  exact ⟨rfl, rfl⟩
def ntzR (x y : Nat) : Bool := (decide (y < 256) && (!(decide (y = 0)) || decide (y &&& 32 = kth x 0))) && ((!(decide (0 < y) && decide (y ≤ 4)) || decide (1 + y / 2 ^ 1 = kth x 0)) && (!(decide (4 < y) && decide (y ≤ 16)) || decide (1 + 2 + y / 2 ^ 2 / 2 ^ 1 = kth x 0))) && ((!(decide (16 < y) && decide (y / 2 ^ 4 ≤ 4)) || decide (1 + 4 + y / 2 ^ 4 / 2 ^ 1 = kth x 0)) && (!(decide (16 < y) && decide (4 < y / 2 ^ 4)) || decide (1 + 4 + 2 + y / 2 ^ 4 / 2 ^ 2 / 2 ^ 1 = kth x 0)))
theorem ntzR_all : (List.range 512).all (fun x => decide (x = 0) || ntzR x ((x ^^^ 4294967295) &&& (x - 1))) = true := by decide +kernel
theorem ntz_road (x : Nat) (hx : x < 512) (h0 : 0 < x) : ∀ y, y = (x ^^^ 4294967295) &&& (x - 1) → (y < 256 ∧ (y = 0 → y &&& 32 = kth x 0)) ∧ ((0 < y → y ≤ 4 → 1 + y / 2 ^ 1 = kth x 0) ∧ (4 < y → y ≤ 16 → 1 + 2 + y / 2 ^ 2 / 2 ^ 1 = kth x 0)) ∧ ((16 < y → y / 2 ^ 4 ≤ 4 → 1 + 4 + y / 2 ^ 4 / 2 ^ 1 = kth x 0) ∧ (16 < y → 4 < y / 2 ^ 4 → 1 + 4 + 2 + y / 2 ^ 4 / 2 ^ 2 / 2 ^ 1 = kth x 0)) := by
  intro y hy
  have h := List.all_eq_true.mp ntzR_all x (List.mem_range.mpr hx)
  rw [← hy] at h
  have h1 : decide (x = 0) = false := decide_eq_false (by omega)
  rw [h1, Bool.false_or] at h
  simp only [ntzR, Bool.and_eq_true, Bool.or_eq_true, Bool.not_eq_true', decide_eq_true_eq, Bool.and_eq_false_iff, decide_eq_false_iff_not] at h
  obtain ⟨⟨⟨a1, a2⟩, a3, a4⟩, a5, a6⟩ := h
  refine ⟨⟨a1, fun q => ?_⟩, ⟨fun q q2 => ?_, fun q q2 => ?_⟩, fun q q2 => ?_, fun q q2 => ?_⟩
  · rcases a2 with z | z
    · exact absurd q z
    · exact z
  · rcases a3 with (z | z) | z
    · exact absurd q z
    · exact absurd q2 z
    · exact z
  · rcases a4 with (z | z) | z
    · exact absurd q z
    · exact absurd q2 z
    · exact z
  · rcases a5 with (z | z) | z
    · exact absurd q z
    · exact absurd q2 z
    · exact z
  · rcases a6 with (z | z) | z
    · exact absurd q z
    · exact absurd q2 z
    · exact z
theorem k_ntz {h : q_H} {x : Nat} (h0 : 0 < x) (hx : x < 512) : q_Con Γ mJ6_numberOfTrailingZeros_0f7a4 0 0 0 [.int (nI x)] h (q_is (some (.int (nI (kth x 0)))) h) := by
  obtain ⟨⟨r1, r2⟩, ⟨r3, r4⟩, r5, r6⟩ := ntz_road x hx h0 _ rfl
  refine q_con (by decide) rfl rfl (Nat.le_of_ble_eq_true rfl) ?_
  refine q_iload_n 1 rfl rfl dJ6_numberOfTrailingZeros_0f7a4_0 ?_
  refine q_iconst 2 rfl 4294967295 k_im1 dJ6_numberOfTrailingZeros_0f7a4_1 ?_
  refine q_ixor 3 rfl dJ6_numberOfTrailingZeros_0f7a4_2 ?_
  refine q_iload_n 4 rfl rfl dJ6_numberOfTrailingZeros_0f7a4_3 ?_
  refine q_iconst 5 rfl 1 k_i1 dJ6_numberOfTrailingZeros_0f7a4_4 ?_
  refine q_isub 6 rfl (by omega) dJ6_numberOfTrailingZeros_0f7a4_5 ?_
  refine q_iand 7 rfl dJ6_numberOfTrailingZeros_0f7a4_6 ?_
  generalize (x ^^^ 4294967295) &&& (x - 1) = y at r1 r2 r3 r4 r5 r6 ⊢
  refine q_istore_n 8 rfl (by decide) dJ6_numberOfTrailingZeros_0f7a4_7 ?_
  refine q_iload_n 9 rfl rfl dJ6_numberOfTrailingZeros_0f7a4_8 ?_
  refine q_ifN_gt 12 rfl 17 (by decide) (by omega) dJ6_numberOfTrailingZeros_0f7a4_9 (fun h9 => ?_) (fun h9 => ?_)
  · refine q_iconst 18 rfl 1 k_i1 dJ6_numberOfTrailingZeros_0f7a4_17 ?_
    refine q_istore_n 19 rfl (by decide) dJ6_numberOfTrailingZeros_0f7a4_18 ?_
    refine q_iload_n 20 rfl rfl dJ6_numberOfTrailingZeros_0f7a4_19 ?_
    refine q_ldcw 23 rfl 65536 kcJ6_264 rfl dJ6_numberOfTrailingZeros_0f7a4_20 ?_
    refine q_icmp_le 26 rfl 34 (by decide) (by omega) (by omega) dJ6_numberOfTrailingZeros_0f7a4_23 (fun h23 => ?_) (fun h23 => ?_)
    · refine q_iload_n 35 rfl rfl dJ6_numberOfTrailingZeros_0f7a4_34 ?_
      refine q_sipush 38 rfl 256 k_s256 dJ6_numberOfTrailingZeros_0f7a4_35 ?_
      refine q_icmp_le 41 rfl 49 (by decide) (by omega) (by omega) dJ6_numberOfTrailingZeros_0f7a4_38 (fun h38 => ?_) (fun h38 => ?_)
      · refine q_iload_n 50 rfl rfl dJ6_numberOfTrailingZeros_0f7a4_49 ?_
        refine q_bipush 52 rfl 16 k_b16 dJ6_numberOfTrailingZeros_0f7a4_50 ?_
        refine q_icmp_le 55 rfl 62 (by decide) (by omega) (by omega) dJ6_numberOfTrailingZeros_0f7a4_52 (fun h52 => ?_) (fun h52 => ?_)
        · refine q_iload_n 63 rfl rfl dJ6_numberOfTrailingZeros_0f7a4_62 ?_
          refine q_iconst 64 rfl 4 k_i4 dJ6_numberOfTrailingZeros_0f7a4_63 ?_
          refine q_icmp_le 67 rfl 74 (by decide) (by omega) (by omega) dJ6_numberOfTrailingZeros_0f7a4_64 (fun h64 => ?_) (fun h64 => ?_)
          · refine q_iload_n 75 rfl rfl dJ6_numberOfTrailingZeros_0f7a4_74 ?_
            refine q_iload_n 76 rfl rfl dJ6_numberOfTrailingZeros_0f7a4_75 ?_
            refine q_iconst 77 rfl 1 k_i1 dJ6_numberOfTrailingZeros_0f7a4_76 ?_
            refine q_iushr 78 rfl (by omega) (by omega) dJ6_numberOfTrailingZeros_0f7a4_77 ?_
            refine q_iadd 79 rfl dJ6_numberOfTrailingZeros_0f7a4_78 ?_
            refine q_iret rfl dJ6_numberOfTrailingZeros_0f7a4_79 ?_
            first
              | (rw [r2 (by omega)]; exact ⟨rfl, rfl⟩)
              | (rw [r3 (by omega) (by omega)]; exact ⟨rfl, rfl⟩)
              | (rw [r4 (by omega) (by omega)]; exact ⟨rfl, rfl⟩)
              | (rw [r5 (by omega) (by omega)]; exact ⟨rfl, rfl⟩)
              | (rw [r6 (by omega) (by omega)]; exact ⟨rfl, rfl⟩)
          · refine q_iinc1 70 rfl 2 k_i2 rfl (by decide) dJ6_numberOfTrailingZeros_0f7a4_67 ?_
            refine q_iload_n 71 rfl rfl dJ6_numberOfTrailingZeros_0f7a4_70 ?_
            refine q_iconst 72 rfl 2 k_i2 dJ6_numberOfTrailingZeros_0f7a4_71 ?_
            refine q_iushr 73 rfl (by omega) (by omega) dJ6_numberOfTrailingZeros_0f7a4_72 ?_
            refine q_istore_n 74 rfl (by decide) dJ6_numberOfTrailingZeros_0f7a4_73 ?_
            refine q_iload_n 75 rfl rfl dJ6_numberOfTrailingZeros_0f7a4_74 ?_
            refine q_iload_n 76 rfl rfl dJ6_numberOfTrailingZeros_0f7a4_75 ?_
            refine q_iconst 77 rfl 1 k_i1 dJ6_numberOfTrailingZeros_0f7a4_76 ?_
            refine q_iushr 78 rfl (by omega) (by omega) dJ6_numberOfTrailingZeros_0f7a4_77 ?_
            refine q_iadd 79 rfl dJ6_numberOfTrailingZeros_0f7a4_78 ?_
            refine q_iret rfl dJ6_numberOfTrailingZeros_0f7a4_79 ?_
            first
              | (rw [r2 (by omega)]; exact ⟨rfl, rfl⟩)
              | (rw [r3 (by omega) (by omega)]; exact ⟨rfl, rfl⟩)
              | (rw [r4 (by omega) (by omega)]; exact ⟨rfl, rfl⟩)
              | (rw [r5 (by omega) (by omega)]; exact ⟨rfl, rfl⟩)
              | (rw [r6 (by omega) (by omega)]; exact ⟨rfl, rfl⟩)
        · refine q_iinc1 58 rfl 4 k_i4 rfl (by decide) dJ6_numberOfTrailingZeros_0f7a4_55 ?_
          refine q_iload_n 59 rfl rfl dJ6_numberOfTrailingZeros_0f7a4_58 ?_
          refine q_iconst 60 rfl 4 k_i4 dJ6_numberOfTrailingZeros_0f7a4_59 ?_
          refine q_iushr 61 rfl (by omega) (by omega) dJ6_numberOfTrailingZeros_0f7a4_60 ?_
          refine q_istore_n 62 rfl (by decide) dJ6_numberOfTrailingZeros_0f7a4_61 ?_
          refine q_iload_n 63 rfl rfl dJ6_numberOfTrailingZeros_0f7a4_62 ?_
          refine q_iconst 64 rfl 4 k_i4 dJ6_numberOfTrailingZeros_0f7a4_63 ?_
          refine q_icmp_le 67 rfl 74 (by decide) (by omega) (by omega) dJ6_numberOfTrailingZeros_0f7a4_64 (fun h64 => ?_) (fun h64 => ?_)
          · refine q_iload_n 75 rfl rfl dJ6_numberOfTrailingZeros_0f7a4_74 ?_
            refine q_iload_n 76 rfl rfl dJ6_numberOfTrailingZeros_0f7a4_75 ?_
            refine q_iconst 77 rfl 1 k_i1 dJ6_numberOfTrailingZeros_0f7a4_76 ?_
            refine q_iushr 78 rfl (by omega) (by omega) dJ6_numberOfTrailingZeros_0f7a4_77 ?_
            refine q_iadd 79 rfl dJ6_numberOfTrailingZeros_0f7a4_78 ?_
            refine q_iret rfl dJ6_numberOfTrailingZeros_0f7a4_79 ?_
            first
              | (rw [r2 (by omega)]; exact ⟨rfl, rfl⟩)
              | (rw [r3 (by omega) (by omega)]; exact ⟨rfl, rfl⟩)
              | (rw [r4 (by omega) (by omega)]; exact ⟨rfl, rfl⟩)
              | (rw [r5 (by omega) (by omega)]; exact ⟨rfl, rfl⟩)
              | (rw [r6 (by omega) (by omega)]; exact ⟨rfl, rfl⟩)
          · refine q_iinc1 70 rfl 2 k_i2 rfl (by decide) dJ6_numberOfTrailingZeros_0f7a4_67 ?_
            refine q_iload_n 71 rfl rfl dJ6_numberOfTrailingZeros_0f7a4_70 ?_
            refine q_iconst 72 rfl 2 k_i2 dJ6_numberOfTrailingZeros_0f7a4_71 ?_
            refine q_iushr 73 rfl (by omega) (by omega) dJ6_numberOfTrailingZeros_0f7a4_72 ?_
            refine q_istore_n 74 rfl (by decide) dJ6_numberOfTrailingZeros_0f7a4_73 ?_
            refine q_iload_n 75 rfl rfl dJ6_numberOfTrailingZeros_0f7a4_74 ?_
            refine q_iload_n 76 rfl rfl dJ6_numberOfTrailingZeros_0f7a4_75 ?_
            refine q_iconst 77 rfl 1 k_i1 dJ6_numberOfTrailingZeros_0f7a4_76 ?_
            refine q_iushr 78 rfl (by omega) (by omega) dJ6_numberOfTrailingZeros_0f7a4_77 ?_
            refine q_iadd 79 rfl dJ6_numberOfTrailingZeros_0f7a4_78 ?_
            refine q_iret rfl dJ6_numberOfTrailingZeros_0f7a4_79 ?_
            first
              | (rw [r2 (by omega)]; exact ⟨rfl, rfl⟩)
              | (rw [r3 (by omega) (by omega)]; exact ⟨rfl, rfl⟩)
              | (rw [r4 (by omega) (by omega)]; exact ⟨rfl, rfl⟩)
              | (rw [r5 (by omega) (by omega)]; exact ⟨rfl, rfl⟩)
              | (rw [r6 (by omega) (by omega)]; exact ⟨rfl, rfl⟩)
      · exfalso; omega
    · exfalso; omega
  · refine q_iload_n 13 rfl rfl dJ6_numberOfTrailingZeros_0f7a4_12 ?_
    refine q_bipush 15 rfl 32 k_b32 dJ6_numberOfTrailingZeros_0f7a4_13 ?_
    refine q_iand 16 rfl dJ6_numberOfTrailingZeros_0f7a4_15 ?_
    refine q_iret rfl dJ6_numberOfTrailingZeros_0f7a4_16 ?_
    first
      | (rw [r2 (by omega)]; exact ⟨rfl, rfl⟩)
      | (rw [r3 (by omega) (by omega)]; exact ⟨rfl, rfl⟩)
      | (rw [r4 (by omega) (by omega)]; exact ⟨rfl, rfl⟩)
      | (rw [r5 (by omega) (by omega)]; exact ⟨rfl, rfl⟩)
      | (rw [r6 (by omega) (by omega)]; exact ⟨rfl, rfl⟩)
end
section
variable {Γ : q_G} {m : q_M} {rm : Room} {Z : q_Zt} {k n pc : Nat} {lv : List (Nat × Value)} {st : List Value} {h : q_H}
set_option maxRecDepth 20000 in
theorem mw_max : Cond.static Lib.Math.max.name ∈ q_gt ∧ Cond.initialized "java/lang/Math" ∈ q_gt ∧ Cond.code Lib.Math.max.name Lib.Math.max.code 2 (some .int) ∈ q_gt := ⟨q_in 706 rfl rfl, q_in 102 rfl rfl, q_in 707 rfl rfl⟩
set_option maxRecDepth 20000 in
theorem mw_min : Cond.static Lib.Math.min.name ∈ q_gt ∧ Cond.initialized "java/lang/Math" ∈ q_gt ∧ Cond.code Lib.Math.min.name Lib.Math.min.code 2 (some .int) ∈ q_gt := ⟨q_in 797 rfl rfl, q_in 102 rfl rfl, q_in 798 rfl rfl⟩
set_option maxRecDepth 20000 in
theorem mw_abs : Cond.static Lib.Math.abs.name ∈ q_gt ∧ Cond.initialized "java/lang/Math" ∈ q_gt ∧ Cond.code Lib.Math.abs.name Lib.Math.abs.code 1 (some .int) ∈ q_gt := ⟨q_in 569 rfl rfl, q_in 102 rfl rfl, q_in 570 rfl rfl⟩
theorem q_mmax (pc' : Nat) (hp : pc + 3 = pc') {idx a b : Nat} (ha : a < 2147483648) (hb : b < 2147483648) (hlink : Cond.methodLink m.1 idx Lib.Math.max.name ∈ q_gt) (hfr : 1 ≤ rm.frames) (hlo : (st.map fun v => v.category).sum + 13 ≤ rm.locals) (hc : k ≤ rm.cells) (hs : n ≤ rm.slots) (hd : decode m.2.2.1 pc = .ok (.invokestatic idx, 3)) (kk : q_R Γ m rm Z k n pc' lv (.int (nI (max a b)) :: st) h) : q_R Γ m rm Z k n pc lv (.int (nI b) :: .int (nI a) :: st) h := by
  subst hp
  have e : (if nI a < nI b then nI b else nI a) = nI (max a b) := by
    by_cases hq : a < b
    · rw [if_pos ((nI_ltI ha hb).mpr hq)]; exact congrArg nI (by omega)
    · rw [if_neg (fun z => hq ((nI_ltI ha hb).mp z))]; exact congrArg nI (by omega)
  rw [← e] at kk
  intro p ee s mi args below meth c H locs ls C hP hD hS hl
  have hw := C.2.2.2.2.2.2.1
  exact va_mmax C.1 C.2.1 (C.2.2.1.trans hl.1.symm) C.2.2.2.2.2.1 (hw _ hlink) (hw _ mw_max.1) (hw _ mw_max.2.1) (hw _ mw_max.2.2) hfr hlo hc hs hd (kk p ee s mi args below meth c H locs ls C hP hD hS hl)
theorem q_mmin (pc' : Nat) (hp : pc + 3 = pc') {idx a b : Nat} (ha : a < 2147483648) (hb : b < 2147483648) (hlink : Cond.methodLink m.1 idx Lib.Math.min.name ∈ q_gt) (hfr : 1 ≤ rm.frames) (hlo : (st.map fun v => v.category).sum + 13 ≤ rm.locals) (hc : k ≤ rm.cells) (hs : n ≤ rm.slots) (hd : decode m.2.2.1 pc = .ok (.invokestatic idx, 3)) (kk : q_R Γ m rm Z k n pc' lv (.int (nI (min a b)) :: st) h) : q_R Γ m rm Z k n pc lv (.int (nI b) :: .int (nI a) :: st) h := by
  subst hp
  have e : (if nI b < nI a then nI b else nI a) = nI (min a b) := by
    by_cases hq : b < a
    · rw [if_pos ((nI_ltI hb ha).mpr hq)]; exact congrArg nI (by omega)
    · rw [if_neg (fun z => hq ((nI_ltI hb ha).mp z))]; exact congrArg nI (by omega)
  rw [← e] at kk
  intro p ee s mi args below meth c H locs ls C hP hD hS hl
  have hw := C.2.2.2.2.2.2.1
  exact va_mmin C.1 C.2.1 (C.2.2.1.trans hl.1.symm) C.2.2.2.2.2.1 (hw _ hlink) (hw _ mw_min.1) (hw _ mw_min.2.1) (hw _ mw_min.2.2) hfr hlo hc hs hd (kk p ee s mi args below meth c H locs ls C hP hD hS hl)
theorem q_mabs (pc' : Nat) (hp : pc + 3 = pc') {idx a b : Nat} (ha : a ≤ 100) (hb : b ≤ 100) (hlink : Cond.methodLink m.1 idx Lib.Math.abs.name ∈ q_gt) (hfr : 1 ≤ rm.frames) (hlo : (st.map fun v => v.category).sum + 13 ≤ rm.locals) (hc : k ≤ rm.cells) (hs : n ≤ rm.slots) (hd : decode m.2.2.1 pc = .ok (.invokestatic idx, 3)) (kk : q_R Γ m rm Z k n pc' lv (.int (nI (dst a b)) :: st) h) : q_R Γ m rm Z k n pc lv (.int (nI (a + 4294967296 - b)) :: st) h := by
  subst hp
  have es : z_s (a + 4294967296 - b) = (a : Int) - b := by
    show (nI (a + 4294967296 - b)).toInt = _
    rw [← z_sub a b (by omega)]
    exact pk_sub_toInt (by omega) (by omega)
  have e : (if 0 ≤ nI (a + 4294967296 - b) then nI (a + 4294967296 - b) else 0 - nI (a + 4294967296 - b)) = nI (dst a b) := by
    have h0 : (0 : Int32) ≤ nI (a + 4294967296 - b) ↔ b ≤ a := by
      rw [show (0 : Int32) = nI 0 from rfl, z_le, es, show z_s 0 = 0 from rfl]; omega
    by_cases hq : b ≤ a
    · rw [if_pos (h0.mpr hq), ← z_sub a b (by omega), pk_sub hq, dst, if_neg (by omega)]
    · rw [if_neg (fun z => hq (h0.mp z)), dst, if_pos (by omega)]
      have := z_sub 0 (a + 4294967296 - b) (by omega)
      rw [show (0 : Int32) = nI 0 from rfl, this]
      exact congrArg nI (by omega)
  rw [← e] at kk
  intro p ee s mi args below meth c H locs ls C hP hD hS hl
  have hw := C.2.2.2.2.2.2.1
  exact va_mabs C.1 C.2.1 (C.2.2.1.trans hl.1.symm) C.2.2.2.2.2.1 (hw _ hlink) (hw _ mw_abs.1) (hw _ mw_abs.2.1) (hw _ mw_abs.2.2) hfr hlo hc hs hd (kk p ee s mi args below meth c H locs ls C hP hD hS hl)
set_option maxRecDepth 20000 in
theorem lmX6_216 : Cond.methodLink RX6 216 Lib.Math.max.name ∈ q_gt := q_in 705 rfl rfl
set_option maxRecDepth 20000 in
theorem lmX6_319 : Cond.methodLink RX6 319 Lib.Math.min.name ∈ q_gt := q_in 796 rfl rfl
set_option maxRecDepth 20000 in
theorem lmX1_54 : Cond.methodLink RX1 54 Lib.Math.abs.name ∈ q_gt := q_in 568 rfl rfl
set_option maxRecDepth 20000 in
theorem lmX3_40 : Cond.methodLink RX3 40 Lib.Math.max.name ∈ q_gt := q_in 775 rfl rfl
set_option maxRecDepth 20000 in
theorem lmX4_60 : Cond.methodLink RX4 60 Lib.Math.max.name ∈ q_gt := q_in 734 rfl rfl
end
section
variable {Γ : q_G} {ad : Nat → Nat} {N : Nat → Nat → Nat} {L : Nat → Nat → Int} {G : Nat → Nat → Option Nat}
theorem fill_lp {T : List (q_K × Nat)} {rm : Room} {Z : q_Zt} {c a len v : Nat} (hT : T[c]? = some (.inl (0, len), a)) (hlen : len < 2147483648) (hx : q_R Γ mJ7_fill_53178 rm Z 0 0 20 [] [] (T, q_r N c (fun j => if j < len then v else N c j), L, G)) : ∀ i, i ≤ len → ∀ M, M = q_r N c (fun j => if j < i then v else N c j) → q_R Γ mJ7_fill_53178 rm Z 0 0 5 [(0, .ref a), (1, .int (nI v)), (2, .int (nI i)), (3, .int (nI len))] [] (T, M, L, G) := by
  refine dn_loop len ?_ ?_
  · intro M hM
    refine q_iload_n 6 rfl rfl dJ7_fill_53178_5 ?_
    refine q_iload_n 7 rfl rfl dJ7_fill_53178_6 ?_
    refine q_icmp_ge 10 rfl 20 (by decide) (by omega) (by omega) dJ7_fill_53178_7 (fun h7 => ?_) (fun h7 => ?_)
    · rw [hM]
      exact q_loc hx q_sub0
    · exfalso; omega
  · intro i hi ih M hM
    refine q_iload_n 6 rfl rfl dJ7_fill_53178_5 ?_
    refine q_iload_n 7 rfl rfl dJ7_fill_53178_6 ?_
    refine q_icmp_ge 10 rfl 20 (by decide) (by omega) (by omega) dJ7_fill_53178_7 (fun h7 => ?_) (fun h7 => ?_)
    · exfalso; omega
    · refine q_aload_n 11 rfl rfl dJ7_fill_53178_10 ?_
      refine q_iload_n 12 rfl rfl dJ7_fill_53178_11 ?_
      refine q_iload_n 13 rfl rfl dJ7_fill_53178_12 ?_
      refine q_iast 14 rfl c hT (by omega) (by omega) dJ7_fill_53178_13 ?_
      refine q_iinc1 17 rfl 1 k_i1 rfl (by decide) dJ7_fill_53178_14 ?_
      refine q_goto 5 (by decide) dJ7_fill_53178_17 ?_
      refine q_loc (ih _ ?_) (q_sub1 rfl (q_sub1 rfl (q_sub1 rfl (q_sub1 rfl q_sub0))))
      rw [hM]
      funext x y
      simp only [q_s, q_r]
      by_cases hx1 : x = c
      · simp only [hx1, if_true]
        by_cases hy : y = i
        · rw [if_pos hy, if_pos (by omega)]
        · rw [if_neg hy]
          by_cases hy2 : y < i
          · rw [if_pos hy2, if_pos (by omega)]
          · rw [if_neg hy2, if_neg (by omega)]
      · simp only [hx1, if_false]
theorem k_fill {T : List (q_K × Nat)} {c a len v : Nat} (hT : T[c]? = some (.inl (0, len), a)) (hlen : len < 2147483648) : q_Con Γ mJ7_fill_53178 0 0 0 [.ref a, .int (nI v)] (T, N, L, G) (q_is none (T, q_r N c (fun j => if j < len then v else N c j), L, G)) := by
  refine q_con (by decide) rfl rfl (Nat.le_of_ble_eq_true rfl) ?_
  refine q_iconst 1 rfl 0 k_i0 dJ7_fill_53178_0 ?_
  refine q_istore_n 2 rfl (by decide) dJ7_fill_53178_1 ?_
  refine q_aload_n 3 rfl rfl dJ7_fill_53178_2 ?_
  refine q_alen 4 rfl c (by decide) hT dJ7_fill_53178_3 ?_
  refine q_istore_n 5 rfl (by decide) dJ7_fill_53178_4 ?_
  refine q_loc (fill_lp (N := N) hT hlen ?_ 0 (by omega) _ ?_) (q_sub1 rfl (q_sub1 rfl (q_sub1 rfl (q_sub1 rfl q_sub0))))
  rotate_left
  · funext x y
    simp only [q_r]
    by_cases hx1 : x = c
    · simp [hx1]
    · simp [hx1]
  refine q_vret rfl dJ7_fill_53178_20 ?_
  exact ⟨rfl, rfl⟩
theorem k_inG {h : q_H} {v lo hi : Int} (h1 : RG v) (h2 : RG lo) (h3 : RG hi) : q_Con Γ mX7_in 0 0 0 [.long (lZ v), .long (lZ lo), .long (lZ hi)] h (q_is (some (.int (nI (decide (lo ≤ v ∧ v ≤ hi)).toNat))) h) := by
  refine q_con (by decide) rfl rfl (Nat.le_of_ble_eq_true rfl) ?_
  refine q_lload_n 1 rfl rfl dX7_in_0 ?_
  refine q_lload_n 2 rfl rfl dX7_in_1 ?_
  refine q_lcmp_lt 6 3 rfl rfl 17 (by decide) (by assumption) (by assumption) dX7_in_2 dX7_in_3 (fun h2 => ?_) (fun h2 => ?_)
  · refine q_iconst 18 rfl 0 k_i0 dX7_in_17 ?_
    refine q_zret rfl (by first | exact q_n0 | exact q_n1 | exact q_nb _) dX7_in_18 ?_
    first
      | (rw [decide_eq_true (by omega)]; exact ⟨rfl, rfl⟩)
      | (rw [decide_eq_false (by omega)]; exact ⟨rfl, rfl⟩)
  · refine q_lload_n 7 rfl rfl dX7_in_6 ?_
    refine q_lload 9 rfl rfl dX7_in_7 ?_
    refine q_lcmp_gt 13 10 rfl rfl 17 (by decide) (by assumption) (by assumption) dX7_in_9 dX7_in_10 (fun h9 => ?_) (fun h9 => ?_)
    · refine q_iconst 18 rfl 0 k_i0 dX7_in_17 ?_
      refine q_zret rfl (by first | exact q_n0 | exact q_n1 | exact q_nb _) dX7_in_18 ?_
      first
        | (rw [decide_eq_true (by omega)]; exact ⟨rfl, rfl⟩)
        | (rw [decide_eq_false (by omega)]; exact ⟨rfl, rfl⟩)
    · refine q_iconst 14 rfl 1 k_i1 dX7_in_13 ?_
      refine q_goto 18 (by decide) dX7_in_14 ?_
      refine q_zret rfl (by first | exact q_n0 | exact q_n1 | exact q_nb _) dX7_in_18 ?_
      first
        | (rw [decide_eq_true (by omega)]; exact ⟨rfl, rfl⟩)
        | (rw [decide_eq_false (by omega)]; exact ⟨rfl, rfl⟩)
theorem k_in {h : q_H} {X : Nat} {lo hi hz : Int} (hX : X < 4294967296) (h0 : 0 ≤ lo) (h1 : lo < 2147483648) (e : hi = hz) (h2 : -2147483649 ≤ hz) (h3 : hz < 2147483648) : q_Con Γ mX7_in 0 0 0 [.long (lZ (z_s X)), .long (lZ lo), .long (lZ hi)] h (q_is (some (.int (nI (decide (lo ≤ (X : Int) ∧ (X : Int) ≤ hz)).toNat))) h) := by
  subst e
  have := k_inG (Γ := Γ) (h := h) (v := z_s X) (lo := lo) (hi := hi) (RG_s X) ⟨by omega, by omega⟩ ⟨by omega, by omega⟩
  rwa [decide_eq_decide.mpr (z_in hX h0 h3)] at this
theorem k_withinG {h : q_H} {a lo hi : Nat} : q_Con Γ mX6_within 0 0 0 [.int (nI a), .int (nI lo), .int (nI hi)] h (q_is (some (.int (nI (decide (z_s lo ≤ z_s a ∧ z_s a ≤ z_s hi)).toNat))) h) := by
  refine q_con (by decide) rfl rfl (Nat.le_of_ble_eq_true rfl) ?_
  refine q_iload_n 1 rfl rfl dX6_within_0 ?_
  refine q_iload_n 2 rfl rfl dX6_within_1 ?_
  refine q_icmpS_lt 5 rfl 14 (by decide) dX6_within_2 (fun h2 => ?_) (fun h2 => ?_)
  · refine q_iconst 15 rfl 0 k_i0 dX6_within_14 ?_
    refine q_zret rfl (by first | exact q_n0 | exact q_n1 | exact q_nb _) dX6_within_15 ?_
    first
      | (rw [decide_eq_true (by omega)]; exact ⟨rfl, rfl⟩)
      | (rw [decide_eq_false (by omega)]; exact ⟨rfl, rfl⟩)
  · refine q_iload_n 6 rfl rfl dX6_within_5 ?_
    refine q_iload_n 7 rfl rfl dX6_within_6 ?_
    refine q_icmpS_gt 10 rfl 14 (by decide) dX6_within_7 (fun h7 => ?_) (fun h7 => ?_)
    · refine q_iconst 15 rfl 0 k_i0 dX6_within_14 ?_
      refine q_zret rfl (by first | exact q_n0 | exact q_n1 | exact q_nb _) dX6_within_15 ?_
      first
        | (rw [decide_eq_true (by omega)]; exact ⟨rfl, rfl⟩)
        | (rw [decide_eq_false (by omega)]; exact ⟨rfl, rfl⟩)
    · refine q_iconst 11 rfl 1 k_i1 dX6_within_10 ?_
      refine q_goto 15 (by decide) dX6_within_11 ?_
      refine q_zret rfl (by first | exact q_n0 | exact q_n1 | exact q_nb _) dX6_within_15 ?_
      first
        | (rw [decide_eq_true (by omega)]; exact ⟨rfl, rfl⟩)
        | (rw [decide_eq_false (by omega)]; exact ⟨rfl, rfl⟩)
theorem k_within {h : q_H} {X lo hi : Nat} (hX : X < 4294967296) (h0 : lo < 2147483648) (h1 : hi < 2147483648) : q_Con Γ mX6_within 0 0 0 [.int (nI X), .int (nI lo), .int (nI hi)] h (q_is (some (.int (nI (decide (lo ≤ X ∧ X ≤ hi)).toNat))) h) := by
  have := k_withinG (Γ := Γ) (h := h) (a := X) (lo := lo) (hi := hi)
  rwa [z_s_lo h0, z_s_lo h1, decide_eq_decide.mpr ((z_in hX (by omega) (by omega)).trans (by omega : _ ↔ (lo ≤ X ∧ X ≤ hi)))] at this
theorem k_within1 {h : q_H} {X lo c : Nat} (hX : X < 4294967296) (h0 : lo < 2147483648) (h1 : c < 2147483648) : q_Con Γ mX6_within 0 0 0 [.int (nI X), .int (nI lo), .int (nI (c + 4294967296 - 1))] h (q_is (some (.int (nI (decide (lo ≤ X ∧ X < c)).toNat))) h) := by
  have := k_withinG (Γ := Γ) (h := h) (a := X) (lo := lo) (hi := c + 4294967296 - 1)
  rwa [z_s_lo h0, z_s_pred h1, decide_eq_decide.mpr ((z_in hX (by omega) (by omega)).trans (by omega : _ ↔ (lo ≤ X ∧ X < c)))] at this
end
