def feed7 (N : Nat → Nat → Nat) (X : Nat) : Nat × (Nat → Nat → Nat) := if X ≤ 127 then (if N 77 10 = 160 then (4294967293, N) else (N 77 10 + 1, q_s (q_s N 84 (N 77 10) X) 77 10 (N 77 10 + 1))) else (4294967295, N)
def end7 (N : Nat → Nat → Nat) (X : Nat) : Nat × (Nat → Nat → Nat) := if X ≤ N 77 10 then (N 77 10, q_s N 77 10 X) else (4294967295, N)
def rule7 (N : Nat → Nat → Nat) (X : Nat) : Nat := match X with
  | 0 => N 77 2
  | 1 => N 78 9
  | 2 => N 78 10
  | 3 => N 78 21
  | 4 => N 80 0
  | _ => 4294967295
def name7 (N : Nat → Nat → Nat) (c X Y : Nat) : Nat := if X < c then (if 10 ≤ Y ∧ Y ≤ 9 + N 79 (9 * X) then N 79 (9 * X + 1 + Y - 10) else if Y = 0 then N 78 X else if Y = 1 then N 79 (9 * X) else 4294967295) else 4294967295
def wrote7 (N : Nat → Nat → Nat) (X : Nat) : Nat := if X < N 80 0 then N 80 (1 + X) else 4294967295
def pair7 (N : Nat → Nat → Nat) (X : Nat) : Nat := if X < N 78 21 then 26 * N 78 (11 + 2 * X) + N 78 (11 + 2 * X + 1) else 4294967295
def sets7 (N : Nat → Nat → Nat) (b a v : Nat) : Nat × (Nat → Nat → Nat) := if b = 0 then (4294967295, N) else (N 78 a, q_s N 78 a v)
def odd7 (N : Nat → Nat → Nat) (c X Y : Nat) : Nat × (Nat → Nat → Nat) := if X < c ∧ (1 ≤ Y ∧ Y ≤ 9) then (N 78 X, q_s N 78 X Y) else (4294967295, N)
def law7 (N : Nat → Nat → Nat) (X Y : Nat) : Nat × (Nat → Nat → Nat) := if X ≤ 4 ∧ Y ≤ 8 then (N 78 9, q_s (q_s N 78 10 Y) 78 9 X) else (4294967295, N)
def mix7 (N : Nat → Nat → Nat) (X Y : Nat) : Nat × (Nat → Nat → Nat) := if (X < 26 ∧ Y < 26) ∧ X ≠ Y then (if N 78 21 = 5 then (4294967293, N) else (N 78 21 + 1, q_s (q_s (q_s N 78 (11 + 2 * N 78 21) X) 78 (11 + 2 * N 78 21 + 1) Y) 78 21 (N 78 21 + 1))) else (4294967295, N)
def part7 (N : Nat → Nat → Nat) (r X : Nat) : Nat × (Nat → Nat → Nat) := if X ≤ N 78 r then (N 78 r, q_s N 78 r X) else (4294967295, N)
def gue7 (N : Nat → Nat → Nat) (c X Y : Nat) : Nat × (Nat → Nat → Nat) := if X < c ∧ Y ≤ 2 then (if N 78 40 = 9 then (4294967293, N) else (N 78 40 + 1, q_s (q_s (q_s N 78 (22 + 2 * N 78 40) X) 78 (22 + 2 * N 78 40 + 1) Y) 78 40 (N 78 40 + 1))) else (4294967295, N)
def hear7 (N : Nat → Nat → Nat) (X Y b : Nat) : Nat × (Nat → Nat → Nat) := if X ≤ 7 ∧ Y < 26 then (if N 78 59 = 6 then (4294967293, N) else (N 78 59 + 1, q_s (q_s (q_s (q_s N 78 (41 + 3 * N 78 59) X) 78 (41 + 3 * N 78 59 + 1) Y) 78 (41 + 3 * N 78 59 + 2) (if b = 0 then 0 else 1)) 78 59 (N 78 59 + 1))) else (4294967295, N)
def keep7 (N : Nat → Nat → Nat) (X : Nat) : Nat × (Nat → Nat → Nat) := if X ≤ 1 then (if N 92 X = 0 then 0 else 1, q_s (q_r N 78 (va_cpy (N 78) (N 78) 0 (60 * (X + 1)) 60)) 92 X 1) else (4294967295, N)
def back7 (N : Nat → Nat → Nat) (X : Nat) : Nat × (Nat → Nat → Nat) := if X ≤ 1 then (if N 92 X = 0 then (4294967294, N) else (N 78 (60 * (X + 1) + 40), q_r N 78 (va_cpy (N 78) (N 78) (60 * (X + 1)) 0 60))) else (4294967295, N)
def sx8 (z : Nat) : Nat := if z % 256 < 128 then z % 256 else z % 256 + 4294967040
def sx16 (z : Nat) : Nat := if z % 65536 < 32768 then z % 65536 else z % 65536 + 4294901760
theorem sx8_lt (z : Nat) : sx8 z < 4294967296 := by simp only [sx8]; split <;> omega
theorem sx16_lt (z : Nat) : sx16 z < 4294967296 := by simp only [sx16]; split <;> omega
theorem z_s_eq {a : Nat} {z : Int} (ha : a < 4294967296) (h : (a < 2147483648 ∧ z = a) ∨ (2147483648 ≤ a ∧ z = (a : Int) - 4294967296)) : z_s a = z := by
  rcases h with ⟨h1, h2⟩ | ⟨h1, h2⟩
  · rw [z_s_lo h1, h2]
  · rw [z_s_hi h1 ha, h2]
theorem shx {z k v : Nat} (hk : k < 32) (hv : v < 4294967296) (h : z_s v = z_s (z * 2 ^ k % 4294967296) / 2 ^ k) : nI (z * 2 ^ k) >>> (nI k &&& 31) = nI v := by
  have hs : ∀ n, n < 32 → ((nI n &&& 31).toBitVec.smod 32).toNat = n := by decide +kernel
  apply Int32.toInt_inj.mp
  rw [pk_shr (nI (z * 2 ^ k)) (nI k &&& 31) k (hs k hk), Int.shiftRight_eq_div_pow]
  rw [← z_mod (z * 2 ^ k)]
  show z_s (z * 2 ^ k % 4294967296) / ((2 ^ k : Nat) : Int) = z_s v
  rw [h]
  simp
theorem sh24 (z : Nat) : nI (z * 2 ^ 24) >>> (nI 24 &&& 31) = nI (sx8 z) := by
  refine shx (by omega) (sx8_lt z) ?_
  have e : z * 2 ^ 24 % 4294967296 = z % 256 * 16777216 := by omega
  rw [e]
  have hz : z % 256 < 256 := Nat.mod_lt _ (by omega)
  simp only [sx8]
  generalize z % 256 = y at *
  split
  · rw [z_s_eq (a := y) (z := (y : Int)) (by omega) (by omega), z_s_eq (a := y * 16777216) (z := (y : Int) * 16777216) (by omega) (by omega)]; omega
  · rw [z_s_eq (a := y + 4294967040) (z := (y : Int) - 256) (by omega) (by omega), z_s_eq (a := y * 16777216) (z := (y : Int) * 16777216 - 4294967296) (by omega) (by omega)]; omega
theorem sh16 (z : Nat) : nI (z * 2 ^ 16) >>> (nI 16 &&& 31) = nI (sx16 z) := by
  refine shx (by omega) (sx16_lt z) ?_
  have e : z * 2 ^ 16 % 4294967296 = z % 65536 * 65536 := by omega
  rw [e]
  have hz : z % 65536 < 65536 := Nat.mod_lt _ (by omega)
  simp only [sx16]
  generalize z % 65536 = y at *
  split
  · rw [z_s_eq (a := y) (z := (y : Int)) (by omega) (by omega), z_s_eq (a := y * 65536) (z := (y : Int) * 65536) (by omega) (by omega)]; omega
  · rw [z_s_eq (a := y + 4294901760) (z := (y : Int) - 65536) (by omega) (by omega), z_s_eq (a := y * 65536) (z := (y : Int) * 65536 - 4294967296) (by omega) (by omega)]; omega
theorem z_two (a : Nat) (h : a < 4294967296) : (a < 2147483648 ∧ z_s a = a) ∨ (2147483648 ≤ a ∧ z_s a = (a : Int) - 4294967296) := by
  by_cases h1 : a < 2147483648
  · exact Or.inl ⟨h1, z_s_lo h1⟩
  · exact Or.inr ⟨by omega, z_s_hi (by omega) h⟩
section
variable {Γ : q_G} {ad : Nat → Nat} {N : Nat → Nat → Nat} {L : Nat → Nat → Int} {G : Nat → Nat → Option Nat}
theorem k_feed7 {X : Nat} (hG : GF ad G) (ht : N 77 10 ≤ 160) (hX : X < 4294967296) : q_Con Γ mX7_feed 1 0 0 [.ref (ad 77), .int (nI X)] (LT ad, N, L, G) (q_is (some (.int (nI (feed7 N X).1))) (LT ad, (feed7 N X).2, L, G)) := by
  refine q_con (by decide) rfl rfl (Nat.le_of_ble_eq_true rfl) ?_
  refine q_iload_n 1 rfl rfl dX7_feed_0 ?_
  refine q_i2l 2 rfl dX7_feed_1 ?_
  refine q_lconst 3 rfl 0 lN0 dX7_feed_2 ?_
  refine q_ldc2 6 rfl (127) klX7_66 rfl dX7_feed_3 ?_
  refine q_cS3 9 rfl lX7_68 (k_in hX (by omega) (by omega) rfl (by omega) (by omega)) rfl rfl rfl dX7_feed_6 ?_
  refine q_if_neD 12 rfl 14 (by decide) dX7_feed_9 (fun h9 => ?_) (fun h9 => ?_)
  · refine q_aload_n 15 rfl rfl dX7_feed_14 ?_
    refine q_getI 18 rfl fX7_72 rfl 77 t_77 dX7_feed_15 ?_
    refine q_sipush 21 rfl 160 k_s160 dX7_feed_18 ?_
    refine q_icmp_ne 24 rfl 27 (by decide) (by omega) (by omega) dX7_feed_21 (fun h21 => ?_) (fun h21 => ?_)
    · refine q_aload_n 28 rfl rfl dX7_feed_27 ?_
      refine q_getR 31 rfl fX7_28 rfl 77 t_77 (g_77_9 hG) dX7_feed_28 ?_
      refine q_aload_n 32 rfl rfl dX7_feed_31 ?_
      refine q_getI 35 rfl fX7_72 rfl 77 t_77 dX7_feed_32 ?_
      refine q_iload_n 36 rfl rfl dX7_feed_35 ?_
      refine q_iast 37 rfl 84 t_84 (by omega) (by decide) dX7_feed_36 ?_
      refine q_aload_n 38 rfl rfl dX7_feed_37 ?_
      refine q_dup 39 rfl rfl dX7_feed_38 ?_
      refine q_getI 42 rfl fX7_72 rfl 77 t_77 dX7_feed_39 ?_
      refine q_iconst 43 rfl 1 k_i1 dX7_feed_42 ?_
      refine q_iadd 44 rfl dX7_feed_43 ?_
      refine q_putI 47 rfl pX7_72 (fun q => by cases q) rfl 77 t_77 dX7_feed_44 ?_
      refine q_aload_n 48 rfl rfl dX7_feed_47 ?_
      refine q_getI 51 rfl fX7_72 rfl 77 t_77 dX7_feed_48 ?_
      refine q_iret rfl dX7_feed_51 ?_
      first
        | (rw [feed7, if_neg (by omega)]; exact ⟨rfl, rfl⟩)
        | (rw [feed7, if_pos (by omega), if_pos (by omega)]; exact ⟨rfl, rfl⟩)
        | (rw [feed7, if_pos (by omega), if_neg (by omega)]; exact ⟨rfl, rfl⟩)
    · refine q_bipush 26 rfl 4294967293 k_bm3 dX7_feed_24 ?_
      refine q_iret rfl dX7_feed_26 ?_
      first
        | (rw [feed7, if_neg (by omega)]; exact ⟨rfl, rfl⟩)
        | (rw [feed7, if_pos (by omega), if_pos (by omega)]; exact ⟨rfl, rfl⟩)
        | (rw [feed7, if_pos (by omega), if_neg (by omega)]; exact ⟨rfl, rfl⟩)
  · refine q_iconst 13 rfl 4294967295 k_im1 dX7_feed_12 ?_
    refine q_iret rfl dX7_feed_13 ?_
    first
      | (rw [feed7, if_neg (by omega)]; exact ⟨rfl, rfl⟩)
      | (rw [feed7, if_pos (by omega), if_pos (by omega)]; exact ⟨rfl, rfl⟩)
      | (rw [feed7, if_pos (by omega), if_neg (by omega)]; exact ⟨rfl, rfl⟩)
theorem k_end7 {X : Nat} (hG : GF ad G) (ht : N 77 10 ≤ 160) (hX : X < 4294967296) : q_Con Γ mX7_end 1 0 0 [.ref (ad 77), .int (nI X)] (LT ad, N, L, G) (q_is (some (.int (nI (end7 N X).1))) (LT ad, (end7 N X).2, L, G)) := by
  refine q_con (by decide) rfl rfl (Nat.le_of_ble_eq_true rfl) ?_
  refine q_iload_n 1 rfl rfl dX7_end_0 ?_
  refine q_i2l 2 rfl dX7_end_1 ?_
  refine q_lconst 3 rfl 0 lN0 dX7_end_2 ?_
  refine q_aload_n 4 rfl rfl dX7_end_3 ?_
  refine q_getI 7 rfl fX7_72 rfl 77 t_77 dX7_end_4 ?_
  refine q_i2l 8 rfl dX7_end_7 ?_
  refine q_cS3 11 rfl lX7_68 (k_in hX (by omega) (by omega) (z_s_lo (a := N 77 10) (by omega)) (by omega) (by omega)) rfl rfl rfl dX7_end_8 ?_
  refine q_if_neD 14 rfl 16 (by decide) dX7_end_11 (fun h11 => ?_) (fun h11 => ?_)
  · refine q_aload_n 17 rfl rfl dX7_end_16 ?_
    refine q_getI 20 rfl fX7_72 rfl 77 t_77 dX7_end_17 ?_
    refine q_istore_n 21 rfl (by decide) dX7_end_20 ?_
    refine q_aload_n 22 rfl rfl dX7_end_21 ?_
    refine q_iload_n 23 rfl rfl dX7_end_22 ?_
    refine q_putI 26 rfl pX7_72 (fun q => by cases q) rfl 77 t_77 dX7_end_23 ?_
    refine q_iload_n 27 rfl rfl dX7_end_26 ?_
    refine q_iret rfl dX7_end_27 ?_
    first
      | (rw [end7, if_neg (by omega)]; exact ⟨rfl, rfl⟩)
      | (rw [end7, if_pos (by omega)]; exact ⟨rfl, rfl⟩)
  · refine q_iconst 15 rfl 4294967295 k_im1 dX7_end_14 ?_
    refine q_iret rfl dX7_end_15 ?_
    first
      | (rw [end7, if_neg (by omega)]; exact ⟨rfl, rfl⟩)
      | (rw [end7, if_pos (by omega)]; exact ⟨rfl, rfl⟩)
theorem k_fault7 (hG : GF ad G) : q_Con Γ mX7_fault 0 0 0 [.ref (ad 77)] (LT ad, N, L, G) (q_is (some (.int (nI (N 77 11)))) (LT ad, N, L, G)) := by
  refine q_con (by decide) rfl rfl (Nat.le_of_ble_eq_true rfl) ?_
  refine q_aload_n 1 rfl rfl dX7_fault_0 ?_
  refine q_getI 4 rfl fX7_152 rfl 77 t_77 dX7_fault_1 ?_
  refine q_iret rfl dX7_fault_4 ?_
  exact ⟨rfl, rfl⟩
theorem k_torn7 (hG : GF ad G) : q_Con Γ mX7_torn 0 0 0 [.ref (ad 77)] (LT ad, N, L, G) (q_is (some (.int (nI (N 77 29)))) (LT ad, N, L, G)) := by
  refine q_con (by decide) rfl rfl (Nat.le_of_ble_eq_true rfl) ?_
  refine q_aload_n 1 rfl rfl dX7_torn_0 ?_
  refine q_getI 4 rfl fX7_279 rfl 77 t_77 dX7_torn_1 ?_
  refine q_iret rfl dX7_torn_4 ?_
  exact ⟨rfl, rfl⟩
theorem k_rule7 {X : Nat} (hG : GF ad G) (hX : X < 4294967296) : q_Con Γ mX7_rule 0 0 0 [.ref (ad 77), .int (nI X)] (LT ad, N, L, G) (q_is (some (.int (nI (rule7 N X)))) (LT ad, N, L, G)) := by
  have z2 := z_two X hX
  rcases (show X = 0 ∨ X = 1 ∨ X = 2 ∨ X = 3 ∨ X = 4 ∨ 5 ≤ X by omega) with rfl | rfl | rfl | rfl | rfl | h5
  · refine q_con (by decide) rfl rfl (Nat.le_of_ble_eq_true rfl) ?_
    refine q_iload_n 1 rfl rfl dX7_rule_0 ?_
    refine q_tab 36 (by decide) (by decide) (by decide) rfl (by decide) dX7_rule_1 ?_
    refine q_aload_n 37 rfl rfl dX7_rule_36 ?_
    refine q_getI 40 rfl fX7_155 rfl 77 t_77 dX7_rule_37 ?_
    refine q_iret rfl dX7_rule_40 ?_
    exact ⟨rfl, rfl⟩
  · refine q_con (by decide) rfl rfl (Nat.le_of_ble_eq_true rfl) ?_
    refine q_iload_n 1 rfl rfl dX7_rule_0 ?_
    refine q_tab 41 (by decide) (by decide) (by decide) rfl (by decide) dX7_rule_1 ?_
    refine q_aload_n 42 rfl rfl dX7_rule_41 ?_
    refine q_getR 45 rfl fX7_7 rfl 77 t_77 (g_77_0 hG) dX7_rule_42 ?_
    refine q_bipush 47 rfl 9 k_b9 dX7_rule_45 ?_
    refine q_iald 48 rfl 78 t_78 (by omega) (by decide) dX7_rule_47 ?_
    refine q_iret rfl dX7_rule_48 ?_
    exact ⟨rfl, rfl⟩
  · refine q_con (by decide) rfl rfl (Nat.le_of_ble_eq_true rfl) ?_
    refine q_iload_n 1 rfl rfl dX7_rule_0 ?_
    refine q_tab 49 (by decide) (by decide) (by decide) rfl (by decide) dX7_rule_1 ?_
    refine q_aload_n 50 rfl rfl dX7_rule_49 ?_
    refine q_getR 53 rfl fX7_7 rfl 77 t_77 (g_77_0 hG) dX7_rule_50 ?_
    refine q_bipush 55 rfl 10 k_b10 dX7_rule_53 ?_
    refine q_iald 56 rfl 78 t_78 (by omega) (by decide) dX7_rule_55 ?_
    refine q_iret rfl dX7_rule_56 ?_
    exact ⟨rfl, rfl⟩
  · refine q_con (by decide) rfl rfl (Nat.le_of_ble_eq_true rfl) ?_
    refine q_iload_n 1 rfl rfl dX7_rule_0 ?_
    refine q_tab 57 (by decide) (by decide) (by decide) rfl (by decide) dX7_rule_1 ?_
    refine q_aload_n 58 rfl rfl dX7_rule_57 ?_
    refine q_getR 61 rfl fX7_7 rfl 77 t_77 (g_77_0 hG) dX7_rule_58 ?_
    refine q_bipush 63 rfl 21 k_b21 dX7_rule_61 ?_
    refine q_iald 64 rfl 78 t_78 (by omega) (by decide) dX7_rule_63 ?_
    refine q_iret rfl dX7_rule_64 ?_
    exact ⟨rfl, rfl⟩
  · refine q_con (by decide) rfl rfl (Nat.le_of_ble_eq_true rfl) ?_
    refine q_iload_n 1 rfl rfl dX7_rule_0 ?_
    refine q_tab 65 (by decide) (by decide) (by decide) rfl (by decide) dX7_rule_1 ?_
    refine q_aload_n 66 rfl rfl dX7_rule_65 ?_
    refine q_getR 69 rfl fX7_16 rfl 77 t_77 (g_77_3 hG) dX7_rule_66 ?_
    refine q_iconst 70 rfl 0 k_i0 dX7_rule_69 ?_
    refine q_iald 71 rfl 80 t_80 (by omega) (by decide) dX7_rule_70 ?_
    refine q_iret rfl dX7_rule_71 ?_
    exact ⟨rfl, rfl⟩
  · refine q_con (by decide) rfl rfl (Nat.le_of_ble_eq_true rfl) ?_
    refine q_iload_n 1 rfl rfl dX7_rule_0 ?_
    refine q_tabO 72 (by omega) (by decide) dX7_rule_1 ?_
    refine q_iconst 73 rfl 4294967295 k_im1 dX7_rule_72 ?_
    refine q_iret rfl dX7_rule_73 ?_
    obtain ⟨j, rfl⟩ : ∃ j, X = j + 5 := ⟨X - 5, by omega⟩
    exact ⟨rfl, rfl⟩
theorem k_name7 {X Y : Nat} {c : Nat} (hG : GF ad G) (hM : MS N c) (hX : X < 4294967296) (hY : Y < 4294967296) : q_Con Γ mX7_name 2 0 0 [.ref (ad 77), .int (nI X), .int (nI Y)] (LT ad, N, L, G) (q_is (some (.int (nI (name7 N c X Y)))) (LT ad, N, L, G)) := by
  obtain ⟨hc, hc9, hb, hl, hs, hk, hms, hpr, hg9, hh, hgn, hga, hod, ho1⟩ := id hM
  have q1 := hl X
  refine q_con (by decide) rfl rfl (Nat.le_of_ble_eq_true rfl) ?_
  refine q_aload_n 1 rfl rfl dX7_name_0 ?_
  refine q_iload_n 2 rfl rfl dX7_name_1 ?_
  refine q_cV1 5 rfl lX7_160 (k_isName7 hG hc hc9 hX) rfl 77 t_77 rfl rfl rfl dX7_name_2 ?_
  refine q_if_neD 8 rfl 10 (by decide) dX7_name_5 (fun h5 => ?_) (fun h5 => ?_)
  · refine q_iload_n 11 rfl rfl dX7_name_10 ?_
    refine q_i2l 12 rfl dX7_name_11 ?_
    refine q_ldc2 15 rfl (10) klX7_163 rfl dX7_name_12 ?_
    refine q_bipush 17 rfl 9 k_b9 dX7_name_15 ?_
    refine q_aload_n 18 rfl rfl dX7_name_17 ?_
    refine q_getR 21 rfl fX7_13 rfl 77 t_77 (g_77_1 hG) dX7_name_18 ?_
    refine q_bipush 23 rfl 9 k_b9 dX7_name_21 ?_
    refine q_iload_n 24 rfl rfl dX7_name_23 ?_
    refine q_imul 25 rfl dX7_name_24 ?_
    refine q_iald 26 rfl 79 t_79 (by omega) (by decide) dX7_name_25 ?_
    refine q_iadd 27 rfl dX7_name_26 ?_
    refine q_i2l 28 rfl dX7_name_27 ?_
    refine q_cS3 31 rfl lX7_68 (k_in hY (by omega) (by omega) (z_s_lo (a := 9 + N 79 (9 * X)) (by omega)) (by omega) (by omega)) rfl rfl rfl dX7_name_28 ?_
    refine q_if_eqD 34 rfl 51 (by decide) dX7_name_31 (fun h31 => ?_) (fun h31 => ?_)
    · refine q_iload_n 52 rfl rfl dX7_name_51 ?_
      refine q_if_ne 55 rfl 64 (by decide) (by omega) dX7_name_52 (fun h52 => ?_) (fun h52 => ?_)
      · refine q_iload_n 65 rfl rfl dX7_name_64 ?_
        refine q_iconst 66 rfl 1 k_i1 dX7_name_65 ?_
        refine q_icmp_ne 69 rfl 81 (by decide) (by omega) (by omega) dX7_name_66 (fun h66 => ?_) (fun h66 => ?_)
        · refine q_iconst 82 rfl 4294967295 k_im1 dX7_name_81 ?_
          refine q_iret rfl dX7_name_82 ?_
          first
            | (rw [name7, if_neg (by omega)]; exact ⟨rfl, rfl⟩)
            | (rw [name7, if_pos (by omega), if_pos (by omega)]; exact ⟨rfl, rfl⟩)
            | (rw [name7, if_pos (by omega), if_neg (by omega), if_pos (by omega)]; exact ⟨rfl, rfl⟩)
            | (rw [name7, if_pos (by omega), if_neg (by omega), if_neg (by omega), if_pos (by omega)]; exact ⟨rfl, rfl⟩)
            | (rw [name7, if_pos (by omega), if_neg (by omega), if_neg (by omega), if_neg (by omega)]; exact ⟨rfl, rfl⟩)
        · refine q_aload_n 70 rfl rfl dX7_name_69 ?_
          refine q_getR 73 rfl fX7_13 rfl 77 t_77 (g_77_1 hG) dX7_name_70 ?_
          refine q_bipush 75 rfl 9 k_b9 dX7_name_73 ?_
          refine q_iload_n 76 rfl rfl dX7_name_75 ?_
          refine q_imul 77 rfl dX7_name_76 ?_
          refine q_iald 78 rfl 79 t_79 (by omega) (by decide) dX7_name_77 ?_
          refine q_goto 82 (by decide) dX7_name_78 ?_
          refine q_iret rfl dX7_name_82 ?_
          first
            | (rw [name7, if_neg (by omega)]; exact ⟨rfl, rfl⟩)
            | (rw [name7, if_pos (by omega), if_pos (by omega)]; exact ⟨rfl, rfl⟩)
            | (rw [name7, if_pos (by omega), if_neg (by omega), if_pos (by omega)]; exact ⟨rfl, rfl⟩)
            | (rw [name7, if_pos (by omega), if_neg (by omega), if_neg (by omega), if_pos (by omega)]; exact ⟨rfl, rfl⟩)
            | (rw [name7, if_pos (by omega), if_neg (by omega), if_neg (by omega), if_neg (by omega)]; exact ⟨rfl, rfl⟩)
      · refine q_aload_n 56 rfl rfl dX7_name_55 ?_
        refine q_getR 59 rfl fX7_7 rfl 77 t_77 (g_77_0 hG) dX7_name_56 ?_
        refine q_iload_n 60 rfl rfl dX7_name_59 ?_
        refine q_iald 61 rfl 78 t_78 (by omega) (by decide) dX7_name_60 ?_
        refine q_goto 82 (by decide) dX7_name_61 ?_
        refine q_iret rfl dX7_name_82 ?_
        first
          | (rw [name7, if_neg (by omega)]; exact ⟨rfl, rfl⟩)
          | (rw [name7, if_pos (by omega), if_pos (by omega)]; exact ⟨rfl, rfl⟩)
          | (rw [name7, if_pos (by omega), if_neg (by omega), if_pos (by omega)]; exact ⟨rfl, rfl⟩)
          | (rw [name7, if_pos (by omega), if_neg (by omega), if_neg (by omega), if_pos (by omega)]; exact ⟨rfl, rfl⟩)
          | (rw [name7, if_pos (by omega), if_neg (by omega), if_neg (by omega), if_neg (by omega)]; exact ⟨rfl, rfl⟩)
    · refine q_aload_n 35 rfl rfl dX7_name_34 ?_
      refine q_getR 38 rfl fX7_13 rfl 77 t_77 (g_77_1 hG) dX7_name_35 ?_
      refine q_bipush 40 rfl 9 k_b9 dX7_name_38 ?_
      refine q_iload_n 41 rfl rfl dX7_name_40 ?_
      refine q_imul 42 rfl dX7_name_41 ?_
      refine q_iconst 43 rfl 1 k_i1 dX7_name_42 ?_
      refine q_iadd 44 rfl dX7_name_43 ?_
      refine q_iload_n 45 rfl rfl dX7_name_44 ?_
      refine q_iadd 46 rfl dX7_name_45 ?_
      refine q_bipush 48 rfl 10 k_b10 dX7_name_46 ?_
      refine q_isub 49 rfl (by omega) dX7_name_48 ?_
      refine q_iald 50 rfl 79 t_79 (by omega) (by decide) dX7_name_49 ?_
      refine q_iret rfl dX7_name_50 ?_
      first
        | (rw [name7, if_neg (by omega)]; exact ⟨rfl, rfl⟩)
        | (rw [name7, if_pos (by omega), if_pos (by omega)]; exact ⟨rfl, rfl⟩)
        | (rw [name7, if_pos (by omega), if_neg (by omega), if_pos (by omega)]; exact ⟨rfl, rfl⟩)
        | (rw [name7, if_pos (by omega), if_neg (by omega), if_neg (by omega), if_pos (by omega)]; exact ⟨rfl, rfl⟩)
        | (rw [name7, if_pos (by omega), if_neg (by omega), if_neg (by omega), if_neg (by omega)]; exact ⟨rfl, rfl⟩)
  · refine q_iconst 9 rfl 4294967295 k_im1 dX7_name_8 ?_
    refine q_iret rfl dX7_name_9 ?_
    first
      | (rw [name7, if_neg (by omega)]; exact ⟨rfl, rfl⟩)
      | (rw [name7, if_pos (by omega), if_pos (by omega)]; exact ⟨rfl, rfl⟩)
      | (rw [name7, if_pos (by omega), if_neg (by omega), if_pos (by omega)]; exact ⟨rfl, rfl⟩)
      | (rw [name7, if_pos (by omega), if_neg (by omega), if_neg (by omega), if_pos (by omega)]; exact ⟨rfl, rfl⟩)
      | (rw [name7, if_pos (by omega), if_neg (by omega), if_neg (by omega), if_neg (by omega)]; exact ⟨rfl, rfl⟩)
theorem k_wrote7 {X : Nat} (hG : GF ad G) (hw0 : N 80 0 ≤ 8) (hX : X < 4294967296) : q_Con Γ mX7_wrote 1 0 0 [.ref (ad 77), .int (nI X)] (LT ad, N, L, G) (q_is (some (.int (nI (wrote7 N X)))) (LT ad, N, L, G)) := by
  refine q_con (by decide) rfl rfl (Nat.le_of_ble_eq_true rfl) ?_
  refine q_iload_n 1 rfl rfl dX7_wrote_0 ?_
  refine q_i2l 2 rfl dX7_wrote_1 ?_
  refine q_lconst 3 rfl 0 lN0 dX7_wrote_2 ?_
  refine q_aload_n 4 rfl rfl dX7_wrote_3 ?_
  refine q_getR 7 rfl fX7_16 rfl 77 t_77 (g_77_3 hG) dX7_wrote_4 ?_
  refine q_iconst 8 rfl 0 k_i0 dX7_wrote_7 ?_
  refine q_iald 9 rfl 80 t_80 (by omega) (by decide) dX7_wrote_8 ?_
  refine q_iconst 10 rfl 1 k_i1 dX7_wrote_9 ?_
  refine q_isubG 11 rfl (by omega) dX7_wrote_10 ?_
  refine q_i2l 12 rfl dX7_wrote_11 ?_
  refine q_cS3 15 rfl lX7_68 (k_in hX (by omega) (by omega) (z_s_pred (c := N 80 0) (by omega)) (by omega) (by omega)) rfl rfl rfl dX7_wrote_12 ?_
  refine q_if_eqD 18 rfl 29 (by decide) dX7_wrote_15 (fun h15 => ?_) (fun h15 => ?_)
  · refine q_iconst 30 rfl 4294967295 k_im1 dX7_wrote_29 ?_
    refine q_iret rfl dX7_wrote_30 ?_
    first
      | (rw [wrote7, if_neg (by omega)]; exact ⟨rfl, rfl⟩)
      | (rw [wrote7, if_pos (by omega)]; exact ⟨rfl, rfl⟩)
  · refine q_aload_n 19 rfl rfl dX7_wrote_18 ?_
    refine q_getR 22 rfl fX7_16 rfl 77 t_77 (g_77_3 hG) dX7_wrote_19 ?_
    refine q_iconst 23 rfl 1 k_i1 dX7_wrote_22 ?_
    refine q_iload_n 24 rfl rfl dX7_wrote_23 ?_
    refine q_iadd 25 rfl dX7_wrote_24 ?_
    refine q_iald 26 rfl 80 t_80 (by omega) (by decide) dX7_wrote_25 ?_
    refine q_goto 30 (by decide) dX7_wrote_26 ?_
    refine q_iret rfl dX7_wrote_30 ?_
    first
      | (rw [wrote7, if_neg (by omega)]; exact ⟨rfl, rfl⟩)
      | (rw [wrote7, if_pos (by omega)]; exact ⟨rfl, rfl⟩)
theorem k_pair7 {X : Nat} {c : Nat} (hG : GF ad G) (hM : MS N c) (hX : X < 4294967296) : q_Con Γ mX7_pair 1 0 0 [.ref (ad 77), .int (nI X)] (LT ad, N, L, G) (q_is (some (.int (nI (pair7 N X)))) (LT ad, N, L, G)) := by
  obtain ⟨hc, hc9, hb, hl, hs, hk, hms, hpr, hg9, hh, hgn, hga, hod, ho1⟩ := id hM
  refine q_con (by decide) rfl rfl (Nat.le_of_ble_eq_true rfl) ?_
  refine q_iload_n 1 rfl rfl dX7_pair_0 ?_
  refine q_i2l 2 rfl dX7_pair_1 ?_
  refine q_lconst 3 rfl 0 lN0 dX7_pair_2 ?_
  refine q_aload_n 4 rfl rfl dX7_pair_3 ?_
  refine q_getR 7 rfl fX7_7 rfl 77 t_77 (g_77_0 hG) dX7_pair_4 ?_
  refine q_bipush 9 rfl 21 k_b21 dX7_pair_7 ?_
  refine q_iald 10 rfl 78 t_78 (by omega) (by decide) dX7_pair_9 ?_
  refine q_iconst 11 rfl 1 k_i1 dX7_pair_10 ?_
  refine q_isubG 12 rfl (by omega) dX7_pair_11 ?_
  refine q_i2l 13 rfl dX7_pair_12 ?_
  refine q_cS3 16 rfl lX7_68 (k_in hX (by omega) (by omega) (z_s_pred (c := N 78 21) (by omega)) (by omega) (by omega)) rfl rfl rfl dX7_pair_13 ?_
  refine q_if_eqD 19 rfl 50 (by decide) dX7_pair_16 (fun h16 => ?_) (fun h16 => ?_)
  · refine q_iconst 51 rfl 4294967295 k_im1 dX7_pair_50 ?_
    refine q_iret rfl dX7_pair_51 ?_
    first
      | (rw [pair7, if_neg (by omega)]; exact ⟨rfl, rfl⟩)
      | (rw [pair7, if_pos (by omega)]; exact ⟨rfl, rfl⟩)
  · refine q_bipush 21 rfl 26 k_b26 dX7_pair_19 ?_
    refine q_aload_n 22 rfl rfl dX7_pair_21 ?_
    refine q_getR 25 rfl fX7_7 rfl 77 t_77 (g_77_0 hG) dX7_pair_22 ?_
    refine q_bipush 27 rfl 11 k_b11 dX7_pair_25 ?_
    refine q_iconst 28 rfl 2 k_i2 dX7_pair_27 ?_
    refine q_iload_n 29 rfl rfl dX7_pair_28 ?_
    refine q_imul 30 rfl dX7_pair_29 ?_
    refine q_iadd 31 rfl dX7_pair_30 ?_
    refine q_iald 32 rfl 78 t_78 (by omega) (by decide) dX7_pair_31 ?_
    refine q_imul 33 rfl dX7_pair_32 ?_
    refine q_aload_n 34 rfl rfl dX7_pair_33 ?_
    refine q_getR 37 rfl fX7_7 rfl 77 t_77 (g_77_0 hG) dX7_pair_34 ?_
    refine q_bipush 39 rfl 11 k_b11 dX7_pair_37 ?_
    refine q_iconst 40 rfl 2 k_i2 dX7_pair_39 ?_
    refine q_iload_n 41 rfl rfl dX7_pair_40 ?_
    refine q_imul 42 rfl dX7_pair_41 ?_
    refine q_iadd 43 rfl dX7_pair_42 ?_
    refine q_iconst 44 rfl 1 k_i1 dX7_pair_43 ?_
    refine q_iadd 45 rfl dX7_pair_44 ?_
    refine q_iald 46 rfl 78 t_78 (by omega) (by decide) dX7_pair_45 ?_
    refine q_iadd 47 rfl dX7_pair_46 ?_
    refine q_goto 51 (by decide) dX7_pair_47 ?_
    refine q_iret rfl dX7_pair_51 ?_
    first
      | (rw [pair7, if_neg (by omega)]; exact ⟨rfl, rfl⟩)
      | (rw [pair7, if_pos (by omega)]; exact ⟨rfl, rfl⟩)
theorem k_sets {b a v : Nat} (hG : GF ad G) (hb : b < 4294967296) (ha : a < 240) : q_Con Γ mX7_sets 0 0 0 [.ref (ad 77), .int (nI b), .int (nI a), .int (nI v)] (LT ad, N, L, G) (q_is (some (.int (nI (sets7 N b a v).1))) (LT ad, (sets7 N b a v).2, L, G)) := by
  refine q_con (by decide) rfl rfl (Nat.le_of_ble_eq_true rfl) ?_
  refine q_iload_n 1 rfl rfl dX7_sets_0 ?_
  refine q_if_ne 4 rfl 6 (by decide) (by omega) dX7_sets_1 (fun h1 => ?_) (fun h1 => ?_)
  · refine q_aload_n 7 rfl rfl dX7_sets_6 ?_
    refine q_getR 10 rfl fX7_7 rfl 77 t_77 (g_77_0 hG) dX7_sets_7 ?_
    refine q_iload_n 11 rfl rfl dX7_sets_10 ?_
    refine q_iald 12 rfl 78 t_78 (by omega) (by decide) dX7_sets_11 ?_
    refine q_istore 14 rfl (by decide) dX7_sets_12 ?_
    refine q_aload_n 15 rfl rfl dX7_sets_14 ?_
    refine q_getR 18 rfl fX7_7 rfl 77 t_77 (g_77_0 hG) dX7_sets_15 ?_
    refine q_iload_n 19 rfl rfl dX7_sets_18 ?_
    refine q_iload_n 20 rfl rfl dX7_sets_19 ?_
    refine q_iast 21 rfl 78 t_78 (by omega) (by decide) dX7_sets_20 ?_
    refine q_iload 23 rfl rfl dX7_sets_21 ?_
    refine q_iret rfl dX7_sets_23 ?_
    first
      | (rw [sets7, if_pos (by omega)]; exact ⟨rfl, rfl⟩)
      | (rw [sets7, if_neg (by omega)]; exact ⟨rfl, rfl⟩)
  · refine q_iconst 5 rfl 4294967295 k_im1 dX7_sets_4 ?_
    refine q_iret rfl dX7_sets_5 ?_
    first
      | (rw [sets7, if_pos (by omega)]; exact ⟨rfl, rfl⟩)
      | (rw [sets7, if_neg (by omega)]; exact ⟨rfl, rfl⟩)
theorem k_sets0 {a v : Nat} (hG : GF ad G) : q_Con Γ mX7_sets 0 0 0 [.ref (ad 77), .int (nI 0), .int (nI a), .int (nI v)] (LT ad, N, L, G) (q_is (some (.int (nI 4294967295))) (LT ad, N, L, G)) := by
  refine q_con (by decide) rfl rfl (Nat.le_of_ble_eq_true rfl) ?_
  refine q_iload_n 1 rfl rfl dX7_sets_0 ?_
  refine q_if_ne 4 rfl 6 (by decide) (by omega) dX7_sets_1 (fun h1 => ?_) (fun h1 => ?_)
  · first
    | (exfalso; omega)
    | (refine q_aload_n 7 rfl rfl dX7_sets_6 ?_
       refine q_getR 10 rfl fX7_7 rfl 77 t_77 (g_77_0 hG) dX7_sets_7 ?_
       refine q_iload_n 11 rfl rfl dX7_sets_10 ?_
       refine q_iald 12 rfl 78 t_78 (by omega) (by decide) dX7_sets_11 ?_
       refine q_istore 14 rfl (by decide) dX7_sets_12 ?_
       refine q_aload_n 15 rfl rfl dX7_sets_14 ?_
       refine q_getR 18 rfl fX7_7 rfl 77 t_77 (g_77_0 hG) dX7_sets_15 ?_
       refine q_iload_n 19 rfl rfl dX7_sets_18 ?_
       refine q_iload_n 20 rfl rfl dX7_sets_19 ?_
       refine q_iast 21 rfl 78 t_78 (by omega) (by decide) dX7_sets_20 ?_
       refine q_iload 23 rfl rfl dX7_sets_21 ?_
       refine q_iret rfl dX7_sets_23 ?_
       exact ⟨rfl, rfl⟩)
  · first
    | (exfalso; omega)
    | (refine q_iconst 5 rfl 4294967295 k_im1 dX7_sets_4 ?_
       refine q_iret rfl dX7_sets_5 ?_
       exact ⟨rfl, rfl⟩)
theorem k_sets1 {a v : Nat} (hG : GF ad G) (ha : a < 240) : q_Con Γ mX7_sets 0 0 0 [.ref (ad 77), .int (nI 1), .int (nI a), .int (nI v)] (LT ad, N, L, G) (q_is (some (.int (nI (N 78 a)))) (LT ad, q_s N 78 a v, L, G)) := k_sets (b := 1) hG (by omega) ha
theorem k_odd7 {X Y : Nat} {c : Nat} (hG : GF ad G) (hM : MS N c) (hX : X < 4294967296) (hY : Y < 4294967296) : q_Con Γ mX7_odd 2 0 0 [.ref (ad 77), .int (nI X), .int (nI Y)] (LT ad, N, L, G) (q_is (some (.int (nI (odd7 N c X Y).1))) (LT ad, (odd7 N c X Y).2, L, G)) := by
  obtain ⟨hc, hc9, hb, hl, hs, hk, hms, hpr, hg9, hh, hgn, hga, hod, ho1⟩ := id hM
  refine q_con (by decide) rfl rfl (Nat.le_of_ble_eq_true rfl) ?_
  refine q_aload_n 1 rfl rfl dX7_odd_0 ?_
  refine q_aload_n 2 rfl rfl dX7_odd_1 ?_
  refine q_iload_n 3 rfl rfl dX7_odd_2 ?_
  refine q_cV1 6 rfl lX7_160 (k_isName7 hG hc hc9 hX) rfl 77 t_77 rfl rfl rfl dX7_odd_3 ?_
  refine q_if_eqD 9 rfl 25 (by decide) dX7_odd_6 (fun h6 => ?_) (fun h6 => ?_)
  · refine q_iconst 26 rfl 0 k_i0 dX7_odd_25 ?_
    refine q_iload_n 27 rfl rfl dX7_odd_26 ?_
    refine q_iload_n 28 rfl rfl dX7_odd_27 ?_
    first
      | refine q_cV3 31 rfl lX7_167 (k_sets0 hG) rfl 77 t_77 rfl rfl rfl dX7_odd_28 ?_
      | refine q_cV3 31 rfl lX7_167 (k_sets1 hG (by omega)) rfl 77 t_77 rfl rfl rfl dX7_odd_28 ?_
    refine q_iret rfl dX7_odd_31 ?_
    first
      | (rw [odd7, if_neg (by omega)]; exact ⟨rfl, rfl⟩)
      | (rw [odd7, if_pos (by omega)]; exact ⟨rfl, rfl⟩)
  · refine q_iload_n 10 rfl rfl dX7_odd_9 ?_
    refine q_i2l 11 rfl dX7_odd_10 ?_
    refine q_lconst 12 rfl 1 lN1 dX7_odd_11 ?_
    refine q_ldc2 15 rfl (9) klX7_165 rfl dX7_odd_12 ?_
    refine q_cS3 18 rfl lX7_68 (k_in hY (by omega) (by omega) rfl (by omega) (by omega)) rfl rfl rfl dX7_odd_15 ?_
    refine q_if_eqD 21 rfl 25 (by decide) dX7_odd_18 (fun h18 => ?_) (fun h18 => ?_)
    · refine q_iconst 26 rfl 0 k_i0 dX7_odd_25 ?_
      refine q_iload_n 27 rfl rfl dX7_odd_26 ?_
      refine q_iload_n 28 rfl rfl dX7_odd_27 ?_
      first
        | refine q_cV3 31 rfl lX7_167 (k_sets0 hG) rfl 77 t_77 rfl rfl rfl dX7_odd_28 ?_
        | refine q_cV3 31 rfl lX7_167 (k_sets1 hG (by omega)) rfl 77 t_77 rfl rfl rfl dX7_odd_28 ?_
      refine q_iret rfl dX7_odd_31 ?_
      first
        | (rw [odd7, if_neg (by omega)]; exact ⟨rfl, rfl⟩)
        | (rw [odd7, if_pos (by omega)]; exact ⟨rfl, rfl⟩)
    · refine q_iconst 22 rfl 1 k_i1 dX7_odd_21 ?_
      refine q_goto 26 (by decide) dX7_odd_22 ?_
      refine q_iload_n 27 rfl rfl dX7_odd_26 ?_
      refine q_iload_n 28 rfl rfl dX7_odd_27 ?_
      first
        | refine q_cV3 31 rfl lX7_167 (k_sets0 hG) rfl 77 t_77 rfl rfl rfl dX7_odd_28 ?_
        | refine q_cV3 31 rfl lX7_167 (k_sets1 hG (by omega)) rfl 77 t_77 rfl rfl rfl dX7_odd_28 ?_
      refine q_iret rfl dX7_odd_31 ?_
      first
        | (rw [odd7, if_neg (by omega)]; exact ⟨rfl, rfl⟩)
        | (rw [odd7, if_pos (by omega)]; exact ⟨rfl, rfl⟩)
theorem k_law7 {X Y : Nat} (hG : GF ad G) (hX : X < 4294967296) (hY : Y < 4294967296) : q_Con Γ mX7_law 1 0 0 [.ref (ad 77), .int (nI X), .int (nI Y)] (LT ad, N, L, G) (q_is (some (.int (nI (law7 N X Y).1))) (LT ad, (law7 N X Y).2, L, G)) := by
  refine q_con (by decide) rfl rfl (Nat.le_of_ble_eq_true rfl) ?_
  refine q_iload_n 1 rfl rfl dX7_law_0 ?_
  refine q_i2l 2 rfl dX7_law_1 ?_
  refine q_lconst 3 rfl 0 lN0 dX7_law_2 ?_
  refine q_ldc2 6 rfl (4) klX7_171 rfl dX7_law_3 ?_
  refine q_cS3 9 rfl lX7_68 (k_in hX (by omega) (by omega) rfl (by omega) (by omega)) rfl rfl rfl dX7_law_6 ?_
  refine q_if_eqD 12 rfl 24 (by decide) dX7_law_9 (fun h9 => ?_) (fun h9 => ?_)
  · refine q_iconst 25 rfl 4294967295 k_im1 dX7_law_24 ?_
    refine q_iret rfl dX7_law_25 ?_
    first
      | (rw [law7, if_neg (by omega)]; exact ⟨rfl, rfl⟩)
      | (rw [law7, if_pos (by omega)]; exact ⟨rfl, rfl⟩)
  · refine q_iload_n 13 rfl rfl dX7_law_12 ?_
    refine q_i2l 14 rfl dX7_law_13 ?_
    refine q_lconst 15 rfl 0 lN0 dX7_law_14 ?_
    refine q_ldc2 18 rfl (8) klX7_173 rfl dX7_law_15 ?_
    refine q_cS3 21 rfl lX7_68 (k_in hY (by omega) (by omega) rfl (by omega) (by omega)) rfl rfl rfl dX7_law_18 ?_
    refine q_if_neD 24 rfl 26 (by decide) dX7_law_21 (fun h21 => ?_) (fun h21 => ?_)
    · refine q_aload_n 27 rfl rfl dX7_law_26 ?_
      refine q_getR 30 rfl fX7_7 rfl 77 t_77 (g_77_0 hG) dX7_law_27 ?_
      refine q_bipush 32 rfl 10 k_b10 dX7_law_30 ?_
      refine q_iload_n 33 rfl rfl dX7_law_32 ?_
      refine q_iast 34 rfl 78 t_78 (by omega) (by decide) dX7_law_33 ?_
      refine q_aload_n 35 rfl rfl dX7_law_34 ?_
      refine q_iconst 36 rfl 1 k_i1 dX7_law_35 ?_
      refine q_bipush 38 rfl 9 k_b9 dX7_law_36 ?_
      refine q_iload_n 39 rfl rfl dX7_law_38 ?_
      refine q_cV3 42 rfl lX7_167 (k_sets1 (N := q_s N 78 10 Y) hG (by omega)) rfl 77 t_77 rfl rfl rfl dX7_law_39 ?_
      refine q_iret rfl dX7_law_42 ?_
      first
        | (rw [law7, if_neg (by omega)]; exact ⟨rfl, rfl⟩)
        | (rw [law7, if_pos (by omega)]; exact ⟨rfl, rfl⟩)
    · refine q_iconst 25 rfl 4294967295 k_im1 dX7_law_24 ?_
      refine q_iret rfl dX7_law_25 ?_
      first
        | (rw [law7, if_neg (by omega)]; exact ⟨rfl, rfl⟩)
        | (rw [law7, if_pos (by omega)]; exact ⟨rfl, rfl⟩)
end
