/-- the first place from p on whose byte is not within lo and hi -/
def skp (t : Nat → Nat) (lo hi : Nat) : Nat → Nat → Nat
  | 0, p => p
  | n + 1, p => if lo ≤ t p ∧ t p ≤ hi then skp t lo hi n (p + 1) else p
def sk (t : Nat → Nat) (len lo hi p : Nat) : Nat := skp t lo hi (len - p) p
theorem skp_spec {t : Nat → Nat} {lo hi : Nat} : ∀ n p, p ≤ skp t lo hi n p ∧ skp t lo hi n p ≤ p + n ∧ (∀ i, p ≤ i → i < skp t lo hi n p → lo ≤ t i ∧ t i ≤ hi) ∧ (skp t lo hi n p < p + n → ¬ (lo ≤ t (skp t lo hi n p) ∧ t (skp t lo hi n p) ≤ hi)) := by
  intro n
  induction n with
  | zero => intro p; exact ⟨Nat.le_refl _, Nat.le_refl _, fun i h1 h2 => absurd h2 (by simp only [skp]; omega), fun h => absurd h (by simp only [skp]; omega)⟩
  | succ n ih =>
    intro p
    by_cases h : lo ≤ t p ∧ t p ≤ hi
    · have e : skp t lo hi (n + 1) p = skp t lo hi n (p + 1) := if_pos h
      obtain ⟨a1, a2, a3, a4⟩ := ih (p + 1)
      rw [e]
      refine ⟨by omega, by omega, fun i h1 h2 => ?_, fun h1 => a4 (by omega)⟩
      by_cases ei : i = p
      · rw [ei]; exact h
      · exact a3 i (by omega) h2
    · have e : skp t lo hi (n + 1) p = p := if_neg h
      rw [e]
      exact ⟨Nat.le_refl _, by omega, fun i h1 h2 => absurd h2 (by omega), fun _ => h⟩
theorem sk_spec {t : Nat → Nat} {len lo hi p : Nat} (hp : p ≤ len) : p ≤ sk t len lo hi p ∧ sk t len lo hi p ≤ len ∧ (∀ i, p ≤ i → i < sk t len lo hi p → lo ≤ t i ∧ t i ≤ hi) ∧ (sk t len lo hi p < len → ¬ (lo ≤ t (sk t len lo hi p) ∧ t (sk t len lo hi p) ≤ hi)) := by
  obtain ⟨a1, a2, a3, a4⟩ := skp_spec (t := t) (lo := lo) (hi := hi) (len - p) p
  exact ⟨a1, by unfold sk; omega, a3, fun h => a4 (by unfold sk at h; omega)⟩
/-- the first k figures from h on as a number -/
def vlr (t : Nat → Nat) (h : Nat) : Nat → Nat
  | 0 => 0
  | k + 1 => 10 * vlr t h k + (t (h + k) - 48)
theorem vlr_1 {t : Nat → Nat} {h : Nat} (ht : 48 ≤ t h ∧ t h ≤ 57) : vlr t h 1 ≤ 9 := by simp only [vlr]; rw [Nat.add_zero]; omega
theorem vlr_2 {t : Nat → Nat} {h : Nat} (h0 : 48 ≤ t h ∧ t h ≤ 57) (h1 : 48 ≤ t (h + 1) ∧ t (h + 1) ≤ 57) : vlr t h 2 ≤ 99 := by simp only [vlr]; rw [Nat.add_zero]; omega
/-- the model's registers broken, brokenAt, spot, here, token, value -/
def P7 (N : Nat → Nat → Nat) (b ba sp he tk vl : Nat) : Nat → Nat → Nat := q_r N 77 (fun j => if j = 12 then b else if j = 13 then ba else if j = 14 then sp else if j = 15 then he else if j = 16 then tk else if j = 17 then vl else N 77 j)
section
variable {N : Nat → Nat → Nat} {b ba sp he tk vl x : Nat}
theorem P7_12 : P7 N b ba sp he tk vl 77 12 = b := rfl
theorem P7_13 : P7 N b ba sp he tk vl 77 13 = ba := rfl
theorem P7_14 : P7 N b ba sp he tk vl 77 14 = sp := rfl
theorem P7_15 : P7 N b ba sp he tk vl 77 15 = he := rfl
theorem P7_16 : P7 N b ba sp he tk vl 77 16 = tk := rfl
theorem P7_17 : P7 N b ba sp he tk vl 77 17 = vl := rfl
theorem P7_o {j : Nat} (h1 : j < 18) (h : j < 12 ∨ 17 < j) : P7 N b ba sp he tk vl 77 j = N 77 j := by
  unfold P7; rw [q_r_at, if_neg (by omega), if_neg (by omega), if_neg (by omega), if_neg (by omega), if_neg (by omega), if_neg (by omega)]
theorem P7_ne {a : Nat} (h : a ≠ 77) : P7 N b ba sp he tk vl a = N a := q_r_ne h
theorem P7_as {a i : Nat} (h : a ≠ 77) : q_s (P7 N b ba sp he tk vl) a i x = P7 (q_s N a i x) b ba sp he tk vl := by
  have e : q_s N a i x 77 = N 77 := q_s_ne (fun q => h q.symm)
  funext c d
  unfold P7
  simp only [q_s, q_r]
  by_cases h1 : c = a
  · subst h1; simp [h]
  · by_cases h2 : c = 77
    · subst h2; simp [h1]
    · simp [h1, h2]
theorem P7_so {j : Nat} (h1 : j < 18) (h : j < 12 ∨ 17 < j) : q_s (P7 N b ba sp he tk vl) 77 j x = P7 (q_s N 77 j x) b ba sp he tk vl := by
  funext c d
  unfold P7
  simp only [q_s, q_r]
  by_cases h2 : c = 77
  · subst h2
    simp only [if_true]
    by_cases h3 : d = j
    · subst h3; simp only [if_true]
      rw [if_neg (by omega), if_neg (by omega), if_neg (by omega), if_neg (by omega), if_neg (by omega), if_neg (by omega)]
    · simp [h3]
  · simp [h2]
theorem P7_s12 : q_s (P7 N b ba sp he tk vl) 77 12 x = P7 N x ba sp he tk vl := by
  funext c d
  unfold P7
  simp only [q_s, q_r]
  by_cases h2 : c = 77
  · subst h2
    simp only [if_true]
    by_cases h3 : d = 12
    · subst h3; simp
    · simp [h3]
  · simp [h2]
theorem P7_s13 : q_s (P7 N b ba sp he tk vl) 77 13 x = P7 N b x sp he tk vl := by
  funext c d
  unfold P7
  simp only [q_s, q_r]
  by_cases h2 : c = 77
  · subst h2
    simp only [if_true]
    by_cases h3 : d = 13
    · subst h3; simp
    · simp [h3]
  · simp [h2]
theorem P7_s14 : q_s (P7 N b ba sp he tk vl) 77 14 x = P7 N b ba x he tk vl := by
  funext c d
  unfold P7
  simp only [q_s, q_r]
  by_cases h2 : c = 77
  · subst h2
    simp only [if_true]
    by_cases h3 : d = 14
    · subst h3; simp
    · simp [h3]
  · simp [h2]
theorem P7_s15 : q_s (P7 N b ba sp he tk vl) 77 15 x = P7 N b ba sp x tk vl := by
  funext c d
  unfold P7
  simp only [q_s, q_r]
  by_cases h2 : c = 77
  · subst h2
    simp only [if_true]
    by_cases h3 : d = 15
    · subst h3; simp
    · simp [h3]
  · simp [h2]
theorem P7_s16 : q_s (P7 N b ba sp he tk vl) 77 16 x = P7 N b ba sp he x vl := by
  funext c d
  unfold P7
  simp only [q_s, q_r]
  by_cases h2 : c = 77
  · subst h2
    simp only [if_true]
    by_cases h3 : d = 16
    · subst h3; simp
    · simp [h3]
  · simp [h2]
theorem P7_s17 : q_s (P7 N b ba sp he tk vl) 77 17 x = P7 N b ba sp he tk x := by
  funext c d
  unfold P7
  simp only [q_s, q_r]
  by_cases h2 : c = 77
  · subst h2
    simp only [if_true]
    by_cases h3 : d = 17
    · subst h3; simp
    · simp [h3]
  · simp [h2]
theorem P7_id : P7 N (N 77 12) (N 77 13) (N 77 14) (N 77 15) (N 77 16) (N 77 17) = N := by
  funext c d
  unfold P7
  simp only [q_r]
  by_cases h : c = 77
  · subst h
    simp only [if_true]
    by_cases h1 : d = 12
    · subst h1; simp
    · by_cases h2 : d = 13
      · subst h2; simp
      · by_cases h3 : d = 14
        · subst h3; simp
        · by_cases h4 : d = 15
          · subst h4; simp
          · by_cases h5 : d = 16
            · subst h5; simp
            · by_cases h6 : d = 17
              · subst h6; simp
              · simp [h1, h2, h3, h4, h5, h6]
  · simp [h]
end
/-- the byte at k, or none -/
def byt (t : Nat → Nat) (len k : Nat) : Nat := if k < len then t k else 4294967292
/-- one step of the model's reading -/
def stp (N : Nat → Nat → Nat) (ba sp : Nat) : Nat → Nat → Nat :=
  if N 77 10 ≤ sk (N 84) (N 77 10) 32 32 sp then P7 N 0 ba (sk (N 84) (N 77 10) 32 32 sp) (sk (N 84) (N 77 10) 32 32 sp) 0 0
  else if 97 ≤ N 84 (sk (N 84) (N 77 10) 32 32 sp) ∧ N 84 (sk (N 84) (N 77 10) 32 32 sp) ≤ 122 then P7 N 0 ba (sk (N 84) (N 77 10) 97 122 (sk (N 84) (N 77 10) 32 32 sp)) (sk (N 84) (N 77 10) 32 32 sp) 1 0
  else if 48 ≤ N 84 (sk (N 84) (N 77 10) 32 32 sp) ∧ N 84 (sk (N 84) (N 77 10) 32 32 sp) ≤ 57 then
    (if sk (N 84) (N 77 10) 48 57 (sk (N 84) (N 77 10) 32 32 sp) - sk (N 84) (N 77 10) 32 32 sp ≤ 2 then P7 N 0 ba (sk (N 84) (N 77 10) 48 57 (sk (N 84) (N 77 10) 32 32 sp)) (sk (N 84) (N 77 10) 32 32 sp) 2 (vlr (N 84) (sk (N 84) (N 77 10) 32 32 sp) (sk (N 84) (N 77 10) 48 57 (sk (N 84) (N 77 10) 32 32 sp) - sk (N 84) (N 77 10) 32 32 sp))
     else P7 N 1 (sk (N 84) (N 77 10) 32 32 sp) (sk (N 84) (N 77 10) 48 57 (sk (N 84) (N 77 10) 32 32 sp)) (sk (N 84) (N 77 10) 32 32 sp) 2 (vlr (N 84) (sk (N 84) (N 77 10) 32 32 sp) 2))
  else if N 84 (sk (N 84) (N 77 10) 32 32 sp) = 59 then P7 N 0 ba (sk (N 84) (N 77 10) 32 32 sp + 1) (sk (N 84) (N 77 10) 32 32 sp) 3 0
  else P7 N 1 (sk (N 84) (N 77 10) 32 32 sp) (sk (N 84) (N 77 10) 32 32 sp + 1) (sk (N 84) (N 77 10) 32 32 sp) 3 0
section
variable {Γ : q_G} {ad : Nat → Nat} {N : Nat → Nat → Nat} {L : Nat → Nat → Int} {G : Nat → Nat → Option Nat}
theorem k_byteAt {k : Nat} {b ba sp he tk vl : Nat} (hG : GF ad G) (hl : N 77 10 ≤ 160) (hk : k < 2147483648) : q_Con Γ mX7_byteAt 0 0 0 [.ref (ad 77), .int (nI k)] (LT ad, P7 N b ba sp he tk vl, L, G) (q_is (some (.int (nI (byt (N 84) (N 77 10) k)))) (LT ad, P7 N b ba sp he tk vl, L, G)) := by
  refine q_con (by decide) rfl rfl (Nat.le_of_ble_eq_true rfl) ?_
  refine q_iload_n 1 rfl rfl dX7_byteAt_0 ?_
  refine q_aload_n 2 rfl rfl dX7_byteAt_1 ?_
  refine q_getI 5 rfl fX7_72 rfl 77 t_77 dX7_byteAt_2 ?_
  rw [P7_o (by decide) (by decide)]
  refine q_icmp_ge 8 rfl 17 (by decide) (by omega) (by omega) dX7_byteAt_5 (fun h5 => ?_) (fun h5 => ?_)
  · refine q_bipush 19 rfl 4294967292 k_bm4 dX7_byteAt_17 ?_
    refine q_iret rfl dX7_byteAt_19 ?_
    first
      | (rw [byt, if_pos (by omega)]; exact ⟨rfl, rfl⟩)
      | (rw [byt, if_neg (by omega)]; exact ⟨rfl, rfl⟩)
  · refine q_aload_n 9 rfl rfl dX7_byteAt_8 ?_
    refine q_getR 12 rfl fX7_28 rfl 77 t_77 (g_77_9 hG) dX7_byteAt_9 ?_
    refine q_iload_n 13 rfl rfl dX7_byteAt_12 ?_
    refine q_iald 14 rfl 84 t_84 (by omega) (by decide) dX7_byteAt_13 ?_
    rw [P7_ne (by decide)]
    refine q_goto 19 (by decide) dX7_byteAt_14 ?_
    refine q_iret rfl dX7_byteAt_19 ?_
    first
      | (rw [byt, if_pos (by omega)]; exact ⟨rfl, rfl⟩)
      | (rw [byt, if_neg (by omega)]; exact ⟨rfl, rfl⟩)
theorem k_fails {x : Nat} {b ba sp he tk vl : Nat} (hG : GF ad G) (hb : b < 4294967296) : q_Con Γ mX7_fails 0 0 0 [.ref (ad 77), .int (nI x)] (LT ad, P7 N b ba sp he tk vl, L, G) (q_is none (LT ad, if b = 0 then P7 N x he sp he tk vl else P7 N b ba sp he tk vl, L, G)) := by
  refine q_con (by decide) rfl rfl (Nat.le_of_ble_eq_true rfl) ?_
  refine q_aload_n 1 rfl rfl dX7_fails_0 ?_
  refine q_getI 4 rfl fX7_76 rfl 77 t_77 dX7_fails_1 ?_
  rw [P7_12]
  refine q_if_ne 7 rfl 20 (by decide) (by omega) dX7_fails_4 (fun h4 => ?_) (fun h4 => ?_)
  · refine q_vret rfl dX7_fails_20 ?_
    first
      | (rw [if_pos (by assumption)]; exact ⟨rfl, rfl⟩)
      | (rw [if_neg (by assumption)]; exact ⟨rfl, rfl⟩)
  · refine q_aload_n 8 rfl rfl dX7_fails_7 ?_
    refine q_iload_n 9 rfl rfl dX7_fails_8 ?_
    refine q_putI 12 rfl pX7_76 (fun q => by cases q) rfl 77 t_77 dX7_fails_9 ?_
    rw [P7_s12]
    refine q_aload_n 13 rfl rfl dX7_fails_12 ?_
    refine q_aload_n 14 rfl rfl dX7_fails_13 ?_
    refine q_getI 17 rfl fX7_79 rfl 77 t_77 dX7_fails_14 ?_
    rw [P7_15]
    refine q_putI 20 rfl pX7_82 (fun q => by cases q) rfl 77 t_77 dX7_fails_17 ?_
    rw [P7_s13]
    refine q_vret rfl dX7_fails_20 ?_
    first
      | (rw [if_pos (by assumption)]; exact ⟨rfl, rfl⟩)
      | (rw [if_neg (by assumption)]; exact ⟨rfl, rfl⟩)
theorem skS_lp {Z : q_Zt} {e p : Nat} {b ba he tk vl : Nat} {mc mz : Nat} (hG : GF ad G) (hl : N 77 10 ≤ 160) (ht : ∀ i, i < 160 → N 84 i < 128) (hp : e ≤ N 77 10) (h2 : e < N 77 10 → ¬ (32 ≤ N 84 e ∧ N 84 e ≤ 32)) (h1 : ∀ i, p ≤ i → i < e → 32 ≤ N 84 i ∧ N 84 i ≤ 32) (hx : q_R Γ mX7_step (q_room 1 mc mz) Z 0 0 34 [(0, .ref (ad 77))] [] (LT ad, (P7 N b ba (e) he tk vl), L, G)) : ∀ i, i ≤ e → p ≤ i →  ∀ H : Nat → Nat → Nat, H = P7 N b ba i he tk vl → q_R Γ mX7_step (q_room 1 mc mz) Z 0 0 8 [(0, .ref (ad 77))] [] (LT ad, H, L, G) := by
  refine dn_loop (e) ?_ ?_
  · intro h_ex H h_H
    have be : e < N 77 10 → byt (N 84) (N 77 10) e = N 84 e := fun q => if_pos q
    have bn : ¬ e < N 77 10 → byt (N 84) (N 77 10) e = 4294967292 := fun q => if_neg q
    have bt := ht e
    subst h_H
    refine q_aload_n 9 rfl rfl dX7_step_8 ?_
    refine q_aload_n 10 rfl rfl dX7_step_9 ?_
    refine q_getI 13 rfl fX7_88 rfl 77 t_77 dX7_step_10 ?_
    rw [P7_14]
    refine q_cV1 16 rfl lX7_91 (k_byteAt hG hl (by omega)) rfl 77 t_77 rfl rfl rfl dX7_step_13 ?_
    refine q_bipush 18 rfl 32 k_b32 dX7_step_16 ?_
    refine q_icmp_ne 21 rfl 34 (by decide) (by omega) (by omega) dX7_step_18 (fun h18 => ?_) (fun h18 => ?_)
    · exact q_loc hx (q_sub1 rfl q_sub0)
    · exfalso; omega
  · intro i h_i ih h_ex H h_H
    have be : i < N 77 10 → byt (N 84) (N 77 10) i = N 84 i := fun q => if_pos q
    have bn : ¬ i < N 77 10 → byt (N 84) (N 77 10) i = 4294967292 := fun q => if_neg q
    have bt := ht i
    have hh := h1 i h_ex h_i
    subst h_H
    refine q_aload_n 9 rfl rfl dX7_step_8 ?_
    refine q_aload_n 10 rfl rfl dX7_step_9 ?_
    refine q_getI 13 rfl fX7_88 rfl 77 t_77 dX7_step_10 ?_
    rw [P7_14]
    refine q_cV1 16 rfl lX7_91 (k_byteAt hG hl (by omega)) rfl 77 t_77 rfl rfl rfl dX7_step_13 ?_
    refine q_bipush 18 rfl 32 k_b32 dX7_step_16 ?_
    refine q_icmp_ne 21 rfl 34 (by decide) (by omega) (by omega) dX7_step_18 (fun h18 => ?_) (fun h18 => ?_)
    · exfalso; omega
    · refine q_aload_n 22 rfl rfl dX7_step_21 ?_
      refine q_dup 23 rfl rfl dX7_step_22 ?_
      refine q_getI 26 rfl fX7_88 rfl 77 t_77 dX7_step_23 ?_
      rw [P7_14]
      refine q_iconst 27 rfl 1 k_i1 dX7_step_26 ?_
      refine q_iadd 28 rfl dX7_step_27 ?_
      refine q_putI 31 rfl pX7_88 (fun q => by cases q) rfl 77 t_77 dX7_step_28 ?_
      rw [P7_s14]
      refine q_goto 8 (by decide) dX7_step_31 ?_
      refine q_loc (ih (by omega) _ ?_) (q_sub1 rfl q_sub0)
      · rfl
theorem skL_lp {Z : q_Zt} {e p : Nat} {b ba he tk vl cc : Nat} {mc mz : Nat} (hG : GF ad G) (hl : N 77 10 ≤ 160) (ht : ∀ i, i < 160 → N 84 i < 128) (hp : e ≤ N 77 10) (h2 : e < N 77 10 → ¬ (97 ≤ N 84 e ∧ N 84 e ≤ 122)) (h1 : ∀ i, p ≤ i → i < e → 97 ≤ N 84 i ∧ N 84 i ≤ 122) (hx : q_R Γ mX7_step (q_room 1 mc mz) Z 0 0 118 [(0, .ref (ad 77)), (1, .int (nI cc))] [] (LT ad, (P7 N b ba (e) he tk vl), L, G)) : ∀ i, i ≤ e → p ≤ i →  ∀ H : Nat → Nat → Nat, H = P7 N b ba i he tk vl → q_R Γ mX7_step (q_room 1 mc mz) Z 0 0 84 [(0, .ref (ad 77)), (1, .int (nI cc))] [] (LT ad, H, L, G) := by
  refine dn_loop (e) ?_ ?_
  · intro h_ex H h_H
    have be : e < N 77 10 → byt (N 84) (N 77 10) e = N 84 e := fun q => if_pos q
    have bn : ¬ e < N 77 10 → byt (N 84) (N 77 10) e = 4294967292 := fun q => if_neg q
    have bt := ht e
    subst h_H
    refine q_aload_n 85 rfl rfl dX7_step_84 ?_
    refine q_aload_n 86 rfl rfl dX7_step_85 ?_
    refine q_getI 89 rfl fX7_88 rfl 77 t_77 dX7_step_86 ?_
    rw [P7_14]
    refine q_cV1 92 rfl lX7_91 (k_byteAt hG hl (by omega)) rfl 77 t_77 rfl rfl rfl dX7_step_89 ?_
    refine q_i2l 93 rfl dX7_step_92 ?_
    refine q_ldc2 96 rfl (97) klX7_98 rfl dX7_step_93 ?_
    refine q_ldc2 99 rfl (122) klX7_100 rfl dX7_step_96 ?_
    refine q_cS3 102 rfl lX7_68 (k_in (by omega) (by omega) (by omega) rfl (by omega) (by omega)) rfl rfl rfl dX7_step_99 ?_
    refine q_if_eqD 105 rfl 118 (by decide) dX7_step_102 (fun h102 => ?_) (fun h102 => ?_)
    · exact q_loc hx (q_sub1 rfl (q_sub1 rfl q_sub0))
    · exfalso; omega
  · intro i h_i ih h_ex H h_H
    have be : i < N 77 10 → byt (N 84) (N 77 10) i = N 84 i := fun q => if_pos q
    have bn : ¬ i < N 77 10 → byt (N 84) (N 77 10) i = 4294967292 := fun q => if_neg q
    have bt := ht i
    have hh := h1 i h_ex h_i
    subst h_H
    refine q_aload_n 85 rfl rfl dX7_step_84 ?_
    refine q_aload_n 86 rfl rfl dX7_step_85 ?_
    refine q_getI 89 rfl fX7_88 rfl 77 t_77 dX7_step_86 ?_
    rw [P7_14]
    refine q_cV1 92 rfl lX7_91 (k_byteAt hG hl (by omega)) rfl 77 t_77 rfl rfl rfl dX7_step_89 ?_
    refine q_i2l 93 rfl dX7_step_92 ?_
    refine q_ldc2 96 rfl (97) klX7_98 rfl dX7_step_93 ?_
    refine q_ldc2 99 rfl (122) klX7_100 rfl dX7_step_96 ?_
    refine q_cS3 102 rfl lX7_68 (k_in (by omega) (by omega) (by omega) rfl (by omega) (by omega)) rfl rfl rfl dX7_step_99 ?_
    refine q_if_eqD 105 rfl 118 (by decide) dX7_step_102 (fun h102 => ?_) (fun h102 => ?_)
    · exfalso; omega
    · refine q_aload_n 106 rfl rfl dX7_step_105 ?_
      refine q_dup 107 rfl rfl dX7_step_106 ?_
      refine q_getI 110 rfl fX7_88 rfl 77 t_77 dX7_step_107 ?_
      rw [P7_14]
      refine q_iconst 111 rfl 1 k_i1 dX7_step_110 ?_
      refine q_iadd 112 rfl dX7_step_111 ?_
      refine q_putI 115 rfl pX7_88 (fun q => by cases q) rfl 77 t_77 dX7_step_112 ?_
      rw [P7_s14]
      refine q_goto 84 (by decide) dX7_step_115 ?_
      refine q_loc (ih (by omega) _ ?_) (q_sub1 rfl (q_sub1 rfl q_sub0))
      · rfl
end
def v7 (t : Nat → Nat) (h i : Nat) : Nat := vlr t h (min (i - h) 2)
theorem v7_lt {t : Nat → Nat} {h i : Nat} (h1 : h ≤ i) (h2 : i - h < 2) (h3 : 48 ≤ t i) : 10 * v7 t h i + t i - 48 = v7 t h (i + 1) := by
  have e1 : min (i - h) 2 = i - h := by omega
  have e2 : min (i + 1 - h) 2 = (i - h) + 1 := by omega
  have e3 : h + (i - h) = i := by omega
  rw [v7, v7, e1, e2, vlr, e3]
  omega
theorem v7_ge {t : Nat → Nat} {h i : Nat} (h1 : h ≤ i) (h2 : ¬ i - h < 2) : v7 t h i = v7 t h (i + 1) := by
  rw [v7, v7, show min (i - h) 2 = 2 by omega, show min (i + 1 - h) 2 = 2 by omega]
theorem v7_le {t : Nat → Nat} {h i : Nat} (h2 : ∀ j, h ≤ j → j < i → 48 ≤ t j ∧ t j ≤ 57) : v7 t h i ≤ 99 := by
  unfold v7
  rcases (show min (i - h) 2 = 0 ∨ min (i - h) 2 = 1 ∨ min (i - h) 2 = 2 by omega) with e | e | e
  · rw [e]; simp [vlr]
  · rw [e]; have := vlr_1 (h2 h (by omega) (by omega)); omega
  · rw [e]; exact vlr_2 (h2 h (by omega) (by omega)) (h2 (h + 1) (by omega) (by omega))
section
variable {Γ : q_G} {ad : Nat → Nat} {N : Nat → Nat → Nat} {L : Nat → Nat → Int} {G : Nat → Nat → Option Nat}
theorem skD_lp {Z : q_Zt} {e p : Nat} {b ba he tk vl cc : Nat} {mc mz : Nat} (hG : GF ad G) (hl : N 77 10 ≤ 160) (ht : ∀ i, i < 160 → N 84 i < 128) (hp : e ≤ N 77 10) (h2 : e < N 77 10 → ¬ (48 ≤ N 84 e ∧ N 84 e ≤ 57)) (hpe : p = he) (h1 : ∀ i, p ≤ i → i < e → 48 ≤ N 84 i ∧ N 84 i ≤ 57) (hx : q_R Γ mX7_step (q_room 1 mc mz) Z 0 0 217 [(0, .ref (ad 77)), (1, .int (nI cc))] [] (LT ad, (P7 N b ba (e) he tk (v7 (N 84) he (e))), L, G)) : ∀ i, i ≤ e → p ≤ i →  ∀ H : Nat → Nat → Nat, H = P7 N b ba i he tk (v7 (N 84) he i) → q_R Γ mX7_step (q_room 1 mc mz) Z 0 0 140 [(0, .ref (ad 77)), (1, .int (nI cc))] [] (LT ad, H, L, G) := by
  refine dn_loop (e) ?_ ?_
  · intro h_ex H h_H
    have be : e < N 77 10 → byt (N 84) (N 77 10) e = N 84 e := fun q => if_pos q
    have bn : ¬ e < N 77 10 → byt (N 84) (N 77 10) e = 4294967292 := fun q => if_neg q
    have bt := ht e
    subst h_H
    refine q_aload_n 141 rfl rfl dX7_step_140 ?_
    refine q_aload_n 142 rfl rfl dX7_step_141 ?_
    refine q_getI 145 rfl fX7_88 rfl 77 t_77 dX7_step_142 ?_
    rw [P7_14]
    refine q_cV1 148 rfl lX7_91 (k_byteAt hG hl (by omega)) rfl 77 t_77 rfl rfl rfl dX7_step_145 ?_
    refine q_i2l 149 rfl dX7_step_148 ?_
    refine q_ldc2 152 rfl (48) klX7_102 rfl dX7_step_149 ?_
    refine q_ldc2 155 rfl (57) klX7_104 rfl dX7_step_152 ?_
    refine q_cS3 158 rfl lX7_68 (k_in (by omega) (by omega) (by omega) rfl (by omega) (by omega)) rfl rfl rfl dX7_step_155 ?_
    refine q_if_eqD 161 rfl 217 (by decide) dX7_step_158 (fun h158 => ?_) (fun h158 => ?_)
    · exact q_loc hx (q_sub1 rfl (q_sub1 rfl q_sub0))
    · exfalso; omega
  · intro i h_i ih h_ex H h_H
    have be : i < N 77 10 → byt (N 84) (N 77 10) i = N 84 i := fun q => if_pos q
    have bn : ¬ i < N 77 10 → byt (N 84) (N 77 10) i = 4294967292 := fun q => if_neg q
    have bt := ht i
    have hh := h1 i h_ex h_i
    subst h_H
    have bv := v7_le (t := N 84) (h := he) (i := i) (fun j q1 q2 => h1 j (by omega) (by omega))
    have b0 := be (by omega)
    refine q_aload_n 141 rfl rfl dX7_step_140 ?_
    refine q_aload_n 142 rfl rfl dX7_step_141 ?_
    refine q_getI 145 rfl fX7_88 rfl 77 t_77 dX7_step_142 ?_
    rw [P7_14]
    refine q_cV1 148 rfl lX7_91 (k_byteAt hG hl (by omega)) rfl 77 t_77 rfl rfl rfl dX7_step_145 ?_
    refine q_i2l 149 rfl dX7_step_148 ?_
    refine q_ldc2 152 rfl (48) klX7_102 rfl dX7_step_149 ?_
    refine q_ldc2 155 rfl (57) klX7_104 rfl dX7_step_152 ?_
    refine q_cS3 158 rfl lX7_68 (k_in (by omega) (by omega) (by omega) rfl (by omega) (by omega)) rfl rfl rfl dX7_step_155 ?_
    refine q_if_eqD 161 rfl 217 (by decide) dX7_step_158 (fun h158 => ?_) (fun h158 => ?_)
    · exfalso; omega
    · refine q_aload_n 162 rfl rfl dX7_step_161 ?_
      refine q_aload_n 163 rfl rfl dX7_step_162 ?_
      refine q_getI 166 rfl fX7_88 rfl 77 t_77 dX7_step_163 ?_
      rw [P7_14]
      refine q_aload_n 167 rfl rfl dX7_step_166 ?_
      refine q_getI 170 rfl fX7_79 rfl 77 t_77 dX7_step_167 ?_
      rw [P7_15]
      refine q_isub 171 rfl (by omega) dX7_step_170 ?_
      refine q_iconst 172 rfl 2 k_i2 dX7_step_171 ?_
      refine q_icmp_ge 175 rfl 197 (by decide) (by omega) (by omega) dX7_step_172 (fun h172 => ?_) (fun h172 => ?_)
      · refine q_aload_n 198 rfl rfl dX7_step_197 ?_
        refine q_getI 201 rfl fX7_95 rfl 77 t_77 dX7_step_198 ?_
        rw [P7_17]
        refine q_putI 204 rfl pX7_95 (fun q => by cases q) rfl 77 t_77 dX7_step_201 ?_
        rw [P7_s17]
        refine q_aload_n 205 rfl rfl dX7_step_204 ?_
        refine q_dup 206 rfl rfl dX7_step_205 ?_
        refine q_getI 209 rfl fX7_88 rfl 77 t_77 dX7_step_206 ?_
        rw [P7_14]
        refine q_iconst 210 rfl 1 k_i1 dX7_step_209 ?_
        refine q_iadd 211 rfl dX7_step_210 ?_
        refine q_putI 214 rfl pX7_88 (fun q => by cases q) rfl 77 t_77 dX7_step_211 ?_
        rw [P7_s14]
        refine q_goto 140 (by decide) dX7_step_214 ?_
        refine q_loc (ih (by omega) _ ?_) (q_sub1 rfl (q_sub1 rfl q_sub0))
        · first
            | (rw [v7_lt (by omega) (by omega) (by omega)]; done)
            | (rw [v7_ge (by omega) (by omega)])
      · refine q_bipush 177 rfl 10 k_b10 dX7_step_175 ?_
        refine q_aload_n 178 rfl rfl dX7_step_177 ?_
        refine q_getI 181 rfl fX7_95 rfl 77 t_77 dX7_step_178 ?_
        rw [P7_17]
        refine q_imul 182 rfl dX7_step_181 ?_
        refine q_aload_n 183 rfl rfl dX7_step_182 ?_
        refine q_aload_n 184 rfl rfl dX7_step_183 ?_
        refine q_getI 187 rfl fX7_88 rfl 77 t_77 dX7_step_184 ?_
        rw [P7_14]
        refine q_cV1 190 rfl lX7_91 (k_byteAt hG hl (by omega)) rfl 77 t_77 rfl rfl rfl dX7_step_187 ?_
        rw [be (by omega)]
        refine q_iadd 191 rfl dX7_step_190 ?_
        refine q_bipush 193 rfl 48 k_b48 dX7_step_191 ?_
        refine q_isub 194 rfl (by omega) dX7_step_193 ?_
        refine q_goto 201 (by decide) dX7_step_194 ?_
        refine q_putI 204 rfl pX7_95 (fun q => by cases q) rfl 77 t_77 dX7_step_201 ?_
        rw [P7_s17]
        refine q_aload_n 205 rfl rfl dX7_step_204 ?_
        refine q_dup 206 rfl rfl dX7_step_205 ?_
        refine q_getI 209 rfl fX7_88 rfl 77 t_77 dX7_step_206 ?_
        rw [P7_14]
        refine q_iconst 210 rfl 1 k_i1 dX7_step_209 ?_
        refine q_iadd 211 rfl dX7_step_210 ?_
        refine q_putI 214 rfl pX7_88 (fun q => by cases q) rfl 77 t_77 dX7_step_211 ?_
        rw [P7_s14]
        refine q_goto 140 (by decide) dX7_step_214 ?_
        refine q_loc (ih (by omega) _ ?_) (q_sub1 rfl (q_sub1 rfl q_sub0))
        · first
            | (rw [v7_lt (by omega) (by omega) (by omega)]; done)
            | (rw [v7_ge (by omega) (by omega)])
theorem k_step0 {ba sp he tk vl : Nat} (hG : GF ad G) (hl : N 77 10 ≤ 160) (ht : ∀ i, i < 160 → N 84 i < 128) (hsp : sp ≤ N 77 10) : q_Con Γ mX7_step 1 0 0 [.ref (ad 77)] (LT ad, P7 N 0 ba sp he tk vl, L, G) (q_is none (LT ad, stp N ba sp, L, G)) := by
  unfold stp
  obtain ⟨a1, a2, a3, a4⟩ := sk_spec (t := N 84) (len := N 77 10) (lo := 32) (hi := 32) hsp
  generalize sk (N 84) (N 77 10) 32 32 sp = e at *
  obtain ⟨c1, c2, c3, c4⟩ := sk_spec (t := N 84) (len := N 77 10) (lo := 97) (hi := 122) a2
  generalize sk (N 84) (N 77 10) 97 122 e = e2 at *
  obtain ⟨d1, d2, d3, d4⟩ := sk_spec (t := N 84) (len := N 77 10) (lo := 48) (hi := 57) a2
  generalize sk (N 84) (N 77 10) 48 57 e = e3 at *
  have be : e < N 77 10 → byt (N 84) (N 77 10) e = N 84 e := fun q => if_pos q
  have bn : ¬ e < N 77 10 → byt (N 84) (N 77 10) e = 4294967292 := fun q => if_neg q
  have bt := ht e
  refine q_con (by decide) rfl rfl (Nat.le_of_ble_eq_true rfl) ?_
  refine q_aload_n 1 rfl rfl dX7_step_0 ?_
  refine q_getI 4 rfl fX7_76 rfl 77 t_77 dX7_step_1 ?_
  rw [P7_12]
  refine q_ifN_le 7 rfl 8 (by decide) (by omega) dX7_step_4 (fun h4 => ?_) (fun h4 => ?_)
  · refine q_loc (skS_lp (N := N) (e := e) (p := sp) hG hl ht a2 a4 a3 ?_ sp (by omega) (by omega) _ rfl) (q_sub1 rfl q_sub0)
    refine q_aload_n 35 rfl rfl dX7_step_34 ?_
    refine q_aload_n 36 rfl rfl dX7_step_35 ?_
    refine q_getI 39 rfl fX7_88 rfl 77 t_77 dX7_step_36 ?_
    rw [P7_14]
    refine q_putI 42 rfl pX7_79 (fun q => by cases q) rfl 77 t_77 dX7_step_39 ?_
    rw [P7_s15]
    refine q_aload_n 43 rfl rfl dX7_step_42 ?_
    refine q_aload_n 44 rfl rfl dX7_step_43 ?_
    refine q_getI 47 rfl fX7_88 rfl 77 t_77 dX7_step_44 ?_
    rw [P7_14]
    refine q_cV1 50 rfl lX7_91 (k_byteAt hG hl (by omega)) rfl 77 t_77 rfl rfl rfl dX7_step_47 ?_
    refine q_istore_n 51 rfl (by decide) dX7_step_50 ?_
    refine q_aload_n 52 rfl rfl dX7_step_51 ?_
    refine q_iconst 53 rfl 0 k_i0 dX7_step_52 ?_
    refine q_putI 56 rfl pX7_95 (fun q => by cases q) rfl 77 t_77 dX7_step_53 ?_
    rw [P7_s17]
    refine q_iload_n 57 rfl rfl dX7_step_56 ?_
    refine q_bipush 59 rfl 4294967292 k_bm4 dX7_step_57 ?_
    refine q_icmp_ne 62 rfl 70 (by decide) (by omega) (by omega) dX7_step_59 (fun h59 => ?_) (fun h59 => ?_)
    · refine q_iload_n 71 rfl rfl dX7_step_70 ?_
      refine q_i2l 72 rfl dX7_step_71 ?_
      refine q_ldc2 75 rfl (97) klX7_98 rfl dX7_step_72 ?_
      refine q_ldc2 78 rfl (122) klX7_100 rfl dX7_step_75 ?_
      refine q_cS3 81 rfl lX7_68 (k_in (X := byt (N 84) (N 77 10) e) (by omega) (by omega) (by omega) rfl (by omega) (by omega)) rfl rfl rfl dX7_step_78 ?_
      refine q_if_eqD 84 rfl 126 (by decide) dX7_step_81 (fun h81 => ?_) (fun h81 => ?_)
      · refine q_iload_n 127 rfl rfl dX7_step_126 ?_
        refine q_i2l 128 rfl dX7_step_127 ?_
        refine q_ldc2 131 rfl (48) klX7_102 rfl dX7_step_128 ?_
        refine q_ldc2 134 rfl (57) klX7_104 rfl dX7_step_131 ?_
        refine q_cS3 137 rfl lX7_68 (k_in (X := byt (N 84) (N 77 10) e) (by omega) (by omega) (by omega) rfl (by omega) (by omega)) rfl rfl rfl dX7_step_134 ?_
        refine q_if_eqD 140 rfl 243 (by decide) dX7_step_137 (fun h137 => ?_) (fun h137 => ?_)
        · refine q_aload_n 244 rfl rfl dX7_step_243 ?_
          refine q_iconst 245 rfl 3 k_i3 dX7_step_244 ?_
          refine q_putI 248 rfl pX7_85 (fun q => by cases q) rfl 77 t_77 dX7_step_245 ?_
          rw [P7_s16]
          refine q_aload_n 249 rfl rfl dX7_step_248 ?_
          refine q_dup 250 rfl rfl dX7_step_249 ?_
          refine q_getI 253 rfl fX7_88 rfl 77 t_77 dX7_step_250 ?_
          rw [P7_14]
          refine q_iconst 254 rfl 1 k_i1 dX7_step_253 ?_
          refine q_iadd 255 rfl dX7_step_254 ?_
          refine q_putI 258 rfl pX7_88 (fun q => by cases q) rfl 77 t_77 dX7_step_255 ?_
          rw [P7_s14]
          refine q_iload_n 259 rfl rfl dX7_step_258 ?_
          refine q_bipush 261 rfl 59 k_b59 dX7_step_259 ?_
          refine q_icmp_eq 264 rfl 269 (by decide) (by omega) (by omega) dX7_step_261 (fun h261 => ?_) (fun h261 => ?_)
          · refine q_vret rfl dX7_step_269 ?_
            refine ⟨rfl, ?_⟩
            first
              | (rw [if_pos (by omega)]; done)
              | (rw [if_neg (show ¬ N 77 10 ≤ e by omega), if_pos (by omega)]; done)
              | (rw [if_neg (show ¬ N 77 10 ≤ e by omega), if_neg (by omega), if_pos (by omega), if_pos (by omega), v7, show min (e3 - e) 2 = e3 - e by omega]; done)
              | (rw [if_neg (show ¬ N 77 10 ≤ e by omega), if_neg (by omega), if_pos (by omega), if_neg (by omega), v7, show min (e3 - e) 2 = 2 by omega]; done)
              | (rw [if_neg (show ¬ N 77 10 ≤ e by omega), if_neg (by omega), if_neg (by omega), if_pos (by omega)]; done)
              | (rw [if_neg (show ¬ N 77 10 ≤ e by omega), if_neg (by omega), if_neg (by omega), if_neg (by omega)])
          · refine q_aload_n 265 rfl rfl dX7_step_264 ?_
            refine q_iconst 266 rfl 1 k_i1 dX7_step_265 ?_
            refine q_cV1v 269 rfl lX7_106 (k_fails (x := 1) hG (by omega)) rfl 77 t_77 rfl rfl rfl dX7_step_266 ?_
            rw [if_pos rfl]
            refine q_vret rfl dX7_step_269 ?_
            refine ⟨rfl, ?_⟩
            first
              | (rw [if_pos (by omega)]; done)
              | (rw [if_neg (show ¬ N 77 10 ≤ e by omega), if_pos (by omega)]; done)
              | (rw [if_neg (show ¬ N 77 10 ≤ e by omega), if_neg (by omega), if_pos (by omega), if_pos (by omega), v7, show min (e3 - e) 2 = e3 - e by omega]; done)
              | (rw [if_neg (show ¬ N 77 10 ≤ e by omega), if_neg (by omega), if_pos (by omega), if_neg (by omega), v7, show min (e3 - e) 2 = 2 by omega]; done)
              | (rw [if_neg (show ¬ N 77 10 ≤ e by omega), if_neg (by omega), if_neg (by omega), if_pos (by omega)]; done)
              | (rw [if_neg (show ¬ N 77 10 ≤ e by omega), if_neg (by omega), if_neg (by omega), if_neg (by omega)])
        · refine q_loc (skD_lp (N := N) (e := e3) (p := e) (he := e) (b := 0) (ba := ba) (tk := tk) (vl := 0) hG hl ht d2 d4 rfl d3 ?_ e (by omega) (by omega) _ ?_) (q_sub1 rfl (q_sub1 rfl q_sub0))
          rotate_left
          · rw [v7, Nat.sub_self]; rfl
          refine q_aload_n 218 rfl rfl dX7_step_217 ?_
          refine q_iconst 219 rfl 2 k_i2 dX7_step_218 ?_
          refine q_putI 222 rfl pX7_85 (fun q => by cases q) rfl 77 t_77 dX7_step_219 ?_
          rw [P7_s16]
          refine q_aload_n 223 rfl rfl dX7_step_222 ?_
          refine q_getI 226 rfl fX7_88 rfl 77 t_77 dX7_step_223 ?_
          rw [P7_14]
          refine q_aload_n 227 rfl rfl dX7_step_226 ?_
          refine q_getI 230 rfl fX7_79 rfl 77 t_77 dX7_step_227 ?_
          rw [P7_15]
          refine q_isub 231 rfl (by omega) dX7_step_230 ?_
          refine q_iconst 232 rfl 2 k_i2 dX7_step_231 ?_
          refine q_icmp_le 235 rfl 269 (by decide) (by omega) (by omega) dX7_step_232 (fun h232 => ?_) (fun h232 => ?_)
          · refine q_vret rfl dX7_step_269 ?_
            refine ⟨rfl, ?_⟩
            first
              | (rw [if_pos (by omega)]; done)
              | (rw [if_neg (show ¬ N 77 10 ≤ e by omega), if_pos (by omega)]; done)
              | (rw [if_neg (show ¬ N 77 10 ≤ e by omega), if_neg (by omega), if_pos (by omega), if_pos (by omega), v7, show min (e3 - e) 2 = e3 - e by omega]; done)
              | (rw [if_neg (show ¬ N 77 10 ≤ e by omega), if_neg (by omega), if_pos (by omega), if_neg (by omega), v7, show min (e3 - e) 2 = 2 by omega]; done)
              | (rw [if_neg (show ¬ N 77 10 ≤ e by omega), if_neg (by omega), if_neg (by omega), if_pos (by omega)]; done)
              | (rw [if_neg (show ¬ N 77 10 ≤ e by omega), if_neg (by omega), if_neg (by omega), if_neg (by omega)])
          · refine q_aload_n 236 rfl rfl dX7_step_235 ?_
            refine q_iconst 237 rfl 1 k_i1 dX7_step_236 ?_
            refine q_cV1v 240 rfl lX7_106 (k_fails (x := 1) hG (by omega)) rfl 77 t_77 rfl rfl rfl dX7_step_237 ?_
            rw [if_pos rfl]
            refine q_goto 269 (by decide) dX7_step_240 ?_
            refine q_vret rfl dX7_step_269 ?_
            refine ⟨rfl, ?_⟩
            first
              | (rw [if_pos (by omega)]; done)
              | (rw [if_neg (show ¬ N 77 10 ≤ e by omega), if_pos (by omega)]; done)
              | (rw [if_neg (show ¬ N 77 10 ≤ e by omega), if_neg (by omega), if_pos (by omega), if_pos (by omega), v7, show min (e3 - e) 2 = e3 - e by omega]; done)
              | (rw [if_neg (show ¬ N 77 10 ≤ e by omega), if_neg (by omega), if_pos (by omega), if_neg (by omega), v7, show min (e3 - e) 2 = 2 by omega]; done)
              | (rw [if_neg (show ¬ N 77 10 ≤ e by omega), if_neg (by omega), if_neg (by omega), if_pos (by omega)]; done)
              | (rw [if_neg (show ¬ N 77 10 ≤ e by omega), if_neg (by omega), if_neg (by omega), if_neg (by omega)])
      · refine q_loc (skL_lp (N := N) (e := e2) (p := e) hG hl ht c2 c4 c3 ?_ e (by omega) (by omega) _ rfl) (q_sub1 rfl (q_sub1 rfl q_sub0))
        refine q_aload_n 119 rfl rfl dX7_step_118 ?_
        refine q_iconst 120 rfl 1 k_i1 dX7_step_119 ?_
        refine q_putI 123 rfl pX7_85 (fun q => by cases q) rfl 77 t_77 dX7_step_120 ?_
        rw [P7_s16]
        refine q_goto 269 (by decide) dX7_step_123 ?_
        refine q_vret rfl dX7_step_269 ?_
        refine ⟨rfl, ?_⟩
        first
          | (rw [if_pos (by omega)]; done)
          | (rw [if_neg (show ¬ N 77 10 ≤ e by omega), if_pos (by omega)]; done)
          | (rw [if_neg (show ¬ N 77 10 ≤ e by omega), if_neg (by omega), if_pos (by omega), if_pos (by omega), v7, show min (e3 - e) 2 = e3 - e by omega]; done)
          | (rw [if_neg (show ¬ N 77 10 ≤ e by omega), if_neg (by omega), if_pos (by omega), if_neg (by omega), v7, show min (e3 - e) 2 = 2 by omega]; done)
          | (rw [if_neg (show ¬ N 77 10 ≤ e by omega), if_neg (by omega), if_neg (by omega), if_pos (by omega)]; done)
          | (rw [if_neg (show ¬ N 77 10 ≤ e by omega), if_neg (by omega), if_neg (by omega), if_neg (by omega)])
    · refine q_aload_n 63 rfl rfl dX7_step_62 ?_
      refine q_iconst 64 rfl 0 k_i0 dX7_step_63 ?_
      refine q_putI 67 rfl pX7_85 (fun q => by cases q) rfl 77 t_77 dX7_step_64 ?_
      rw [P7_s16]
      refine q_goto 269 (by decide) dX7_step_67 ?_
      refine q_vret rfl dX7_step_269 ?_
      refine ⟨rfl, ?_⟩
      first
        | (rw [if_pos (by omega)]; done)
        | (rw [if_neg (show ¬ N 77 10 ≤ e by omega), if_pos (by omega)]; done)
        | (rw [if_neg (show ¬ N 77 10 ≤ e by omega), if_neg (by omega), if_pos (by omega), if_pos (by omega), v7, show min (e3 - e) 2 = e3 - e by omega]; done)
        | (rw [if_neg (show ¬ N 77 10 ≤ e by omega), if_neg (by omega), if_pos (by omega), if_neg (by omega), v7, show min (e3 - e) 2 = 2 by omega]; done)
        | (rw [if_neg (show ¬ N 77 10 ≤ e by omega), if_neg (by omega), if_neg (by omega), if_pos (by omega)]; done)
        | (rw [if_neg (show ¬ N 77 10 ≤ e by omega), if_neg (by omega), if_neg (by omega), if_neg (by omega)])
  · exfalso; omega
theorem k_stepB {b ba sp he tk vl : Nat} (hG : GF ad G) (hb : b ≠ 0) (hb2 : b < 2147483648) : q_Con Γ mX7_step 1 0 0 [.ref (ad 77)] (LT ad, P7 N b ba sp he tk vl, L, G) (q_is none (LT ad, P7 N b ba sp he tk vl, L, G)) := by
  refine q_con (by decide) rfl rfl (Nat.le_of_ble_eq_true rfl) ?_
  refine q_aload_n 1 rfl rfl dX7_step_0 ?_
  refine q_getI 4 rfl fX7_76 rfl 77 t_77 dX7_step_1 ?_
  rw [P7_12]
  refine q_ifN_le 7 rfl 8 (by decide) (by omega) dX7_step_4 (fun h4 => ?_) (fun h4 => ?_)
  · exfalso; omega
  · refine q_vret rfl dX7_step_7 ?_
    exact ⟨rfl, rfl⟩
end
