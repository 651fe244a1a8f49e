theorem lstc {f g : Nat → Nat} : ∀ {k : Nat}, (∀ i, i < k → f i = g i) → lst f k = lst g k := by
  intro k
  induction k with
  | zero => intro _; rfl
  | succ k ih => intro h; rw [lst, lst, ih (fun i hi => h i (by omega)), h k (by omega)]
theorem vwsc {f g : Nat → Nat} : ∀ {k : Nat}, (∀ i, i < k → f i = g i) → vws f k = vws g k := by
  intro k
  induction k with
  | zero => intro _; rfl
  | succ k ih => intro h; rw [vws, vws, ih (fun i hi => h i (by omega)), h k (by omega)]
theorem lst26 {f : Nat → Nat} : ∀ {k : Nat}, (∀ i, i < k → f i < 26) → lst f k < 67108864 := by
  intro k
  induction k with
  | zero => intro _; show 0 < 67108864; omega
  | succ k ih =>
    intro h
    rw [lst, show (67108864 : Nat) = 2 ^ 26 from rfl]
    exact Nat.or_lt_two_pow (ih (fun i hi => h i (by omega))) (Nat.pow_lt_pow_of_lt (by omega) (h k (by omega)))
theorem vws8 {f : Nat → Nat} : ∀ {k : Nat}, vws f k ≤ k := by
  intro k
  induction k with
  | zero => exact Nat.le_refl _
  | succ k ih => rw [vws]; have : vwl (f k) ≤ 1 := by unfold vwl; split <;> omega
                 omega
/-- the draft's cells hold the reading S -/
def CR (S H : Nat → Nat → Nat) (dn dm : Nat) : Prop := H dn 0 = S 0 0 ∧ (∀ n, n < S 0 0 → H (dn + 1) n = S 1 n ∧ (∀ i, i < S 1 n → H (dn + 2) (n * 8 + i) = S 2 (8 * n + i)) ∧ H (dn + 3) n = lst (fun i => S 2 (8 * n + i)) (S 1 n) ∧ H (dn + 4) n = vws (fun i => S 2 (8 * n + i)) (S 1 n) ∧ H (dm + 1) n = S 3 n) ∧ H dm 1 = S 0 1 ∧ H dm 2 = S 0 2 ∧ H dm 3 = S 0 3 ∧ (∀ k, k < S 0 3 → H (dm + 2) k = S 4 k ∧ H (dm + 3) k = S 5 k) ∧ H dn 5 = S 0 4 ∧ (∀ i, i < S 0 4 → H (dn + 5) i = S 6 i) ∧ H 2 9 = S 0 5 ∧ H 2 10 = S 0 6 ∧ H dm 6 = 0 ∧ H dm 9 = 0
def CB (H : Nat → Nat → Nat) (dn dm : Nat) : Prop := (∀ n, n < 9 → H (dn + 1) n ≤ 8) ∧ (∀ i, i < 72 → H (dn + 2) i < 26) ∧ (∀ n, n < 9 → H (dn + 3) n < 67108864) ∧ (∀ n, n < 9 → H (dn + 4) n ≤ 8) ∧ (∀ i, i < 8 → H (dn + 5) i < 26) ∧ (∀ n, n < 9 → H (dm + 1) n ≤ 9) ∧ (∀ k, k < 5 → H (dm + 2) k < 26) ∧ (∀ k, k < 5 → H (dm + 3) k < 26)
def FC (N K : Nat → Nat → Nat) (dn dm : Nat) : Prop := (∀ a, a ≠ 2 → (a < dn ∨ dn + 5 < a) → (a < dm ∨ dm + 8 < a) → K a = N a) ∧ (∀ j, j ≠ 9 → j ≠ 10 → K 2 j = N 2 j)
abbrev isD (dn dm : Nat) : Prop := (dn = 3 ∨ dn = 18) ∧ (dm = 9 ∨ dm = 24)
theorem FC.rf {N : Nat → Nat → Nat} {dn dm : Nat} : FC N N dn dm := ⟨fun _ _ _ _ => rfl, fun _ _ _ => rfl⟩
theorem FC.tr {N M K : Nat → Nat → Nat} {dn dm : Nat} (h1 : FC N M dn dm) (h2 : FC M K dn dm) : FC N K dn dm := ⟨fun a b1 b2 b3 => (h2.1 a b1 b2 b3).trans (h1.1 a b1 b2 b3), fun j b1 b2 => (h2.2 j b1 b2).trans (h1.2 j b1 b2)⟩
theorem FC.t {N K : Nat → Nat → Nat} {dn dm : Nat} (hd : isD dn dm) (h : FC N K dn dm) : K 1 = N 1 := h.1 1 (by omega) (by omega) (by omega)
theorem FC.len {N K : Nat → Nat → Nat} {dn dm : Nat} (h : FC N K dn dm) : K 2 1 = N 2 1 := h.2 1 (by omega) (by omega)
theorem FC.fld {N : Nat → Nat → Nat} {dn dm j x : Nat} (hj : j = 9 ∨ j = 10) : FC N (q_s N 2 j x) dn dm := ⟨fun _ b1 _ _ => q_s_ne b1, fun i b1 b2 => q_s_off (by omega)⟩
theorem CB.fld {N : Nat → Nat → Nat} {dn dm j x : Nat} (hd : isD dn dm) (h : CB N dn dm) : CB (q_s N 2 j x) dn dm := by
  unfold CB
  rw [q_s_ne (by omega), q_s_ne (by omega), q_s_ne (by omega), q_s_ne (by omega), q_s_ne (by omega), q_s_ne (by omega), q_s_ne (by omega), q_s_ne (by omega)]
  exact h
theorem CR.tld {S N : Nat → Nat → Nat} {dn dm w : Nat} (hd : isD dn dm) (h : CR S N dn dm) (hw : w = 1 ∨ w = 3) : CR (tldS S w) (q_s N 2 (if w = 1 then 9 else 10) 1) dn dm := by
  obtain ⟨t5, t6, t0, tr⟩ := tldS_0 (S := S) (w := w)
  obtain ⟨a1, a2, a3, a4, a5, a6, a7, a8, a9, b1, b2, b3⟩ := h
  unfold CR
  rw [q_s_ne (by omega), q_s_ne (show dn + 1 ≠ 2 by omega), q_s_ne (show dn + 2 ≠ 2 by omega), q_s_ne (show dn + 3 ≠ 2 by omega), q_s_ne (show dn + 4 ≠ 2 by omega), q_s_ne (show dn + 5 ≠ 2 by omega), q_s_ne (show dm ≠ 2 by omega), q_s_ne (show dm + 1 ≠ 2 by omega), q_s_ne (show dm + 2 ≠ 2 by omega), q_s_ne (show dm + 3 ≠ 2 by omega), t0 0 (by omega) (by omega), t0 1 (by omega) (by omega), t0 2 (by omega) (by omega), t0 3 (by omega) (by omega), t0 4 (by omega) (by omega), t5, t6, tr 1 (by omega), tr 2 (by omega), tr 3 (by omega), tr 4 (by omega), tr 5 (by omega), tr 6 (by omega)]
  refine ⟨a1, a2, a3, a4, a5, a6, a7, a8, ?_, ?_, b2, b3⟩
  · rcases hw with rfl | rfl
    · rw [if_pos rfl, if_pos rfl]; exact q_s_at
    · rw [if_neg (by omega), if_neg (by omega), q_s_off (by omega)]; exact a9
  · rcases hw with rfl | rfl
    · rw [if_pos rfl, if_neg (by omega), q_s_off (by omega)]; exact b1
    · rw [if_neg (by omega), if_pos rfl]; exact q_s_at
theorem wdC_f {N : Nat → Nat → Nat} {q s k : Nat} : (∀ a, a ≠ q → a ≠ q + 5 → wdC N q s k a = N a) ∧ (∀ j, j ≠ 5 → wdC N q s k q j = N q j) ∧ wdC N q s k q 5 = k ∧ ∀ j, wdC N q s k (q + 5) j = if j < k then N 1 (s + j) - 97 else N (q + 5) j := by
  unfold wdC
  refine ⟨fun a h1 h2 => by rw [q_s_ne h1, wr2_ne h2], fun j hj => by rw [q_s_off hj, wr2_ne (by omega)], q_s_at, fun j => ?_⟩
  rw [q_s_ne (by omega)]
  unfold wr2
  rw [q_r_at]
  by_cases h : j < k
  · rw [if_pos (by omega), if_pos h, Nat.sub_zero]
  · rw [if_neg (by omega), if_neg h]
theorem CR.addM {S N : Nat → Nat → Nat} {dn dm s k : Nat} (hd : isD dn dm) (h : CR S N dn dm) : CR (adM S (N 1) s k) (wdC N dn s k) dn dm := by
  obtain ⟨w1, w2, w3, w4⟩ := wdC_f (N := N) (q := dn) (s := s) (k := k)
  obtain ⟨a1, a2, a3, a4, a5, a6, a7, a8, a9, b1, b2, b3⟩ := h
  have S0 : ∀ j, j ≠ 4 → adM S (N 1) s k 0 j = S 0 j := fun j hj => by unfold adM; rw [q_s_off hj, q_r_ne (by omega)]
  have S04 : adM S (N 1) s k 0 4 = k := q_s_at
  have S6 : ∀ j, adM S (N 1) s k 6 j = if j < k then N 1 (s + j) - 97 else S 6 j := fun j => by unfold adM; rw [q_s_ne (by omega), q_r_at]
  have Sr : ∀ r, r ≠ 0 → r ≠ 6 → adM S (N 1) s k r = S r := fun r h1 h2 => by unfold adM; rw [q_s_ne h1, q_r_ne h2]
  unfold CR
  rw [w2 0 (by omega), w3, w1 (dn + 1) (by omega) (by omega), w1 (dn + 2) (by omega) (by omega), w1 (dn + 3) (by omega) (by omega), w1 (dn + 4) (by omega) (by omega), w1 dm (by omega) (by omega), w1 (dm + 1) (by omega) (by omega), w1 (dm + 2) (by omega) (by omega), w1 (dm + 3) (by omega) (by omega), w1 2 (by omega) (by omega), S04, S0 0 (by omega), S0 1 (by omega), S0 2 (by omega), S0 3 (by omega), S0 5 (by omega), S0 6 (by omega), Sr 1 (by omega) (by omega), Sr 2 (by omega) (by omega), Sr 3 (by omega) (by omega), Sr 4 (by omega) (by omega), Sr 5 (by omega) (by omega)]
  exact ⟨a1, a2, a3, a4, a5, a6, rfl, fun i hi => by rw [w4, S6, if_pos hi, if_pos hi], a9, b1, b2, b3⟩
theorem CB.wd {N : Nat → Nat → Nat} {dn dm s k : Nat} (hd : isD dn dm) (h : CB N dn dm) (hw : ∀ i, i < k → 97 ≤ N 1 (s + i) ∧ N 1 (s + i) ≤ 122) : CB (wdC N dn s k) dn dm := by
  obtain ⟨w1, w2, w3, w4⟩ := wdC_f (N := N) (q := dn) (s := s) (k := k)
  obtain ⟨h1, h2, h3, h4, h5, h6, h7, h8⟩ := h
  unfold CB
  rw [w1 (dn + 1) (by omega) (by omega), w1 (dn + 2) (by omega) (by omega), w1 (dn + 3) (by omega) (by omega), w1 (dn + 4) (by omega) (by omega), w1 (dm + 1) (by omega) (by omega), w1 (dm + 2) (by omega) (by omega), w1 (dm + 3) (by omega) (by omega)]
  refine ⟨h1, h2, h3, h4, fun i hi => ?_, h6, h7, h8⟩
  rw [w4]; split
  · have := hw i (by assumption); omega
  · exact h5 i hi
theorem FC.wd {N : Nat → Nat → Nat} {dn dm s k : Nat} (hd : isD dn dm) : FC N (wdC N dn s k) dn dm := by
  obtain ⟨w1, w2, w3, w4⟩ := wdC_f (N := N) (q := dn) (s := s) (k := k)
  exact ⟨fun a b1 b2 b3 => w1 a (by omega) (by omega), fun j _ _ => by rw [w1 2 (by omega) (by omega)]⟩
theorem ad2_f {N : Nat → Nat → Nat} {q X Y : Nat} : (∀ a, a ≠ q → a ≠ q + 2 → a ≠ q + 3 → ad2 N q 3 2 3 X Y a = N a) ∧ (∀ j, j ≠ 3 → ad2 N q 3 2 3 X Y q j = N q j) ∧ ad2 N q 3 2 3 X Y q 3 = N q 3 + 1 ∧ (∀ j, ad2 N q 3 2 3 X Y (q + 2) j = if j = N q 3 then X else N (q + 2) j) ∧ ∀ j, ad2 N q 3 2 3 X Y (q + 3) j = if j = N q 3 then Y else N (q + 3) j := by
  refine ⟨fun a h1 h2 h3 => ad2_ne h1 h2 h3, fun j hj => by rw [ad2, q_s_off hj, q_s_ne (by omega), q_s_ne (by omega)], q_s_at, fun j => ?_, fun j => ?_⟩
  · rw [ad2, q_s_ne (by omega), q_s_ne (by omega)]
    by_cases e : j = N q 3
    · subst e; rw [q_s_at, if_pos rfl]
    · rw [q_s_off e, if_neg e]
  · rw [ad2, q_s_ne (by omega)]
    by_cases e : j = N q 3
    · subst e; rw [q_s_at, if_pos rfl]
    · rw [q_s_off e, if_neg e, q_s_ne (by omega)]
theorem CR.addP {S N : Nat → Nat → Nat} {dn dm a b : Nat} (hd : isD dn dm) (h : CR S N dn dm) : CR (adP S a b) (ad2 N dm 3 2 3 a b) dn dm := by
  obtain ⟨w1, w2, w3, w4, w5⟩ := ad2_f (N := N) (q := dm) (X := a) (Y := b)
  obtain ⟨a1, a2, a3, a4, a5, a6, a7, a8, a9, b1, b2, b3⟩ := h
  have S0 : ∀ j, j ≠ 3 → adP S a b 0 j = S 0 j := fun j hj => by unfold adP; rw [q_s_off hj, q_s_ne (by omega), q_s_ne (by omega)]
  have S03 : adP S a b 0 3 = S 0 3 + 1 := q_s_at
  have S4 : ∀ j, adP S a b 4 j = if j = S 0 3 then a else S 4 j := fun j => by
    unfold adP; rw [q_s_ne (by omega), q_s_ne (by omega)]
    by_cases e : j = S 0 3
    · subst e; rw [if_pos rfl, q_s_at]
    · rw [if_neg e, q_s_off e]
  have S5 : ∀ j, adP S a b 5 j = if j = S 0 3 then b else S 5 j := fun j => by
    unfold adP; rw [q_s_ne (by omega)]
    by_cases e : j = S 0 3
    · subst e; rw [if_pos rfl, q_s_at]
    · rw [if_neg e, q_s_off e, q_s_ne (by omega)]
  have Sr : ∀ r, r ≠ 0 → r ≠ 4 → r ≠ 5 → adP S a b r = S r := fun r h1 h2 h3 => by unfold adP; rw [q_s_ne h1, q_s_ne h3, q_s_ne h2]
  unfold CR
  rw [w2 1 (by omega), w2 2 (by omega), w3, w2 6 (by omega), w2 9 (by omega), w1 dn (by omega) (by omega) (by omega), w1 (dn + 1) (by omega) (by omega) (by omega), w1 (dn + 2) (by omega) (by omega) (by omega), w1 (dn + 3) (by omega) (by omega) (by omega), w1 (dn + 4) (by omega) (by omega) (by omega), w1 (dn + 5) (by omega) (by omega) (by omega), w1 (dm + 1) (by omega) (by omega) (by omega), w1 2 (by omega) (by omega) (by omega), S03, S0 0 (by omega), S0 1 (by omega), S0 2 (by omega), S0 4 (by omega), S0 5 (by omega), S0 6 (by omega), Sr 1 (by omega) (by omega) (by omega), Sr 2 (by omega) (by omega) (by omega), Sr 3 (by omega) (by omega) (by omega), Sr 6 (by omega) (by omega) (by omega), a5]
  refine ⟨a1, a2, a3, a4, rfl, fun k hk => ?_, a7, a8, a9, b1, b2, b3⟩
  rw [w4, w5, S4, S5, a5]
  by_cases e : k = S 0 3
  · rw [if_pos e, if_pos e, if_pos e, if_pos e]; exact ⟨rfl, rfl⟩
  · rw [if_neg e, if_neg e, if_neg e, if_neg e]; exact a6 k (by omega)
theorem CB.p2 {N : Nat → Nat → Nat} {dn dm a b : Nat} (hd : isD dn dm) (h : CB N dn dm) (ha : a < 26) (hb : b < 26) : CB (ad2 N dm 3 2 3 a b) dn dm := by
  obtain ⟨w1, w2, w3, w4, w5⟩ := ad2_f (N := N) (q := dm) (X := a) (Y := b)
  obtain ⟨h1, h2, h3, h4, h5, h6, h7, h8⟩ := h
  unfold CB
  rw [w1 (dn + 1) (by omega) (by omega) (by omega), w1 (dn + 2) (by omega) (by omega) (by omega), w1 (dn + 3) (by omega) (by omega) (by omega), w1 (dn + 4) (by omega) (by omega) (by omega), w1 (dn + 5) (by omega) (by omega) (by omega), w1 (dm + 1) (by omega) (by omega) (by omega)]
  refine ⟨h1, h2, h3, h4, h5, h6, fun k hk => ?_, fun k hk => ?_⟩
  · rw [w4]; split
    · exact ha
    · exact h7 k hk
  · rw [w5]; split
    · exact hb
    · exact h8 k hk
theorem FC.p2 {N : Nat → Nat → Nat} {dn dm a b : Nat} (hd : isD dn dm) : FC N (ad2 N dm 3 2 3 a b) dn dm := by
  obtain ⟨w1, w2, w3, w4, w5⟩ := ad2_f (N := N) (q := dm) (X := a) (Y := b)
  exact ⟨fun x b1 b2 b3 => w1 x (by omega) (by omega) (by omega), fun j _ _ => by rw [w1 2 (by omega) (by omega) (by omega)]⟩
