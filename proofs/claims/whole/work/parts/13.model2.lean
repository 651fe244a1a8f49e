theorem mk_and1 (p : Nat → Bool) {c : Nat} (hc : c ≤ 32) : mk p c &&& 4294967295 = mk p c := by
  apply bit_ext
  intro i
  rw [Nat.testBit_and, mk_bit, M32_bit]
  by_cases hi : i < c
  · have : i < 32 := by omega
    simp [this]
  · simp [hi]
theorem mk_clr (p : Nat → Bool) (i : Nat) {c : Nat} (hc : c ≤ 32) : mk p c &&& (1 * 2 ^ i ^^^ 4294967295) = mk (fun n => p n && decide (n ≠ i)) c := by
  apply bit_ext
  intro j
  rw [Nat.testBit_and, mk_bit, Nat.testBit_xor, pow_bit, M32_bit, mk_bit]
  by_cases hj : j < c
  · have : j < 32 := by omega
    by_cases e : i = j
    · subst e; simp [this]
    · have e2 : ¬ j = i := fun q => e q.symm
      simp [this, e, e2]
  · simp [hj]
theorem mk_one (p : Nat → Bool) (i : Nat) (c : Nat) : mk p c &&& (1 * 2 ^ i) = mk (fun n => p n && decide (n = i)) c := by
  apply bit_ext
  intro j
  rw [Nat.testBit_and, mk_bit, pow_bit, mk_bit]
  by_cases e : i = j
  · subst e; simp
  · have e2 : ¬ j = i := fun q => e q.symm
    simp [e, e2]
/-- the answer to a guess g, if he is called n -/
def aof (Rl : Nat → Nat → Bool) (g n : Nat) : Nat := if n = g then 2 else if Rl g n = true then 1 else 0
def tst (ln : Nat → Nat) (lt : Nat → Nat → Nat) (hp hl hi : Nat → Nat) (k n : Nat) : Bool := decide (hp k < ln n ∧ lt n (hp k) = hl k) == decide (hi k = 1)
def okh (ln : Nat → Nat) (lt : Nat → Nat → Nat) (hp hl hi : Nat → Nat) : Nat → Nat → Bool
  | 0, _ => true
  | k + 1, n => okh ln lt hp hl hi k n && tst ln lt hp hl hi k n
def okg (Rl : Nat → Nat → Bool) (gn ga : Nat → Nat) : Nat → Nat → Bool
  | 0, _ => true
  | k + 1, n => okg Rl gn ga k n && decide (aof Rl (gn k) n = ga k)
/-- the names that can be by hd things heard and k answers -/
def can (c : Nat) (ln : Nat → Nat) (lt : Nat → Nat → Nat) (hp hl hi : Nat → Nat) (hd : Nat) (Rl : Nat → Nat → Bool) (gn ga : Nat → Nat) (k : Nat) : Nat := mk (fun n => okh ln lt hp hl hi hd n && okg Rl gn ga k n) c
def ansW (f : Nat → Nat) (s n a : Nat) : Nat := if a = 2 then s &&& (1 * 2 ^ n) else if a = 1 then s &&& f n else s &&& (f n ^^^ 4294967295) &&& (1 * 2 ^ n ^^^ 4294967295)
theorem ansW_mk {f : Nat → Nat} {p : Nat → Bool} {Rl : Nat → Nat → Bool} {c g a : Nat} (hc : c ≤ 32) (hf : f g = mk (fun m => decide (g ≠ m) && Rl g m) c) (ha : a ≤ 2) : ansW f (mk p c) g a = mk (fun n => p n && decide (aof Rl g n = a)) c := by
  unfold ansW
  rcases (show a = 0 ∨ a = 1 ∨ a = 2 by omega) with rfl | rfl | rfl
  · rw [if_neg (by decide), if_neg (by decide), hf, mk_andN _ _ hc, mk_clr _ _ hc]
    apply mk_ext
    intro n hn
    simp only [aof]
    by_cases e : n = g
    · simp [e]
    · have e2 : ¬ g = n := fun q => e q.symm
      by_cases hr : Rl g n = true <;> simp [e, e2, hr]
  · rw [if_neg (by decide), if_pos rfl, hf, mk_and]
    apply mk_ext
    intro n hn
    simp only [aof]
    by_cases e : n = g
    · simp [e]
    · have e2 : ¬ g = n := fun q => e q.symm
      by_cases hr : Rl g n = true <;> simp [e, e2, hr]
  · rw [if_pos rfl, mk_one]
    apply mk_ext
    intro n hn
    simp only [aof]
    by_cases e : n = g
    · simp [e]
    · by_cases hr : Rl g n = true <;> simp [e, hr]
def ods (f : Nat → Nat) (s : Nat) : Nat → Nat
  | 0 => 0
  | k + 1 => ods f s k + if s.testBit k = true then f k else 0
theorem ods_le (f : Nat → Nat) (s k b : Nat) (h : ∀ i, i < k → f i ≤ b) : ods f s k ≤ k * b := by
  induction k with
  | zero => exact Nat.zero_le _
  | succ k ih =>
    have h1 := ih (fun i hi => h i (by omega))
    have h2 := h k (by omega)
    simp only [ods, Nat.succ_mul]
    split <;> omega
theorem ods_one (f : Nat → Nat) (s n k : Nat) (hn : n < k) : ods f (s &&& (1 * 2 ^ n)) k = if s.testBit n = true then f n else 0 := by
  have key : ∀ j, ods f (s &&& (1 * 2 ^ n)) j = if n < j then (if s.testBit n = true then f n else 0) else 0 := by
    intro j
    induction j with
    | zero => simp [ods]
    | succ j ih =>
      simp only [ods, ih, Nat.testBit_and, pow_bit]
      by_cases e : n = j
      · subst e
        simp
      · rw [decide_eq_false e, Bool.and_false]
        by_cases h : n < j
        · have h2 : n < j + 1 := by omega
          simp [h, h2]
        · have h2 : ¬ n < j + 1 := by omega
          simp [h, h2]
  rw [key k, if_pos hn]
/-- the first of f's least, from init on -/
def amin (f : Nat → Nat) (init : Nat) : Nat → Nat × Nat
  | 0 => (init, 0)
  | k + 1 => if f k < (amin f init k).1 then (f k, k) else amin f init k
def lieF (f : Nat → Nat) : Nat → Nat → Nat
  | 0, _ => 4294967292
  | r + 1, k => if f (k + 1) = 0 then k else lieF f r (k + 1)
section
variable {Γ : q_G} {ad : Nat → Nat} {N : Nat → Nat → Nat} {L : Nat → Nat → Int} {G : Nat → Nat → Option Nat}
abbrev lay7 (N : Nat → Nat → Nat) (kd ms c : Nat) : Nat → Nat → Nat := q_r N 87 (fun j => if j < c then nx7 kd ms (N 79) c j else N 87 j)
theorem layNear_lp {Z : q_Zt} {c kd ms mc mz : Nat} (hG : GF ad G) (hc : N 77 2 = c) (hc9 : c ≤ 9) (hk : kd < 5) (hms : ms ≤ 8) (hb : ∀ i, i < 81 → N 79 i < 26) (hl : ∀ n, n < 9 → N 79 (9 * n) ≤ 8) (hx : q_R Γ mX7_layNear (q_room 3 mc mz) Z 0 0 76 [] [] (LT ad, (q_r N 87 (fun j => if j < (c) then nx7 kd ms (N 79) c j else N 87 j)), L, G)) : ∀ i, i ≤ c →  ∀ H : Nat → Nat → Nat, H = q_r N 87 (fun j => if j < i then nx7 kd ms (N 79) c j else N 87 j) → q_R Γ mX7_layNear (q_room 3 mc mz) Z 0 0 2 [(0, .ref (ad 77)), (1, .int (nI kd)), (2, .int (nI ms)), (3, .int (nI i))] [] (LT ad, H, L, G) := by
  refine dn_loop (c) ?_ ?_
  · intro H h_H
    have e77 : H 77 2 = c := by rw [h_H]; exact hc
    refine q_iload_n 3 rfl rfl dX7_layNear_2 ?_
    refine q_aload_n 4 rfl rfl dX7_layNear_3 ?_
    refine q_getI 7 rfl fX7_155 rfl 77 t_77 dX7_layNear_4 ?_
    refine q_icmp_ge 10 rfl 76 (by decide) (by omega) (by omega) dX7_layNear_7 (fun h7 => ?_) (fun h7 => ?_)
    · subst h_H
      exact q_loc hx q_sub0
    · exfalso; omega
  · intro i h_i ih H h_H
    have e77 : H 77 2 = c := by rw [h_H]; exact hc
    refine q_iload_n 3 rfl rfl dX7_layNear_2 ?_
    refine q_aload_n 4 rfl rfl dX7_layNear_3 ?_
    refine q_getI 7 rfl fX7_155 rfl 77 t_77 dX7_layNear_4 ?_
    refine q_icmp_ge 10 rfl 76 (by decide) (by omega) (by omega) dX7_layNear_7 (fun h7 => ?_) (fun h7 => ?_)
    · exfalso; omega
    · refine q_aload_n 11 rfl rfl dX7_layNear_10 ?_
      refine q_getR 14 rfl fX7_37 rfl 77 t_77 (g_77_20 hG) dX7_layNear_11 ?_
      refine q_iload_n 15 rfl rfl dX7_layNear_14 ?_
      refine q_iconst 16 rfl 0 k_i0 dX7_layNear_15 ?_
      refine q_iast 17 rfl 87 t_87 (by omega) (by decide) dX7_layNear_16 ?_
      refine q_iconst 18 rfl 0 k_i0 dX7_layNear_17 ?_
      refine q_istore 20 rfl (by decide) dX7_layNear_18 ?_
      refine q_loc (layNear_in (N := N) (n := i) hG hc hc9 hk hms hb hl h_i ?_ 0 (by omega) _ ?_) (q_sub1 rfl (q_sub1 rfl (q_sub1 rfl (q_sub1 rfl (q_sub1 rfl q_sub0)))))
      rotate_left
      · rw [h_H]; rfl
      refine q_iinc1 73 rfl 1 k_i1 rfl (by decide) dX7_layNear_70 ?_
      refine q_goto 2 (by decide) dX7_layNear_73 ?_
      refine q_loc (ih _ ?_) (q_sub1 rfl (q_sub1 rfl (q_sub1 rfl (q_sub1 rfl q_sub0))))
      · funext x y
        simp only [q_s, q_r]
        by_cases hx1 : x = 87
        · subst hx1
          simp only [if_true]
          by_cases hy : y = i
          · subst hy
            rw [if_pos rfl, if_pos (by omega)]
          · rw [if_neg hy]
            by_cases hy2 : y < i
            · rw [if_pos hy2, if_pos (by omega)]
            · rw [if_neg hy2, if_neg (by omega)]
        · simp only [hx1, if_false]
theorem k_layNear {c kd ms : Nat} (hG : GF ad G) (hc : N 77 2 = c) (hc9 : c ≤ 9) (hk : kd < 5) (hms : ms ≤ 8) (hb : ∀ i, i < 81 → N 79 i < 26) (hl : ∀ n, n < 9 → N 79 (9 * n) ≤ 8) : q_Con Γ mX7_layNear 3 0 0 [.ref (ad 77), .int (nI kd), .int (nI ms)] (LT ad, N, L, G) (q_is none (LT ad, lay7 N kd ms c, L, G)) := by
  refine q_con (by decide) rfl rfl (Nat.le_of_ble_eq_true rfl) ?_
  refine q_iconst 1 rfl 0 k_i0 dX7_layNear_0 ?_
  refine q_istore_n 2 rfl (by decide) dX7_layNear_1 ?_
  refine q_loc (layNear_lp (N := N) hG hc hc9 hk hms hb hl ?_ 0 (by omega) _ ?_) (q_sub1 rfl (q_sub1 rfl (q_sub1 rfl (q_sub1 rfl q_sub0))))
  rotate_left
  · funext x y
    simp only [q_r]
    by_cases hx1 : x = 87
    · simp [hx1]
    · simp [hx1]
  refine q_vret rfl dX7_layNear_76 ?_
  exact ⟨rfl, rfl⟩
theorem k_layNow {c : Nat} (hG : GF ad G) (hc : N 77 2 = c) (hc9 : c ≤ 9) (hk : N 78 9 < 5) (hms : N 78 10 ≤ 8) (hb : ∀ i, i < 81 → N 79 i < 26) (hl : ∀ n, n < 9 → N 79 (9 * n) ≤ 8) : q_Con Γ mX7_layNow 4 0 0 [.ref (ad 77)] (LT ad, N, L, G) (q_is none (LT ad, lay7 N (N 78 9) (N 78 10) c, L, G)) := by
  refine q_con (by decide) rfl rfl (Nat.le_of_ble_eq_true rfl) ?_
  refine q_aload_n 1 rfl rfl dX7_layNow_0 ?_
  refine q_aload_n 2 rfl rfl dX7_layNow_1 ?_
  refine q_getR 5 rfl fX7_7 rfl 77 t_77 (g_77_0 hG) dX7_layNow_2 ?_
  refine q_bipush 7 rfl 9 k_b9 dX7_layNow_5 ?_
  refine q_iald 8 rfl 78 t_78 (by omega) (by decide) dX7_layNow_7 ?_
  refine q_aload_n 9 rfl rfl dX7_layNow_8 ?_
  refine q_getR 12 rfl fX7_7 rfl 77 t_77 (g_77_0 hG) dX7_layNow_9 ?_
  refine q_bipush 14 rfl 10 k_b10 dX7_layNow_12 ?_
  refine q_iald 15 rfl 78 t_78 (by omega) (by decide) dX7_layNow_14 ?_
  refine q_cV2v 18 rfl lX7_201 (k_layNear hG hc hc9 hk hms hb hl) rfl 77 t_77 rfl rfl rfl dX7_layNow_15 ?_
  refine q_vret rfl dX7_layNow_18 ?_
  exact ⟨rfl, rfl⟩
theorem k_isName7 {c X : Nat} (hG : GF ad G) (hc : N 77 2 = c) (hc9 : c ≤ 9) (hX : X < 4294967296) : q_Con Γ mX7_isName 1 0 0 [.ref (ad 77), .int (nI X)] (LT ad, N, L, G) (q_is (some (.int (nI ((decide (X < c)).toNat)))) (LT ad, N, L, G)) := by
  refine q_con (by decide) rfl rfl (Nat.le_of_ble_eq_true rfl) ?_
  refine q_iload_n 1 rfl rfl dX7_isName_0 ?_
  refine q_i2l 2 rfl dX7_isName_1 ?_
  refine q_lconst 3 rfl 0 lN0 dX7_isName_2 ?_
  refine q_aload_n 4 rfl rfl dX7_isName_3 ?_
  refine q_getI 7 rfl fX7_155 rfl 77 t_77 dX7_isName_4 ?_
  refine q_iconst 8 rfl 1 k_i1 dX7_isName_7 ?_
  refine q_isubG 9 rfl (by omega) dX7_isName_8 ?_
  refine q_i2l 10 rfl dX7_isName_9 ?_
  refine q_cS3 13 rfl lX7_68 (k_in hX (by omega) (by omega) (z_s_pred (c := N 77 2) (by omega)) (by omega) (by omega)) rfl rfl rfl dX7_isName_10 ?_
  refine q_zret rfl (by first | exact q_n0 | exact q_n1 | exact q_nb _) dX7_isName_13 ?_
  rw [decide_eq_decide.mpr (by omega : (X < c) ↔ ((0 : Int) ≤ (X : Int) ∧ (X : Int) ≤ (N 77 2 : Int) - 1))]
  exact ⟨rfl, rfl⟩
def near7 (N : Nat → Nat → Nat) (c X Y : Nat) : Nat := if X < c ∧ Y < c then (nr7 (N 78 9) (N 78 10) (N 79) X Y).toNat else 4294967295
theorem k_near7 {c X Y : Nat} (hG : GF ad G) (hc : N 77 2 = c) (hc9 : c ≤ 9) (hk : N 78 9 < 5) (hms : N 78 10 ≤ 8) (hb : ∀ i, i < 81 → N 79 i < 26) (hl : ∀ n, n < 9 → N 79 (9 * n) ≤ 8) (hX : X < 4294967296) (hY : Y < 4294967296) : q_Con Γ mX7_near 3 0 0 [.ref (ad 77), .int (nI X), .int (nI Y)] (LT ad, N, L, G) (q_is (some (.int (nI (near7 N c X Y)))) (LT ad, N, L, G)) := by
  refine q_con (by decide) rfl rfl (Nat.le_of_ble_eq_true rfl) ?_
  refine q_aload_n 1 rfl rfl dX7_near_0 ?_
  refine q_iload_n 2 rfl rfl dX7_near_1 ?_
  refine q_cV1 5 rfl lX7_160 (k_isName7 hG hc hc9 (by assumption)) rfl 77 t_77 rfl rfl rfl dX7_near_2 ?_
  refine q_if_eqD 8 rfl 16 (by decide) dX7_near_5 (fun h5 => ?_) (fun h5 => ?_)
  · refine q_iconst 17 rfl 4294967295 k_im1 dX7_near_16 ?_
    refine q_iret rfl dX7_near_17 ?_
    first
      | (rw [near7, if_neg (by omega)]; exact ⟨rfl, rfl⟩)
      | (rw [near7, if_pos (by omega), h38]; exact ⟨rfl, rfl⟩)
  · refine q_aload_n 9 rfl rfl dX7_near_8 ?_
    refine q_iload_n 10 rfl rfl dX7_near_9 ?_
    refine q_cV1 13 rfl lX7_160 (k_isName7 hG hc hc9 (by assumption)) rfl 77 t_77 rfl rfl rfl dX7_near_10 ?_
    refine q_if_neD 16 rfl 18 (by decide) dX7_near_13 (fun h13 => ?_) (fun h13 => ?_)
    · refine q_aload_n 19 rfl rfl dX7_near_18 ?_
      refine q_iload_n 20 rfl rfl dX7_near_19 ?_
      refine q_iload_n 21 rfl rfl dX7_near_20 ?_
      refine q_aload_n 22 rfl rfl dX7_near_21 ?_
      refine q_getR 25 rfl fX7_7 rfl 77 t_77 (g_77_0 hG) dX7_near_22 ?_
      refine q_bipush 27 rfl 9 k_b9 dX7_near_25 ?_
      refine q_iald 28 rfl 78 t_78 (by omega) (by decide) dX7_near_27 ?_
      refine q_aload_n 29 rfl rfl dX7_near_28 ?_
      refine q_getR 32 rfl fX7_7 rfl 77 t_77 (g_77_0 hG) dX7_near_29 ?_
      refine q_bipush 34 rfl 10 k_b10 dX7_near_32 ?_
      refine q_iald 35 rfl 78 t_78 (by omega) (by decide) dX7_near_34 ?_
      refine q_cV4 38 rfl lX7_197 (k_areNear7 hG (by omega) (by omega) hk hms hb hl) rfl 77 t_77 rfl rfl rfl dX7_near_35 ?_
      refine q_if_eqB 41 rfl 45 (by decide) dX7_near_38 (fun h38 => ?_) (fun h38 => ?_)
      · refine q_iconst 46 rfl 0 k_i0 dX7_near_45 ?_
        refine q_iret rfl dX7_near_46 ?_
        first
          | (rw [near7, if_neg (by omega)]; exact ⟨rfl, rfl⟩)
          | (rw [near7, if_pos (by omega), h38]; exact ⟨rfl, rfl⟩)
      · refine q_iconst 42 rfl 1 k_i1 dX7_near_41 ?_
        refine q_goto 46 (by decide) dX7_near_42 ?_
        refine q_iret rfl dX7_near_46 ?_
        first
          | (rw [near7, if_neg (by omega)]; exact ⟨rfl, rfl⟩)
          | (rw [near7, if_pos (by omega), h38]; exact ⟨rfl, rfl⟩)
    · refine q_iconst 17 rfl 4294967295 k_im1 dX7_near_16 ?_
      refine q_iret rfl dX7_near_17 ?_
      first
        | (rw [near7, if_neg (by omega)]; exact ⟨rfl, rfl⟩)
        | (rw [near7, if_pos (by omega), h38]; exact ⟨rfl, rfl⟩)
theorem k_answering {s n a : Nat} (hG : GF ad G) (hn : n < 9) (ha : a < 4294967296) : q_Con Γ mX7_answering 0 0 0 [.ref (ad 77), .int (nI s), .int (nI n), .int (nI a)] (LT ad, N, L, G) (q_is (some (.int (nI (ansW (N 87) s n a)))) (LT ad, N, L, G)) := by
  refine q_con (by decide) rfl rfl (Nat.le_of_ble_eq_true rfl) ?_
  refine q_iload_n 1 rfl rfl dX7_answering_0 ?_
  refine q_iconst 2 rfl 2 k_i2 dX7_answering_1 ?_
  refine q_icmp_ne 5 rfl 13 (by decide) (by omega) (by omega) dX7_answering_2 (fun h2 => ?_) (fun h2 => ?_)
  · refine q_iload_n 14 rfl rfl dX7_answering_13 ?_
    refine q_iconst 15 rfl 1 k_i1 dX7_answering_14 ?_
    refine q_icmp_ne 18 rfl 29 (by decide) (by omega) (by omega) dX7_answering_15 (fun h15 => ?_) (fun h15 => ?_)
    · refine q_iload_n 30 rfl rfl dX7_answering_29 ?_
      refine q_aload_n 31 rfl rfl dX7_answering_30 ?_
      refine q_getR 34 rfl fX7_37 rfl 77 t_77 (g_77_20 hG) dX7_answering_31 ?_
      refine q_iload_n 35 rfl rfl dX7_answering_34 ?_
      refine q_iald 36 rfl 87 t_87 (by omega) (by decide) dX7_answering_35 ?_
      refine q_iconst 37 rfl 4294967295 k_im1 dX7_answering_36 ?_
      refine q_ixor 38 rfl dX7_answering_37 ?_
      refine q_iand 39 rfl dX7_answering_38 ?_
      refine q_iconst 40 rfl 1 k_i1 dX7_answering_39 ?_
      refine q_iload_n 41 rfl rfl dX7_answering_40 ?_
      refine q_ishl 42 rfl (by omega) dX7_answering_41 ?_
      refine q_iconst 43 rfl 4294967295 k_im1 dX7_answering_42 ?_
      refine q_ixor 44 rfl dX7_answering_43 ?_
      refine q_iand 45 rfl dX7_answering_44 ?_
      refine q_iret rfl dX7_answering_45 ?_
      first
        | (rw [ansW, if_pos (by omega)]; exact ⟨rfl, rfl⟩)
        | (rw [ansW, if_neg (by omega), if_pos (by omega)]; exact ⟨rfl, rfl⟩)
        | (rw [ansW, if_neg (by omega), if_neg (by omega)]; exact ⟨rfl, rfl⟩)
    · refine q_iload_n 19 rfl rfl dX7_answering_18 ?_
      refine q_aload_n 20 rfl rfl dX7_answering_19 ?_
      refine q_getR 23 rfl fX7_37 rfl 77 t_77 (g_77_20 hG) dX7_answering_20 ?_
      refine q_iload_n 24 rfl rfl dX7_answering_23 ?_
      refine q_iald 25 rfl 87 t_87 (by omega) (by decide) dX7_answering_24 ?_
      refine q_iand 26 rfl dX7_answering_25 ?_
      refine q_goto 45 (by decide) dX7_answering_26 ?_
      refine q_iret rfl dX7_answering_45 ?_
      first
        | (rw [ansW, if_pos (by omega)]; exact ⟨rfl, rfl⟩)
        | (rw [ansW, if_neg (by omega), if_pos (by omega)]; exact ⟨rfl, rfl⟩)
        | (rw [ansW, if_neg (by omega), if_neg (by omega)]; exact ⟨rfl, rfl⟩)
  · refine q_iload_n 6 rfl rfl dX7_answering_5 ?_
    refine q_iconst 7 rfl 1 k_i1 dX7_answering_6 ?_
    refine q_iload_n 8 rfl rfl dX7_answering_7 ?_
    refine q_ishl 9 rfl (by omega) dX7_answering_8 ?_
    refine q_iand 10 rfl dX7_answering_9 ?_
    refine q_goto 45 (by decide) dX7_answering_10 ?_
    refine q_iret rfl dX7_answering_45 ?_
    first
      | (rw [ansW, if_pos (by omega)]; exact ⟨rfl, rfl⟩)
      | (rw [ansW, if_neg (by omega), if_pos (by omega)]; exact ⟨rfl, rfl⟩)
      | (rw [ansW, if_neg (by omega), if_neg (by omega)]; exact ⟨rfl, rfl⟩)
abbrev okh7 (N : Nat → Nat → Nat) : Nat → Nat → Bool := okh (l7 (N 79)) (c7 (N 79)) (fun k => N 78 (41 + 3 * k)) (fun k => N 78 (41 + 3 * k + 1)) (fun k => N 78 (41 + 3 * k + 2))
abbrev tst7 (N : Nat → Nat → Nat) : Nat → Nat → Bool := tst (l7 (N 79)) (c7 (N 79)) (fun k => N 78 (41 + 3 * k)) (fun k => N 78 (41 + 3 * k + 1)) (fun k => N 78 (41 + 3 * k + 2))
abbrev can7 (N : Nat → Nat → Nat) (c : Nat) (Rl : Nat → Nat → Bool) (k : Nat) : Nat := can c (l7 (N 79)) (c7 (N 79)) (fun k => N 78 (41 + 3 * k)) (fun k => N 78 (41 + 3 * k + 1)) (fun k => N 78 (41 + 3 * k + 2)) (N 78 59) Rl (fun k => N 78 (22 + 2 * k)) (fun k => N 78 (22 + 2 * k + 1)) k
theorem tst_tt {N : Nat → Nat → Nat} {k i : Nat} (h1 : (N 78 (41 + 3 * k) < N 79 (9 * i) ∧ N 79 (9 * i + (N 78 (41 + 3 * k) + 1)) = N 78 (41 + 3 * k + 1))) (h2 : N 78 (41 + 3 * k + 2) = 1) : tst7 N k i = true := by
  show (decide (N 78 (41 + 3 * k) < N 79 (9 * i) ∧ N 79 (9 * i + (N 78 (41 + 3 * k) + 1)) = N 78 (41 + 3 * k + 1)) == decide (N 78 (41 + 3 * k + 2) = 1)) = _
  rw [decide_eq_true h1, decide_eq_true h2]; rfl
theorem tst_ff {N : Nat → Nat → Nat} {k i : Nat} (h1 : ¬ (N 78 (41 + 3 * k) < N 79 (9 * i) ∧ N 79 (9 * i + (N 78 (41 + 3 * k) + 1)) = N 78 (41 + 3 * k + 1))) (h2 : ¬ N 78 (41 + 3 * k + 2) = 1) : tst7 N k i = true := by
  show (decide (N 78 (41 + 3 * k) < N 79 (9 * i) ∧ N 79 (9 * i + (N 78 (41 + 3 * k) + 1)) = N 78 (41 + 3 * k + 1)) == decide (N 78 (41 + 3 * k + 2) = 1)) = _
  rw [decide_eq_false h1, decide_eq_false h2]; rfl
theorem tst_tf {N : Nat → Nat → Nat} {k i : Nat} (h1 : (N 78 (41 + 3 * k) < N 79 (9 * i) ∧ N 79 (9 * i + (N 78 (41 + 3 * k) + 1)) = N 78 (41 + 3 * k + 1))) (h2 : ¬ N 78 (41 + 3 * k + 2) = 1) : tst7 N k i = false := by
  show (decide (N 78 (41 + 3 * k) < N 79 (9 * i) ∧ N 79 (9 * i + (N 78 (41 + 3 * k) + 1)) = N 78 (41 + 3 * k + 1)) == decide (N 78 (41 + 3 * k + 2) = 1)) = _
  rw [decide_eq_true h1, decide_eq_false h2]; rfl
theorem tst_ft {N : Nat → Nat → Nat} {k i : Nat} (h1 : ¬ (N 78 (41 + 3 * k) < N 79 (9 * i) ∧ N 79 (9 * i + (N 78 (41 + 3 * k) + 1)) = N 78 (41 + 3 * k + 1))) (h2 : N 78 (41 + 3 * k + 2) = 1) : tst7 N k i = false := by
  show (decide (N 78 (41 + 3 * k) < N 79 (9 * i) ∧ N 79 (9 * i + (N 78 (41 + 3 * k) + 1)) = N 78 (41 + 3 * k + 1)) == decide (N 78 (41 + 3 * k + 2) = 1)) = _
  rw [decide_eq_false h1, decide_eq_true h2]; rfl
theorem cb_keep {N : Nat → Nat → Nat} {k i c s : Nat} (h_s : s = mk (fun n => okh7 N k n && (decide (i ≤ n) || tst7 N k n)) c) (hc : c ≤ 32) (hv : tst7 N k i = true) : s &&& 4294967295 = mk (fun n => okh7 N k n && (decide (i + 1 ≤ n) || tst7 N k n)) c := by
  rw [h_s, mk_and1 _ hc]
  apply mk_ext
  intro n hn
  by_cases e : n = i
  · subst e; simp [hv]
  · have : decide (i + 1 ≤ n) = decide (i ≤ n) := by rw [decide_eq_decide]; omega
    rw [this]
theorem cb_drop {N : Nat → Nat → Nat} {k i c s : Nat} (h_s : s = mk (fun n => okh7 N k n && (decide (i ≤ n) || tst7 N k n)) c) (hc : c ≤ 32) (hv : tst7 N k i = false) : s &&& (1 * 2 ^ i ^^^ 4294967295) = mk (fun n => okh7 N k n && (decide (i + 1 ≤ n) || tst7 N k n)) c := by
  rw [h_s, mk_clr _ _ hc]
  apply mk_ext
  intro n hn
  by_cases e : n = i
  · subst e; simp [hv]
  · have : decide (i + 1 ≤ n) = decide (i ≤ n) := by rw [decide_eq_decide]; omega
    rw [this]; simp [e]
theorem canBe_in {rm : Room} {Z : q_Zt} {k : Nat} {c many : Nat} (hG : GF ad G) (hc : N 77 2 = c) (hc9 : c ≤ 9) (hb : ∀ i, i < 81 → N 79 i < 26) (hl : ∀ n, n < 9 → N 79 (9 * n) ≤ 8) (hs : ∀ i, i < 240 → N 78 i < 26) (hh : N 78 59 ≤ 6) (hk : k < N 78 59) (hx : q_R Γ mX7_canBe rm Z 0 0 143 [(0, .ref (ad 77)), (1, .int (nI many)), (2, .int (nI (mk (fun n => okh7 N k n && (decide ((c) ≤ n) || tst7 N k n)) c))), (3, .int (nI k))] [] (LT ad, N, L, G)) : ∀ i, i ≤ c →  ∀ s : Nat, s = mk (fun n => okh7 N k n && (decide (i ≤ n) || tst7 N k n)) c → q_R Γ mX7_canBe rm Z 0 0 33 [(0, .ref (ad 77)), (1, .int (nI many)), (2, .int (nI s)), (3, .int (nI k)), (4, .int (nI (41 + 3 * k))), (5, .int (nI i))] [] (LT ad, N, L, G) := by
  refine dn_loop (c) ?_ ?_
  · intro s h_s
    refine q_iload 35 rfl rfl dX7_canBe_33 ?_
    refine q_aload_n 36 rfl rfl dX7_canBe_35 ?_
    refine q_getI 39 rfl fX7_155 rfl 77 t_77 dX7_canBe_36 ?_
    refine q_icmp_ge 42 rfl 143 (by decide) (by omega) (by omega) dX7_canBe_39 (fun h39 => ?_) (fun h39 => ?_)
    · subst h_s
      exact q_loc hx (q_sub1 rfl (q_sub1 rfl (q_sub1 rfl (q_sub1 rfl q_sub0))))
    · exfalso; omega
  · intro i h_i ih s h_s
    have q1 := hs (41 + 3 * k) (by omega)
    have q2 := hs (41 + 3 * k + 1) (by omega)
    have q3 := hs (41 + 3 * k + 2) (by omega)
    have q4 := hl i (by omega)
    refine q_iload 35 rfl rfl dX7_canBe_33 ?_
    refine q_aload_n 36 rfl rfl dX7_canBe_35 ?_
    refine q_getI 39 rfl fX7_155 rfl 77 t_77 dX7_canBe_36 ?_
    refine q_icmp_ge 42 rfl 143 (by decide) (by omega) (by omega) dX7_canBe_39 (fun h39 => ?_) (fun h39 => ?_)
    · exfalso; omega
    · refine q_aload_n 43 rfl rfl dX7_canBe_42 ?_
      refine q_getR 46 rfl fX7_7 rfl 77 t_77 (g_77_0 hG) dX7_canBe_43 ?_
      refine q_iload 48 rfl rfl dX7_canBe_46 ?_
      refine q_iald 49 rfl 78 t_78 (by omega) (by decide) dX7_canBe_48 ?_
      refine q_aload_n 50 rfl rfl dX7_canBe_49 ?_
      refine q_getR 53 rfl fX7_13 rfl 77 t_77 (g_77_1 hG) dX7_canBe_50 ?_
      refine q_bipush 55 rfl 9 k_b9 dX7_canBe_53 ?_
      refine q_iload 57 rfl rfl dX7_canBe_55 ?_
      refine q_imul 58 rfl dX7_canBe_57 ?_
      refine q_iald 59 rfl 79 t_79 (by omega) (by decide) dX7_canBe_58 ?_
      refine q_icmp_ge 62 rfl 98 (by decide) (by omega) (by omega) dX7_canBe_59 (fun h59 => ?_) (fun h59 => ?_)
      · refine q_iconst 99 rfl 0 k_i0 dX7_canBe_98 ?_
        refine q_istore 101 rfl (by decide) dX7_canBe_99 ?_
        refine q_iload_n 102 rfl rfl dX7_canBe_101 ?_
        refine q_iload 104 rfl rfl dX7_canBe_102 ?_
        refine q_aload_n 105 rfl rfl dX7_canBe_104 ?_
        refine q_getR 108 rfl fX7_7 rfl 77 t_77 (g_77_0 hG) dX7_canBe_105 ?_
        refine q_iload 110 rfl rfl dX7_canBe_108 ?_
        refine q_iconst 111 rfl 2 k_i2 dX7_canBe_110 ?_
        refine q_iadd 112 rfl dX7_canBe_111 ?_
        refine q_iald 113 rfl 78 t_78 (by omega) (by decide) dX7_canBe_112 ?_
        refine q_iconst 114 rfl 1 k_i1 dX7_canBe_113 ?_
        refine q_icmp_ne 117 rfl 121 (by decide) (by omega) (by omega) dX7_canBe_114 (fun h114 => ?_) (fun h114 => ?_)
        · refine q_iconst 122 rfl 0 k_i0 dX7_canBe_121 ?_
          refine q_icmp_ne 125 rfl 129 (by decide) (by omega) (by omega) dX7_canBe_122 (fun h122 => ?_) (fun h122 => ?_)
          · first
            | (exfalso; omega)
            | (refine q_iconst 130 rfl 1 k_i1 dX7_canBe_129 ?_
               refine q_iload 132 rfl rfl dX7_canBe_130 ?_
               refine q_ishl 133 rfl (by omega) dX7_canBe_132 ?_
               refine q_iconst 134 rfl 4294967295 k_im1 dX7_canBe_133 ?_
               refine q_ixor 135 rfl dX7_canBe_134 ?_
               refine q_iand 136 rfl dX7_canBe_135 ?_
               refine q_istore_n 137 rfl (by decide) dX7_canBe_136 ?_
               refine q_iinc1 140 rfl 1 k_i1 rfl (by decide) dX7_canBe_137 ?_
               refine q_goto 33 (by decide) dX7_canBe_140 ?_
               refine q_loc (ih _ ?_) (q_sub1 rfl (q_sub1 rfl (q_sub1 rfl (q_sub1 rfl (q_sub1 rfl (q_sub1 rfl q_sub0))))))
               · first
                   | exact cb_keep h_s (by omega) (tst_tt (by omega) (by omega))
                   | exact cb_keep h_s (by omega) (tst_ff (by omega) (by omega))
                   | exact cb_drop h_s (by omega) (tst_tf (by omega) (by omega))
                   | exact cb_drop h_s (by omega) (tst_ft (by omega) (by omega)))
          · first
            | (exfalso; omega)
            | (refine q_iconst 126 rfl 4294967295 k_im1 dX7_canBe_125 ?_
               refine q_goto 135 (by decide) dX7_canBe_126 ?_
               refine q_iand 136 rfl dX7_canBe_135 ?_
               refine q_istore_n 137 rfl (by decide) dX7_canBe_136 ?_
               refine q_iinc1 140 rfl 1 k_i1 rfl (by decide) dX7_canBe_137 ?_
               refine q_goto 33 (by decide) dX7_canBe_140 ?_
               refine q_loc (ih _ ?_) (q_sub1 rfl (q_sub1 rfl (q_sub1 rfl (q_sub1 rfl (q_sub1 rfl (q_sub1 rfl q_sub0))))))
               · first
                   | exact cb_keep h_s (by omega) (tst_tt (by omega) (by omega))
                   | exact cb_keep h_s (by omega) (tst_ff (by omega) (by omega))
                   | exact cb_drop h_s (by omega) (tst_tf (by omega) (by omega))
                   | exact cb_drop h_s (by omega) (tst_ft (by omega) (by omega)))
        · refine q_iconst 118 rfl 1 k_i1 dX7_canBe_117 ?_
          refine q_goto 122 (by decide) dX7_canBe_118 ?_
          refine q_icmp_ne 125 rfl 129 (by decide) (by omega) (by omega) dX7_canBe_122 (fun h122 => ?_) (fun h122 => ?_)
          · first
            | (exfalso; omega)
            | (refine q_iconst 130 rfl 1 k_i1 dX7_canBe_129 ?_
               refine q_iload 132 rfl rfl dX7_canBe_130 ?_
               refine q_ishl 133 rfl (by omega) dX7_canBe_132 ?_
               refine q_iconst 134 rfl 4294967295 k_im1 dX7_canBe_133 ?_
               refine q_ixor 135 rfl dX7_canBe_134 ?_
               refine q_iand 136 rfl dX7_canBe_135 ?_
               refine q_istore_n 137 rfl (by decide) dX7_canBe_136 ?_
               refine q_iinc1 140 rfl 1 k_i1 rfl (by decide) dX7_canBe_137 ?_
               refine q_goto 33 (by decide) dX7_canBe_140 ?_
               refine q_loc (ih _ ?_) (q_sub1 rfl (q_sub1 rfl (q_sub1 rfl (q_sub1 rfl (q_sub1 rfl (q_sub1 rfl q_sub0))))))
               · first
                   | exact cb_keep h_s (by omega) (tst_tt (by omega) (by omega))
                   | exact cb_keep h_s (by omega) (tst_ff (by omega) (by omega))
                   | exact cb_drop h_s (by omega) (tst_tf (by omega) (by omega))
                   | exact cb_drop h_s (by omega) (tst_ft (by omega) (by omega)))
          · first
            | (exfalso; omega)
            | (refine q_iconst 126 rfl 4294967295 k_im1 dX7_canBe_125 ?_
               refine q_goto 135 (by decide) dX7_canBe_126 ?_
               refine q_iand 136 rfl dX7_canBe_135 ?_
               refine q_istore_n 137 rfl (by decide) dX7_canBe_136 ?_
               refine q_iinc1 140 rfl 1 k_i1 rfl (by decide) dX7_canBe_137 ?_
               refine q_goto 33 (by decide) dX7_canBe_140 ?_
               refine q_loc (ih _ ?_) (q_sub1 rfl (q_sub1 rfl (q_sub1 rfl (q_sub1 rfl (q_sub1 rfl (q_sub1 rfl q_sub0))))))
               · first
                   | exact cb_keep h_s (by omega) (tst_tt (by omega) (by omega))
                   | exact cb_keep h_s (by omega) (tst_ff (by omega) (by omega))
                   | exact cb_drop h_s (by omega) (tst_tf (by omega) (by omega))
                   | exact cb_drop h_s (by omega) (tst_ft (by omega) (by omega)))
      · refine q_aload_n 63 rfl rfl dX7_canBe_62 ?_
        refine q_getR 66 rfl fX7_13 rfl 77 t_77 (g_77_1 hG) dX7_canBe_63 ?_
        refine q_bipush 68 rfl 9 k_b9 dX7_canBe_66 ?_
        refine q_iload 70 rfl rfl dX7_canBe_68 ?_
        refine q_imul 71 rfl dX7_canBe_70 ?_
        refine q_iconst 72 rfl 1 k_i1 dX7_canBe_71 ?_
        refine q_iadd 73 rfl dX7_canBe_72 ?_
        refine q_aload_n 74 rfl rfl dX7_canBe_73 ?_
        refine q_getR 77 rfl fX7_7 rfl 77 t_77 (g_77_0 hG) dX7_canBe_74 ?_
        refine q_iload 79 rfl rfl dX7_canBe_77 ?_
        refine q_iald 80 rfl 78 t_78 (by omega) (by decide) dX7_canBe_79 ?_
        refine q_iadd 81 rfl dX7_canBe_80 ?_
        rw [show 9 * i + 1 + N 78 (41 + 3 * k) = 9 * i + (N 78 (41 + 3 * k) + 1) by omega]
        refine q_iald 82 rfl 79 t_79 (by omega) (by decide) dX7_canBe_81 ?_
        refine q_aload_n 83 rfl rfl dX7_canBe_82 ?_
        refine q_getR 86 rfl fX7_7 rfl 77 t_77 (g_77_0 hG) dX7_canBe_83 ?_
        refine q_iload 88 rfl rfl dX7_canBe_86 ?_
        refine q_iconst 89 rfl 1 k_i1 dX7_canBe_88 ?_
        refine q_iadd 90 rfl dX7_canBe_89 ?_
        refine q_iald 91 rfl 78 t_78 (by omega) (by decide) dX7_canBe_90 ?_
        have q5 := hb (9 * i + (N 78 (41 + 3 * k) + 1)) (by omega)
        refine q_icmp_ne 94 rfl 98 (by decide) (by omega) (by omega) dX7_canBe_91 (fun h91 => ?_) (fun h91 => ?_)
        · refine q_iconst 99 rfl 0 k_i0 dX7_canBe_98 ?_
          refine q_istore 101 rfl (by decide) dX7_canBe_99 ?_
          refine q_iload_n 102 rfl rfl dX7_canBe_101 ?_
          refine q_iload 104 rfl rfl dX7_canBe_102 ?_
          refine q_aload_n 105 rfl rfl dX7_canBe_104 ?_
          refine q_getR 108 rfl fX7_7 rfl 77 t_77 (g_77_0 hG) dX7_canBe_105 ?_
          refine q_iload 110 rfl rfl dX7_canBe_108 ?_
          refine q_iconst 111 rfl 2 k_i2 dX7_canBe_110 ?_
          refine q_iadd 112 rfl dX7_canBe_111 ?_
          refine q_iald 113 rfl 78 t_78 (by omega) (by decide) dX7_canBe_112 ?_
          refine q_iconst 114 rfl 1 k_i1 dX7_canBe_113 ?_
          refine q_icmp_ne 117 rfl 121 (by decide) (by omega) (by omega) dX7_canBe_114 (fun h114 => ?_) (fun h114 => ?_)
          · refine q_iconst 122 rfl 0 k_i0 dX7_canBe_121 ?_
            refine q_icmp_ne 125 rfl 129 (by decide) (by omega) (by omega) dX7_canBe_122 (fun h122 => ?_) (fun h122 => ?_)
            · first
              | (exfalso; omega)
              | (refine q_iconst 130 rfl 1 k_i1 dX7_canBe_129 ?_
                 refine q_iload 132 rfl rfl dX7_canBe_130 ?_
                 refine q_ishl 133 rfl (by omega) dX7_canBe_132 ?_
                 refine q_iconst 134 rfl 4294967295 k_im1 dX7_canBe_133 ?_
                 refine q_ixor 135 rfl dX7_canBe_134 ?_
                 refine q_iand 136 rfl dX7_canBe_135 ?_
                 refine q_istore_n 137 rfl (by decide) dX7_canBe_136 ?_
                 refine q_iinc1 140 rfl 1 k_i1 rfl (by decide) dX7_canBe_137 ?_
                 refine q_goto 33 (by decide) dX7_canBe_140 ?_
                 refine q_loc (ih _ ?_) (q_sub1 rfl (q_sub1 rfl (q_sub1 rfl (q_sub1 rfl (q_sub1 rfl (q_sub1 rfl q_sub0))))))
                 · first
                     | exact cb_keep h_s (by omega) (tst_tt (by omega) (by omega))
                     | exact cb_keep h_s (by omega) (tst_ff (by omega) (by omega))
                     | exact cb_drop h_s (by omega) (tst_tf (by omega) (by omega))
                     | exact cb_drop h_s (by omega) (tst_ft (by omega) (by omega)))
            · first
              | (exfalso; omega)
              | (refine q_iconst 126 rfl 4294967295 k_im1 dX7_canBe_125 ?_
                 refine q_goto 135 (by decide) dX7_canBe_126 ?_
                 refine q_iand 136 rfl dX7_canBe_135 ?_
                 refine q_istore_n 137 rfl (by decide) dX7_canBe_136 ?_
                 refine q_iinc1 140 rfl 1 k_i1 rfl (by decide) dX7_canBe_137 ?_
                 refine q_goto 33 (by decide) dX7_canBe_140 ?_
                 refine q_loc (ih _ ?_) (q_sub1 rfl (q_sub1 rfl (q_sub1 rfl (q_sub1 rfl (q_sub1 rfl (q_sub1 rfl q_sub0))))))
                 · first
                     | exact cb_keep h_s (by omega) (tst_tt (by omega) (by omega))
                     | exact cb_keep h_s (by omega) (tst_ff (by omega) (by omega))
                     | exact cb_drop h_s (by omega) (tst_tf (by omega) (by omega))
                     | exact cb_drop h_s (by omega) (tst_ft (by omega) (by omega)))
          · refine q_iconst 118 rfl 1 k_i1 dX7_canBe_117 ?_
            refine q_goto 122 (by decide) dX7_canBe_118 ?_
            refine q_icmp_ne 125 rfl 129 (by decide) (by omega) (by omega) dX7_canBe_122 (fun h122 => ?_) (fun h122 => ?_)
            · first
              | (exfalso; omega)
              | (refine q_iconst 130 rfl 1 k_i1 dX7_canBe_129 ?_
                 refine q_iload 132 rfl rfl dX7_canBe_130 ?_
                 refine q_ishl 133 rfl (by omega) dX7_canBe_132 ?_
                 refine q_iconst 134 rfl 4294967295 k_im1 dX7_canBe_133 ?_
                 refine q_ixor 135 rfl dX7_canBe_134 ?_
                 refine q_iand 136 rfl dX7_canBe_135 ?_
                 refine q_istore_n 137 rfl (by decide) dX7_canBe_136 ?_
                 refine q_iinc1 140 rfl 1 k_i1 rfl (by decide) dX7_canBe_137 ?_
                 refine q_goto 33 (by decide) dX7_canBe_140 ?_
                 refine q_loc (ih _ ?_) (q_sub1 rfl (q_sub1 rfl (q_sub1 rfl (q_sub1 rfl (q_sub1 rfl (q_sub1 rfl q_sub0))))))
                 · first
                     | exact cb_keep h_s (by omega) (tst_tt (by omega) (by omega))
                     | exact cb_keep h_s (by omega) (tst_ff (by omega) (by omega))
                     | exact cb_drop h_s (by omega) (tst_tf (by omega) (by omega))
                     | exact cb_drop h_s (by omega) (tst_ft (by omega) (by omega)))
            · first
              | (exfalso; omega)
              | (refine q_iconst 126 rfl 4294967295 k_im1 dX7_canBe_125 ?_
                 refine q_goto 135 (by decide) dX7_canBe_126 ?_
                 refine q_iand 136 rfl dX7_canBe_135 ?_
                 refine q_istore_n 137 rfl (by decide) dX7_canBe_136 ?_
                 refine q_iinc1 140 rfl 1 k_i1 rfl (by decide) dX7_canBe_137 ?_
                 refine q_goto 33 (by decide) dX7_canBe_140 ?_
                 refine q_loc (ih _ ?_) (q_sub1 rfl (q_sub1 rfl (q_sub1 rfl (q_sub1 rfl (q_sub1 rfl (q_sub1 rfl q_sub0))))))
                 · first
                     | exact cb_keep h_s (by omega) (tst_tt (by omega) (by omega))
                     | exact cb_keep h_s (by omega) (tst_ff (by omega) (by omega))
                     | exact cb_drop h_s (by omega) (tst_tf (by omega) (by omega))
                     | exact cb_drop h_s (by omega) (tst_ft (by omega) (by omega)))
        · refine q_iconst 95 rfl 1 k_i1 dX7_canBe_94 ?_
          refine q_goto 99 (by decide) dX7_canBe_95 ?_
          refine q_istore 101 rfl (by decide) dX7_canBe_99 ?_
          refine q_iload_n 102 rfl rfl dX7_canBe_101 ?_
          refine q_iload 104 rfl rfl dX7_canBe_102 ?_
          refine q_aload_n 105 rfl rfl dX7_canBe_104 ?_
          refine q_getR 108 rfl fX7_7 rfl 77 t_77 (g_77_0 hG) dX7_canBe_105 ?_
          refine q_iload 110 rfl rfl dX7_canBe_108 ?_
          refine q_iconst 111 rfl 2 k_i2 dX7_canBe_110 ?_
          refine q_iadd 112 rfl dX7_canBe_111 ?_
          refine q_iald 113 rfl 78 t_78 (by omega) (by decide) dX7_canBe_112 ?_
          refine q_iconst 114 rfl 1 k_i1 dX7_canBe_113 ?_
          refine q_icmp_ne 117 rfl 121 (by decide) (by omega) (by omega) dX7_canBe_114 (fun h114 => ?_) (fun h114 => ?_)
          · refine q_iconst 122 rfl 0 k_i0 dX7_canBe_121 ?_
            refine q_icmp_ne 125 rfl 129 (by decide) (by omega) (by omega) dX7_canBe_122 (fun h122 => ?_) (fun h122 => ?_)
            · first
              | (exfalso; omega)
              | (refine q_iconst 130 rfl 1 k_i1 dX7_canBe_129 ?_
                 refine q_iload 132 rfl rfl dX7_canBe_130 ?_
                 refine q_ishl 133 rfl (by omega) dX7_canBe_132 ?_
                 refine q_iconst 134 rfl 4294967295 k_im1 dX7_canBe_133 ?_
                 refine q_ixor 135 rfl dX7_canBe_134 ?_
                 refine q_iand 136 rfl dX7_canBe_135 ?_
                 refine q_istore_n 137 rfl (by decide) dX7_canBe_136 ?_
                 refine q_iinc1 140 rfl 1 k_i1 rfl (by decide) dX7_canBe_137 ?_
                 refine q_goto 33 (by decide) dX7_canBe_140 ?_
                 refine q_loc (ih _ ?_) (q_sub1 rfl (q_sub1 rfl (q_sub1 rfl (q_sub1 rfl (q_sub1 rfl (q_sub1 rfl q_sub0))))))
                 · first
                     | exact cb_keep h_s (by omega) (tst_tt (by omega) (by omega))
                     | exact cb_keep h_s (by omega) (tst_ff (by omega) (by omega))
                     | exact cb_drop h_s (by omega) (tst_tf (by omega) (by omega))
                     | exact cb_drop h_s (by omega) (tst_ft (by omega) (by omega)))
            · first
              | (exfalso; omega)
              | (refine q_iconst 126 rfl 4294967295 k_im1 dX7_canBe_125 ?_
                 refine q_goto 135 (by decide) dX7_canBe_126 ?_
                 refine q_iand 136 rfl dX7_canBe_135 ?_
                 refine q_istore_n 137 rfl (by decide) dX7_canBe_136 ?_
                 refine q_iinc1 140 rfl 1 k_i1 rfl (by decide) dX7_canBe_137 ?_
                 refine q_goto 33 (by decide) dX7_canBe_140 ?_
                 refine q_loc (ih _ ?_) (q_sub1 rfl (q_sub1 rfl (q_sub1 rfl (q_sub1 rfl (q_sub1 rfl (q_sub1 rfl q_sub0))))))
                 · first
                     | exact cb_keep h_s (by omega) (tst_tt (by omega) (by omega))
                     | exact cb_keep h_s (by omega) (tst_ff (by omega) (by omega))
                     | exact cb_drop h_s (by omega) (tst_tf (by omega) (by omega))
                     | exact cb_drop h_s (by omega) (tst_ft (by omega) (by omega)))
          · refine q_iconst 118 rfl 1 k_i1 dX7_canBe_117 ?_
            refine q_goto 122 (by decide) dX7_canBe_118 ?_
            refine q_icmp_ne 125 rfl 129 (by decide) (by omega) (by omega) dX7_canBe_122 (fun h122 => ?_) (fun h122 => ?_)
            · first
              | (exfalso; omega)
              | (refine q_iconst 130 rfl 1 k_i1 dX7_canBe_129 ?_
                 refine q_iload 132 rfl rfl dX7_canBe_130 ?_
                 refine q_ishl 133 rfl (by omega) dX7_canBe_132 ?_
                 refine q_iconst 134 rfl 4294967295 k_im1 dX7_canBe_133 ?_
                 refine q_ixor 135 rfl dX7_canBe_134 ?_
                 refine q_iand 136 rfl dX7_canBe_135 ?_
                 refine q_istore_n 137 rfl (by decide) dX7_canBe_136 ?_
                 refine q_iinc1 140 rfl 1 k_i1 rfl (by decide) dX7_canBe_137 ?_
                 refine q_goto 33 (by decide) dX7_canBe_140 ?_
                 refine q_loc (ih _ ?_) (q_sub1 rfl (q_sub1 rfl (q_sub1 rfl (q_sub1 rfl (q_sub1 rfl (q_sub1 rfl q_sub0))))))
                 · first
                     | exact cb_keep h_s (by omega) (tst_tt (by omega) (by omega))
                     | exact cb_keep h_s (by omega) (tst_ff (by omega) (by omega))
                     | exact cb_drop h_s (by omega) (tst_tf (by omega) (by omega))
                     | exact cb_drop h_s (by omega) (tst_ft (by omega) (by omega)))
            · first
              | (exfalso; omega)
              | (refine q_iconst 126 rfl 4294967295 k_im1 dX7_canBe_125 ?_
                 refine q_goto 135 (by decide) dX7_canBe_126 ?_
                 refine q_iand 136 rfl dX7_canBe_135 ?_
                 refine q_istore_n 137 rfl (by decide) dX7_canBe_136 ?_
                 refine q_iinc1 140 rfl 1 k_i1 rfl (by decide) dX7_canBe_137 ?_
                 refine q_goto 33 (by decide) dX7_canBe_140 ?_
                 refine q_loc (ih _ ?_) (q_sub1 rfl (q_sub1 rfl (q_sub1 rfl (q_sub1 rfl (q_sub1 rfl (q_sub1 rfl q_sub0))))))
                 · first
                     | exact cb_keep h_s (by omega) (tst_tt (by omega) (by omega))
                     | exact cb_keep h_s (by omega) (tst_ff (by omega) (by omega))
                     | exact cb_drop h_s (by omega) (tst_tf (by omega) (by omega))
                     | exact cb_drop h_s (by omega) (tst_ft (by omega) (by omega)))
theorem canBe_h {rm : Room} {Z : q_Zt} {c many : Nat} (hG : GF ad G) (hc : N 77 2 = c) (hc9 : c ≤ 9) (hb : ∀ i, i < 81 → N 79 i < 26) (hl : ∀ n, n < 9 → N 79 (9 * n) ≤ 8) (hs : ∀ i, i < 240 → N 78 i < 26) (hh : N 78 59 ≤ 6) (hx : q_R Γ mX7_canBe rm Z 0 0 149 [(0, .ref (ad 77)), (1, .int (nI many)), (2, .int (nI (mk (okh7 N (N 78 59)) c)))] [] (LT ad, N, L, G)) : ∀ i, i ≤ N 78 59 →  ∀ s : Nat, s = mk (okh7 N i) c → q_R Γ mX7_canBe rm Z 0 0 11 [(0, .ref (ad 77)), (1, .int (nI many)), (2, .int (nI s)), (3, .int (nI i))] [] (LT ad, N, L, G) := by
  refine dn_loop (N 78 59) ?_ ?_
  · intro s h_s
    refine q_iload_n 12 rfl rfl dX7_canBe_11 ?_
    refine q_aload_n 13 rfl rfl dX7_canBe_12 ?_
    refine q_getR 16 rfl fX7_7 rfl 77 t_77 (g_77_0 hG) dX7_canBe_13 ?_
    refine q_bipush 18 rfl 59 k_b59 dX7_canBe_16 ?_
    refine q_iald 19 rfl 78 t_78 (by omega) (by decide) dX7_canBe_18 ?_
    refine q_icmp_ge 22 rfl 149 (by decide) (by omega) (by omega) dX7_canBe_19 (fun h19 => ?_) (fun h19 => ?_)
    · subst h_s
      exact q_loc hx (q_sub1 rfl (q_sub1 rfl (q_sub1 rfl q_sub0)))
    · exfalso; omega
  · intro i h_i ih s h_s
    refine q_iload_n 12 rfl rfl dX7_canBe_11 ?_
    refine q_aload_n 13 rfl rfl dX7_canBe_12 ?_
    refine q_getR 16 rfl fX7_7 rfl 77 t_77 (g_77_0 hG) dX7_canBe_13 ?_
    refine q_bipush 18 rfl 59 k_b59 dX7_canBe_16 ?_
    refine q_iald 19 rfl 78 t_78 (by omega) (by decide) dX7_canBe_18 ?_
    refine q_icmp_ge 22 rfl 149 (by decide) (by omega) (by omega) dX7_canBe_19 (fun h19 => ?_) (fun h19 => ?_)
    · exfalso; omega
    · refine q_bipush 24 rfl 41 k_b41 dX7_canBe_22 ?_
      refine q_iconst 25 rfl 3 k_i3 dX7_canBe_24 ?_
      refine q_iload_n 26 rfl rfl dX7_canBe_25 ?_
      refine q_imul 27 rfl dX7_canBe_26 ?_
      refine q_iadd 28 rfl dX7_canBe_27 ?_
      refine q_istore 30 rfl (by decide) dX7_canBe_28 ?_
      refine q_iconst 31 rfl 0 k_i0 dX7_canBe_30 ?_
      refine q_istore 33 rfl (by decide) dX7_canBe_31 ?_
      refine q_loc (canBe_in (N := N) (k := i) hG hc hc9 hb hl hs hh h_i ?_ 0 (by omega) _ ?_) (q_sub1 rfl (q_sub1 rfl (q_sub1 rfl (q_sub1 rfl (q_sub1 rfl (q_sub1 rfl q_sub0))))))
      rotate_left
      · rw [h_s]; apply mk_ext; intro n hn; simp
      refine q_iinc1 146 rfl 1 k_i1 rfl (by decide) dX7_canBe_143 ?_
      refine q_goto 11 (by decide) dX7_canBe_146 ?_
      refine q_loc (ih _ ?_) (q_sub1 rfl (q_sub1 rfl (q_sub1 rfl (q_sub1 rfl q_sub0))))
      · apply mk_ext; intro n hn; rw [decide_eq_false (by omega), Bool.false_or]; rfl
theorem canBe_g {Z : q_Zt} {Rl : Nat → Nat → Bool} {mc mz : Nat} {c many : Nat} (hG : GF ad G) (hc : N 77 2 = c) (hc9 : c ≤ 9) (hb : ∀ i, i < 81 → N 79 i < 26) (hl : ∀ n, n < 9 → N 79 (9 * n) ≤ 8) (hs : ∀ i, i < 240 → N 78 i < 26) (hh : N 78 59 ≤ 6) (hnx : ∀ g, g < c → N 87 g = mk (fun m => decide (g ≠ m) && Rl g m) c) (hm : many ≤ 9) (hgn : ∀ k, k < many → N 78 (22 + 2 * k) < c) (hga : ∀ k, k < many → N 78 (22 + 2 * k + 1) ≤ 2) (hx : q_R Γ mX7_canBe (q_room 1 mc mz) Z 0 0 192 [(2, .int (nI (can7 N c Rl (many))))] [] (LT ad, N, L, G)) : ∀ i, i ≤ many →  ∀ s : Nat, s = can7 N c Rl i → q_R Γ mX7_canBe (q_room 1 mc mz) Z 0 0 151 [(0, .ref (ad 77)), (1, .int (nI many)), (2, .int (nI s)), (3, .int (nI i))] [] (LT ad, N, L, G) := by
  refine dn_loop (many) ?_ ?_
  · intro s h_s
    refine q_iload_n 152 rfl rfl dX7_canBe_151 ?_
    refine q_iload_n 153 rfl rfl dX7_canBe_152 ?_
    refine q_icmp_ge 156 rfl 192 (by decide) (by omega) (by omega) dX7_canBe_153 (fun h153 => ?_) (fun h153 => ?_)
    · subst h_s
      exact q_loc hx (q_sub1 rfl q_sub0)
    · exfalso; omega
  · intro i h_i ih s h_s
    have q1 := hgn i h_i
    have q2 := hga i h_i
    refine q_iload_n 152 rfl rfl dX7_canBe_151 ?_
    refine q_iload_n 153 rfl rfl dX7_canBe_152 ?_
    refine q_icmp_ge 156 rfl 192 (by decide) (by omega) (by omega) dX7_canBe_153 (fun h153 => ?_) (fun h153 => ?_)
    · exfalso; omega
    · refine q_aload_n 157 rfl rfl dX7_canBe_156 ?_
      refine q_iload_n 158 rfl rfl dX7_canBe_157 ?_
      refine q_aload_n 159 rfl rfl dX7_canBe_158 ?_
      refine q_getR 162 rfl fX7_7 rfl 77 t_77 (g_77_0 hG) dX7_canBe_159 ?_
      refine q_bipush 164 rfl 22 k_b22 dX7_canBe_162 ?_
      refine q_iconst 165 rfl 2 k_i2 dX7_canBe_164 ?_
      refine q_iload_n 166 rfl rfl dX7_canBe_165 ?_
      refine q_imul 167 rfl dX7_canBe_166 ?_
      refine q_iadd 168 rfl dX7_canBe_167 ?_
      refine q_iald 169 rfl 78 t_78 (by omega) (by decide) dX7_canBe_168 ?_
      refine q_aload_n 170 rfl rfl dX7_canBe_169 ?_
      refine q_getR 173 rfl fX7_7 rfl 77 t_77 (g_77_0 hG) dX7_canBe_170 ?_
      refine q_bipush 175 rfl 22 k_b22 dX7_canBe_173 ?_
      refine q_iconst 176 rfl 2 k_i2 dX7_canBe_175 ?_
      refine q_iload_n 177 rfl rfl dX7_canBe_176 ?_
      refine q_imul 178 rfl dX7_canBe_177 ?_
      refine q_iadd 179 rfl dX7_canBe_178 ?_
      refine q_iconst 180 rfl 1 k_i1 dX7_canBe_179 ?_
      refine q_iadd 181 rfl dX7_canBe_180 ?_
      refine q_iald 182 rfl 78 t_78 (by omega) (by decide) dX7_canBe_181 ?_
      refine q_cV3 185 rfl lX7_212 (k_answering hG (by omega) (by omega)) rfl 77 t_77 rfl rfl rfl dX7_canBe_182 ?_
      refine q_istore_n 186 rfl (by decide) dX7_canBe_185 ?_
      refine q_iinc1 189 rfl 1 k_i1 rfl (by decide) dX7_canBe_186 ?_
      refine q_goto 151 (by decide) dX7_canBe_189 ?_
      refine q_loc (ih _ ?_) (q_sub1 rfl (q_sub1 rfl (q_sub1 rfl (q_sub1 rfl q_sub0))))
      · rw [h_s]
        simp only [can7, can]
        rw [ansW_mk (by omega) (hnx _ q1) q2]
        apply mk_ext
        intro n hn
        simp only [okg, Bool.and_assoc]
theorem k_canBe {Rl : Nat → Nat → Bool} {c many : Nat} (hG : GF ad G) (hc : N 77 2 = c) (hc9 : c ≤ 9) (hb : ∀ i, i < 81 → N 79 i < 26) (hl : ∀ n, n < 9 → N 79 (9 * n) ≤ 8) (hs : ∀ i, i < 240 → N 78 i < 26) (hh : N 78 59 ≤ 6) (hnx : ∀ g, g < c → N 87 g = mk (fun m => decide (g ≠ m) && Rl g m) c) (hm : many ≤ 9) (hgn : ∀ k, k < many → N 78 (22 + 2 * k) < c) (hga : ∀ k, k < many → N 78 (22 + 2 * k + 1) ≤ 2) : q_Con Γ mX7_canBe 1 0 0 [.ref (ad 77), .int (nI many)] (LT ad, N, L, G) (q_is (some (.int (nI (can7 N c Rl many)))) (LT ad, N, L, G)) := by
  refine q_con (by decide) rfl rfl (Nat.le_of_ble_eq_true rfl) ?_
  refine q_iconst 1 rfl 1 k_i1 dX7_canBe_0 ?_
  refine q_aload_n 2 rfl rfl dX7_canBe_1 ?_
  refine q_getI 5 rfl fX7_155 rfl 77 t_77 dX7_canBe_2 ?_
  refine q_ishl 6 rfl (by omega) dX7_canBe_5 ?_
  refine q_iconst 7 rfl 1 k_i1 dX7_canBe_6 ?_
  refine q_isub 8 rfl (by have := Nat.two_pow_pos (N 77 2); omega) dX7_canBe_7 ?_
  refine q_istore_n 9 rfl (by decide) dX7_canBe_8 ?_
  refine q_iconst 10 rfl 0 k_i0 dX7_canBe_9 ?_
  refine q_istore_n 11 rfl (by decide) dX7_canBe_10 ?_
  refine q_loc (canBe_h (N := N) hG hc hc9 hb hl hs hh ?_ 0 (by omega) _ ?_) (q_sub1 rfl (q_sub1 rfl (q_sub1 rfl (q_sub1 rfl q_sub0))))
  rotate_left
  · rw [Nat.one_mul, hc, ← mk_all]; rfl
  refine q_iconst 150 rfl 0 k_i0 dX7_canBe_149 ?_
  refine q_istore_n 151 rfl (by decide) dX7_canBe_150 ?_
  refine q_loc (canBe_g (N := N) (Rl := Rl) hG hc hc9 hb hl hs hh hnx hm hgn hga ?_ 0 (by omega) _ ?_) (q_sub1 rfl (q_sub1 rfl (q_sub1 rfl (q_sub1 rfl q_sub0))))
  rotate_left
  · simp only [can7, can]; apply mk_ext; intro n hn; simp [okg]
  refine q_iload_n 193 rfl rfl dX7_canBe_192 ?_
  refine q_iret rfl dX7_canBe_193 ?_
  exact ⟨rfl, rfl⟩
abbrev R7 (N : Nat → Nat → Nat) : Nat → Nat → Bool := nr7 (N 78 9) (N 78 10) (N 79)
abbrev now7 (N : Nat → Nat → Nat) (c : Nat) : Nat → Nat → Nat := lay7 N (N 78 9) (N 78 10) c
theorem now7_87 {N : Nat → Nat → Nat} {c g : Nat} (hg : g < c) : now7 N c 87 g = mk (fun m => decide (g ≠ m) && R7 N g m) c := by
  simp only [now7, lay7, q_r_at]
  rw [if_pos hg]
theorem now7_ne {N : Nat → Nat → Nat} {c a : Nat} (h : a ≠ 87) : now7 N c a = N a := q_r_ne h
def MS (N : Nat → Nat → Nat) (c : Nat) : Prop := N 77 2 = c ∧ c ≤ 9 ∧ (∀ i, i < 81 → N 79 i < 26) ∧ (∀ n, n < 9 → N 79 (9 * n) ≤ 8) ∧ (∀ i, i < 240 → N 78 i < 26) ∧ N 78 9 < 5 ∧ N 78 10 ≤ 8 ∧ N 78 21 ≤ 5 ∧ N 78 40 ≤ 9 ∧ N 78 59 ≤ 6 ∧ (∀ k, k < N 78 40 → N 78 (22 + 2 * k) < c) ∧ (∀ k, k < N 78 40 → N 78 (22 + 2 * k + 1) ≤ 2) ∧ (∀ n, n < 9 → N 78 n ≤ 9) ∧ (∀ n, n < c → 1 ≤ N 78 n)
theorem MS.lay {N : Nat → Nat → Nat} {c kd ms : Nat} (h : MS N c) : MS (lay7 N kd ms c) c := h
theorem can_lt {c : Nat} {ln : Nat → Nat} {lt : Nat → Nat → Nat} {hp hl hi : Nat → Nat} {hd : Nat} {Rl : Nat → Nat → Bool} {gn ga : Nat → Nat} {k : Nat} (hc : c ≤ 9) : can c ln lt hp hl hi hd Rl gn ga k < 512 :=
  Nat.lt_of_lt_of_le (mk_lt _ c) (Nat.pow_le_pow_right (n := 2) (i := c) (j := 9) (by omega) hc)
theorem k_canBeN {c many : Nat} (hG : GF ad G) (hM : MS N c) (hm : many ≤ N 78 40) : q_Con Γ mX7_canBe 1 0 0 [.ref (ad 77), .int (nI many)] (LT ad, now7 N c, L, G) (q_is (some (.int (nI (can7 N c (R7 N) many)))) (LT ad, now7 N c, L, G)) := by
  obtain ⟨hc, hc9, hb, hl, hs, hk, hms, hpr, hg9, hh, hgn, hga, hod, ho1⟩ := hM
  exact k_canBe (N := now7 N c) (Rl := R7 N) hG hc hc9 hb hl hs hh (fun g hg => now7_87 hg) (Nat.le_trans hm hg9) (fun k hk => hgn k (Nat.lt_of_lt_of_le hk hm)) (fun k hk => hga k (Nat.lt_of_lt_of_le hk hm))
theorem k_canNow {c : Nat} (hG : GF ad G) (hM : MS N c) : q_Con Γ mX7_canNow 5 0 0 [.ref (ad 77)] (LT ad, N, L, G) (q_is (some (.int (nI (can7 N c (R7 N) (N 78 40))))) (LT ad, now7 N c, L, G)) := by
  obtain ⟨hc, hc9, hb, hl, hs, hk, hms, hpr, hg9, hh, hgn, hga, hod, ho1⟩ := id hM
  refine q_con (by decide) rfl rfl (Nat.le_of_ble_eq_true rfl) ?_
  refine q_aload_n 1 rfl rfl dX7_canNow_0 ?_
  refine q_cV0v 4 rfl lX7_215 (k_layNow hG hc hc9 hk hms hb hl) rfl 77 t_77 rfl rfl rfl dX7_canNow_1 ?_
  refine q_aload_n 5 rfl rfl dX7_canNow_4 ?_
  refine q_aload_n 6 rfl rfl dX7_canNow_5 ?_
  refine q_getR 9 rfl fX7_7 rfl 77 t_77 (g_77_0 hG) dX7_canNow_6 ?_
  refine q_bipush 11 rfl 40 k_b40 dX7_canNow_9 ?_
  refine q_iald 12 rfl 78 t_78 (by omega) (by decide) dX7_canNow_11 ?_
  refine q_cV1 15 rfl lX7_218 (k_canBeN hG hM (Nat.le_refl _)) rfl 77 t_77 rfl rfl rfl dX7_canNow_12 ?_
  refine q_iret rfl dX7_canNow_15 ?_
  exact ⟨rfl, rfl⟩
theorem k_can7 {c : Nat} (hG : GF ad G) (hM : MS N c) : q_Con Γ mX7_can 6 0 0 [.ref (ad 77)] (LT ad, N, L, G) (q_is (some (.int (nI (can7 N c (R7 N) (N 78 40))))) (LT ad, now7 N c, L, G)) := by
  refine q_con (by decide) rfl rfl (Nat.le_of_ble_eq_true rfl) ?_
  refine q_aload_n 1 rfl rfl dX7_can_0 ?_
  refine q_cV0 4 rfl lX7_221 (k_canNow hG hM) rfl 77 t_77 rfl rfl rfl dX7_can_1 ?_
  refine q_iret rfl dX7_can_4 ?_
  exact ⟨rfl, rfl⟩
theorem lied_lp  {c mc mz : Nat} (hG : GF ad G) (hM : MS N c)  : ∀ i, i ≤ N 78 40 → lieF (fun k => can7 N c (R7 N) k) (N 78 40) 0 = lieF (fun k => can7 N c (R7 N) k) (N 78 40 - i) i →  q_R Γ mX7_lied (q_room 5 mc mz) (q_Z Γ (q_is (some (.int (nI (lieF (fun k => can7 N c (R7 N) k) (N 78 40) 0)))) (LT ad, now7 N c, L, G)) 0 0) 0 0 6 [(0, .ref (ad 77)), (1, .int (nI i))] [] (LT ad, now7 N c, L, G) := by
  refine dn_loop (N 78 40) ?_ ?_
  · intro h_ex 
    have hg9 := hM.2.2.2.2.2.2.2.2.1
    have e78 : now7 N c 78 40 = N 78 40 := rfl
    refine q_iload_n 7 rfl rfl dX7_lied_6 ?_
    refine q_aload_n 8 rfl rfl dX7_lied_7 ?_
    refine q_getR 11 rfl fX7_7 rfl 77 t_77 (g_77_0 hG) dX7_lied_8 ?_
    refine q_bipush 13 rfl 40 k_b40 dX7_lied_11 ?_
    refine q_iald 14 rfl 78 t_78 (by omega) (by decide) dX7_lied_13 ?_
    refine q_icmp_ge 17 rfl 35 (by decide) (by omega) (by omega) dX7_lied_14 (fun h14 => ?_) (fun h14 => ?_)
    · refine q_bipush 37 rfl 4294967292 k_bm4 dX7_lied_35 ?_
      refine q_iret rfl dX7_lied_37 ?_
      rw [h_ex, Nat.sub_self]
      exact ⟨rfl, rfl⟩
    · exfalso; omega
  · intro i h_i ih h_ex 
    have hg9 := hM.2.2.2.2.2.2.2.2.1
    have e78 : now7 N c 78 40 = N 78 40 := rfl
    have hcl : can7 N c (R7 N) (i + 1) < 512 := can_lt hM.2.1
    have el : lieF (fun k => can7 N c (R7 N) k) (N 78 40 - i) i = if can7 N c (R7 N) (i + 1) = 0 then i else lieF (fun k => can7 N c (R7 N) k) (N 78 40 - (i + 1)) (i + 1) := by
      rw [show N 78 40 - i = (N 78 40 - (i + 1)) + 1 by omega]; rfl
    refine q_iload_n 7 rfl rfl dX7_lied_6 ?_
    refine q_aload_n 8 rfl rfl dX7_lied_7 ?_
    refine q_getR 11 rfl fX7_7 rfl 77 t_77 (g_77_0 hG) dX7_lied_8 ?_
    refine q_bipush 13 rfl 40 k_b40 dX7_lied_11 ?_
    refine q_iald 14 rfl 78 t_78 (by omega) (by decide) dX7_lied_13 ?_
    refine q_icmp_ge 17 rfl 35 (by decide) (by omega) (by omega) dX7_lied_14 (fun h14 => ?_) (fun h14 => ?_)
    · exfalso; omega
    · refine q_aload_n 18 rfl rfl dX7_lied_17 ?_
      refine q_iload_n 19 rfl rfl dX7_lied_18 ?_
      refine q_iconst 20 rfl 1 k_i1 dX7_lied_19 ?_
      refine q_iadd 21 rfl dX7_lied_20 ?_
      refine q_cV1 24 rfl lX7_218 (k_canBeN (many := i + 1) hG hM (by omega)) rfl 77 t_77 rfl rfl rfl dX7_lied_21 ?_
      refine q_if_ne 27 rfl 29 (by decide) (by omega) dX7_lied_24 (fun h24 => ?_) (fun h24 => ?_)
      · refine q_iinc1 32 rfl 1 k_i1 rfl (by decide) dX7_lied_29 ?_
        refine q_goto 6 (by decide) dX7_lied_32 ?_
        refine q_loc (ih ?_) (q_sub1 rfl (q_sub1 rfl q_sub0))
        rw [h_ex, el, if_neg (by assumption)]
      · refine q_iload_n 28 rfl rfl dX7_lied_27 ?_
        refine q_iret rfl dX7_lied_28 ?_
        rw [h_ex, el, if_pos (by assumption)]
        exact ⟨rfl, rfl⟩
theorem k_lied7 {c : Nat} (hG : GF ad G) (hM : MS N c) : q_Con Γ mX7_lied 5 0 0 [.ref (ad 77)] (LT ad, N, L, G) (q_is (some (.int (nI (lieF (fun k => can7 N c (R7 N) k) (N 78 40) 0)))) (LT ad, now7 N c, L, G)) := by
  refine q_con (by decide) rfl rfl (Nat.le_of_ble_eq_true rfl) ?_
  refine q_aload_n 1 rfl rfl dX7_lied_0 ?_
  refine q_cV0v 4 rfl lX7_215 (k_layNow hG hM.1 hM.2.1 hM.2.2.2.2.2.1 hM.2.2.2.2.2.2.1 hM.2.2.1 hM.2.2.2.1) rfl 77 t_77 rfl rfl rfl dX7_lied_1 ?_
  refine q_iconst 5 rfl 0 k_i0 dX7_lied_4 ?_
  refine q_istore_n 6 rfl (by decide) dX7_lied_5 ?_
  exact q_loc (lied_lp hG hM 0 (by omega) rfl) (q_sub1 rfl (q_sub1 rfl q_sub0))
theorem oddsOf7_lp {rm : Room} {Z : q_Zt} {c s : Nat} (hG : GF ad G) (hc : N 77 2 = c) (hc9 : c ≤ 9) (hs : ∀ i, i < 240 → N 78 i < 26) (h31 : s < 2147483648) (hx : q_R Γ mX7_oddsOf rm Z 0 0 45 [(2, .long (lZ ((ods (N 78) s (c)) : Nat)))] [] (LT ad, N, L, G)) : ∀ i, i ≤ c →  ∀ a : Nat, a = ods (N 78) s i → q_R Γ mX7_oddsOf rm Z 0 0 5 [(0, .ref (ad 77)), (1, .int (nI s)), (2, .long (lZ (a : Nat))), (4, .int (nI i))] [] (LT ad, N, L, G) := by
  refine dn_loop (c) ?_ ?_
  · intro a h_a
    refine q_iload 7 rfl rfl dX7_oddsOf_5 ?_
    refine q_aload_n 8 rfl rfl dX7_oddsOf_7 ?_
    refine q_getI 11 rfl fX7_155 rfl 77 t_77 dX7_oddsOf_8 ?_
    refine q_icmp_ge 14 rfl 45 (by decide) (by omega) (by omega) dX7_oddsOf_11 (fun h11 => ?_) (fun h11 => ?_)
    · subst h_a
      exact q_loc hx (q_sub1 rfl q_sub0)
    · exfalso; omega
  · intro i h_i ih a h_a
    refine q_iload 7 rfl rfl dX7_oddsOf_5 ?_
    refine q_aload_n 8 rfl rfl dX7_oddsOf_7 ?_
    refine q_getI 11 rfl fX7_155 rfl 77 t_77 dX7_oddsOf_8 ?_
    refine q_icmp_ge 14 rfl 45 (by decide) (by omega) (by omega) dX7_oddsOf_11 (fun h11 => ?_) (fun h11 => ?_)
    · exfalso; omega
    · refine q_lload_n 15 rfl rfl dX7_oddsOf_14 ?_
      refine q_iload_n 16 rfl rfl dX7_oddsOf_15 ?_
      refine q_iload 18 rfl rfl dX7_oddsOf_16 ?_
      refine q_ishr 19 rfl (by omega) (by omega) dX7_oddsOf_18 ?_
      refine q_iconst 20 rfl 1 k_i1 dX7_oddsOf_19 ?_
      refine q_iand 21 rfl dX7_oddsOf_20 ?_
      refine q_iconst 22 rfl 1 k_i1 dX7_oddsOf_21 ?_
      refine q_icmp_ne 25 rfl 36 (by decide) (by have := Nat.and_le_right (n := s / 2 ^ i) (m := 1); omega) (by have := Nat.and_le_right (n := s / 2 ^ i) (m := 1); omega) dX7_oddsOf_22 (fun h22 => ?_) (fun h22 => ?_)
      · refine q_lconst 37 rfl 0 lN0 dX7_oddsOf_36 ?_
        refine q_ladd 38 rfl dX7_oddsOf_37 ?_
        try rw [show ((a : Int) + (N 78 i : Int)) = ((a + N 78 i : Nat) : Int) by omega]
        try rw [show ((a : Int) + 0) = ((a : Nat) : Int) by omega]
        refine q_lstore_n 39 rfl (by decide) dX7_oddsOf_38 ?_
        refine q_iinc1 42 rfl 1 k_i1 rfl (by decide) dX7_oddsOf_39 ?_
        refine q_goto 5 (by decide) dX7_oddsOf_42 ?_
        refine q_loc (ih _ ?_) (q_sub1 rfl (q_sub1 rfl (q_sub1 rfl (q_sub1 rfl q_sub0))))
        · rw [h_a, ods]
          rw [div_bit] at h22
          cases hb : s.testBit i with
          | true => simp_all
          | false => simp_all
      · refine q_aload_n 26 rfl rfl dX7_oddsOf_25 ?_
        refine q_getR 29 rfl fX7_7 rfl 77 t_77 (g_77_0 hG) dX7_oddsOf_26 ?_
        refine q_iload 31 rfl rfl dX7_oddsOf_29 ?_
        refine q_iald 32 rfl 78 t_78 (by omega) (by decide) dX7_oddsOf_31 ?_
        have q1 := hs i (by omega)
        refine q_i2l 33 rfl dX7_oddsOf_32 ?_
        rw [z_s_lo (by omega)]
        refine q_goto 37 (by decide) dX7_oddsOf_33 ?_
        refine q_ladd 38 rfl dX7_oddsOf_37 ?_
        try rw [show ((a : Int) + (N 78 i : Int)) = ((a + N 78 i : Nat) : Int) by omega]
        try rw [show ((a : Int) + 0) = ((a : Nat) : Int) by omega]
        refine q_lstore_n 39 rfl (by decide) dX7_oddsOf_38 ?_
        refine q_iinc1 42 rfl 1 k_i1 rfl (by decide) dX7_oddsOf_39 ?_
        refine q_goto 5 (by decide) dX7_oddsOf_42 ?_
        refine q_loc (ih _ ?_) (q_sub1 rfl (q_sub1 rfl (q_sub1 rfl (q_sub1 rfl q_sub0))))
        · rw [h_a, ods]
          rw [div_bit] at h22
          cases hb : s.testBit i with
          | true => simp_all
          | false => simp_all
theorem k_oddsOf7 {c s : Nat} (hG : GF ad G) (hc : N 77 2 = c) (hc9 : c ≤ 9) (hs : ∀ i, i < 240 → N 78 i < 26) (h31 : s < 2147483648) : q_Con Γ mX7_oddsOf 0 0 0 [.ref (ad 77), .int (nI s)] (LT ad, N, L, G) (q_is (some (.long (lZ (ods (N 78) s c : Nat)))) (LT ad, N, L, G)) := by
  refine q_con (by decide) rfl rfl (Nat.le_of_ble_eq_true rfl) ?_
  refine q_lconst 1 rfl 0 lN0 dX7_oddsOf_0 ?_
  refine q_lstore_n 2 rfl (by decide) dX7_oddsOf_1 ?_
  refine q_iconst 3 rfl 0 k_i0 dX7_oddsOf_2 ?_
  refine q_istore 5 rfl (by decide) dX7_oddsOf_3 ?_
  refine q_loc (oddsOf7_lp hG hc hc9 hs h31 ?_ 0 (by omega) _ rfl) (q_sub1 rfl (q_sub1 rfl (q_sub1 rfl (q_sub1 rfl q_sub0))))
  refine q_lload_n 46 rfl rfl dX7_oddsOf_45 ?_
  refine q_lret rfl dX7_oddsOf_46 ?_
  exact ⟨rfl, rfl⟩
end
