theorem q_s_s {α : Type} (f : Nat → Nat → α) (i j : Nat) (a b : α) : q_s (q_s f i j a) i j b = q_s f i j b := by
  funext x y
  simp only [q_s]
  by_cases hx : x = i
  · simp only [hx, if_true]
    by_cases hy : y = j <;> simp [hy]
  · simp [hx]
/-- a row filled up to i -/
def fil {α : Type} (f : Nat → Nat → α) (r : Nat) (g : Nat → α) (i : Nat) : Nat → Nat → α := q_r f r (fun j => if j < i then g j else f r j)
theorem fil_0 {α : Type} (f : Nat → Nat → α) (r : Nat) (g : Nat → α) : fil f r g 0 = f := by
  funext x y
  simp only [fil, q_r]
  by_cases hx : x = r <;> simp [hx]
theorem fil_s {α : Type} (f : Nat → Nat → α) (r : Nat) (g : Nat → α) (i : Nat) : q_s (fil f r g i) r i (g i) = fil f r g (i + 1) := by
  funext x y
  simp only [fil, q_s, q_r]
  by_cases hx : x = r
  · simp only [hx, if_true]
    by_cases hy : y = i
    · rw [if_pos hy, if_pos (by omega), hy]
    · rw [if_neg hy]
      by_cases hy2 : y < i
      · rw [if_pos hy2, if_pos (by omega)]
      · rw [if_neg hy2, if_neg (by omega)]
  · simp [hx]
theorem fil_ne {α : Type} {f : Nat → Nat → α} {r a : Nat} {g : Nat → α} {i : Nat} (h : a ≠ r) : fil f r g i a = f a := q_r_ne h
theorem fil_lt {α : Type} {f : Nat → Nat → α} {r : Nat} {g : Nat → α} {i j : Nat} (h : j < i) : fil f r g i r j = g j := by simp [fil, q_r, h]
theorem amin_or {f : Nat → Nat} {b d k : Nat} (h : ∀ i, i < k → f i ≤ d ∨ f i = b) : (amin f b k).1 ≤ d ∨ (amin f b k).1 = b := by
  induction k with
  | zero => exact Or.inr rfl
  | succ k ih =>
    simp only [amin]
    split
    · exact h k (by omega)
    · exact ih (fun i hi => h i (by omega))
abbrev fw (Rl : Nat → Nat → Bool) (c s : Nat) : Nat := cst Rl c (fun _ => 1) max s
abbrev fv (Rl : Nat → Nat → Bool) (c s g : Nat) : Nat := csv Rl c (fun _ => 1) max s g
theorem fw_le {Rl : Nat → Nat → Bool} {c s : Nat} (hc : c ≤ 9) (hs : s < 2 ^ c) : fw Rl c s ≤ 9 := by
  have h1 := few_le Rl c s hs
  have h2 := pc_le s c
  show cst Rl c (fun _ => 1) max s ≤ 9
  omega
theorem fv_or {Rl : Nat → Nat → Bool} {c s g : Nat} (hc : c ≤ 9) : fv Rl c s g ≤ 9 ∨ fv Rl c s g = 1048576 := by
  simp only [csv]
  split
  · exact Or.inl (Nat.max_le.mpr ⟨fw_le hc prt_lt, fw_le hc prt_lt⟩)
  · exact Or.inr rfl
/-- what the model's table holds of s when the guesses below g are weighed -/
def fc (Rl : Nat → Nat → Bool) (c s g : Nat) : Nat := if (amin (fv Rl c s) 1048576 g).1 = 1048576 then 1000 else (amin (fv Rl c s) 1048576 g).1 + 1
theorem fc_le {Rl : Nat → Nat → Bool} {c s g : Nat} (hc : c ≤ 9) : fc Rl c s g ≤ 1000 := by
  have := amin_or (f := fv Rl c s) (b := 1048576) (d := 9) (k := g) (fun i _ => fv_or hc)
  simp only [fc]
  split <;> omega
theorem fw_amin {Rl : Nat → Nat → Bool} {c s : Nat} (hc : c ≤ 9) (h0 : s ≠ 0) (hs : s < 2 ^ c) : (amin (fv Rl c s) 1048576 c).1 < 1048576 ∧ fw Rl c s = (amin (fv Rl c s) 1048576 c).1 + 1 := by
  have h1 : fw Rl c s = (amin (fv Rl c s) 1048576 c).1 + 1 := cst_s h0
  have h2 := fw_le (Rl := Rl) hc hs
  exact ⟨by omega, h1⟩
theorem fc_c {Rl : Nat → Nat → Bool} {c s : Nat} (hc : c ≤ 9) (h0 : s ≠ 0) (hs : s < 2 ^ c) : fc Rl c s c = fw Rl c s := by
  obtain ⟨h1, h2⟩ := fw_amin (Rl := Rl) hc h0 hs
  rw [fc, if_neg (by omega), h2]
def mst (F : Nat → Nat) (Rl : Nat → Nat → Bool) (c s g : Nat) : Nat := if prt Rl c s g 1 = s ∨ prt Rl c s g 0 = s then 1000 else 1 + max (F (prt Rl c s g 1)) (F (prt Rl c s g 0))
theorem mst_fv {F : Nat → Nat} {Rl : Nat → Nat → Bool} {c s g : Nat} (hc : c ≤ 9) (hF : ∀ t, t < s → F t = fw Rl c t) : (fv Rl c s g = 1048576 ∧ mst F Rl c s g = 1000) ∨ (fv Rl c s g ≤ 9 ∧ mst F Rl c s g = 1 + fv Rl c s g) := by
  have l1 := prt_le (Rl := Rl) (c := c) (s := s) (g := g) (a := 1)
  have l0 := prt_le (Rl := Rl) (c := c) (s := s) (g := g) (a := 0)
  by_cases h : prt Rl c s g 1 < s ∧ prt Rl c s g 0 < s
  · have e : fv Rl c s g = max (fw Rl c (prt Rl c s g 1)) (fw Rl c (prt Rl c s g 0)) := if_pos h
    refine Or.inr ⟨?_, ?_⟩
    · rw [e]; exact Nat.max_le.mpr ⟨fw_le hc prt_lt, fw_le hc prt_lt⟩
    · rw [mst, if_neg (by omega), hF _ h.1, hF _ h.2, e]
  · exact Or.inl ⟨if_neg h, by rw [mst, if_pos (by omega)]⟩
theorem fc_step {F : Nat → Nat} {Rl : Nat → Nat → Bool} {c s g : Nat} (hc : c ≤ 9) (hF : ∀ t, t < s → F t = fw Rl c t) : (if mst F Rl c s g < fc Rl c s g then mst F Rl c s g else fc Rl c s g) = fc Rl c s (g + 1) := by
  have h1 := mst_fv (g := g) hc hF
  have h2 := amin_or (f := fv Rl c s) (b := 1048576) (d := 9) (k := g) (fun i _ => fv_or hc)
  have e : (amin (fv Rl c s) 1048576 (g + 1)).1 = if fv Rl c s g < (amin (fv Rl c s) 1048576 g).1 then fv Rl c s g else (amin (fv Rl c s) 1048576 g).1 := by
    simp only [amin]; split <;> rfl
  rw [fc, fc, e]
  generalize (amin (fv Rl c s) 1048576 g).1 = m at *
  generalize fv Rl c s g = b at *
  generalize mst F Rl c s g = v at *
  rcases h1 with ⟨rfl, rfl⟩ | ⟨hb, rfl⟩ <;> rcases h2 with hm | rfl
  · rw [if_neg (show ¬ m = 1048576 by omega), if_neg (by omega), if_neg (show ¬ 1048576 < m by omega), if_neg (by omega)]
  · simp
  · rw [if_neg (show ¬ m = 1048576 by omega)]
    by_cases q : b < m
    · rw [if_pos (by omega), if_pos q, if_neg (by omega)]; omega
    · rw [if_neg (by omega), if_neg q, if_neg (by omega)]
  · rw [if_pos rfl, if_pos (show 1 + b < 1000 by omega), if_pos (show b < 1048576 by omega), if_neg (show ¬ b = 1048576 by omega)]; omega
/-- where the model's search stops -/
theorem mst_first {F : Nat → Nat} {Rl : Nat → Nat → Bool} {c s : Nat} (hc : c ≤ 9) (h0 : s ≠ 0) (hs : s < 2 ^ c) (hF : ∀ t, t < s → F t = fw Rl c t) : (amin (fv Rl c s) 1048576 c).2 < c ∧ mst F Rl c s (amin (fv Rl c s) 1048576 c).2 = fw Rl c s ∧ ∀ j, j < (amin (fv Rl c s) 1048576 c).2 → mst F Rl c s j ≠ fw Rl c s := by
  obtain ⟨h1, h2⟩ := fw_amin (Rl := Rl) hc h0 hs
  obtain ⟨h3, h4, h5⟩ := amin_which _ _ _ h1
  have h6 := fw_le (Rl := Rl) hc hs
  refine ⟨h3, ?_, fun j hj => ?_⟩
  · have := mst_fv (g := (amin (fv Rl c s) 1048576 c).2) hc hF
    omega
  · have := mst_fv (g := j) hc hF
    have := h5 j hj
    omega
def srv (Rl : Nat → Nat → Bool) (c Y s : Nat) : Nat := if Y ≤ 1 then (if s = 0 then 4294967294 else if Y = 0 then fw Rl c s else (amin (fv Rl c s) 1048576 c).2) else 4294967295
section
variable {Γ : q_G} {ad : Nat → Nat} {N : Nat → Nat → Nat} {L : Nat → Nat → Int} {G : Nat → Nat → Option Nat}
theorem k_mostBy {c s n : Nat} {Rl : Nat → Nat → Bool} (hG : GF ad G) (hc9 : c ≤ 9) (hnx : ∀ g, g < c → N 87 g = mk (fun m => decide (g ≠ m) && Rl g m) c) (hn : n < c) (hs : s < 2 ^ c) (h1 : N 88 (prt Rl c s n 1) ≤ 1000) (h0 : N 88 (prt Rl c s n 0) ≤ 1000) : q_Con Γ mX7_mostBy 1 0 0 [.ref (ad 77), .int (nI s), .int (nI n)] (LT ad, N, L, G) (q_is (some (.int (nI (mst (N 88) Rl c s n)))) (LT ad, N, L, G)) := by
  have e1 := ansW_s (f := N 87) (Rl := Rl) (g := n) (a := 1) hs (by omega) (hnx n hn) (by omega)
  have e0 := ansW_s (f := N 87) (Rl := Rl) (g := n) (a := 0) hs (by omega) (hnx n hn) (by omega)
  have p9 := p2_9 hc9
  have l1 := prt_lt (Rl := Rl) (c := c) (s := s) (g := n) (a := 1)
  have l0 := prt_lt (Rl := Rl) (c := c) (s := s) (g := n) (a := 0)
  refine q_con (by decide) rfl rfl (Nat.le_of_ble_eq_true rfl) ?_
  refine q_aload_n 1 rfl rfl dX7_mostBy_0 ?_
  refine q_iload_n 2 rfl rfl dX7_mostBy_1 ?_
  refine q_iload_n 3 rfl rfl dX7_mostBy_2 ?_
  refine q_iconst 4 rfl 1 k_i1 dX7_mostBy_3 ?_
  refine q_cV3 7 rfl lX7_212 (k_answering hG (by omega) (by omega)) rfl 77 t_77 rfl rfl rfl dX7_mostBy_4 ?_
  first
    | rw [e1]
    | rw [e0]
  refine q_istore_n 8 rfl (by decide) dX7_mostBy_7 ?_
  refine q_aload_n 9 rfl rfl dX7_mostBy_8 ?_
  refine q_iload_n 10 rfl rfl dX7_mostBy_9 ?_
  refine q_iload_n 11 rfl rfl dX7_mostBy_10 ?_
  refine q_iconst 12 rfl 0 k_i0 dX7_mostBy_11 ?_
  refine q_cV3 15 rfl lX7_212 (k_answering hG (by omega) (by omega)) rfl 77 t_77 rfl rfl rfl dX7_mostBy_12 ?_
  first
    | rw [e1]
    | rw [e0]
  refine q_istore 17 rfl (by decide) dX7_mostBy_15 ?_
  refine q_iload_n 18 rfl rfl dX7_mostBy_17 ?_
  refine q_iload_n 19 rfl rfl dX7_mostBy_18 ?_
  refine q_icmp_eq 22 rfl 28 (by decide) (by omega) (by omega) dX7_mostBy_19 (fun h19 => ?_) (fun h19 => ?_)
  · refine q_sipush 31 rfl 1000 k_s1000 dX7_mostBy_28 ?_
    refine q_iret rfl dX7_mostBy_31 ?_
    first
      | (rw [mst, if_pos (by omega)]; exact ⟨rfl, rfl⟩)
      | (rw [mst, if_neg (by omega), Nat.max_eq_left (by omega)]; exact ⟨rfl, rfl⟩)
      | (rw [mst, if_neg (by omega), Nat.max_eq_right (by omega)]; exact ⟨rfl, rfl⟩)
  · refine q_iload 24 rfl rfl dX7_mostBy_22 ?_
    refine q_iload_n 25 rfl rfl dX7_mostBy_24 ?_
    refine q_icmp_ne 28 rfl 32 (by decide) (by omega) (by omega) dX7_mostBy_25 (fun h25 => ?_) (fun h25 => ?_)
    · refine q_iconst 33 rfl 1 k_i1 dX7_mostBy_32 ?_
      refine q_aload_n 34 rfl rfl dX7_mostBy_33 ?_
      refine q_getR 37 rfl fX7_40 rfl 77 t_77 (g_77_21 hG) dX7_mostBy_34 ?_
      refine q_iload_n 38 rfl rfl dX7_mostBy_37 ?_
      refine q_iald 39 rfl 88 t_88 (by omega) (by decide) dX7_mostBy_38 ?_
      refine q_aload_n 40 rfl rfl dX7_mostBy_39 ?_
      refine q_getR 43 rfl fX7_40 rfl 77 t_77 (g_77_21 hG) dX7_mostBy_40 ?_
      refine q_iload 45 rfl rfl dX7_mostBy_43 ?_
      refine q_iald 46 rfl 88 t_88 (by omega) (by decide) dX7_mostBy_45 ?_
      refine q_icmp_le 49 rfl 58 (by decide) (by omega) (by omega) dX7_mostBy_46 (fun h46 => ?_) (fun h46 => ?_)
      · refine q_aload_n 59 rfl rfl dX7_mostBy_58 ?_
        refine q_getR 62 rfl fX7_40 rfl 77 t_77 (g_77_21 hG) dX7_mostBy_59 ?_
        refine q_iload 64 rfl rfl dX7_mostBy_62 ?_
        refine q_iald 65 rfl 88 t_88 (by omega) (by decide) dX7_mostBy_64 ?_
        refine q_iadd 66 rfl dX7_mostBy_65 ?_
        refine q_iret rfl dX7_mostBy_66 ?_
        first
          | (rw [mst, if_pos (by omega)]; exact ⟨rfl, rfl⟩)
          | (rw [mst, if_neg (by omega), Nat.max_eq_left (by omega)]; exact ⟨rfl, rfl⟩)
          | (rw [mst, if_neg (by omega), Nat.max_eq_right (by omega)]; exact ⟨rfl, rfl⟩)
      · refine q_aload_n 50 rfl rfl dX7_mostBy_49 ?_
        refine q_getR 53 rfl fX7_40 rfl 77 t_77 (g_77_21 hG) dX7_mostBy_50 ?_
        refine q_iload_n 54 rfl rfl dX7_mostBy_53 ?_
        refine q_iald 55 rfl 88 t_88 (by omega) (by decide) dX7_mostBy_54 ?_
        refine q_goto 65 (by decide) dX7_mostBy_55 ?_
        refine q_iadd 66 rfl dX7_mostBy_65 ?_
        refine q_iret rfl dX7_mostBy_66 ?_
        first
          | (rw [mst, if_pos (by omega)]; exact ⟨rfl, rfl⟩)
          | (rw [mst, if_neg (by omega), Nat.max_eq_left (by omega)]; exact ⟨rfl, rfl⟩)
          | (rw [mst, if_neg (by omega), Nat.max_eq_right (by omega)]; exact ⟨rfl, rfl⟩)
    · refine q_sipush 31 rfl 1000 k_s1000 dX7_mostBy_28 ?_
      refine q_iret rfl dX7_mostBy_31 ?_
      first
        | (rw [mst, if_pos (by omega)]; exact ⟨rfl, rfl⟩)
        | (rw [mst, if_neg (by omega), Nat.max_eq_left (by omega)]; exact ⟨rfl, rfl⟩)
        | (rw [mst, if_neg (by omega), Nat.max_eq_right (by omega)]; exact ⟨rfl, rfl⟩)
theorem layFew_in {Z : q_Zt} {mc mz : Nat} {c s : Nat} {Rl : Nat → Nat → Bool} (hG : GF ad G) (hc : N 77 2 = c) (hc9 : c ≤ 9) (hnx : ∀ g, g < c → N 87 g = mk (fun m => decide (g ≠ m) && Rl g m) c) (hs : s < 2 ^ c) (hx : q_R Γ mX7_layFew (q_room 2 mc mz) Z 0 0 77 [(0, .ref (ad 77)), (1, .int (nI s))] [] (LT ad, (q_s (fil N 88 (fw Rl c) s) 88 s (fc Rl c s (c))), L, G)) : ∀ i, i ≤ c →  ∀ H : Nat → Nat → Nat, H = q_s (fil N 88 (fw Rl c) s) 88 s (fc Rl c s i) → q_R Γ mX7_layFew (q_room 2 mc mz) Z 0 0 30 [(0, .ref (ad 77)), (1, .int (nI s)), (2, .int (nI i))] [] (LT ad, H, L, G) := by
  refine dn_loop (c) ?_ ?_
  · intro H h_H
    have e77 : H 77 2 = c := by rw [h_H]; exact hc
    have p9 := p2_9 hc9
    refine q_iload_n 31 rfl rfl dX7_layFew_30 ?_
    refine q_aload_n 32 rfl rfl dX7_layFew_31 ?_
    refine q_getI 35 rfl fX7_155 rfl 77 t_77 dX7_layFew_32 ?_
    refine q_icmp_ge 38 rfl 77 (by decide) (by omega) (by omega) dX7_layFew_35 (fun h35 => ?_) (fun h35 => ?_)
    · subst h_H
      exact q_loc hx (q_sub1 rfl (q_sub1 rfl q_sub0))
    · exfalso; omega
  · intro i h_i ih H h_H
    have e77 : H 77 2 = c := by rw [h_H]; exact hc
    have p9 := p2_9 hc9
    have e87 : H 87 = N 87 := by rw [h_H]; rfl
    have e88 : H 88 s = fc Rl c s i := by rw [h_H]; exact q_s_at
    have hF : ∀ t, t < s → H 88 t = fw Rl c t := fun t ht => by rw [h_H, q_s_off (by omega), fil_lt ht]
    have hcl := fc_le (Rl := Rl) (s := s) (g := i) hc9
    have hb : ∀ t, t ≤ s → H 88 t ≤ 1000 := fun t ht => by
      rcases Nat.lt_or_eq_of_le ht with q | q
      · rw [hF t q]; exact Nat.le_trans (fw_le hc9 (Nat.lt_trans q hs)) (by omega)
      · rw [q, e88]; exact hcl
    have hmf := mst_fv (g := i) hc9 hF
    have hst := fc_step (g := i) hc9 hF
    refine q_iload_n 31 rfl rfl dX7_layFew_30 ?_
    refine q_aload_n 32 rfl rfl dX7_layFew_31 ?_
    refine q_getI 35 rfl fX7_155 rfl 77 t_77 dX7_layFew_32 ?_
    refine q_icmp_ge 38 rfl 77 (by decide) (by omega) (by omega) dX7_layFew_35 (fun h35 => ?_) (fun h35 => ?_)
    · exfalso; omega
    · refine q_aload_n 39 rfl rfl dX7_layFew_38 ?_
      refine q_iload_n 40 rfl rfl dX7_layFew_39 ?_
      refine q_iload_n 41 rfl rfl dX7_layFew_40 ?_
      refine q_cV2 44 rfl lX7_239 (k_mostBy (Rl := Rl) hG hc9 (by rw [e87]; exact hnx) h_i hs (hb _ prt_le) (hb _ prt_le)) rfl 77 t_77 rfl rfl rfl dX7_layFew_41 ?_
      refine q_istore_n 45 rfl (by decide) dX7_layFew_44 ?_
      refine q_aload_n 46 rfl rfl dX7_layFew_45 ?_
      refine q_getR 49 rfl fX7_40 rfl 77 t_77 (g_77_21 hG) dX7_layFew_46 ?_
      refine q_iload_n 50 rfl rfl dX7_layFew_49 ?_
      refine q_iload_n 51 rfl rfl dX7_layFew_50 ?_
      refine q_aload_n 52 rfl rfl dX7_layFew_51 ?_
      refine q_getR 55 rfl fX7_40 rfl 77 t_77 (g_77_21 hG) dX7_layFew_52 ?_
      refine q_iload_n 56 rfl rfl dX7_layFew_55 ?_
      refine q_iald 57 rfl 88 t_88 (by omega) (by decide) dX7_layFew_56 ?_
      refine q_icmp_ge 60 rfl 64 (by decide) (by omega) (by omega) dX7_layFew_57 (fun h57 => ?_) (fun h57 => ?_)
      · refine q_aload_n 65 rfl rfl dX7_layFew_64 ?_
        refine q_getR 68 rfl fX7_40 rfl 77 t_77 (g_77_21 hG) dX7_layFew_65 ?_
        refine q_iload_n 69 rfl rfl dX7_layFew_68 ?_
        refine q_iald 70 rfl 88 t_88 (by omega) (by decide) dX7_layFew_69 ?_
        refine q_iast 71 rfl 88 t_88 (by omega) (by decide) dX7_layFew_70 ?_
        refine q_iinc1 74 rfl 1 k_i1 rfl (by decide) dX7_layFew_71 ?_
        refine q_goto 30 (by decide) dX7_layFew_74 ?_
        refine q_loc (ih _ ?_) (q_sub1 rfl (q_sub1 rfl (q_sub1 rfl q_sub0)))
        · rw [← hst]
          first
            | (rw [if_pos (by omega), h_H, q_s_s]; done)
            | (rw [if_neg (by omega), ← e88, h_H, q_s_s]; done)
            | (rw [if_neg (by omega), e88, h_H, q_s_s]; done)
      · refine q_iload_n 61 rfl rfl dX7_layFew_60 ?_
        refine q_goto 70 (by decide) dX7_layFew_61 ?_
        refine q_iast 71 rfl 88 t_88 (by omega) (by decide) dX7_layFew_70 ?_
        refine q_iinc1 74 rfl 1 k_i1 rfl (by decide) dX7_layFew_71 ?_
        refine q_goto 30 (by decide) dX7_layFew_74 ?_
        refine q_loc (ih _ ?_) (q_sub1 rfl (q_sub1 rfl (q_sub1 rfl q_sub0)))
        · rw [← hst]
          first
            | (rw [if_pos (by omega), h_H, q_s_s]; done)
            | (rw [if_neg (by omega), ← e88, h_H, q_s_s]; done)
            | (rw [if_neg (by omega), e88, h_H, q_s_s]; done)
theorem layFew_lp {Z : q_Zt} {mc mz : Nat} {c : Nat} {Rl : Nat → Nat → Bool} (hG : GF ad G) (hc : N 77 2 = c) (hc9 : c ≤ 9) (hnx : ∀ g, g < c → N 87 g = mk (fun m => decide (g ≠ m) && Rl g m) c) (hx : q_R Γ mX7_layFew (q_room 2 mc mz) Z 0 0 83 [] [] (LT ad, (fil N 88 (fw Rl c) (2 ^ c)), L, G)) : ∀ i, i ≤ 2 ^ c → 1 ≤ i →  ∀ H : Nat → Nat → Nat, H = fil N 88 (fw Rl c) i → q_R Γ mX7_layFew (q_room 2 mc mz) Z 0 0 9 [(0, .ref (ad 77)), (1, .int (nI i))] [] (LT ad, H, L, G) := by
  refine dn_loop (2 ^ c) ?_ ?_
  · intro h_ex H h_H
    have e77 : H 77 2 = c := by rw [h_H]; exact hc
    have p9 := p2_9 hc9
    have p2 : 1 * 2 ^ (H 77 2) = 2 ^ c := by rw [e77, Nat.one_mul]
    refine q_iload_n 10 rfl rfl dX7_layFew_9 ?_
    refine q_iconst 11 rfl 1 k_i1 dX7_layFew_10 ?_
    refine q_aload_n 12 rfl rfl dX7_layFew_11 ?_
    refine q_getI 15 rfl fX7_155 rfl 77 t_77 dX7_layFew_12 ?_
    refine q_ishl 16 rfl (by omega) dX7_layFew_15 ?_
    rw [p2]
    refine q_icmp_ge 19 rfl 83 (by decide) (by omega) (by omega) dX7_layFew_16 (fun h16 => ?_) (fun h16 => ?_)
    · subst h_H
      exact q_loc hx q_sub0
    · exfalso; omega
  · intro i h_i ih h_ex H h_H
    have e77 : H 77 2 = c := by rw [h_H]; exact hc
    have p9 := p2_9 hc9
    have p2 : 1 * 2 ^ (H 77 2) = 2 ^ c := by rw [e77, Nat.one_mul]
    refine q_iload_n 10 rfl rfl dX7_layFew_9 ?_
    refine q_iconst 11 rfl 1 k_i1 dX7_layFew_10 ?_
    refine q_aload_n 12 rfl rfl dX7_layFew_11 ?_
    refine q_getI 15 rfl fX7_155 rfl 77 t_77 dX7_layFew_12 ?_
    refine q_ishl 16 rfl (by omega) dX7_layFew_15 ?_
    rw [p2]
    refine q_icmp_ge 19 rfl 83 (by decide) (by omega) (by omega) dX7_layFew_16 (fun h16 => ?_) (fun h16 => ?_)
    · exfalso; omega
    · refine q_aload_n 20 rfl rfl dX7_layFew_19 ?_
      refine q_getR 23 rfl fX7_40 rfl 77 t_77 (g_77_21 hG) dX7_layFew_20 ?_
      refine q_iload_n 24 rfl rfl dX7_layFew_23 ?_
      refine q_sipush 27 rfl 1000 k_s1000 dX7_layFew_24 ?_
      refine q_iast 28 rfl 88 t_88 (by omega) (by decide) dX7_layFew_27 ?_
      refine q_iconst 29 rfl 0 k_i0 dX7_layFew_28 ?_
      refine q_istore_n 30 rfl (by decide) dX7_layFew_29 ?_
      refine q_loc (layFew_in (N := N) (Rl := Rl) (s := i) hG hc hc9 hnx h_i ?_ 0 (by omega) _ ?_) (q_sub1 rfl (q_sub1 rfl (q_sub1 rfl q_sub0)))
      rotate_left
      · rw [h_H]; rfl
      refine q_iinc1 80 rfl 1 k_i1 rfl (by decide) dX7_layFew_77 ?_
      refine q_goto 9 (by decide) dX7_layFew_80 ?_
      refine q_loc (ih (by omega) _ ?_) (q_sub1 rfl (q_sub1 rfl q_sub0))
      · rw [fc_c hc9 (by omega) h_i, fil_s]
theorem k_layFew {c : Nat} {Rl : Nat → Nat → Bool} (hG : GF ad G) (hc : N 77 2 = c) (hc9 : c ≤ 9) (hnx : ∀ g, g < c → N 87 g = mk (fun m => decide (g ≠ m) && Rl g m) c) : q_Con Γ mX7_layFew 2 0 0 [.ref (ad 77)] (LT ad, N, L, G) (q_is none (LT ad, fil N 88 (fw Rl c) (2 ^ c), L, G)) := by
  refine q_con (by decide) rfl rfl (Nat.le_of_ble_eq_true rfl) ?_
  refine q_aload_n 1 rfl rfl dX7_layFew_0 ?_
  refine q_getR 4 rfl fX7_40 rfl 77 t_77 (g_77_21 hG) dX7_layFew_1 ?_
  refine q_iconst 5 rfl 0 k_i0 dX7_layFew_4 ?_
  refine q_iconst 6 rfl 0 k_i0 dX7_layFew_5 ?_
  refine q_iast 7 rfl 88 t_88 (by omega) (by decide) dX7_layFew_6 ?_
  refine q_iconst 8 rfl 1 k_i1 dX7_layFew_7 ?_
  refine q_istore_n 9 rfl (by decide) dX7_layFew_8 ?_
  refine q_loc (layFew_lp (N := N) (Rl := Rl) hG hc hc9 hnx ?_ 1 (Nat.two_pow_pos c) (by omega) _ ?_) (q_sub1 rfl (q_sub1 rfl q_sub0))
  rotate_left
  · rw [show (0 : Nat) = fw Rl c 0 from (cst_0 _ _ _ _).symm]
    have := fil_s N 88 (fw Rl c) 0
    rw [fil_0] at this
    rw [show fw Rl c 0 = 0 from cst_0 _ _ _ _] at this ⊢
    exact this
  refine q_vret rfl dX7_layFew_83 ?_
  exact ⟨rfl, rfl⟩
theorem sure7_lp {Z : q_Zt} {Y mc mz : Nat} {c s : Nat} {Rl : Nat → Nat → Bool} (hG : GF ad G) (hc : N 77 2 = c) (hc9 : c ≤ 9) (hnx : ∀ g, g < c → N 87 g = mk (fun m => decide (g ≠ m) && Rl g m) c) (h0 : s ≠ 0) (hs : s < 2 ^ c) (hF : ∀ t, t < 2 ^ c → N 88 t = fw Rl c t) (hx : q_R Γ mX7_sure (q_room 6 mc mz) Z 0 0 51 [(0, .ref (ad 77)), (1, .int (nI Y)), (2, .int (nI s)), (3, .int (nI ((amin (fv Rl c s) 1048576 c).2)))] [] (LT ad, N, L, G)) : ∀ i, i ≤ (amin (fv Rl c s) 1048576 c).2 →  q_R Γ mX7_sure (q_room 6 mc mz) Z 0 0 30 [(0, .ref (ad 77)), (1, .int (nI Y)), (2, .int (nI s)), (3, .int (nI i))] [] (LT ad, N, L, G) := by
  refine dn_loop ((amin (fv Rl c s) 1048576 c).2) ?_ ?_
  · skip
    have p9 := p2_9 hc9
    obtain ⟨f1, f2, f3⟩ := mst_first (F := N 88) (Rl := Rl) hc9 h0 hs (fun t ht => hF t (by omega))
    have f4 := hF s hs
    have f5 := fw_le (Rl := Rl) hc9 hs
    have f6 : ∀ t, t < 2 ^ c → N 88 t ≤ 1000 := fun t ht => by rw [hF t ht]; exact Nat.le_trans (fw_le hc9 ht) (by omega)
    refine q_aload_n 31 rfl rfl dX7_sure_30 ?_
    refine q_iload_n 32 rfl rfl dX7_sure_31 ?_
    refine q_iload_n 33 rfl rfl dX7_sure_32 ?_
    refine q_cV2 36 rfl lX7_239 (k_mostBy (Rl := Rl) hG hc9 hnx (by omega) hs (f6 _ prt_lt) (f6 _ prt_lt)) rfl 77 t_77 rfl rfl rfl dX7_sure_33 ?_
    refine q_aload_n 37 rfl rfl dX7_sure_36 ?_
    refine q_getR 40 rfl fX7_40 rfl 77 t_77 (g_77_21 hG) dX7_sure_37 ?_
    refine q_iload_n 41 rfl rfl dX7_sure_40 ?_
    refine q_iald 42 rfl 88 t_88 (by omega) (by decide) dX7_sure_41 ?_
    refine q_icmp_eq 45 rfl 51 (by decide) (by omega) (by omega) dX7_sure_42 (fun h42 => ?_) (fun h42 => ?_)
    · exact q_loc hx (q_sub1 rfl (q_sub1 rfl (q_sub1 rfl (q_sub1 rfl q_sub0))))
    · exfalso; omega
  · intro i h_i ih 
    have p9 := p2_9 hc9
    obtain ⟨f1, f2, f3⟩ := mst_first (F := N 88) (Rl := Rl) hc9 h0 hs (fun t ht => hF t (by omega))
    have f4 := hF s hs
    have f5 := fw_le (Rl := Rl) hc9 hs
    have f6 : ∀ t, t < 2 ^ c → N 88 t ≤ 1000 := fun t ht => by rw [hF t ht]; exact Nat.le_trans (fw_le hc9 ht) (by omega)
    have f7 := f3 i h_i
    have f8 := mst_fv (F := N 88) (Rl := Rl) (s := s) (g := i) hc9 (fun t ht => hF t (by omega))
    refine q_aload_n 31 rfl rfl dX7_sure_30 ?_
    refine q_iload_n 32 rfl rfl dX7_sure_31 ?_
    refine q_iload_n 33 rfl rfl dX7_sure_32 ?_
    refine q_cV2 36 rfl lX7_239 (k_mostBy (Rl := Rl) hG hc9 hnx (by omega) hs (f6 _ prt_lt) (f6 _ prt_lt)) rfl 77 t_77 rfl rfl rfl dX7_sure_33 ?_
    refine q_aload_n 37 rfl rfl dX7_sure_36 ?_
    refine q_getR 40 rfl fX7_40 rfl 77 t_77 (g_77_21 hG) dX7_sure_37 ?_
    refine q_iload_n 41 rfl rfl dX7_sure_40 ?_
    refine q_iald 42 rfl 88 t_88 (by omega) (by decide) dX7_sure_41 ?_
    refine q_icmp_eq 45 rfl 51 (by decide) (by omega) (by omega) dX7_sure_42 (fun h42 => ?_) (fun h42 => ?_)
    · exfalso; omega
    · refine q_iinc1 48 rfl 1 k_i1 rfl (by decide) dX7_sure_45 ?_
      refine q_goto 30 (by decide) dX7_sure_48 ?_
      refine q_loc (ih) (q_sub1 rfl (q_sub1 rfl (q_sub1 rfl (q_sub1 rfl q_sub0))))
theorem Sc.few {N : Nat → Nat → Nat} {c : Nat} {g : Nat → Nat} {i : Nat} : Sc N (fil (now7 N c) 88 g i) := fun a h1 h2 _ _ => (fil_ne h2).trans (now7_ne h1)
theorem k_sure7 {Y : Nat} {c : Nat} (hG : GF ad G) (hM : MS N c) (hY : Y < 4294967296) : q_Con Γ mX7_sure 6 0 0 [.ref (ad 77), .int (nI Y)] (LT ad, N, L, G) (q_sc ad N G (.int (nI (srv (R7 N) c Y (can7 N c (R7 N) (N 78 40)))))) := by
  obtain ⟨hc, hc9, hb, hl, hs, hk, hms, hpr, hg9, hh, hgn, hga, hod, ho1⟩ := id hM
  have p9 := p2_9 hc9
  have hcl : can7 N c (R7 N) (N 78 40) < 512 := can_lt hc9
  have hcc : can7 N c (R7 N) (N 78 40) < 2 ^ c := mk_lt _ c
  generalize hsd : can7 N c (R7 N) (N 78 40) = s at *
  have f4 : fil (now7 N c) 88 (fw (R7 N) c) (2 ^ c) 88 s = fw (R7 N) c s := fil_lt hcc
  refine q_con (by decide) rfl rfl (Nat.le_of_ble_eq_true rfl) ?_
  refine q_iload_n 1 rfl rfl dX7_sure_0 ?_
  refine q_i2l 2 rfl dX7_sure_1 ?_
  refine q_lconst 3 rfl 0 lN0 dX7_sure_2 ?_
  refine q_lconst 4 rfl 1 lN1 dX7_sure_3 ?_
  refine q_cS3 7 rfl lX7_68 (k_in hY (by omega) (by omega) rfl (by omega) (by omega)) rfl rfl rfl dX7_sure_4 ?_
  refine q_if_neD 10 rfl 12 (by decide) dX7_sure_7 (fun h7 => ?_) (fun h7 => ?_)
  · refine q_aload_n 13 rfl rfl dX7_sure_12 ?_
    refine q_cV0 16 rfl lX7_221 (by have := k_canNow (Γ := Γ) (L := L) hG hM; rw [hsd] at this; exact this) rfl 77 t_77 rfl rfl rfl dX7_sure_13 ?_
    refine q_istore_n 17 rfl (by decide) dX7_sure_16 ?_
    refine q_iload_n 18 rfl rfl dX7_sure_17 ?_
    refine q_if_ne 21 rfl 24 (by decide) (by omega) dX7_sure_18 (fun h18 => ?_) (fun h18 => ?_)
    · refine q_aload_n 25 rfl rfl dX7_sure_24 ?_
      refine q_cV0v 28 rfl lX7_246 (k_layFew (N := now7 N c) (Rl := R7 N) hG hc hc9 (fun g hg => now7_87 hg)) rfl 77 t_77 rfl rfl rfl dX7_sure_25 ?_
      refine q_iconst 29 rfl 0 k_i0 dX7_sure_28 ?_
      refine q_istore_n 30 rfl (by decide) dX7_sure_29 ?_
      refine q_loc (sure7_lp (N := fil (now7 N c) 88 (fw (R7 N) c) (2 ^ c)) (Rl := R7 N) hG hc hc9 (fun g hg => now7_87 hg) (by assumption) hcc (fun t ht => fil_lt ht) ?_ 0 (by omega)) (q_sub1 rfl (q_sub1 rfl (q_sub1 rfl (q_sub1 rfl q_sub0))))
      refine q_iload_n 52 rfl rfl dX7_sure_51 ?_
      refine q_if_ne 55 rfl 64 (by decide) (by omega) dX7_sure_52 (fun h52 => ?_) (fun h52 => ?_)
      · refine q_iload_n 65 rfl rfl dX7_sure_64 ?_
        refine q_iret rfl dX7_sure_65 ?_
        first
          | (refine ⟨?_, _, _, rfl, Sc.rf⟩; rw [srv, if_neg (by omega)]; done)
          | (refine ⟨?_, _, _, rfl, Sc.now⟩; rw [srv, if_pos (by omega), if_pos (by assumption)]; done)
          | (refine ⟨?_, _, _, rfl, Sc.few⟩; rw [srv, if_pos (by omega), if_neg (by assumption), if_pos (by assumption), f4]; done)
          | (refine ⟨?_, _, _, rfl, Sc.few⟩; rw [srv, if_pos (by omega), if_neg (by assumption), if_neg (by assumption)])
      · refine q_aload_n 56 rfl rfl dX7_sure_55 ?_
        refine q_getR 59 rfl fX7_40 rfl 77 t_77 (g_77_21 hG) dX7_sure_56 ?_
        refine q_iload_n 60 rfl rfl dX7_sure_59 ?_
        refine q_iald 61 rfl 88 t_88 (by omega) (by decide) dX7_sure_60 ?_
        refine q_goto 65 (by decide) dX7_sure_61 ?_
        refine q_iret rfl dX7_sure_65 ?_
        first
          | (refine ⟨?_, _, _, rfl, Sc.rf⟩; rw [srv, if_neg (by omega)]; done)
          | (refine ⟨?_, _, _, rfl, Sc.now⟩; rw [srv, if_pos (by omega), if_pos (by assumption)]; done)
          | (refine ⟨?_, _, _, rfl, Sc.few⟩; rw [srv, if_pos (by omega), if_neg (by assumption), if_pos (by assumption), f4]; done)
          | (refine ⟨?_, _, _, rfl, Sc.few⟩; rw [srv, if_pos (by omega), if_neg (by assumption), if_neg (by assumption)])
    · refine q_bipush 23 rfl 4294967294 k_bm2 dX7_sure_21 ?_
      refine q_iret rfl dX7_sure_23 ?_
      first
        | (refine ⟨?_, _, _, rfl, Sc.rf⟩; rw [srv, if_neg (by omega)]; done)
        | (refine ⟨?_, _, _, rfl, Sc.now⟩; rw [srv, if_pos (by omega), if_pos (by assumption)]; done)
        | (refine ⟨?_, _, _, rfl, Sc.few⟩; rw [srv, if_pos (by omega), if_neg (by assumption), if_pos (by assumption), f4]; done)
        | (refine ⟨?_, _, _, rfl, Sc.few⟩; rw [srv, if_pos (by omega), if_neg (by assumption), if_neg (by assumption)])
  · refine q_iconst 11 rfl 4294967295 k_im1 dX7_sure_10 ?_
    refine q_iret rfl dX7_sure_11 ?_
    first
      | (refine ⟨?_, _, _, rfl, Sc.rf⟩; rw [srv, if_neg (by omega)]; done)
      | (refine ⟨?_, _, _, rfl, Sc.now⟩; rw [srv, if_pos (by omega), if_pos (by assumption)]; done)
      | (refine ⟨?_, _, _, rfl, Sc.few⟩; rw [srv, if_pos (by omega), if_neg (by assumption), if_pos (by assumption), f4]; done)
      | (refine ⟨?_, _, _, rfl, Sc.few⟩; rw [srv, if_pos (by omega), if_neg (by assumption), if_neg (by assumption)])
abbrev lw7 (f : Nat → Nat) (c law : Nat) : Nat := fw (nr7 (law / 10) (law % 10) f) c (2 ^ c - 1)
theorem k_surelyBy {c law : Nat} (hG : GF ad G) (hc : N 77 2 = c) (hc9 : c ≤ 9) (hb : ∀ i, i < 81 → N 79 i < 26) (hl : ∀ n, n < 9 → N 79 (9 * n) ≤ 8) (h1 : law < 50) (h2 : law % 10 ≤ 8) : q_Con Γ mX7_surelyBy 4 0 0 [.ref (ad 77), .int (nI law)] (LT ad, N, L, G) (fun v h => v = some (.int (nI (lw7 (N 79) c law))) ∧ ∃ N', h = (LT ad, N', L, G) ∧ Sc N N') := by
  have p9 := p2_9 hc9
  have p1 := Nat.two_pow_pos c
  have p3 : 1 * 2 ^ (N 77 2) = 2 ^ c := by rw [hc, Nat.one_mul]
  refine q_con (by decide) rfl rfl (Nat.le_of_ble_eq_true rfl) ?_
  refine q_aload_n 1 rfl rfl dX7_surelyBy_0 ?_
  refine q_iload_n 2 rfl rfl dX7_surelyBy_1 ?_
  refine q_bipush 4 rfl 10 k_b10 dX7_surelyBy_2 ?_
  refine q_idiv 5 rfl (by omega) (by omega) (by omega) dX7_surelyBy_4 ?_
  refine q_iload_n 6 rfl rfl dX7_surelyBy_5 ?_
  refine q_bipush 8 rfl 10 k_b10 dX7_surelyBy_6 ?_
  refine q_irem 9 rfl (by omega) (by omega) (by omega) dX7_surelyBy_8 ?_
  refine q_cV2v 12 rfl lX7_201 (k_layNear hG hc hc9 (by omega) h2 hb hl) rfl 77 t_77 rfl rfl rfl dX7_surelyBy_9 ?_
  refine q_aload_n 13 rfl rfl dX7_surelyBy_12 ?_
  refine q_cV0v 16 rfl lX7_246 (k_layFew (N := lay7 N (law / 10) (law % 10) c) (Rl := nr7 (law / 10) (law % 10) (N 79)) hG hc hc9 (fun g hg => by simp only [lay7, q_r_at]; rw [if_pos hg])) rfl 77 t_77 rfl rfl rfl dX7_surelyBy_13 ?_
  refine q_aload_n 17 rfl rfl dX7_surelyBy_16 ?_
  refine q_getR 20 rfl fX7_40 rfl 77 t_77 (g_77_21 hG) dX7_surelyBy_17 ?_
  refine q_iconst 21 rfl 1 k_i1 dX7_surelyBy_20 ?_
  refine q_aload_n 22 rfl rfl dX7_surelyBy_21 ?_
  refine q_getI 25 rfl fX7_155 rfl 77 t_77 dX7_surelyBy_22 ?_
  refine q_ishl 26 rfl (by show N 77 2 < 32; omega) dX7_surelyBy_25 ?_
  rw [show fil (lay7 N (law / 10) (law % 10) c) 88 (fw (nr7 (law / 10) (law % 10) (N 79)) c) (2 ^ c) 77 2 = N 77 2 from rfl, p3]
  refine q_iconst 27 rfl 1 k_i1 dX7_surelyBy_26 ?_
  refine q_isub 28 rfl (by omega) dX7_surelyBy_27 ?_
  refine q_iald 29 rfl 88 t_88 (by omega) (by decide) dX7_surelyBy_28 ?_
  refine q_iret rfl dX7_surelyBy_29 ?_
  exact ⟨by rw [fil_lt (by omega)], _, rfl, fun a h1 h2 _ _ => (fil_ne h2).trans (q_r_ne h1)⟩
end
