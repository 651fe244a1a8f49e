def trv (Rl : Nat → Nat → Bool) (a b d n : Nat) : Nat := aof Rl a n * 9 + aof Rl b n * 3 + aof Rl d n
theorem trv_lt {Rl : Nat → Nat → Bool} {a b d n : Nat} : trv Rl a b d n < 27 := by
  have h1 := aof_le (Rl := Rl) (g := a) (n := n)
  have h2 := aof_le (Rl := Rl) (g := b) (n := n)
  have h3 := aof_le (Rl := Rl) (g := d) (n := n)
  unfold trv; omega
theorem trv_eq {Rl : Nat → Nat → Bool} {a b d n x : Nat} : trv Rl a b d n = trv Rl a b d x ↔ aof Rl a n = aof Rl a x ∧ aof Rl b n = aof Rl b x ∧ aof Rl d n = aof Rl d x := by
  have h1 := aof_le (Rl := Rl) (g := a) (n := n)
  have h2 := aof_le (Rl := Rl) (g := b) (n := n)
  have h3 := aof_le (Rl := Rl) (g := d) (n := n)
  have k1 := aof_le (Rl := Rl) (g := a) (n := x)
  have k2 := aof_le (Rl := Rl) (g := b) (n := x)
  have k3 := aof_le (Rl := Rl) (g := d) (n := x)
  unfold trv; omega
def G3 (Rl : Nat → Nat → Bool) (c s a b d : Nat) : Nat := gm c s (fun n x => decide (trv Rl a b d n = trv Rl a b d x))
theorem G3_le {Rl : Nat → Nat → Bool} {c s a b d : Nat} : G3 Rl c s a b d ≤ c := gm_le
theorem G3_perm {Rl : Nat → Nat → Bool} {c s a b d p q r : Nat} (h : ∀ n x, (aof Rl a n = aof Rl a x ∧ aof Rl b n = aof Rl b x ∧ aof Rl d n = aof Rl d x) ↔ (aof Rl p n = aof Rl p x ∧ aof Rl q n = aof Rl q x ∧ aof Rl r n = aof Rl r x)) : G3 Rl c s a b d = G3 Rl c s p q r :=
  gm_congr (fun n x _ _ => decide_eq_decide.mpr (trv_eq.trans ((h n x).trans trv_eq.symm)))
/-- weigh(): the counts of the answers of those below i; the greatest so far -/
def cw (v : Nat → Nat) (s i k : Nat) : Nat := cnt (fun n => s.testBit n && decide (v n = k)) i
def mg (v : Nat → Nat) (s : Nat) : Nat → Nat
  | 0 => 0
  | i + 1 => if s.testBit i = true then max (mg v s i) (cw v s (i + 1) (v i)) else mg v s i
theorem cw_s1 {v : Nat → Nat} {s i : Nat} (h : s.testBit i = true) : cw v s (i + 1) (v i) = cw v s i (v i) + 1 := by
  simp [cw, cnt, h]
theorem cw_sn {v : Nat → Nat} {s i k : Nat} (h : k ≠ v i) : cw v s (i + 1) k = cw v s i k := by
  have : ¬ v i = k := fun e => h e.symm
  simp [cw, cnt, this]
theorem cw_s0 {v : Nat → Nat} {s i : Nat} (h : s.testBit i = false) (k : Nat) : cw v s (i + 1) k = cw v s i k := by
  simp [cw, cnt, h]
theorem cw_le (v : Nat → Nat) (s i k : Nat) : cw v s i k ≤ i := cnt_le _ _
theorem cw_mono {v : Nat → Nat} {s i k : Nat} : cw v s i k ≤ cw v s (i + 1) k := Nat.le_add_right _ _
theorem mg_ge {v : Nat → Nat} {s : Nat} : ∀ i k, cw v s i k ≤ mg v s i := by
  intro i
  induction i with
  | zero => intro k; exact Nat.zero_le _
  | succ i ih =>
    intro k
    simp only [mg]
    cases hb : s.testBit i with
    | true =>
      rw [if_pos rfl]
      by_cases e : k = v i
      · rw [e]; exact Nat.le_max_right _ _
      · rw [cw_sn e]; exact Nat.le_trans (ih k) (Nat.le_max_left _ _)
    | false => rw [if_neg (by decide), cw_s0 hb]; exact ih k
theorem mg_le {v : Nat → Nat} {s : Nat} (hv : ∀ n, v n < 27) : ∀ i, mg v s i ≤ mxf (cw v s i) 27 := by
  intro i
  induction i with
  | zero => exact Nat.zero_le _
  | succ i ih =>
    have h1 : mxf (cw v s i) 27 ≤ mxf (cw v s (i + 1)) 27 := mxf_lb (fun k hk => Nat.le_trans cw_mono (mxf_at hk))
    simp only [mg]
    split
    · exact Nat.max_le.mpr ⟨Nat.le_trans ih h1, mxf_at (hv i)⟩
    · exact Nat.le_trans ih h1
theorem mg_9 {v : Nat → Nat} {s : Nat} (hv : ∀ n, v n < 27) (i : Nat) : mg v s i ≤ i := Nat.le_trans (mg_le hv i) (mxf_le (fun k => cw_le v s i k) 27)
theorem mg_G3 {Rl : Nat → Nat → Bool} {c s a b d : Nat} : mg (trv Rl a b d) s c = G3 Rl c s a b d := by
  rw [G3, ← gm_codes (f := cw (trv Rl a b d) s c) (v := trv Rl a b d) (K := 27) (fun _ _ _ _ => rfl) (fun _ _ => trv_lt) (fun _ _ => rfl)]
  exact Nat.le_antisymm (mg_le (fun _ => trv_lt) c) (mxf_le (fun k => mg_ge c k) 27)
theorem fil_upd {α : Type} {N : Nat → Nat → α} {r k j : Nat} {g g' : Nat → α} {x : α} (hj : j < k) (h1 : g' j = x) (h2 : ∀ m, m ≠ j → g' m = g m) : q_s (fil N r g k) r j x = fil N r g' k := by
  funext a b
  simp only [fil, q_s, q_r]
  by_cases ha : a = r
  · simp only [ha, if_true]
    by_cases hb : b = j
    · subst hb; rw [if_pos rfl, if_pos hj, h1]
    · rw [if_neg hb]
      by_cases hk : b < k
      · rw [if_pos hk, if_pos hk, h2 b hb]
      · rw [if_neg hk, if_neg hk]
  · simp [ha]
theorem anS_aof2 {f : Nat → Nat} {c : Nat} {Rl : Nat → Nat → Bool} {g n : Nat} (h : f g = mk (Rl g) c) (hn : n < c) : anS (f g) g n = aof Rl g n := by
  unfold anS aof
  by_cases e : g = n
  · rw [if_pos e, if_pos e.symm]
  · rw [if_neg e, if_neg (fun q => e q.symm), h, mk_bit, decide_eq_true hn, Bool.true_and]
    cases Rl g n <;> rfl
/-- what weigh() does -/
def wgh (N : Nat → Nat → Nat) (Rl : Nat → Nat → Bool) (c s a b d : Nat) : Nat → Nat → Nat := if G3 Rl c s a b d < N 45 2 then q_s (q_s (q_s (q_s (fil N 47 (cw (trv Rl a b d) s c) 27) 45 2 (G3 Rl c s a b d)) 46 0 a) 46 1 b) 46 2 d else fil N 47 (cw (trv Rl a b d) s c) 27
section
variable {Γ : q_G} {ad : Nat → Nat} {N : Nat → Nat → Nat} {L : Nat → Nat → Int} {G : Nat → Nat → Option Nat}
theorem weigh3_lp {Z : q_Zt} {mc mz : Nat} {c s a b d : Nat} {Rl : Nat → Nat → Bool} (hG : GF ad G) (hc9 : c ≤ 9) (hs : s < 2 ^ c) (hr : ∀ g, g < c → N 36 g = mk (Rl g) c) (ha : a < c) (hb : b < c) (hd : d < c) (hx : q_R Γ mX3_weigh (q_room 2 mc mz) Z 0 0 102 [(0, .ref (ad 45)), (4, .int (nI a)), (5, .int (nI b)), (6, .int (nI d)), (7, .int (nI (mg (trv Rl a b d) s (c))))] [] (LT ad, (fil N 47 (cw (trv Rl a b d) s (c)) 27), L, G)) : ∀ i, i ≤ c →  ∀ H : Nat → Nat → Nat, H = fil N 47 (cw (trv Rl a b d) s i) 27 → ∀ g : Nat, g = mg (trv Rl a b d) s i → q_R Γ mX3_weigh (q_room 2 mc mz) Z 0 0 14 [(0, .ref (ad 45)), (1, .ref (ad 36)), (2, .int (nI c)), (3, .int (nI s)), (4, .int (nI a)), (5, .int (nI b)), (6, .int (nI d)), (7, .int (nI g)), (8, .int (nI i))] [] (LT ad, H, L, G) := by
  refine dn_loop (c) ?_ ?_
  · intro H h_H g h_g
    refine q_iload 16 rfl rfl dX3_weigh_14 ?_
    refine q_iload_n 17 rfl rfl dX3_weigh_16 ?_
    refine q_icmp_ge 20 rfl 102 (by decide) (by omega) (by omega) dX3_weigh_17 (fun h17 => ?_) (fun h17 => ?_)
    · subst h_H
      subst h_g
      exact q_loc hx (q_sub1 rfl (q_sub1 rfl (q_sub1 rfl (q_sub1 rfl (q_sub1 rfl q_sub0)))))
    · exfalso; omega
  · intro i h_i ih H h_H g h_g
    have p9 := p2_9 hc9
    have e36 : H 36 = N 36 := by rw [h_H]; exact fil_ne (by omega)
    have ea := anS_aof2 (hr a ha) h_i
    have eb := anS_aof2 (hr b hb) h_i
    have ed := anS_aof2 (hr d hd) h_i
    have la := mk_lt (Rl a) c
    have lb := mk_lt (Rl b) c
    have ld := mk_lt (Rl d) c
    rw [← hr a ha] at la
    rw [← hr b hb] at lb
    rw [← hr d hd] at ld
    have vt := trv_lt (Rl := Rl) (a := a) (b := b) (d := d) (n := i)
    have e47 : H 47 (trv Rl a b d i) = cw (trv Rl a b d) s i (trv Rl a b d i) := by rw [h_H]; exact fil_lt vt
    have c9 := cw_le (trv Rl a b d) s i (trv Rl a b d i)
    have g9 := mg_9 (v := trv Rl a b d) (s := s) (fun _ => trv_lt) i
    refine q_iload 16 rfl rfl dX3_weigh_14 ?_
    refine q_iload_n 17 rfl rfl dX3_weigh_16 ?_
    refine q_icmp_ge 20 rfl 102 (by decide) (by omega) (by omega) dX3_weigh_17 (fun h17 => ?_) (fun h17 => ?_)
    · exfalso; omega
    · refine q_iload_n 21 rfl rfl dX3_weigh_20 ?_
      refine q_iload 23 rfl rfl dX3_weigh_21 ?_
      refine q_cS2 26 rfl lX3_32 (k_has (by omega) (by omega)) rfl rfl rfl dX3_weigh_23 ?_
      refine q_if_eqB 29 rfl 96 (by decide) dX3_weigh_26 (fun h26 => ?_) (fun h26 => ?_)
      · refine q_iinc1 99 rfl 1 k_i1 rfl (by decide) dX3_weigh_96 ?_
        refine q_goto 14 (by decide) dX3_weigh_99 ?_
        refine q_loc (ih _ ?_ _ ?_) (q_sub1 rfl (q_sub1 rfl (q_sub1 rfl (q_sub1 rfl (q_sub1 rfl (q_sub1 rfl (q_sub1 rfl (q_sub1 rfl (q_sub1 rfl q_sub0)))))))))
        · first
            | (rw [h_H]; exact congrArg (fun z => fil N 47 z 27) (funext (fun k => (cw_s0 h26 k).symm)))
            | (rw [e47, h_H]; exact fil_upd vt (cw_s1 h26) (fun k hk => cw_sn hk))
        · first
            | (rw [h_g, mg, h26, if_neg (by decide)]; done)
            | (rw [e47, h_g, mg, if_pos h26, cw_s1 h26])
      · refine q_aload_n 30 rfl rfl dX3_weigh_29 ?_
        refine q_iload 32 rfl rfl dX3_weigh_30 ?_
        refine q_iald 33 rfl 36 t_36 (by omega) (by decide) dX3_weigh_32 ?_
        rw [e36]
        refine q_iload 35 rfl rfl dX3_weigh_33 ?_
        refine q_iload 37 rfl rfl dX3_weigh_35 ?_
        refine q_cS3 40 rfl lX3_36 (k_answer (by omega) (by omega) (by omega)) rfl rfl rfl dX3_weigh_37 ?_
        first
          | rw [ea]
          | rw [eb]
          | rw [ed]
        refine q_bipush 42 rfl 9 k_b9 dX3_weigh_40 ?_
        refine q_imul 43 rfl dX3_weigh_42 ?_
        refine q_aload_n 44 rfl rfl dX3_weigh_43 ?_
        refine q_iload 46 rfl rfl dX3_weigh_44 ?_
        refine q_iald 47 rfl 36 t_36 (by omega) (by decide) dX3_weigh_46 ?_
        rw [e36]
        refine q_iload 49 rfl rfl dX3_weigh_47 ?_
        refine q_iload 51 rfl rfl dX3_weigh_49 ?_
        refine q_cS3 54 rfl lX3_36 (k_answer (by omega) (by omega) (by omega)) rfl rfl rfl dX3_weigh_51 ?_
        first
          | rw [ea]
          | rw [eb]
          | rw [ed]
        refine q_iconst 55 rfl 3 k_i3 dX3_weigh_54 ?_
        refine q_imul 56 rfl dX3_weigh_55 ?_
        refine q_iadd 57 rfl dX3_weigh_56 ?_
        refine q_aload_n 58 rfl rfl dX3_weigh_57 ?_
        refine q_iload 60 rfl rfl dX3_weigh_58 ?_
        refine q_iald 61 rfl 36 t_36 (by omega) (by decide) dX3_weigh_60 ?_
        rw [e36]
        refine q_iload 63 rfl rfl dX3_weigh_61 ?_
        refine q_iload 65 rfl rfl dX3_weigh_63 ?_
        refine q_cS3 68 rfl lX3_36 (k_answer (by omega) (by omega) (by omega)) rfl rfl rfl dX3_weigh_65 ?_
        first
          | rw [ea]
          | rw [eb]
          | rw [ed]
        refine q_iadd 69 rfl dX3_weigh_68 ?_
        rw [show aof Rl a i * 9 + aof Rl b i * 3 + aof Rl d i = trv Rl a b d i from rfl]
        refine q_istore 71 rfl (by decide) dX3_weigh_69 ?_
        refine q_aload_n 72 rfl rfl dX3_weigh_71 ?_
        refine q_getR 75 rfl fX3_15 rfl 45 t_45 (g_45_1 hG) dX3_weigh_72 ?_
        refine q_iload 77 rfl rfl dX3_weigh_75 ?_
        refine q_dup2 78 rfl rfl rfl dX3_weigh_77 ?_
        refine q_iald 79 rfl 47 t_47 (by omega) (by decide) dX3_weigh_78 ?_
        refine q_iconst 80 rfl 1 k_i1 dX3_weigh_79 ?_
        refine q_iadd 81 rfl dX3_weigh_80 ?_
        refine q_iast 82 rfl 47 t_47 (by omega) (by decide) dX3_weigh_81 ?_
        refine q_iload 84 rfl rfl dX3_weigh_82 ?_
        refine q_aload_n 85 rfl rfl dX3_weigh_84 ?_
        refine q_getR 88 rfl fX3_15 rfl 45 t_45 (g_45_1 hG) dX3_weigh_85 ?_
        refine q_iload 90 rfl rfl dX3_weigh_88 ?_
        refine q_iald 91 rfl 47 t_47 (by omega) (by decide) dX3_weigh_90 ?_
        rw [q_s_at]
        refine q_mmax 94 rfl (by omega) (by omega) lmX3_40 (by first | decide | exact Nat.le_of_ble_eq_true rfl) (Nat.le_of_ble_eq_true rfl) (by first | decide | exact Nat.zero_le _) (by first | decide | exact Nat.zero_le _) dX3_weigh_91 ?_
        refine q_istore 96 rfl (by decide) dX3_weigh_94 ?_
        refine q_iinc1 99 rfl 1 k_i1 rfl (by decide) dX3_weigh_96 ?_
        refine q_goto 14 (by decide) dX3_weigh_99 ?_
        refine q_loc (ih _ ?_ _ ?_) (q_sub1 rfl (q_sub1 rfl (q_sub1 rfl (q_sub1 rfl (q_sub1 rfl (q_sub1 rfl (q_sub1 rfl (q_sub1 rfl (q_sub1 rfl q_sub0)))))))))
        · first
            | (rw [h_H]; exact congrArg (fun z => fil N 47 z 27) (funext (fun k => (cw_s0 h26 k).symm)))
            | (rw [e47, h_H]; exact fil_upd vt (cw_s1 h26) (fun k hk => cw_sn hk))
        · first
            | (rw [h_g, mg, h26, if_neg (by decide)]; done)
            | (rw [e47, h_g, mg, if_pos h26, cw_s1 h26])
theorem k_weigh3 {c s a b d : Nat} {Rl : Nat → Nat → Bool} (hG : GF ad G) (hc9 : c ≤ 9) (hs : s < 2 ^ c) (hr : ∀ g, g < c → N 36 g = mk (Rl g) c) (ha : a < c) (hb : b < c) (hd : d < c) (hl : N 45 2 ≤ 10) : q_Con Γ mX3_weigh 2 0 0 [.ref (ad 45), .ref (ad 36), .int (nI c), .int (nI s), .int (nI a), .int (nI b), .int (nI d)] (LT ad, N, L, G) (q_is none (LT ad, wgh N Rl c s a b d, L, G)) := by
  have p9 := p2_9 hc9
  have g9 := G3_le (Rl := Rl) (c := c) (s := s) (a := a) (b := b) (d := d)
  have e0 : fil N 47 (cw (trv Rl a b d) s 0) 27 = q_r N 47 (fun j => if j < 27 then 0 else N 47 j) := rfl
  have e45 : fil N 47 (cw (trv Rl a b d) s c) 27 45 2 = N 45 2 := by rw [fil_ne (by omega)]
  refine q_con (by decide) rfl rfl (Nat.le_of_ble_eq_true rfl) ?_
  refine q_aload_n 1 rfl rfl dX3_weigh_0 ?_
  refine q_getR 4 rfl fX3_15 rfl 45 t_45 (g_45_1 hG) dX3_weigh_1 ?_
  refine q_iconst 5 rfl 0 k_i0 dX3_weigh_4 ?_
  refine q_cS2v 8 rfl lX3_26 (k_fill t_47 (by decide)) rfl rfl rfl dX3_weigh_5 ?_
  rw [← e0]
  refine q_iconst 9 rfl 0 k_i0 dX3_weigh_8 ?_
  refine q_istore 11 rfl (by decide) dX3_weigh_9 ?_
  refine q_iconst 12 rfl 0 k_i0 dX3_weigh_11 ?_
  refine q_istore 14 rfl (by decide) dX3_weigh_12 ?_
  refine q_loc (weigh3_lp (N := N) (Rl := Rl) hG hc9 hs hr ha hb hd ?_ 0 (by omega) _ rfl _ rfl) (q_sub1 rfl (q_sub1 rfl (q_sub1 rfl (q_sub1 rfl (q_sub1 rfl (q_sub1 rfl (q_sub1 rfl (q_sub1 rfl (q_sub1 rfl q_sub0)))))))))
  rw [mg_G3]
  refine q_iload 104 rfl rfl dX3_weigh_102 ?_
  refine q_aload_n 105 rfl rfl dX3_weigh_104 ?_
  refine q_getI 108 rfl fX3_18 rfl 45 t_45 dX3_weigh_105 ?_
  refine q_icmp_ge 111 rfl 141 (by decide) (by omega) (by omega) dX3_weigh_108 (fun h108 => ?_) (fun h108 => ?_)
  · refine q_vret rfl dX3_weigh_141 ?_
    first
      | (rw [wgh, if_pos (by omega)]; exact ⟨rfl, rfl⟩)
      | (rw [wgh, if_neg (by omega)]; exact ⟨rfl, rfl⟩)
  · refine q_aload_n 112 rfl rfl dX3_weigh_111 ?_
    refine q_iload 114 rfl rfl dX3_weigh_112 ?_
    refine q_putI 117 rfl pX3_18 (fun q => by cases q) rfl 45 t_45 dX3_weigh_114 ?_
    refine q_aload_n 118 rfl rfl dX3_weigh_117 ?_
    refine q_getR 121 rfl fX3_9 rfl 45 t_45 (g_45_0 hG) dX3_weigh_118 ?_
    refine q_iconst 122 rfl 0 k_i0 dX3_weigh_121 ?_
    refine q_iload 124 rfl rfl dX3_weigh_122 ?_
    refine q_iast 125 rfl 46 t_46 (by omega) (by decide) dX3_weigh_124 ?_
    refine q_aload_n 126 rfl rfl dX3_weigh_125 ?_
    refine q_getR 129 rfl fX3_9 rfl 45 t_45 (g_45_0 hG) dX3_weigh_126 ?_
    refine q_iconst 130 rfl 1 k_i1 dX3_weigh_129 ?_
    refine q_iload 132 rfl rfl dX3_weigh_130 ?_
    refine q_iast 133 rfl 46 t_46 (by omega) (by decide) dX3_weigh_132 ?_
    refine q_aload_n 134 rfl rfl dX3_weigh_133 ?_
    refine q_getR 137 rfl fX3_9 rfl 45 t_45 (g_45_0 hG) dX3_weigh_134 ?_
    refine q_iconst 138 rfl 2 k_i2 dX3_weigh_137 ?_
    refine q_iload 140 rfl rfl dX3_weigh_138 ?_
    refine q_iast 141 rfl 46 t_46 (by omega) (by decide) dX3_weigh_140 ?_
    refine q_vret rfl dX3_weigh_141 ?_
    first
      | (rw [wgh, if_pos (by omega)]; exact ⟨rfl, rfl⟩)
      | (rw [wgh, if_neg (by omega)]; exact ⟨rfl, rfl⟩)
end
