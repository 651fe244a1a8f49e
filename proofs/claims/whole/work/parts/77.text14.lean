def EX7 (N R : Nat → Nat → Nat) (f : Nat) : Prop := (∀ a, a ≠ 77 → a ≠ 81 → a ≠ 82 → a ≠ 83 → R a = N a) ∧ (R 77 2 = N 77 2 ∧ R 77 29 = N 77 29) ∧ R 77 10 = 0 ∧ R 77 11 = f ∧ MB R
def OX7 (N R S : Nat → Nat → Nat) : Prop := (∀ a, a ≠ 77 → a ≠ 78 → a ≠ 79 → a ≠ 80 → a ≠ 81 → a ≠ 82 → a ≠ 83 → a ≠ 92 → R a = N a) ∧ R 77 29 = N 77 29 ∧ R 77 10 = 0 ∧ R 77 11 = 0 ∧ R 77 2 = S 0 0 ∧ MB R ∧ (∃ K, MR S K ∧ MB K ∧ (∀ i, i < 60 → R 78 i = K 81 i) ∧ (∀ i, 60 ≤ i → R 78 i = N 78 i) ∧ (∀ i, i < 81 → R 79 i = K 82 i) ∧ (∀ i, i < 9 → R 80 i = K 83 i)) ∧ R 92 0 = 0 ∧ R 92 1 = 0
def TQ7 (ad : Nat → Nat) (L : Nat → Nat → Int) (G : Nat → Nat → Option Nat) (N : Nat → Nat → Nat) (r : Nat × Nat × (Nat → Nat → Nat) × Nat) : Option Value → q_H → Prop := fun v h => ∃ R, h = (LT ad, R, L, G) ∧ ((r.1 ≠ 0 ∧ v = some (.int (nI (4294967286 - r.2.1))) ∧ EX7 N R r.1) ∨ (r.1 = 0 ∧ v = some (.int (nI r.2.2.2)) ∧ OX7 N R r.2.2.1))
theorem P7_29 {N : Nat → Nat → Nat} {b ba sp he tk vl : Nat} : P7 N b ba sp he tk vl 77 29 = N 77 29 := rfl
theorem q_s_id {α : Type} {f : Nat → Nat → α} {i j : Nat} {x : α} (h : f i j = x) : q_s f i j x = f := by
  funext a b
  simp only [q_s]
  by_cases h1 : a = i
  · subst h1
    simp only [if_true]
    by_cases h2 : b = j
    · subst h2; rw [if_pos rfl, h]
    · rw [if_neg h2]
  · rw [if_neg h1]
/-- the model's state after i cells of a reading were taken over -/
def cp7 (K : Nat → Nat → Nat) (i : Nat) : Nat → Nat → Nat := fil (fil K 80 (K 83) (min i 9)) 78 (K 81) i
theorem cp7_s {K : Nat → Nat → Nat} {i : Nat} (h : i < 60) : q_s (q_s (cp7 K i) 78 i (K 81 i)) 80 (i % 9) (K 83 (i % 9)) = cp7 K (i + 1) := by
  have e1 : q_s (cp7 K i) 78 i (K 81 i) = fil (fil K 80 (K 83) (min i 9)) 78 (K 81) (i + 1) := fil_s _ _ _ _
  rw [e1]
  by_cases h9 : i < 9
  · have e2 : fil K 80 (K 83) (min (i + 1) 9) = q_s (fil K 80 (K 83) (min i 9)) 80 i (K 83 i) := by
      rw [show min i 9 = i by omega, show min (i + 1) 9 = i + 1 by omega]; exact (fil_s _ _ _ _).symm
    rw [Nat.mod_eq_of_lt h9, cp7, e2]
    funext a b
    by_cases ha : a = 80
    · subst ha
      rw [fil_ne (by omega)]
      by_cases hb : b = i
      · subst hb; rw [q_s_at, q_s_at]
      · rw [q_s_off hb, q_s_off hb, fil_ne (by omega)]
    · rw [q_s_ne ha]
      by_cases hb : a = 78
      · subst hb; simp only [fil, q_r_at]; rw [q_s_ne (by omega)]
      · rw [fil_ne hb, fil_ne hb, q_s_ne ha]
  · rw [cp7, show min (i + 1) 9 = min i 9 by omega]
    refine q_s_id ?_
    have := Nat.mod_lt i (show 0 < 9 by omega)
    rw [fil_ne (by omega), fil_lt (by omega)]
theorem MR_0 {N : Nat → Nat → Nat} : MR S00 (fil (q_s (q_s (q_s N 77 6 0) 77 8 0) 83 0 0) 81 (fun _ => 0) 60) := by
  have k81 : ∀ j, j < 60 → fil (q_s (q_s (q_s N 77 6 0) 77 8 0) 83 0 0) 81 (fun _ => 0) 60 81 j = 0 := fun j hj => fil_lt hj
  have k8 : fil (q_s (q_s (q_s N 77 6 0) 77 8 0) 83 0 0) 81 (fun _ => 0) 60 77 8 = 0 := by rw [fil_ne (by omega), q_s_ne (by omega), q_s_at]
  refine ⟨rfl, fun n hn => absurd hn (by simp [S00]), fun n hn => ?_, k81 9 (by omega), k81 10 (by omega), k81 21 (by omega), fun n hn => absurd hn (by simp [S00]), rfl, fun n hn => absurd hn (by simp [S00]), ?_, ?_, ?_, fun i hi => ?_, k81 40 (by omega), k81 59 (by omega)⟩
  · rw [k81 n (by omega), if_neg (by simp [S00])]
  · rw [k8]; omega
  · rw [k8]; rfl
  · rw [k8]; rfl
  · rw [k81 i hi]; omega
theorem MB_0 {N : Nat → Nat → Nat} (h : MB N) : MB (fil (q_s (q_s (q_s N 77 6 0) 77 8 0) 83 0 0) 81 (fun _ => 0) 60) := by
  obtain ⟨h1, h2, h3, h4⟩ := h
  have e83 : ∀ j, fil (q_s (q_s (q_s N 77 6 0) 77 8 0) 83 0 0) 81 (fun _ => 0) 60 83 j = if j = 0 then 0 else N 83 j := fun j => by
    rw [fil_ne (by omega)]
    by_cases e : j = 0
    · subst e; rw [q_s_at, if_pos rfl]
    · rw [q_s_off e, if_neg e, q_s_ne (by omega), q_s_ne (by omega)]
  refine ⟨h1, h2, fun i hi => ?_, ?_⟩
  · rw [e83]; split
    · omega
    · exact h3 i hi
  · rw [e83, if_pos rfl]; omega
theorem FR_0 {N : Nat → Nat → Nat} : FR N (fil (q_s (q_s (q_s N 77 6 0) 77 8 0) 83 0 0) 81 (fun _ => 0) 60) := by
  refine ⟨fun a h1 h2 h3 h4 => ?_, fun j h1 h2 => ?_⟩
  · rw [fil_ne h2, q_s_ne h4, q_s_ne h1, q_s_ne h1]
  · rw [fil_ne (by omega), q_s_ne (by omega), q_s_off h2, q_s_off h1]
section
variable {Γ : q_G} {ad : Nat → Nat} {N : Nat → Nat → Nat} {L : Nat → Nat → Int} {G : Nat → Nat → Option Nat}
theorem tz_lp {Z : q_Zt} {mc mz : Nat} {b ba sp he tk vl : Nat} (hG : GF ad G) (hx : q_R Γ mX7_text (q_room 5 mc mz) Z 0 0 50 [(0, .ref (ad 77)), (1, .int (nI 0))] [] (LT ad, (P7 (fil N 81 (fun _ => 0) (60)) b ba sp he tk vl), L, G)) : ∀ i, i ≤ 60 →  ∀ H : Nat → Nat → Nat, H = P7 (fil N 81 (fun _ => 0) i) b ba sp he tk vl → q_R Γ mX7_text (q_room 5 mc mz) Z 0 0 31 [(0, .ref (ad 77)), (1, .int (nI 0)), (2, .int (nI i))] [] (LT ad, H, L, G) := by
  refine dn_loop (60) ?_ ?_
  · intro H h_H
    subst h_H
    refine q_iload_n 32 rfl rfl dX7_text_31 ?_
    refine q_bipush 34 rfl 60 k_b60 dX7_text_32 ?_
    refine q_icmp_ge 37 rfl 50 (by decide) (by omega) (by omega) dX7_text_34 (fun h34 => ?_) (fun h34 => ?_)
    · exact q_loc hx (q_sub1 rfl (q_sub1 rfl q_sub0))
    · exfalso; omega
  · intro i h_i ih H h_H
    subst h_H
    refine q_iload_n 32 rfl rfl dX7_text_31 ?_
    refine q_bipush 34 rfl 60 k_b60 dX7_text_32 ?_
    refine q_icmp_ge 37 rfl 50 (by decide) (by omega) (by omega) dX7_text_34 (fun h34 => ?_) (fun h34 => ?_)
    · exfalso; omega
    · refine q_aload_n 38 rfl rfl dX7_text_37 ?_
      refine q_getR 41 rfl fX7_19 rfl 77 t_77 (g_77_4 hG) dX7_text_38 ?_
      refine q_iload_n 42 rfl rfl dX7_text_41 ?_
      refine q_iconst 43 rfl 0 k_i0 dX7_text_42 ?_
      refine q_iast 44 rfl 81 t_81 (by omega) (by decide) dX7_text_43 ?_
      rw [P7_as (by decide), fil_s]
      refine q_iinc1 47 rfl 1 k_i1 rfl (by decide) dX7_text_44 ?_
      refine q_goto 31 (by decide) dX7_text_47 ?_
      refine q_loc (ih _ ?_) (q_sub1 rfl (q_sub1 rfl (q_sub1 rfl q_sub0)))
      · rfl
theorem tc_lp {Z : q_Zt} {l mc mz : Nat} {b ba sp he tk vl : Nat} (hG : GF ad G) (hx : q_R Γ mX7_text (q_room 5 mc mz) Z 0 0 150 [(0, .ref (ad 77)), (1, .int (nI l))] [] (LT ad, (P7 (cp7 N (60)) b ba sp he tk vl), L, G)) : ∀ i, i ≤ 60 →  ∀ H : Nat → Nat → Nat, H = P7 (cp7 N i) b ba sp he tk vl → q_R Γ mX7_text (q_room 5 mc mz) Z 0 0 108 [(0, .ref (ad 77)), (1, .int (nI l)), (2, .int (nI i))] [] (LT ad, H, L, G) := by
  refine dn_loop (60) ?_ ?_
  · intro H h_H
    subst h_H
    refine q_iload_n 109 rfl rfl dX7_text_108 ?_
    refine q_bipush 111 rfl 60 k_b60 dX7_text_109 ?_
    refine q_icmp_ge 114 rfl 150 (by decide) (by omega) (by omega) dX7_text_111 (fun h111 => ?_) (fun h111 => ?_)
    · exact q_loc hx (q_sub1 rfl (q_sub1 rfl q_sub0))
    · exfalso; omega
  · intro i h_i ih H h_H
    subst h_H
    have e81 : cp7 N i 81 i = N 81 i := by unfold cp7; rw [fil_ne (by omega), fil_ne (by omega)]
    have e83 : q_s (cp7 N i) 78 i (N 81 i) 83 (i % 9) = N 83 (i % 9) := by unfold cp7; rw [q_s_ne (by omega), fil_ne (by omega), fil_ne (by omega)]
    have m9 := Nat.mod_lt i (show 0 < 9 by omega)
    refine q_iload_n 109 rfl rfl dX7_text_108 ?_
    refine q_bipush 111 rfl 60 k_b60 dX7_text_109 ?_
    refine q_icmp_ge 114 rfl 150 (by decide) (by omega) (by omega) dX7_text_111 (fun h111 => ?_) (fun h111 => ?_)
    · exfalso; omega
    · refine q_aload_n 115 rfl rfl dX7_text_114 ?_
      refine q_getR 118 rfl fX7_7 rfl 77 t_77 (g_77_0 hG) dX7_text_115 ?_
      refine q_iload_n 119 rfl rfl dX7_text_118 ?_
      refine q_aload_n 120 rfl rfl dX7_text_119 ?_
      refine q_getR 123 rfl fX7_19 rfl 77 t_77 (g_77_4 hG) dX7_text_120 ?_
      refine q_iload_n 124 rfl rfl dX7_text_123 ?_
      refine q_iald 125 rfl 81 t_81 (by omega) (by decide) dX7_text_124 ?_
      rw [P7_ne (by decide)]
      rw [e81]
      refine q_iast 126 rfl 78 t_78 (by omega) (by decide) dX7_text_125 ?_
      rw [P7_as (by decide)]
      refine q_aload_n 127 rfl rfl dX7_text_126 ?_
      refine q_getR 130 rfl fX7_16 rfl 77 t_77 (g_77_3 hG) dX7_text_127 ?_
      refine q_iload_n 131 rfl rfl dX7_text_130 ?_
      refine q_bipush 133 rfl 9 k_b9 dX7_text_131 ?_
      refine q_irem 134 rfl (by omega) (by omega) (by omega) dX7_text_133 ?_
      refine q_aload_n 135 rfl rfl dX7_text_134 ?_
      refine q_getR 138 rfl fX7_25 rfl 77 t_77 (g_77_7 hG) dX7_text_135 ?_
      refine q_iload_n 139 rfl rfl dX7_text_138 ?_
      refine q_bipush 141 rfl 9 k_b9 dX7_text_139 ?_
      refine q_irem 142 rfl (by omega) (by omega) (by omega) dX7_text_141 ?_
      refine q_iald 143 rfl 83 t_83 (by omega) (by decide) dX7_text_142 ?_
      rw [P7_ne (by decide)]
      rw [e83]
      refine q_iast 144 rfl 80 t_80 (by omega) (by decide) dX7_text_143 ?_
      rw [P7_as (by decide)]
      rw [cp7_s h_i]
      refine q_iinc1 147 rfl 1 k_i1 rfl (by decide) dX7_text_144 ?_
      refine q_goto 108 (by decide) dX7_text_147 ?_
      refine q_loc (ih _ ?_) (q_sub1 rfl (q_sub1 rfl (q_sub1 rfl q_sub0)))
      · rfl
theorem tn_lp {Z : q_Zt} {l mc mz : Nat} {b ba sp he tk vl : Nat} (hG : GF ad G) (hx : q_R Γ mX7_text (q_room 5 mc mz) Z 0 0 176 [(0, .ref (ad 77)), (1, .int (nI l))] [] (LT ad, (P7 (fil N 79 (N 82) (81)) b ba sp he tk vl), L, G)) : ∀ i, i ≤ 81 →  ∀ H : Nat → Nat → Nat, H = P7 (fil N 79 (N 82) i) b ba sp he tk vl → q_R Γ mX7_text (q_room 5 mc mz) Z 0 0 152 [(0, .ref (ad 77)), (1, .int (nI l)), (2, .int (nI i))] [] (LT ad, H, L, G) := by
  refine dn_loop (81) ?_ ?_
  · intro H h_H
    subst h_H
    refine q_iload_n 153 rfl rfl dX7_text_152 ?_
    refine q_bipush 155 rfl 81 k_b81 dX7_text_153 ?_
    refine q_icmp_ge 158 rfl 176 (by decide) (by omega) (by omega) dX7_text_155 (fun h155 => ?_) (fun h155 => ?_)
    · exact q_loc hx (q_sub1 rfl (q_sub1 rfl q_sub0))
    · exfalso; omega
  · intro i h_i ih H h_H
    subst h_H
    have e82 : fil N 79 (N 82) i 82 i = N 82 i := by rw [fil_ne (by omega)]
    refine q_iload_n 153 rfl rfl dX7_text_152 ?_
    refine q_bipush 155 rfl 81 k_b81 dX7_text_153 ?_
    refine q_icmp_ge 158 rfl 176 (by decide) (by omega) (by omega) dX7_text_155 (fun h155 => ?_) (fun h155 => ?_)
    · exfalso; omega
    · refine q_aload_n 159 rfl rfl dX7_text_158 ?_
      refine q_getR 162 rfl fX7_13 rfl 77 t_77 (g_77_1 hG) dX7_text_159 ?_
      refine q_iload_n 163 rfl rfl dX7_text_162 ?_
      refine q_aload_n 164 rfl rfl dX7_text_163 ?_
      refine q_getR 167 rfl fX7_22 rfl 77 t_77 (g_77_5 hG) dX7_text_164 ?_
      refine q_iload_n 168 rfl rfl dX7_text_167 ?_
      refine q_iald 169 rfl 82 t_82 (by omega) (by decide) dX7_text_168 ?_
      rw [P7_ne (by decide)]
      rw [e82]
      refine q_iast 170 rfl 79 t_79 (by omega) (by decide) dX7_text_169 ?_
      rw [P7_as (by decide), fil_s]
      refine q_iinc1 173 rfl 1 k_i1 rfl (by decide) dX7_text_170 ?_
      refine q_goto 152 (by decide) dX7_text_173 ?_
      refine q_loc (ih _ ?_) (q_sub1 rfl (q_sub1 rfl (q_sub1 rfl q_sub0)))
      · rfl
theorem t7_err {mc mz j sp he tk vl : Nat} {K : Nat → Nat → Nat} {r : Nat × Nat × (Nat → Nat → Nat) × Nat} (hG : GF ad G) (h1 : r.1 ≠ 0) (h5 : r.1 ≤ 5) (hp : r.2.1 ≤ 160) (hF : FR N K) (hM : MB K) : q_R Γ mX7_text (q_room 5 mc mz) (q_Z Γ (TQ7 ad L G N r) 0 0) 0 0 78 [(0, .ref (ad 77)), (1, .int (nI j))] [] (LT ad, P7 K r.1 r.2.1 sp he tk vl, L, G) := by
  refine q_aload_n 79 rfl rfl dX7_text_78 ?_
  refine q_iconst 80 rfl 0 k_i0 dX7_text_79 ?_
  refine q_putI 83 rfl pX7_72 (fun q => by cases q) rfl 77 t_77 dX7_text_80 ?_
  rw [P7_so (by decide) (by decide)]
  refine q_aload_n 84 rfl rfl dX7_text_83 ?_
  refine q_aload_n 85 rfl rfl dX7_text_84 ?_
  refine q_getI 88 rfl fX7_76 rfl 77 t_77 dX7_text_85 ?_
  rw [P7_12]
  refine q_putI 91 rfl pX7_152 (fun q => by cases q) rfl 77 t_77 dX7_text_88 ?_
  rw [P7_so (by decide) (by decide)]
  refine q_aload_n 92 rfl rfl dX7_text_91 ?_
  refine q_getI 95 rfl fX7_76 rfl 77 t_77 dX7_text_92 ?_
  rw [P7_12]
  refine q_ifN_le 98 rfl 106 (by decide) (by omega) dX7_text_95 (fun h95 => ?_) (fun h95 => ?_)
  · exfalso; omega
  · refine q_bipush 100 rfl 4294967286 k_bm10 dX7_text_98 ?_
    refine q_aload_n 101 rfl rfl dX7_text_100 ?_
    refine q_getI 104 rfl fX7_82 rfl 77 t_77 dX7_text_101 ?_
    rw [P7_13]
    refine q_isub 105 rfl (by omega) dX7_text_104 ?_
    refine q_iret rfl dX7_text_105 ?_
    refine ⟨_, rfl, Or.inl ⟨h1, rfl, fun a b1 b2 b3 b4 => ?_, ⟨?_, ?_⟩, ?_, ?_, hM⟩⟩
    · rw [P7_ne b1, q_s_ne b1, q_s_ne b1]; exact hF.1 a b1 b2 b3 b4
    · rw [P7_o (by decide) (by decide), q_s_off (by decide), q_s_off (by decide)]; exact hF.2 2 (by decide) (by decide)
    · rw [P7_29, q_s_off (by decide), q_s_off (by decide)]; exact hF.2 29 (by decide) (by decide)
    · rw [P7_o (by decide) (by decide), q_s_off (by decide), q_s_at]
    · rw [P7_o (by decide) (by decide), q_s_at]
theorem t7_ok {mc mz ba sp he tk vl : Nat} {K : Nat → Nat → Nat} {r : Nat × Nat × (Nat → Nat → Nat) × Nat} (hG : GF ad G) (h1 : r.1 = 0) (hj : r.2.2.2 ≤ 1000) (hF : FR N K) (hM : MB K) (hR : MR r.2.2.1 K) : q_R Γ mX7_text (q_room 5 mc mz) (q_Z Γ (TQ7 ad L G N r) 0 0) 0 0 78 [(0, .ref (ad 77)), (1, .int (nI r.2.2.2))] [] (LT ad, P7 K 0 ba sp he tk vl, L, G) := by
  obtain ⟨K1, hK1⟩ : ∃ K1, q_s (q_s K 77 10 0) 77 11 0 = K1 := ⟨_, rfl⟩
  have kn : ∀ a, a ≠ 77 → K1 a = K a := fun a ha => by rw [← hK1, q_s_ne ha, q_s_ne ha]
  have k6 : K1 77 6 = r.2.2.1 0 0 := by rw [← hK1, q_s_off (by decide), q_s_off (by decide)]; exact hR.1
  have k10 : K1 77 10 = 0 := by rw [← hK1, q_s_off (by decide), q_s_at]
  have k11 : K1 77 11 = 0 := by rw [← hK1, q_s_at]
  have k29 : K1 77 29 = N 77 29 := by rw [← hK1, q_s_off (by decide), q_s_off (by decide)]; exact hF.2 29 (by decide) (by decide)
  obtain ⟨K2, hK2⟩ : ∃ K2, fil (cp7 K1 60) 79 (cp7 K1 60 82) 81 = K2 := ⟨_, rfl⟩
  have c77 : K2 77 = K1 77 := by rw [← hK2, fil_ne (by decide)]; unfold cp7; rw [fil_ne (by decide), fil_ne (by decide)]
  have cn : ∀ a, a ≠ 78 → a ≠ 79 → a ≠ 80 → K2 a = K1 a := fun a q1 q2 q3 => by rw [← hK2, fil_ne q2]; unfold cp7; rw [fil_ne q1, fil_ne q3]
  have c78 : ∀ i, K2 78 i = if i < 60 then K 81 i else K 78 i := fun i => by
    rw [← hK2, fil_ne (by decide)]; unfold cp7
    simp only [fil, q_r_at]
    rw [kn 81 (by decide)]
    split
    · rfl
    · rw [q_r_ne (by decide), kn 78 (by decide)]
  have c79 : ∀ i, i < 81 → K2 79 i = K 82 i := fun i hi => by
    rw [← hK2, fil_lt hi]; unfold cp7; rw [fil_ne (by decide), fil_ne (by decide), kn 82 (by decide)]
  have c80 : ∀ i, i < 9 → K2 80 i = K 83 i := fun i hi => by
    rw [← hK2, fil_ne (by decide)]; unfold cp7; rw [fil_ne (by decide), fil_lt (by omega), kn 83 (by decide)]
  have k62 : K2 77 6 = r.2.2.1 0 0 := by rw [c77]; exact k6
  refine q_aload_n 79 rfl rfl dX7_text_78 ?_
  refine q_iconst 80 rfl 0 k_i0 dX7_text_79 ?_
  refine q_putI 83 rfl pX7_72 (fun q => by cases q) rfl 77 t_77 dX7_text_80 ?_
  rw [P7_so (by decide) (by decide)]
  refine q_aload_n 84 rfl rfl dX7_text_83 ?_
  refine q_aload_n 85 rfl rfl dX7_text_84 ?_
  refine q_getI 88 rfl fX7_76 rfl 77 t_77 dX7_text_85 ?_
  rw [P7_12]
  refine q_putI 91 rfl pX7_152 (fun q => by cases q) rfl 77 t_77 dX7_text_88 ?_
  rw [P7_so (by decide) (by decide)]
  rw [hK1]
  refine q_aload_n 92 rfl rfl dX7_text_91 ?_
  refine q_getI 95 rfl fX7_76 rfl 77 t_77 dX7_text_92 ?_
  rw [P7_12]
  refine q_ifN_le 98 rfl 106 (by decide) (by omega) dX7_text_95 (fun h95 => ?_) (fun h95 => ?_)
  · refine q_iconst 107 rfl 0 k_i0 dX7_text_106 ?_
    refine q_istore_n 108 rfl (by decide) dX7_text_107 ?_
    refine q_loc (tc_lp (N := K1) (b := 0) (ba := ba) (sp := sp) (he := he) (tk := tk) (vl := vl) hG ?_ 0 (by omega) _ ?_) (q_sub1 rfl (q_sub1 rfl (q_sub1 rfl q_sub0)))
    rotate_left
    · have : cp7 K1 0 = K1 := by unfold cp7; rw [show min 0 9 = 0 from rfl, fil_0, fil_0]
      rw [this]
    refine q_iconst 151 rfl 0 k_i0 dX7_text_150 ?_
    refine q_istore_n 152 rfl (by decide) dX7_text_151 ?_
    refine q_loc (tn_lp (N := cp7 K1 60) (b := 0) (ba := ba) (sp := sp) (he := he) (tk := tk) (vl := vl) hG ?_ 0 (by omega) _ ?_) (q_sub1 rfl (q_sub1 rfl (q_sub1 rfl q_sub0)))
    rotate_left
    · rw [fil_0]
    rw [hK2]
    refine q_aload_n 177 rfl rfl dX7_text_176 ?_
    refine q_aload_n 178 rfl rfl dX7_text_177 ?_
    refine q_getI 181 rfl fX7_116 rfl 77 t_77 dX7_text_178 ?_
    rw [P7_o (by decide) (by decide)]
    rw [k62]
    refine q_putI 184 rfl pX7_155 (fun q => by cases q) rfl 77 t_77 dX7_text_181 ?_
    rw [P7_so (by decide) (by decide)]
    refine q_aload_n 185 rfl rfl dX7_text_184 ?_
    refine q_getR 188 rfl fX7_53 rfl 77 t_77 (g_77_25 hG) dX7_text_185 ?_
    refine q_iconst 189 rfl 0 k_i0 dX7_text_188 ?_
    refine q_iconst 190 rfl 0 k_i0 dX7_text_189 ?_
    refine q_zast 191 rfl 92 t_92 (by omega) (by decide) (0) (vp_z (by omega)) dX7_text_190 ?_
    rw [P7_as (by decide)]
    refine q_aload_n 192 rfl rfl dX7_text_191 ?_
    refine q_getR 195 rfl fX7_53 rfl 77 t_77 (g_77_25 hG) dX7_text_192 ?_
    refine q_iconst 196 rfl 1 k_i1 dX7_text_195 ?_
    refine q_iconst 197 rfl 0 k_i0 dX7_text_196 ?_
    refine q_zast 198 rfl 92 t_92 (by omega) (by decide) (0) (vp_z (by omega)) dX7_text_197 ?_
    rw [P7_as (by decide)]
    refine q_iload_n 199 rfl rfl dX7_text_198 ?_
    refine q_iret rfl dX7_text_199 ?_
    refine ⟨_, rfl, Or.inr ⟨h1, rfl, fun a b1 b2 b3 b4 b5 b6 b7 b8 => ?_, ?_, ?_, ?_, ?_, ?_, ⟨K, hR, hM, fun i hi => ?_, fun i hi => ?_, fun i hi => ?_, fun i hi => ?_⟩, ?_, ?_⟩⟩
    · rw [P7_ne b1, q_s_ne b8, q_s_ne b8, q_s_ne b1, cn a b2 b3 b4, kn a b1]; exact hF.1 a b1 b5 b6 b7
    · rw [P7_29, q_s_ne (by decide), q_s_ne (by decide), q_s_off (by decide), c77]; exact k29
    · rw [P7_o (by decide) (by decide), q_s_ne (by decide), q_s_ne (by decide), q_s_off (by decide), c77]; exact k10
    · rw [P7_o (by decide) (by decide), q_s_ne (by decide), q_s_ne (by decide), q_s_off (by decide), c77]; exact k11
    · rw [P7_o (by decide) (by decide), q_s_ne (by decide), q_s_ne (by decide), q_s_at]
    · unfold MB
      rw [P7_ne (by decide), P7_ne (by decide), q_s_ne (by decide), q_s_ne (by decide), q_s_ne (by decide), q_s_ne (by decide), q_s_ne (by decide), q_s_ne (by decide), cn 82 (by decide) (by decide) (by decide), cn 83 (by decide) (by decide) (by decide), kn 82 (by decide), kn 83 (by decide)]
      exact hM
    · rw [P7_ne (by decide), q_s_ne (by decide), q_s_ne (by decide), q_s_ne (by decide), c78, if_pos hi]
    · rw [P7_ne (by decide), q_s_ne (by decide), q_s_ne (by decide), q_s_ne (by decide), c78, if_neg (by omega)]; rw [hF.1 78 (by decide) (by decide) (by decide) (by decide)]
    · rw [P7_ne (by decide), q_s_ne (by decide), q_s_ne (by decide), q_s_ne (by decide), c79 i hi]
    · rw [P7_ne (by decide), q_s_ne (by decide), q_s_ne (by decide), q_s_ne (by decide), c80 i hi]
    · rw [P7_ne (by decide), q_s_off (by decide), q_s_at]
    · rw [P7_ne (by decide), q_s_at]
  · exfalso; omega
theorem k_text7p {b ba sp he tk vl : Nat} (hG : GF ad G) (hl : N 77 10 ≤ 160) (ht : ∀ i, i < 160 → N 84 i < 128) (hcu : ∀ i, i < 10 → N 85 i = cu i) (hlw : ∀ i, i < 42 → N 86 i = lw i) (hM : MB N) : q_Con Γ mX7_text 5 0 0 [.ref (ad 77)] (LT ad, P7 N b ba sp he tk vl, L, G) (TQ7 ad L G N (prs (N 84) (N 77 10) (N 77 10 + 1) S00 0 0)) := by
  refine q_con (by decide) rfl rfl (Nat.le_of_ble_eq_true rfl) ?_
  refine q_aload_n 1 rfl rfl dX7_text_0 ?_
  refine q_iconst 2 rfl 0 k_i0 dX7_text_1 ?_
  refine q_putI 5 rfl pX7_76 (fun q => by cases q) rfl 77 t_77 dX7_text_2 ?_
  rw [P7_s12]
  refine q_aload_n 6 rfl rfl dX7_text_5 ?_
  refine q_iconst 7 rfl 0 k_i0 dX7_text_6 ?_
  refine q_putI 10 rfl pX7_88 (fun q => by cases q) rfl 77 t_77 dX7_text_7 ?_
  rw [P7_s14]
  refine q_aload_n 11 rfl rfl dX7_text_10 ?_
  refine q_iconst 12 rfl 0 k_i0 dX7_text_11 ?_
  refine q_putI 15 rfl pX7_116 (fun q => by cases q) rfl 77 t_77 dX7_text_12 ?_
  rw [P7_so (by decide) (by decide)]
  refine q_aload_n 16 rfl rfl dX7_text_15 ?_
  refine q_iconst 17 rfl 0 k_i0 dX7_text_16 ?_
  refine q_putI 20 rfl pX7_137 (fun q => by cases q) rfl 77 t_77 dX7_text_17 ?_
  rw [P7_so (by decide) (by decide)]
  refine q_iconst 21 rfl 0 k_i0 dX7_text_20 ?_
  refine q_istore_n 22 rfl (by decide) dX7_text_21 ?_
  refine q_aload_n 23 rfl rfl dX7_text_22 ?_
  refine q_getR 26 rfl fX7_25 rfl 77 t_77 (g_77_7 hG) dX7_text_23 ?_
  refine q_iconst 27 rfl 0 k_i0 dX7_text_26 ?_
  refine q_iconst 28 rfl 0 k_i0 dX7_text_27 ?_
  refine q_iast 29 rfl 83 t_83 (by omega) (by decide) dX7_text_28 ?_
  rw [P7_as (by decide)]
  refine q_iconst 30 rfl 0 k_i0 dX7_text_29 ?_
  refine q_istore_n 31 rfl (by decide) dX7_text_30 ?_
  refine q_loc (tz_lp (N := q_s (q_s (q_s N 77 6 0) 77 8 0) 83 0 0) (b := 0) (ba := ba) (sp := 0) (he := he) (tk := tk) (vl := vl) hG ?_ 0 (by omega) _ ?_) (q_sub1 rfl (q_sub1 rfl (q_sub1 rfl q_sub0)))
  rotate_left
  · rw [fil_0]
  refine q_aload_n 51 rfl rfl dX7_text_50 ?_
  refine q_cV0v 54 rfl lX7_110 (k_step0 hG (by exact hl) (by exact ht) (Nat.zero_le _)) rfl 77 t_77 rfl rfl rfl dX7_text_51 ?_
  exact q_loc (text7_lp (N := N) hG hl ht hcu hlw (fun K sp he tk vl j q1 q2 q3 q4 q5 q6 => t7_err hG q1 q2 q3 q5 q6) (fun K sp he tk vl q1 q2 q3 q4 q5 => t7_ok hG q1 q2 q3 q4 q5) (N 77 10 + 1) 0 0 S00 _ (Nat.zero_le _) (by omega) (Nat.le_refl _) FR_0 (MB_0 hM) MR_0 wfs_0 rfl) (q_sub1 rfl (q_sub1 rfl q_sub0))
theorem k_text7 (hG : GF ad G) (hl : N 77 10 ≤ 160) (ht : ∀ i, i < 160 → N 84 i < 128) (hcu : ∀ i, i < 10 → N 85 i = cu i) (hlw : ∀ i, i < 42 → N 86 i = lw i) (hM : MB N) : q_Con Γ mX7_text 5 0 0 [.ref (ad 77)] (LT ad, N, L, G) (TQ7 ad L G N (prs (N 84) (N 77 10) (N 77 10 + 1) S00 0 0)) := by
  have := k_text7p (Γ := Γ) (L := L) (b := N 77 12) (ba := N 77 13) (sp := N 77 14) (he := N 77 15) (tk := N 77 16) (vl := N 77 17) hG hl ht hcu hlw hM
  rw [P7_id] at this
  exact this
end
