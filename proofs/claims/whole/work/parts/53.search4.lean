theorem fst6_t {N : Nat → Nat → Nat} {q i : Nat} {f : Nat → Nat} (h : f i < (amin f 1048576 i).1) : q_s (fst6 N q f i) q 6 i = fst6 N q f (i + 1) := by
  have h1 := amin_le f 1048576 i
  have e : amin f 1048576 (i + 1) = (f i, i) := if_pos h
  rw [fst6, fst6, e]
  show _ = if f i < 1048576 then q_s N q 6 i else N
  rw [if_pos (show f i < 1048576 by omega)]
  split
  · exact q_s_s _ _ _ _ _
  · rfl
theorem fst6_f {N : Nat → Nat → Nat} {q i : Nat} {f : Nat → Nat} (h : ¬ f i < (amin f 1048576 i).1) : fst6 N q f i = fst6 N q f (i + 1) := by
  have e : amin f 1048576 (i + 1) = amin f 1048576 i := if_neg h
  rw [fst6, fst6, e]
/-- what a search adds and how it joins: at the worst (b = 0), in the mean (b = 1) -/
def wS (b c : Nat) (od : Nat → Nat) (s : Nat) : Nat := if b = 0 then 1 else ods od s c
def oS (b x y : Nat) : Nat := if b = 0 then max x y else x + y
abbrev cK (Rl : Nat → Nat → Bool) (c : Nat) (od : Nat → Nat) (b s : Nat) : Nat := cst Rl c (wS b c od) (oS b) s
abbrev vK (Rl : Nat → Nat → Bool) (c : Nat) (od : Nat → Nat) (b s : Nat) : Nat → Nat := csv Rl c (wS b c od) (oS b) s
theorem cK_0 {Rl : Nat → Nat → Bool} {c : Nat} {od : Nat → Nat} {s : Nat} : cK Rl c od 0 s = fw Rl c s := by
  have e1 : wS 0 c od = fun _ => 1 := by funext x; rfl
  have e2 : oS 0 = max := by funext x y; rfl
  show cst Rl c (wS 0 c od) (oS 0) s = _
  rw [e1, e2]
theorem cK_1 {Rl : Nat → Nat → Bool} {c : Nat} {od : Nat → Nat} {s : Nat} : cK Rl c od 1 s = sm Rl c od s := by
  have e1 : wS 1 c od = fun s => ods od s c := by funext x; rfl
  have e2 : oS 1 = fun a b => a + b := by funext x y; rfl
  show cst Rl c (wS 1 c od) (oS 1) s = _
  rw [e1, e2]
theorem vK_0 {Rl : Nat → Nat → Bool} {c : Nat} {od : Nat → Nat} {s : Nat} : vK Rl c od 0 s = fv Rl c s := by
  have e1 : wS 0 c od = fun _ => 1 := by funext x; rfl
  have e2 : oS 0 = max := by funext x y; rfl
  show csv Rl c (wS 0 c od) (oS 0) s = _
  rw [e1, e2]
theorem vK_1 {Rl : Nat → Nat → Bool} {c : Nat} {od : Nat → Nat} {s : Nat} : vK Rl c od 1 s = sv Rl c od s := by
  have e1 : wS 1 c od = fun s => ods od s c := by funext x; rfl
  have e2 : oS 1 = fun a b => a + b := by funext x y; rfl
  show csv Rl c (wS 1 c od) (oS 1) s = _
  rw [e1, e2]
theorem ods_81c {od : Nat → Nat} {c s : Nat} (hc : c ≤ 9) (ho : ∀ n, n < c → od n ≤ 9) : ods od s c ≤ 81 := by
  have := ods_le od s c 9 (fun i hi => ho i (by omega))
  omega
theorem cK_le {Rl : Nat → Nat → Bool} {c : Nat} {od : Nat → Nat} {b s : Nat} (hc : c ≤ 9) (hb : b ≤ 1) (ho : ∀ n, n < c → od n ≤ 9) (hs : s < 2 ^ c) : cK Rl c od b s ≤ 729 := by
  rcases Nat.le_one_iff_eq_zero_or_eq_one.mp hb with e | e
  · subst e; rw [cK_0]; exact Nat.le_trans (fw_le hc hs) (by omega)
  · subst e; rw [cK_1]
    have h1 := sum_le Rl c od s hs
    have h2 := pc_le s c
    have h3 := ods_81c (s := s) hc ho
    have h4 : pc s c * ods od s c ≤ 9 * 81 := Nat.mul_le_mul (by omega) h3
    show cst Rl c (fun s => ods od s c) (fun a b => a + b) s ≤ 729
    omega
theorem cK_amin {Rl : Nat → Nat → Bool} {c : Nat} {od : Nat → Nat} {b s : Nat} (hc : c ≤ 9) (hb : b ≤ 1) (ho : ∀ n, n < c → od n ≤ 9) (h0 : s ≠ 0) (hs : s < 2 ^ c) : (amin (vK Rl c od b s) 1048576 c).1 < 1048576 ∧ cK Rl c od b s = (amin (vK Rl c od b s) 1048576 c).1 + wS b c od s := by
  have h1 : cK Rl c od b s = (amin (vK Rl c od b s) 1048576 c).1 + wS b c od s := cst_s h0
  have h2 := cK_le (Rl := Rl) hc hb ho hs
  exact ⟨by omega, h1⟩
section
variable {Γ : q_G} {ad : Nat → Nat} {N : Nat → Nat → Nat} {L : Nat → Nat → Int} {G : Nat → Nat → Option Nat}
theorem settle_lp {Z : q_Zt} {mc mz : Nat} {f : Nat → Nat} {q c s : Nat} {Rl : Nat → Nat → Bool} (hG : GF ad G) (hq : isS q) (hc : N q 4 = c) (hc9 : c ≤ 9) (hb : N q 0 ≤ 1) (hr : ∀ g, g < c → N (q + 1) g = mk (Rl g) c) (ho : ∀ n, n < c → N (q + 2) n ≤ 9) (hs : s < 2 ^ c) (hK : ∀ t, t < s → (∀ i, t.testBit i = true → s.testBit i = true) → N (q + 3) t = cK Rl c (N (q + 2)) (N q 0) t) (hf : f = vK Rl c (N (q + 2)) (N q 0) s) (hx : q_R Γ mX4_settle (q_room 2 mc mz) Z 0 0 122 [(0, .ref (ad q)), (1, .int (nI s)), (2, .int (nI ((amin f 1048576 (c)).1)))] [] (LT ad, (fst6 N q f (c)), L, G)) : ∀ i, i ≤ c →  ∀ H : Nat → Nat → Nat, H = fst6 N q f i → ∀ a : Nat, a = (amin f 1048576 i).1 → q_R Γ mX4_settle (q_room 2 mc mz) Z 0 0 5 [(0, .ref (ad q)), (1, .int (nI s)), (2, .int (nI a)), (3, .int (nI i))] [] (LT ad, H, L, G) := by
  refine dn_loop (c) ?_ ?_
  · intro H h_H a h_a
    have p9 := p2_9 hc9
    have e4 : H q 4 = c := by rw [h_H, fst6_off (by omega)]; exact hc
    refine q_iload_n 6 rfl rfl dX4_settle_5 ?_
    refine q_aload_n 7 rfl rfl dX4_settle_6 ?_
    refine q_getI 10 rfl fX4_39 rfl q (tS hq) dX4_settle_7 ?_
    refine q_icmp_ge 13 rfl 122 (by decide) (by omega) (by omega) dX4_settle_10 (fun h10 => ?_) (fun h10 => ?_)
    · subst h_H
      subst h_a
      exact q_loc hx (q_sub1 rfl (q_sub1 rfl (q_sub1 rfl q_sub0)))
    · exfalso; omega
  · intro i h_i ih H h_H a h_a
    have p9 := p2_9 hc9
    have e4 : H q 4 = c := by rw [h_H, fst6_off (by omega)]; exact hc
    have e0 : H q 0 = N q 0 := by rw [h_H, fst6_off (by omega)]
    have e1 : H (q + 1) = N (q + 1) := by rw [h_H, fst6_ne (by omega)]
    have e3 : H (q + 3) = N (q + 3) := by rw [h_H, fst6_ne (by omega)]
    have am := amin_le f 1048576 i
    rw [← h_a] at am
    have l1 := prt_le (Rl := Rl) (c := c) (s := s) (g := i) (a := 1)
    have l0 := prt_le (Rl := Rl) (c := c) (s := s) (g := i) (a := 0)
    have k1 := cK_le (Rl := Rl) (od := N (q + 2)) hc9 hb ho (prt_lt (Rl := Rl) (c := c) (s := s) (g := i) (a := 1))
    have k0 := cK_le (Rl := Rl) (od := N (q + 2)) hc9 hb ho (prt_lt (Rl := Rl) (c := c) (s := s) (g := i) (a := 0))
    have fe : f i = if prt Rl c s i 1 < s ∧ prt Rl c s i 0 < s then oS (N q 0) (cK Rl c (N (q + 2)) (N q 0) (prt Rl c s i 1)) (cK Rl c (N (q + 2)) (N q 0) (prt Rl c s i 0)) else 1048576 := by rw [hf]; rfl
    refine q_iload_n 6 rfl rfl dX4_settle_5 ?_
    refine q_aload_n 7 rfl rfl dX4_settle_6 ?_
    refine q_getI 10 rfl fX4_39 rfl q (tS hq) dX4_settle_7 ?_
    refine q_icmp_ge 13 rfl 122 (by decide) (by omega) (by omega) dX4_settle_10 (fun h10 => ?_) (fun h10 => ?_)
    · exfalso; omega
    · refine q_iload_n 14 rfl rfl dX4_settle_13 ?_
      refine q_iconst 15 rfl 1 k_i1 dX4_settle_14 ?_
      refine q_iload_n 16 rfl rfl dX4_settle_15 ?_
      refine q_ishl 17 rfl (by omega) dX4_settle_16 ?_
      refine q_iconst 18 rfl 4294967295 k_im1 dX4_settle_17 ?_
      refine q_ixor 19 rfl dX4_settle_18 ?_
      refine q_iand 20 rfl dX4_settle_19 ?_
      refine q_istore 22 rfl (by decide) dX4_settle_20 ?_
      refine q_iload 24 rfl rfl dX4_settle_22 ?_
      refine q_aload_n 25 rfl rfl dX4_settle_24 ?_
      refine q_getR 28 rfl fX4_9 rfl q (tS hq) (gS_1 hq hG) dX4_settle_25 ?_
      refine q_iload_n 29 rfl rfl dX4_settle_28 ?_
      refine q_iald 30 rfl (q + 1) (tS1 hq) (by omega) (by decide) dX4_settle_29 ?_
      rw [e1, hr i h_i]
      refine q_iand 31 rfl dX4_settle_30 ?_
      rw [set1 hc9 hs]
      refine q_istore 33 rfl (by decide) dX4_settle_31 ?_
      refine q_iload 35 rfl rfl dX4_settle_33 ?_
      refine q_aload_n 36 rfl rfl dX4_settle_35 ?_
      refine q_getR 39 rfl fX4_9 rfl q (tS hq) (gS_1 hq hG) dX4_settle_36 ?_
      refine q_iload_n 40 rfl rfl dX4_settle_39 ?_
      refine q_iald 41 rfl (q + 1) (tS1 hq) (by omega) (by decide) dX4_settle_40 ?_
      rw [e1, hr i h_i]
      refine q_iconst 42 rfl 4294967295 k_im1 dX4_settle_41 ?_
      refine q_ixor 43 rfl dX4_settle_42 ?_
      refine q_iand 44 rfl dX4_settle_43 ?_
      rw [set0 hc9 hs]
      refine q_istore 46 rfl (by decide) dX4_settle_44 ?_
      refine q_iload 48 rfl rfl dX4_settle_46 ?_
      refine q_iload_n 49 rfl rfl dX4_settle_48 ?_
      refine q_icmp_eq 52 rfl 116 (by decide) (by omega) (by omega) dX4_settle_49 (fun h49 => ?_) (fun h49 => ?_)
      · have fz : f i = 1048576 := by rw [fe, if_neg (by omega)]
        refine q_iinc1 119 rfl 1 k_i1 rfl (by decide) dX4_settle_116 ?_
        refine q_goto 5 (by decide) dX4_settle_119 ?_
        refine q_loc (ih _ ?_ _ ?_) (q_sub1 rfl (q_sub1 rfl (q_sub1 rfl (q_sub1 rfl q_sub0))))
        · rw [h_H]
          first
            | exact fst6_t (by omega)
            | exact fst6_f (by omega)
        · simp only [amin]
          first
            | (rw [if_pos (by omega)]; done)
            | (rw [if_neg (by omega)]; exact h_a)
      · refine q_iload 54 rfl rfl dX4_settle_52 ?_
        refine q_iload_n 55 rfl rfl dX4_settle_54 ?_
        refine q_icmp_eq 58 rfl 116 (by decide) (by omega) (by omega) dX4_settle_55 (fun h55 => ?_) (fun h55 => ?_)
        · have fz : f i = 1048576 := by rw [fe, if_neg (by omega)]
          refine q_iinc1 119 rfl 1 k_i1 rfl (by decide) dX4_settle_116 ?_
          refine q_goto 5 (by decide) dX4_settle_119 ?_
          refine q_loc (ih _ ?_ _ ?_) (q_sub1 rfl (q_sub1 rfl (q_sub1 rfl (q_sub1 rfl q_sub0))))
          · rw [h_H]
            first
              | exact fst6_t (by omega)
              | exact fst6_f (by omega)
          · simp only [amin]
            first
              | (rw [if_pos (by omega)]; done)
              | (rw [if_neg (by omega)]; exact h_a)
        · have x1 : prt Rl c s i 1 < s := by omega
          have x0 : prt Rl c s i 0 < s := by omega
          rw [if_pos ⟨x1, x0⟩] at fe
          have f1 := hK _ x1 (fun _ => prt_sub)
          have f0 := hK _ x0 (fun _ => prt_sub)
          rw [← e3] at f1 f0
          refine q_aload_n 59 rfl rfl dX4_settle_58 ?_
          refine q_getI 62 rfl fX4_21 rfl q (tS hq) dX4_settle_59 ?_
          refine q_if_eq 65 rfl 83 (by decide) (by omega) dX4_settle_62 (fun h62 => ?_) (fun h62 => ?_)
          · have fv := fe
            rw [oS, if_pos (show N q 0 = 0 by omega)] at fv
            refine q_aload_n 84 rfl rfl dX4_settle_83 ?_
            refine q_getR 87 rfl fX4_18 rfl q (tS hq) (gS_3 hq hG) dX4_settle_84 ?_
            refine q_iload 89 rfl rfl dX4_settle_87 ?_
            refine q_iald 90 rfl (q + 3) (tS3 hq) (by omega) (by decide) dX4_settle_89 ?_
            rw [f1]
            refine q_aload_n 91 rfl rfl dX4_settle_90 ?_
            refine q_getR 94 rfl fX4_18 rfl q (tS hq) (gS_3 hq hG) dX4_settle_91 ?_
            refine q_iload 96 rfl rfl dX4_settle_94 ?_
            refine q_iald 97 rfl (q + 3) (tS3 hq) (by omega) (by decide) dX4_settle_96 ?_
            rw [f0]
            refine q_mmax 100 rfl (by omega) (by omega) lmX4_60 (by first | decide | exact Nat.le_of_ble_eq_true rfl) (Nat.le_of_ble_eq_true rfl) (by first | decide | exact Nat.zero_le _) (by first | decide | exact Nat.zero_le _) dX4_settle_97 ?_
            rw [← fv]
            refine q_istore 102 rfl (by decide) dX4_settle_100 ?_
            refine q_iload 104 rfl rfl dX4_settle_102 ?_
            refine q_iload_n 105 rfl rfl dX4_settle_104 ?_
            refine q_icmp_ge 108 rfl 116 (by decide) (by omega) (by omega) dX4_settle_105 (fun h105 => ?_) (fun h105 => ?_)
            · refine q_iinc1 119 rfl 1 k_i1 rfl (by decide) dX4_settle_116 ?_
              refine q_goto 5 (by decide) dX4_settle_119 ?_
              refine q_loc (ih _ ?_ _ ?_) (q_sub1 rfl (q_sub1 rfl (q_sub1 rfl (q_sub1 rfl q_sub0))))
              · rw [h_H]
                first
                  | exact fst6_t (by omega)
                  | exact fst6_f (by omega)
              · simp only [amin]
                first
                  | (rw [if_pos (by omega)]; done)
                  | (rw [if_neg (by omega)]; exact h_a)
            · refine q_iload 110 rfl rfl dX4_settle_108 ?_
              refine q_istore_n 111 rfl (by decide) dX4_settle_110 ?_
              refine q_aload_n 112 rfl rfl dX4_settle_111 ?_
              refine q_iload_n 113 rfl rfl dX4_settle_112 ?_
              refine q_putI 116 rfl pX4_66 (fun q => by cases q) rfl q (tS hq) dX4_settle_113 ?_
              refine q_iinc1 119 rfl 1 k_i1 rfl (by decide) dX4_settle_116 ?_
              refine q_goto 5 (by decide) dX4_settle_119 ?_
              refine q_loc (ih _ ?_ _ ?_) (q_sub1 rfl (q_sub1 rfl (q_sub1 rfl (q_sub1 rfl q_sub0))))
              · rw [h_H]
                first
                  | exact fst6_t (by omega)
                  | exact fst6_f (by omega)
              · simp only [amin]
                first
                  | (rw [if_pos (by omega)]; done)
                  | (rw [if_neg (by omega)]; exact h_a)
          · have fv := fe
            rw [oS, if_neg (show ¬ N q 0 = 0 by omega)] at fv
            refine q_aload_n 66 rfl rfl dX4_settle_65 ?_
            refine q_getR 69 rfl fX4_18 rfl q (tS hq) (gS_3 hq hG) dX4_settle_66 ?_
            refine q_iload 71 rfl rfl dX4_settle_69 ?_
            refine q_iald 72 rfl (q + 3) (tS3 hq) (by omega) (by decide) dX4_settle_71 ?_
            rw [f1]
            refine q_aload_n 73 rfl rfl dX4_settle_72 ?_
            refine q_getR 76 rfl fX4_18 rfl q (tS hq) (gS_3 hq hG) dX4_settle_73 ?_
            refine q_iload 78 rfl rfl dX4_settle_76 ?_
            refine q_iald 79 rfl (q + 3) (tS3 hq) (by omega) (by decide) dX4_settle_78 ?_
            rw [f0]
            refine q_iadd 80 rfl dX4_settle_79 ?_
            rw [← fv]
            refine q_goto 100 (by decide) dX4_settle_80 ?_
            refine q_istore 102 rfl (by decide) dX4_settle_100 ?_
            refine q_iload 104 rfl rfl dX4_settle_102 ?_
            refine q_iload_n 105 rfl rfl dX4_settle_104 ?_
            refine q_icmp_ge 108 rfl 116 (by decide) (by omega) (by omega) dX4_settle_105 (fun h105 => ?_) (fun h105 => ?_)
            · refine q_iinc1 119 rfl 1 k_i1 rfl (by decide) dX4_settle_116 ?_
              refine q_goto 5 (by decide) dX4_settle_119 ?_
              refine q_loc (ih _ ?_ _ ?_) (q_sub1 rfl (q_sub1 rfl (q_sub1 rfl (q_sub1 rfl q_sub0))))
              · rw [h_H]
                first
                  | exact fst6_t (by omega)
                  | exact fst6_f (by omega)
              · simp only [amin]
                first
                  | (rw [if_pos (by omega)]; done)
                  | (rw [if_neg (by omega)]; exact h_a)
            · refine q_iload 110 rfl rfl dX4_settle_108 ?_
              refine q_istore_n 111 rfl (by decide) dX4_settle_110 ?_
              refine q_aload_n 112 rfl rfl dX4_settle_111 ?_
              refine q_iload_n 113 rfl rfl dX4_settle_112 ?_
              refine q_putI 116 rfl pX4_66 (fun q => by cases q) rfl q (tS hq) dX4_settle_113 ?_
              refine q_iinc1 119 rfl 1 k_i1 rfl (by decide) dX4_settle_116 ?_
              refine q_goto 5 (by decide) dX4_settle_119 ?_
              refine q_loc (ih _ ?_ _ ?_) (q_sub1 rfl (q_sub1 rfl (q_sub1 rfl (q_sub1 rfl q_sub0))))
              · rw [h_H]
                first
                  | exact fst6_t (by omega)
                  | exact fst6_f (by omega)
              · simp only [amin]
                first
                  | (rw [if_pos (by omega)]; done)
                  | (rw [if_neg (by omega)]; exact h_a)
theorem k_settle {q c s : Nat} {Rl : Nat → Nat → Bool} (hG : GF ad G) (hq : isS q) (hc : N q 4 = c) (hc9 : c ≤ 9) (hb : N q 0 ≤ 1) (hr : ∀ g, g < c → N (q + 1) g = mk (Rl g) c) (ho : ∀ n, n < c → N (q + 2) n ≤ 9) (hs : s < 2 ^ c) (hK : ∀ t, t < s → (∀ i, t.testBit i = true → s.testBit i = true) → N (q + 3) t = cK Rl c (N (q + 2)) (N q 0) t) (h0 : s ≠ 0) : q_Con Γ mX4_settle 2 0 0 [.ref (ad q), .int (nI s)] (LT ad, N, L, G) (q_is none (LT ad, q_s (q_s N q 6 (amin (vK Rl c (N (q + 2)) (N q 0) s) 1048576 c).2) (q + 3) s (cK Rl c (N (q + 2)) (N q 0) s), L, G)) := by
  have p9 := p2_9 hc9
  obtain ⟨m1, m2⟩ := cK_amin (Rl := Rl) (od := N (q + 2)) hc9 hb ho h0 hs
  generalize hf : vK Rl c (N (q + 2)) (N q 0) s = f at *
  have eH : fst6 N q f c = q_s N q 6 (amin f 1048576 c).2 := if_pos m1
  have e2 : fst6 N q f c (q + 2) = N (q + 2) := fst6_ne (by omega)
  have e4 : fst6 N q f c q 4 = c := by rw [fst6_off (by omega)]; exact hc
  have e0 : fst6 N q f c q 0 = N q 0 := fst6_off (by omega)
  refine q_con (by decide) rfl rfl (Nat.le_of_ble_eq_true rfl) ?_
  refine q_ldc 2 rfl 1048576 kcX4_59 rfl dX4_settle_0 ?_
  refine q_istore_n 3 rfl (by decide) dX4_settle_2 ?_
  refine q_iconst 4 rfl 0 k_i0 dX4_settle_3 ?_
  refine q_istore_n 5 rfl (by decide) dX4_settle_4 ?_
  refine q_loc (settle_lp (N := N) (Rl := Rl) hG hq hc hc9 hb hr ho hs hK hf.symm ?_ 0 (by omega) _ rfl _ rfl) (q_sub1 rfl (q_sub1 rfl (q_sub1 rfl (q_sub1 rfl q_sub0))))
  refine q_aload_n 123 rfl rfl dX4_settle_122 ?_
  refine q_getR 126 rfl fX4_18 rfl q (tS hq) (gS_3 hq hG) dX4_settle_123 ?_
  refine q_iload_n 127 rfl rfl dX4_settle_126 ?_
  refine q_iload_n 128 rfl rfl dX4_settle_127 ?_
  refine q_aload_n 129 rfl rfl dX4_settle_128 ?_
  refine q_getI 132 rfl fX4_21 rfl q (tS hq) dX4_settle_129 ?_
  refine q_if_eq 135 rfl 143 (by decide) (by omega) dX4_settle_132 (fun h132 => ?_) (fun h132 => ?_)
  · refine q_iconst 144 rfl 1 k_i1 dX4_settle_143 ?_
    refine q_iadd 145 rfl dX4_settle_144 ?_
    refine q_iast 146 rfl (q + 3) (tS3 hq) (by omega) (by decide) dX4_settle_145 ?_
    refine q_vret rfl dX4_settle_146 ?_
    refine ⟨rfl, ?_⟩
    first
      | (rw [eH, m2, wS, if_pos (by omega)]; done)
      | (rw [e2, eH, m2, wS, if_neg (by omega)]; done)
  · refine q_aload_n 136 rfl rfl dX4_settle_135 ?_
    refine q_iload_n 137 rfl rfl dX4_settle_136 ?_
    refine q_cV1 140 rfl lX4_69 (k_oddsOfSet (N := fst6 N q f c) hG hq e4 hc9 (by omega)) rfl q (tS hq) rfl rfl rfl dX4_settle_137 ?_
    refine q_goto 144 (by decide) dX4_settle_140 ?_
    refine q_iadd 145 rfl dX4_settle_144 ?_
    refine q_iast 146 rfl (q + 3) (tS3 hq) (by omega) (by decide) dX4_settle_145 ?_
    refine q_vret rfl dX4_settle_146 ?_
    refine ⟨rfl, ?_⟩
    first
      | (rw [eH, m2, wS, if_pos (by omega)]; done)
      | (rw [e2, eH, m2, wS, if_neg (by omega)]; done)
end
