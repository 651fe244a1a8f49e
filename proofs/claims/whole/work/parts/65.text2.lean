/-- the token from p on: its kind (0 end, 1 word, 2 number, 3 stop, 4 none), start and end -/
def tkn (t : Nat → Nat) (len p : Nat) : Nat × Nat × Nat :=
  if len ≤ sk t len 32 32 p then (0, sk t len 32 32 p, sk t len 32 32 p)
  else if 97 ≤ t (sk t len 32 32 p) ∧ t (sk t len 32 32 p) ≤ 122 then (1, sk t len 32 32 p, sk t len 97 122 (sk t len 32 32 p))
  else if 48 ≤ t (sk t len 32 32 p) ∧ t (sk t len 32 32 p) ≤ 57 then ((if sk t len 48 57 (sk t len 32 32 p) - sk t len 32 32 p ≤ 2 then 2 else 4), sk t len 32 32 p, sk t len 48 57 (sk t len 32 32 p))
  else if t (sk t len 32 32 p) = 59 then (3, sk t len 32 32 p, sk t len 32 32 p + 1)
  else (4, sk t len 32 32 p, sk t len 32 32 p)
abbrev tkS (t : Nat → Nat) (len p : Nat) : Nat := (tkn t len p).2.1
abbrev tkE (t : Nat → Nat) (len p : Nat) : Nat := (tkn t len p).2.2
abbrev tkV (t : Nat → Nat) (len p : Nat) : Nat := vlr t (tkS t len p) (tkE t len p - tkS t len p)
theorem tkn_spec {t : Nat → Nat} {len p : Nat} (hp : p ≤ len) : p ≤ tkS t len p ∧ tkS t len p ≤ tkE t len p ∧ tkE t len p ≤ len ∧ (tkn t len p).1 ≤ 4 ∧ ((tkn t len p).1 ≠ 0 → tkS t len p < len) ∧ ((tkn t len p).1 = 0 → tkS t len p = len ∧ tkE t len p = len) ∧ ((tkn t len p).1 = 1 → tkS t len p < tkE t len p ∧ ∀ i, tkS t len p ≤ i → i < tkE t len p → 97 ≤ t i ∧ t i ≤ 122) ∧ ((tkn t len p).1 = 2 → tkS t len p < tkE t len p ∧ tkE t len p ≤ tkS t len p + 2 ∧ ∀ i, tkS t len p ≤ i → i < tkE t len p → 48 ≤ t i ∧ t i ≤ 57) ∧ ((tkn t len p).1 = 3 → tkE t len p = tkS t len p + 1) := by
  obtain ⟨a1, a2, a3, a4⟩ := sk_spec (t := t) (len := len) (lo := 32) (hi := 32) hp
  unfold tkS tkE tkn
  generalize sk t len 32 32 p = e at *
  obtain ⟨c1, c2, c3, c4⟩ := sk_spec (t := t) (len := len) (lo := 97) (hi := 122) a2
  generalize sk t len 97 122 e = e2 at *
  obtain ⟨d1, d2, d3, d4⟩ := sk_spec (t := t) (len := len) (lo := 48) (hi := 57) a2
  generalize sk t len 48 57 e = e3 at *
  by_cases h0 : len ≤ e
  · rw [if_pos h0]
    exact ⟨a1, Nat.le_refl _, a2, (by show 0 ≤ 4; omega), fun h => absurd rfl h, fun _ => ⟨by show e = len; omega, by show e = len; omega⟩, (fun h => by cases h), (fun h => by cases h), (fun h => by cases h)⟩
  · rw [if_neg h0]
    by_cases h1 : 97 ≤ t e ∧ t e ≤ 122
    · rw [if_pos h1]
      have : e ≠ e2 := fun q => c4 (by omega) (q ▸ h1)
      exact ⟨a1, c1, c2, (by show 1 ≤ 4; omega), fun _ => by show e < len; omega, (fun h => by cases h), fun _ => ⟨by show e < e2; omega, c3⟩, (fun h => by cases h), (fun h => by cases h)⟩
    · rw [if_neg h1]
      by_cases h2 : 48 ≤ t e ∧ t e ≤ 57
      · rw [if_pos h2]
        have : e ≠ e3 := fun q => d4 (by omega) (q ▸ h2)
        by_cases h3 : e3 - e ≤ 2
        · rw [if_pos h3]
          exact ⟨a1, d1, d2, (by show 2 ≤ 4; omega), fun _ => by show e < len; omega, (fun h => by cases h), (fun h => by cases h), fun _ => ⟨by show e < e3; omega, by show e3 ≤ e + 2; omega, d3⟩, (fun h => by cases h)⟩
        · rw [if_neg h3]
          exact ⟨a1, d1, d2, (by show 4 ≤ 4; omega), fun _ => by show e < len; omega, (fun h => by cases h), (fun h => by cases h), (fun h => by cases h), (fun h => by cases h)⟩
      · rw [if_neg h2]
        by_cases h3 : t e = 59
        · rw [if_pos h3]
          exact ⟨a1, by show e ≤ e + 1; omega, by show e + 1 ≤ len; omega, (by show 3 ≤ 4; omega), fun _ => by show e < len; omega, (fun h => by cases h), (fun h => by cases h), (fun h => by cases h), fun _ => rfl⟩
        · rw [if_neg h3]
          exact ⟨a1, Nat.le_refl _, a2, (by show 4 ≤ 4; omega), fun _ => by show e < len; omega, (fun h => by cases h), (fun h => by cases h), (fun h => by cases h), (fun h => by cases h)⟩
theorem stp_ok {N : Nat → Nat → Nat} {ba sp : Nat} (h : (tkn (N 84) (N 77 10) sp).1 ≠ 4) : stp N ba sp = P7 N 0 ba (tkE (N 84) (N 77 10) sp) (tkS (N 84) (N 77 10) sp) (tkn (N 84) (N 77 10) sp).1 (if (tkn (N 84) (N 77 10) sp).1 = 2 then tkV (N 84) (N 77 10) sp else 0) := by
  unfold tkV tkS tkE stp
  unfold tkn at *
  generalize sk (N 84) (N 77 10) 32 32 sp = e at *
  generalize sk (N 84) (N 77 10) 97 122 e = e2 at *
  generalize sk (N 84) (N 77 10) 48 57 e = e3 at *
  by_cases h0 : N 77 10 ≤ e
  · rw [if_pos h0, if_pos h0]; rfl
  · rw [if_neg h0] at h ⊢; rw [if_neg h0]
    by_cases h1 : 97 ≤ N 84 e ∧ N 84 e ≤ 122
    · rw [if_pos h1, if_pos h1]; rfl
    · rw [if_neg h1] at h ⊢; rw [if_neg h1]
      by_cases h2 : 48 ≤ N 84 e ∧ N 84 e ≤ 57
      · rw [if_pos h2] at h ⊢; rw [if_pos h2]
        by_cases h3 : e3 - e ≤ 2
        · rw [if_pos h3, if_pos h3]; rfl
        · rw [if_neg h3] at h; exact absurd rfl h
      · rw [if_neg h2] at h ⊢; rw [if_neg h2]
        by_cases h3 : N 84 e = 59
        · rw [if_pos h3, if_pos h3]; rfl
        · rw [if_neg h3] at h; exact absurd rfl h
theorem stp_bad {N : Nat → Nat → Nat} {ba sp : Nat} (h : (tkn (N 84) (N 77 10) sp).1 = 4) : ∃ e k v, stp N ba sp = P7 N 1 (tkS (N 84) (N 77 10) sp) e (tkS (N 84) (N 77 10) sp) k v := by
  unfold tkS stp
  unfold tkn at *
  generalize sk (N 84) (N 77 10) 32 32 sp = e at *
  generalize sk (N 84) (N 77 10) 97 122 e = e2 at *
  generalize sk (N 84) (N 77 10) 48 57 e = e3 at *
  by_cases h0 : N 77 10 ≤ e
  · rw [if_pos h0] at h; cases h
  · rw [if_neg h0] at h ⊢; rw [if_neg h0]
    by_cases h1 : 97 ≤ N 84 e ∧ N 84 e ≤ 122
    · rw [if_pos h1] at h; cases h
    · rw [if_neg h1] at h ⊢; rw [if_neg h1]
      by_cases h2 : 48 ≤ N 84 e ∧ N 84 e ≤ 57
      · rw [if_pos h2] at h ⊢; rw [if_pos h2]
        by_cases h3 : e3 - e ≤ 2
        · rw [if_pos h3] at h; cases h
        · rw [if_neg h3]; exact ⟨_, _, _, rfl⟩
      · rw [if_neg h2] at h ⊢; rw [if_neg h2]
        by_cases h3 : N 84 e = 59
        · rw [if_pos h3] at h; cases h
        · rw [if_neg h3, if_neg h3]; exact ⟨_, _, _, rfl⟩
def nb (lo hi tk vl : Nat) : Nat := if tk ≠ 2 then 2 else if lo ≤ vl ∧ vl ≤ hi then 0 else 3
def wb (mx tk n : Nat) : Nat := if tk ≠ 1 then 2 else if mx < n then 3 else 0
/-- a word is written into a row -/
def wrt (N : Nat → Nat → Nat) (r a : Nat) (t : Nat → Nat) (he n i : Nat) : Nat → Nat → Nat := q_r N r (fun j => if j = a then n else if a + 1 ≤ j ∧ j < a + 1 + i then t (he + (j - (a + 1))) - 97 else N r j)
theorem wrt_0 {N : Nat → Nat → Nat} {r a : Nat} {t : Nat → Nat} {he n : Nat} : q_s N r a n = wrt N r a t he n 0 := by
  funext c d
  simp only [wrt, q_s, q_r]
  by_cases h : c = r
  · subst h
    simp only [if_true]
    by_cases h2 : d = a
    · rw [if_pos h2, if_pos h2]
    · rw [if_neg h2, if_neg h2, if_neg (by omega)]
  · rw [if_neg h, if_neg h]
theorem wrt_s {N : Nat → Nat → Nat} {r a : Nat} {t : Nat → Nat} {he n i : Nat} : q_s (wrt N r a t he n i) r (a + 1 + i) (t (he + i) - 97) = wrt N r a t he n (i + 1) := by
  funext c d
  simp only [wrt, q_s, q_r]
  by_cases h : c = r
  · subst h
    simp only [if_true]
    by_cases h2 : d = a + 1 + i
    · rw [if_pos h2, if_neg (by omega), if_pos (by omega), h2]
      congr 2
      congr 1
      omega
    · rw [if_neg h2]
      by_cases h3 : d = a
      · rw [if_pos h3, if_pos h3]
      · rw [if_neg h3, if_neg h3]
        by_cases h4 : a + 1 ≤ d ∧ d < a + 1 + i
        · rw [if_pos h4, if_pos (by omega)]
        · rw [if_neg h4, if_neg (by omega)]
  · rw [if_neg h, if_neg h, if_neg h]
/-- is the word here the n-th name of the reading? -/
def tld (f t : Nat → Nat) (he n k i : Nat) : Bool := decide (f (9 * n) = k) && alw (fun i => decide (f (9 * n + 1 + i) = t (he + i) - 97)) i
section
variable {Γ : q_G} {ad : Nat → Nat} {N : Nat → Nat → Nat} {L : Nat → Nat → Int} {G : Nat → Nat → Option Nat}
theorem k_wordOf {x : Nat} {ba sp he tk vl : Nat} (hG : GF ad G) (hx : x < 2147483648) (hs : he ≤ sp) (hs2 : sp ≤ 161) (htk : tk ≤ 4) : q_Con Γ mX7_wordOf 1 0 0 [.ref (ad 77), .int (nI x)] (LT ad, P7 N 0 ba sp he tk vl, L, G) (q_is none (LT ad, if wb x tk (sp - he) = 0 then P7 N 0 ba sp he tk vl else P7 N (wb x tk (sp - he)) he sp he tk vl, L, G)) := by
  refine q_con (by decide) rfl rfl (Nat.le_of_ble_eq_true rfl) ?_
  refine q_aload_n 1 rfl rfl dX7_wordOf_0 ?_
  refine q_getI 4 rfl fX7_76 rfl 77 t_77 dX7_wordOf_1 ?_
  rw [P7_12]
  refine q_if_ne 7 rfl 20 (by decide) (by omega) dX7_wordOf_4 (fun h4 => ?_) (fun h4 => ?_)
  · exfalso; omega
  · refine q_aload_n 8 rfl rfl dX7_wordOf_7 ?_
    refine q_getI 11 rfl fX7_85 rfl 77 t_77 dX7_wordOf_8 ?_
    rw [P7_16]
    refine q_iconst 12 rfl 1 k_i1 dX7_wordOf_11 ?_
    refine q_icmp_eq 15 rfl 20 (by decide) (by omega) (by omega) dX7_wordOf_12 (fun h12 => ?_) (fun h12 => ?_)
    · refine q_aload_n 21 rfl rfl dX7_wordOf_20 ?_
      refine q_getI 24 rfl fX7_76 rfl 77 t_77 dX7_wordOf_21 ?_
      rw [P7_12]
      refine q_if_ne 27 rfl 45 (by decide) (by omega) dX7_wordOf_24 (fun h24 => ?_) (fun h24 => ?_)
      · first
        | (exfalso; omega)
        | (refine q_vret rfl dX7_wordOf_45 ?_
           first
             | (have e : wb x tk (sp - he) = 2 := by rw [wb, if_pos (by omega)]
                rw [e, if_neg (by decide)]; exact ⟨rfl, rfl⟩)
             | (have e : wb x tk (sp - he) = 3 := by rw [wb, if_neg (by omega), if_pos (by omega)]
                rw [e, if_neg (by decide)]; exact ⟨rfl, rfl⟩)
             | (have e : wb x tk (sp - he) = 0 := by rw [wb, if_neg (by omega), if_neg (by omega)]
                rw [e, if_pos rfl]; exact ⟨rfl, rfl⟩))
      · first
        | (exfalso; omega)
        | (refine q_aload_n 28 rfl rfl dX7_wordOf_27 ?_
           refine q_getI 31 rfl fX7_88 rfl 77 t_77 dX7_wordOf_28 ?_
           rw [P7_14]
           refine q_aload_n 32 rfl rfl dX7_wordOf_31 ?_
           refine q_getI 35 rfl fX7_79 rfl 77 t_77 dX7_wordOf_32 ?_
           rw [P7_15]
           refine q_isub 36 rfl (by omega) dX7_wordOf_35 ?_
           refine q_iload_n 37 rfl rfl dX7_wordOf_36 ?_
           refine q_icmp_le 40 rfl 45 (by decide) (by omega) (by omega) dX7_wordOf_37 (fun h37 => ?_) (fun h37 => ?_)
           · refine q_vret rfl dX7_wordOf_45 ?_
             first
               | (have e : wb x tk (sp - he) = 2 := by rw [wb, if_pos (by omega)]
                  rw [e, if_neg (by decide)]; exact ⟨rfl, rfl⟩)
               | (have e : wb x tk (sp - he) = 3 := by rw [wb, if_neg (by omega), if_pos (by omega)]
                  rw [e, if_neg (by decide)]; exact ⟨rfl, rfl⟩)
               | (have e : wb x tk (sp - he) = 0 := by rw [wb, if_neg (by omega), if_neg (by omega)]
                  rw [e, if_pos rfl]; exact ⟨rfl, rfl⟩)
           · refine q_aload_n 41 rfl rfl dX7_wordOf_40 ?_
             refine q_iconst 42 rfl 3 k_i3 dX7_wordOf_41 ?_
             refine q_cV1v 45 rfl lX7_106 (k_fails hG (by omega)) rfl 77 t_77 rfl rfl rfl dX7_wordOf_42 ?_
             first
               | rw [if_pos rfl]
               | rw [if_pos (by omega)]
               | rw [if_neg (by omega)]
             refine q_vret rfl dX7_wordOf_45 ?_
             first
               | (have e : wb x tk (sp - he) = 2 := by rw [wb, if_pos (by omega)]
                  rw [e, if_neg (by decide)]; exact ⟨rfl, rfl⟩)
               | (have e : wb x tk (sp - he) = 3 := by rw [wb, if_neg (by omega), if_pos (by omega)]
                  rw [e, if_neg (by decide)]; exact ⟨rfl, rfl⟩)
               | (have e : wb x tk (sp - he) = 0 := by rw [wb, if_neg (by omega), if_neg (by omega)]
                  rw [e, if_pos rfl]; exact ⟨rfl, rfl⟩))
    · refine q_aload_n 16 rfl rfl dX7_wordOf_15 ?_
      refine q_iconst 17 rfl 2 k_i2 dX7_wordOf_16 ?_
      refine q_cV1v 20 rfl lX7_106 (k_fails hG (by omega)) rfl 77 t_77 rfl rfl rfl dX7_wordOf_17 ?_
      first
        | rw [if_pos rfl]
        | rw [if_pos (by omega)]
        | rw [if_neg (by omega)]
      refine q_aload_n 21 rfl rfl dX7_wordOf_20 ?_
      refine q_getI 24 rfl fX7_76 rfl 77 t_77 dX7_wordOf_21 ?_
      rw [P7_12]
      refine q_if_ne 27 rfl 45 (by decide) (by omega) dX7_wordOf_24 (fun h24 => ?_) (fun h24 => ?_)
      · first
        | (exfalso; omega)
        | (refine q_vret rfl dX7_wordOf_45 ?_
           first
             | (have e : wb x tk (sp - he) = 2 := by rw [wb, if_pos (by omega)]
                rw [e, if_neg (by decide)]; exact ⟨rfl, rfl⟩)
             | (have e : wb x tk (sp - he) = 3 := by rw [wb, if_neg (by omega), if_pos (by omega)]
                rw [e, if_neg (by decide)]; exact ⟨rfl, rfl⟩)
             | (have e : wb x tk (sp - he) = 0 := by rw [wb, if_neg (by omega), if_neg (by omega)]
                rw [e, if_pos rfl]; exact ⟨rfl, rfl⟩))
      · first
        | (exfalso; omega)
        | (refine q_aload_n 28 rfl rfl dX7_wordOf_27 ?_
           refine q_getI 31 rfl fX7_88 rfl 77 t_77 dX7_wordOf_28 ?_
           rw [P7_14]
           refine q_aload_n 32 rfl rfl dX7_wordOf_31 ?_
           refine q_getI 35 rfl fX7_79 rfl 77 t_77 dX7_wordOf_32 ?_
           rw [P7_15]
           refine q_isub 36 rfl (by omega) dX7_wordOf_35 ?_
           refine q_iload_n 37 rfl rfl dX7_wordOf_36 ?_
           refine q_icmp_le 40 rfl 45 (by decide) (by omega) (by omega) dX7_wordOf_37 (fun h37 => ?_) (fun h37 => ?_)
           · refine q_vret rfl dX7_wordOf_45 ?_
             first
               | (have e : wb x tk (sp - he) = 2 := by rw [wb, if_pos (by omega)]
                  rw [e, if_neg (by decide)]; exact ⟨rfl, rfl⟩)
               | (have e : wb x tk (sp - he) = 3 := by rw [wb, if_neg (by omega), if_pos (by omega)]
                  rw [e, if_neg (by decide)]; exact ⟨rfl, rfl⟩)
               | (have e : wb x tk (sp - he) = 0 := by rw [wb, if_neg (by omega), if_neg (by omega)]
                  rw [e, if_pos rfl]; exact ⟨rfl, rfl⟩)
           · refine q_aload_n 41 rfl rfl dX7_wordOf_40 ?_
             refine q_iconst 42 rfl 3 k_i3 dX7_wordOf_41 ?_
             refine q_cV1v 45 rfl lX7_106 (k_fails hG (by omega)) rfl 77 t_77 rfl rfl rfl dX7_wordOf_42 ?_
             first
               | rw [if_pos rfl]
               | rw [if_pos (by omega)]
               | rw [if_neg (by omega)]
             refine q_vret rfl dX7_wordOf_45 ?_
             first
               | (have e : wb x tk (sp - he) = 2 := by rw [wb, if_pos (by omega)]
                  rw [e, if_neg (by decide)]; exact ⟨rfl, rfl⟩)
               | (have e : wb x tk (sp - he) = 3 := by rw [wb, if_neg (by omega), if_pos (by omega)]
                  rw [e, if_neg (by decide)]; exact ⟨rfl, rfl⟩)
               | (have e : wb x tk (sp - he) = 0 := by rw [wb, if_neg (by omega), if_neg (by omega)]
                  rw [e, if_pos rfl]; exact ⟨rfl, rfl⟩))
theorem k_wordOfB {x : Nat} {b ba sp he tk vl : Nat} (hG : GF ad G) (hb : b ≠ 0) (hb2 : b < 2147483648) : q_Con Γ mX7_wordOf 1 0 0 [.ref (ad 77), .int (nI x)] (LT ad, P7 N b ba sp he tk vl, L, G) (q_is none (LT ad, P7 N b ba sp he tk vl, L, G)) := by
  refine q_con (by decide) rfl rfl (Nat.le_of_ble_eq_true rfl) ?_
  refine q_aload_n 1 rfl rfl dX7_wordOf_0 ?_
  refine q_getI 4 rfl fX7_76 rfl 77 t_77 dX7_wordOf_1 ?_
  rw [P7_12]
  refine q_if_ne 7 rfl 20 (by decide) (by omega) dX7_wordOf_4 (fun h4 => ?_) (fun h4 => ?_)
  · refine q_aload_n 21 rfl rfl dX7_wordOf_20 ?_
    refine q_getI 24 rfl fX7_76 rfl 77 t_77 dX7_wordOf_21 ?_
    rw [P7_12]
    refine q_if_ne 27 rfl 45 (by decide) (by omega) dX7_wordOf_24 (fun h24 => ?_) (fun h24 => ?_)
    · refine q_vret rfl dX7_wordOf_45 ?_
      exact ⟨rfl, rfl⟩
    · exfalso; omega
  · exfalso; omega
theorem k_stepA {b ba sp he tk vl : Nat} (hG : GF ad G) (hl : N 77 10 ≤ 160) (ht : ∀ i, i < 160 → N 84 i < 128) (hsp : sp ≤ N 77 10) (hb2 : b < 2147483648) : q_Con Γ mX7_step 1 0 0 [.ref (ad 77)] (LT ad, P7 N b ba sp he tk vl, L, G) (q_is none (LT ad, if b = 0 then stp N ba sp else P7 N b ba sp he tk vl, L, G)) := by
  by_cases hb : b = 0
  · subst hb; rw [if_pos rfl]; exact k_step0 hG hl ht hsp
  · rw [if_neg hb]; exact k_stepB hG hb hb2
theorem k_number {lo hi : Nat} {ba sp he tk vl : Nat} (hG : GF ad G) (hl : N 77 10 ≤ 160) (ht : ∀ i, i < 160 → N 84 i < 128) (hlo : lo < 2147483648) (hhi : hi < 2147483648) (hsp : sp ≤ N 77 10) (hvl : vl < 2147483648) (htk : tk ≤ 4) : q_Con Γ mX7_number 2 0 0 [.ref (ad 77), .int (nI lo), .int (nI hi)] (LT ad, P7 N 0 ba sp he tk vl, L, G) (q_is (some (.int (nI (if nb lo hi tk vl = 0 then vl else lo)))) (LT ad, if nb lo hi tk vl = 0 then stp N ba sp else P7 N (nb lo hi tk vl) he sp he tk vl, L, G)) := by
  have zv := z_s_lo hvl
  have zl := z_s_lo hlo
  have zh := z_s_lo hhi
  refine q_con (by decide) rfl rfl (Nat.le_of_ble_eq_true rfl) ?_
  refine q_aload_n 1 rfl rfl dX7_number_0 ?_
  refine q_getI 4 rfl fX7_76 rfl 77 t_77 dX7_number_1 ?_
  rw [P7_12]
  refine q_if_ne 7 rfl 20 (by decide) (by omega) dX7_number_4 (fun h4 => ?_) (fun h4 => ?_)
  · exfalso; omega
  · refine q_aload_n 8 rfl rfl dX7_number_7 ?_
    refine q_getI 11 rfl fX7_85 rfl 77 t_77 dX7_number_8 ?_
    rw [P7_16]
    refine q_iconst 12 rfl 2 k_i2 dX7_number_11 ?_
    refine q_icmp_eq 15 rfl 20 (by decide) (by omega) (by omega) dX7_number_12 (fun h12 => ?_) (fun h12 => ?_)
    · refine q_aload_n 21 rfl rfl dX7_number_20 ?_
      refine q_getI 24 rfl fX7_76 rfl 77 t_77 dX7_number_21 ?_
      rw [P7_12]
      refine q_if_ne 27 rfl 47 (by decide) (by omega) dX7_number_24 (fun h24 => ?_) (fun h24 => ?_)
      · first
        | (exfalso; omega)
        | (refine q_aload_n 48 rfl rfl dX7_number_47 ?_
           refine q_getI 51 rfl fX7_76 rfl 77 t_77 dX7_number_48 ?_
           rw [P7_12]
           refine q_if_ne 54 rfl 61 (by decide) (by omega) dX7_number_51 (fun h51 => ?_) (fun h51 => ?_)
           · first
             | (exfalso; omega)
             | (refine q_iload_n 62 rfl rfl dX7_number_61 ?_
                refine q_istore_n 63 rfl (by decide) dX7_number_62 ?_
                refine q_aload_n 64 rfl rfl dX7_number_63 ?_
                refine q_cV0v 67 rfl lX7_110 (k_stepA hG hl ht hsp (by omega)) rfl 77 t_77 rfl rfl rfl dX7_number_64 ?_
                first
                  | rw [if_pos (rfl : (0 : Nat) = 0)]
                  | rw [if_neg (show ¬ (2 : Nat) = 0 by decide)]
                  | rw [if_neg (show ¬ (3 : Nat) = 0 by decide)]
                refine q_iload_n 68 rfl rfl dX7_number_67 ?_
                refine q_iret rfl dX7_number_68 ?_
                first
                  | (have e : nb lo hi tk vl = 2 := by rw [nb, if_pos (by omega)]
                     rw [e, if_neg (by decide)]; exact ⟨rfl, rfl⟩)
                  | (have e : nb lo hi tk vl = 3 := by rw [nb, if_neg (by omega), if_neg (by omega)]
                     rw [e, if_neg (by decide)]; exact ⟨rfl, rfl⟩)
                  | (have e : nb lo hi tk vl = 0 := by rw [nb, if_neg (by omega), if_pos (by omega)]
                     rw [e, if_pos rfl, if_pos rfl]; exact ⟨rfl, rfl⟩))
           · first
             | (exfalso; omega)
             | (refine q_aload_n 55 rfl rfl dX7_number_54 ?_
                refine q_getI 58 rfl fX7_95 rfl 77 t_77 dX7_number_55 ?_
                rw [P7_17]
                refine q_goto 62 (by decide) dX7_number_58 ?_
                refine q_istore_n 63 rfl (by decide) dX7_number_62 ?_
                refine q_aload_n 64 rfl rfl dX7_number_63 ?_
                refine q_cV0v 67 rfl lX7_110 (k_stepA hG hl ht hsp (by omega)) rfl 77 t_77 rfl rfl rfl dX7_number_64 ?_
                first
                  | rw [if_pos (rfl : (0 : Nat) = 0)]
                  | rw [if_neg (show ¬ (2 : Nat) = 0 by decide)]
                  | rw [if_neg (show ¬ (3 : Nat) = 0 by decide)]
                refine q_iload_n 68 rfl rfl dX7_number_67 ?_
                refine q_iret rfl dX7_number_68 ?_
                first
                  | (have e : nb lo hi tk vl = 2 := by rw [nb, if_pos (by omega)]
                     rw [e, if_neg (by decide)]; exact ⟨rfl, rfl⟩)
                  | (have e : nb lo hi tk vl = 3 := by rw [nb, if_neg (by omega), if_neg (by omega)]
                     rw [e, if_neg (by decide)]; exact ⟨rfl, rfl⟩)
                  | (have e : nb lo hi tk vl = 0 := by rw [nb, if_neg (by omega), if_pos (by omega)]
                     rw [e, if_pos rfl, if_pos rfl]; exact ⟨rfl, rfl⟩)))
      · first
        | (exfalso; omega)
        | (refine q_aload_n 28 rfl rfl dX7_number_27 ?_
           refine q_getI 31 rfl fX7_95 rfl 77 t_77 dX7_number_28 ?_
           rw [P7_17]
           refine q_i2l 32 rfl dX7_number_31 ?_
           refine q_iload_n 33 rfl rfl dX7_number_32 ?_
           refine q_i2l 34 rfl dX7_number_33 ?_
           refine q_iload_n 35 rfl rfl dX7_number_34 ?_
           refine q_i2l 36 rfl dX7_number_35 ?_
           rw [zl, zh]
           refine q_cS3 39 rfl lX7_68 (k_in (by omega) (by omega) (by omega) rfl (by omega) (by omega)) rfl rfl rfl dX7_number_36 ?_
           refine q_if_neD 42 rfl 47 (by decide) dX7_number_39 (fun h39 => ?_) (fun h39 => ?_)
           · refine q_aload_n 48 rfl rfl dX7_number_47 ?_
             refine q_getI 51 rfl fX7_76 rfl 77 t_77 dX7_number_48 ?_
             rw [P7_12]
             refine q_if_ne 54 rfl 61 (by decide) (by omega) dX7_number_51 (fun h51 => ?_) (fun h51 => ?_)
             · first
               | (exfalso; omega)
               | (refine q_iload_n 62 rfl rfl dX7_number_61 ?_
                  refine q_istore_n 63 rfl (by decide) dX7_number_62 ?_
                  refine q_aload_n 64 rfl rfl dX7_number_63 ?_
                  refine q_cV0v 67 rfl lX7_110 (k_stepA hG hl ht hsp (by omega)) rfl 77 t_77 rfl rfl rfl dX7_number_64 ?_
                  first
                    | rw [if_pos (rfl : (0 : Nat) = 0)]
                    | rw [if_neg (show ¬ (2 : Nat) = 0 by decide)]
                    | rw [if_neg (show ¬ (3 : Nat) = 0 by decide)]
                  refine q_iload_n 68 rfl rfl dX7_number_67 ?_
                  refine q_iret rfl dX7_number_68 ?_
                  first
                    | (have e : nb lo hi tk vl = 2 := by rw [nb, if_pos (by omega)]
                       rw [e, if_neg (by decide)]; exact ⟨rfl, rfl⟩)
                    | (have e : nb lo hi tk vl = 3 := by rw [nb, if_neg (by omega), if_neg (by omega)]
                       rw [e, if_neg (by decide)]; exact ⟨rfl, rfl⟩)
                    | (have e : nb lo hi tk vl = 0 := by rw [nb, if_neg (by omega), if_pos (by omega)]
                       rw [e, if_pos rfl, if_pos rfl]; exact ⟨rfl, rfl⟩))
             · first
               | (exfalso; omega)
               | (refine q_aload_n 55 rfl rfl dX7_number_54 ?_
                  refine q_getI 58 rfl fX7_95 rfl 77 t_77 dX7_number_55 ?_
                  rw [P7_17]
                  refine q_goto 62 (by decide) dX7_number_58 ?_
                  refine q_istore_n 63 rfl (by decide) dX7_number_62 ?_
                  refine q_aload_n 64 rfl rfl dX7_number_63 ?_
                  refine q_cV0v 67 rfl lX7_110 (k_stepA hG hl ht hsp (by omega)) rfl 77 t_77 rfl rfl rfl dX7_number_64 ?_
                  first
                    | rw [if_pos (rfl : (0 : Nat) = 0)]
                    | rw [if_neg (show ¬ (2 : Nat) = 0 by decide)]
                    | rw [if_neg (show ¬ (3 : Nat) = 0 by decide)]
                  refine q_iload_n 68 rfl rfl dX7_number_67 ?_
                  refine q_iret rfl dX7_number_68 ?_
                  first
                    | (have e : nb lo hi tk vl = 2 := by rw [nb, if_pos (by omega)]
                       rw [e, if_neg (by decide)]; exact ⟨rfl, rfl⟩)
                    | (have e : nb lo hi tk vl = 3 := by rw [nb, if_neg (by omega), if_neg (by omega)]
                       rw [e, if_neg (by decide)]; exact ⟨rfl, rfl⟩)
                    | (have e : nb lo hi tk vl = 0 := by rw [nb, if_neg (by omega), if_pos (by omega)]
                       rw [e, if_pos rfl, if_pos rfl]; exact ⟨rfl, rfl⟩))
           · refine q_aload_n 43 rfl rfl dX7_number_42 ?_
             refine q_iconst 44 rfl 3 k_i3 dX7_number_43 ?_
             refine q_cV1v 47 rfl lX7_106 (k_fails hG (by omega)) rfl 77 t_77 rfl rfl rfl dX7_number_44 ?_
             first
               | rw [if_pos rfl]
               | rw [if_pos (by omega)]
               | rw [if_neg (by omega)]
             refine q_aload_n 48 rfl rfl dX7_number_47 ?_
             refine q_getI 51 rfl fX7_76 rfl 77 t_77 dX7_number_48 ?_
             rw [P7_12]
             refine q_if_ne 54 rfl 61 (by decide) (by omega) dX7_number_51 (fun h51 => ?_) (fun h51 => ?_)
             · first
               | (exfalso; omega)
               | (refine q_iload_n 62 rfl rfl dX7_number_61 ?_
                  refine q_istore_n 63 rfl (by decide) dX7_number_62 ?_
                  refine q_aload_n 64 rfl rfl dX7_number_63 ?_
                  refine q_cV0v 67 rfl lX7_110 (k_stepA hG hl ht hsp (by omega)) rfl 77 t_77 rfl rfl rfl dX7_number_64 ?_
                  first
                    | rw [if_pos (rfl : (0 : Nat) = 0)]
                    | rw [if_neg (show ¬ (2 : Nat) = 0 by decide)]
                    | rw [if_neg (show ¬ (3 : Nat) = 0 by decide)]
                  refine q_iload_n 68 rfl rfl dX7_number_67 ?_
                  refine q_iret rfl dX7_number_68 ?_
                  first
                    | (have e : nb lo hi tk vl = 2 := by rw [nb, if_pos (by omega)]
                       rw [e, if_neg (by decide)]; exact ⟨rfl, rfl⟩)
                    | (have e : nb lo hi tk vl = 3 := by rw [nb, if_neg (by omega), if_neg (by omega)]
                       rw [e, if_neg (by decide)]; exact ⟨rfl, rfl⟩)
                    | (have e : nb lo hi tk vl = 0 := by rw [nb, if_neg (by omega), if_pos (by omega)]
                       rw [e, if_pos rfl, if_pos rfl]; exact ⟨rfl, rfl⟩))
             · first
               | (exfalso; omega)
               | (refine q_aload_n 55 rfl rfl dX7_number_54 ?_
                  refine q_getI 58 rfl fX7_95 rfl 77 t_77 dX7_number_55 ?_
                  rw [P7_17]
                  refine q_goto 62 (by decide) dX7_number_58 ?_
                  refine q_istore_n 63 rfl (by decide) dX7_number_62 ?_
                  refine q_aload_n 64 rfl rfl dX7_number_63 ?_
                  refine q_cV0v 67 rfl lX7_110 (k_stepA hG hl ht hsp (by omega)) rfl 77 t_77 rfl rfl rfl dX7_number_64 ?_
                  first
                    | rw [if_pos (rfl : (0 : Nat) = 0)]
                    | rw [if_neg (show ¬ (2 : Nat) = 0 by decide)]
                    | rw [if_neg (show ¬ (3 : Nat) = 0 by decide)]
                  refine q_iload_n 68 rfl rfl dX7_number_67 ?_
                  refine q_iret rfl dX7_number_68 ?_
                  first
                    | (have e : nb lo hi tk vl = 2 := by rw [nb, if_pos (by omega)]
                       rw [e, if_neg (by decide)]; exact ⟨rfl, rfl⟩)
                    | (have e : nb lo hi tk vl = 3 := by rw [nb, if_neg (by omega), if_neg (by omega)]
                       rw [e, if_neg (by decide)]; exact ⟨rfl, rfl⟩)
                    | (have e : nb lo hi tk vl = 0 := by rw [nb, if_neg (by omega), if_pos (by omega)]
                       rw [e, if_pos rfl, if_pos rfl]; exact ⟨rfl, rfl⟩)))
    · refine q_aload_n 16 rfl rfl dX7_number_15 ?_
      refine q_iconst 17 rfl 2 k_i2 dX7_number_16 ?_
      refine q_cV1v 20 rfl lX7_106 (k_fails hG (by omega)) rfl 77 t_77 rfl rfl rfl dX7_number_17 ?_
      first
        | rw [if_pos rfl]
        | rw [if_pos (by omega)]
        | rw [if_neg (by omega)]
      refine q_aload_n 21 rfl rfl dX7_number_20 ?_
      refine q_getI 24 rfl fX7_76 rfl 77 t_77 dX7_number_21 ?_
      rw [P7_12]
      refine q_if_ne 27 rfl 47 (by decide) (by omega) dX7_number_24 (fun h24 => ?_) (fun h24 => ?_)
      · first
        | (exfalso; omega)
        | (refine q_aload_n 48 rfl rfl dX7_number_47 ?_
           refine q_getI 51 rfl fX7_76 rfl 77 t_77 dX7_number_48 ?_
           rw [P7_12]
           refine q_if_ne 54 rfl 61 (by decide) (by omega) dX7_number_51 (fun h51 => ?_) (fun h51 => ?_)
           · first
             | (exfalso; omega)
             | (refine q_iload_n 62 rfl rfl dX7_number_61 ?_
                refine q_istore_n 63 rfl (by decide) dX7_number_62 ?_
                refine q_aload_n 64 rfl rfl dX7_number_63 ?_
                refine q_cV0v 67 rfl lX7_110 (k_stepA hG hl ht hsp (by omega)) rfl 77 t_77 rfl rfl rfl dX7_number_64 ?_
                first
                  | rw [if_pos (rfl : (0 : Nat) = 0)]
                  | rw [if_neg (show ¬ (2 : Nat) = 0 by decide)]
                  | rw [if_neg (show ¬ (3 : Nat) = 0 by decide)]
                refine q_iload_n 68 rfl rfl dX7_number_67 ?_
                refine q_iret rfl dX7_number_68 ?_
                first
                  | (have e : nb lo hi tk vl = 2 := by rw [nb, if_pos (by omega)]
                     rw [e, if_neg (by decide)]; exact ⟨rfl, rfl⟩)
                  | (have e : nb lo hi tk vl = 3 := by rw [nb, if_neg (by omega), if_neg (by omega)]
                     rw [e, if_neg (by decide)]; exact ⟨rfl, rfl⟩)
                  | (have e : nb lo hi tk vl = 0 := by rw [nb, if_neg (by omega), if_pos (by omega)]
                     rw [e, if_pos rfl, if_pos rfl]; exact ⟨rfl, rfl⟩))
           · first
             | (exfalso; omega)
             | (refine q_aload_n 55 rfl rfl dX7_number_54 ?_
                refine q_getI 58 rfl fX7_95 rfl 77 t_77 dX7_number_55 ?_
                rw [P7_17]
                refine q_goto 62 (by decide) dX7_number_58 ?_
                refine q_istore_n 63 rfl (by decide) dX7_number_62 ?_
                refine q_aload_n 64 rfl rfl dX7_number_63 ?_
                refine q_cV0v 67 rfl lX7_110 (k_stepA hG hl ht hsp (by omega)) rfl 77 t_77 rfl rfl rfl dX7_number_64 ?_
                first
                  | rw [if_pos (rfl : (0 : Nat) = 0)]
                  | rw [if_neg (show ¬ (2 : Nat) = 0 by decide)]
                  | rw [if_neg (show ¬ (3 : Nat) = 0 by decide)]
                refine q_iload_n 68 rfl rfl dX7_number_67 ?_
                refine q_iret rfl dX7_number_68 ?_
                first
                  | (have e : nb lo hi tk vl = 2 := by rw [nb, if_pos (by omega)]
                     rw [e, if_neg (by decide)]; exact ⟨rfl, rfl⟩)
                  | (have e : nb lo hi tk vl = 3 := by rw [nb, if_neg (by omega), if_neg (by omega)]
                     rw [e, if_neg (by decide)]; exact ⟨rfl, rfl⟩)
                  | (have e : nb lo hi tk vl = 0 := by rw [nb, if_neg (by omega), if_pos (by omega)]
                     rw [e, if_pos rfl, if_pos rfl]; exact ⟨rfl, rfl⟩)))
      · first
        | (exfalso; omega)
        | (refine q_aload_n 28 rfl rfl dX7_number_27 ?_
           refine q_getI 31 rfl fX7_95 rfl 77 t_77 dX7_number_28 ?_
           rw [P7_17]
           refine q_i2l 32 rfl dX7_number_31 ?_
           refine q_iload_n 33 rfl rfl dX7_number_32 ?_
           refine q_i2l 34 rfl dX7_number_33 ?_
           refine q_iload_n 35 rfl rfl dX7_number_34 ?_
           refine q_i2l 36 rfl dX7_number_35 ?_
           rw [zl, zh]
           refine q_cS3 39 rfl lX7_68 (k_in (by omega) (by omega) (by omega) rfl (by omega) (by omega)) rfl rfl rfl dX7_number_36 ?_
           refine q_if_neD 42 rfl 47 (by decide) dX7_number_39 (fun h39 => ?_) (fun h39 => ?_)
           · refine q_aload_n 48 rfl rfl dX7_number_47 ?_
             refine q_getI 51 rfl fX7_76 rfl 77 t_77 dX7_number_48 ?_
             rw [P7_12]
             refine q_if_ne 54 rfl 61 (by decide) (by omega) dX7_number_51 (fun h51 => ?_) (fun h51 => ?_)
             · first
               | (exfalso; omega)
               | (refine q_iload_n 62 rfl rfl dX7_number_61 ?_
                  refine q_istore_n 63 rfl (by decide) dX7_number_62 ?_
                  refine q_aload_n 64 rfl rfl dX7_number_63 ?_
                  refine q_cV0v 67 rfl lX7_110 (k_stepA hG hl ht hsp (by omega)) rfl 77 t_77 rfl rfl rfl dX7_number_64 ?_
                  first
                    | rw [if_pos (rfl : (0 : Nat) = 0)]
                    | rw [if_neg (show ¬ (2 : Nat) = 0 by decide)]
                    | rw [if_neg (show ¬ (3 : Nat) = 0 by decide)]
                  refine q_iload_n 68 rfl rfl dX7_number_67 ?_
                  refine q_iret rfl dX7_number_68 ?_
                  first
                    | (have e : nb lo hi tk vl = 2 := by rw [nb, if_pos (by omega)]
                       rw [e, if_neg (by decide)]; exact ⟨rfl, rfl⟩)
                    | (have e : nb lo hi tk vl = 3 := by rw [nb, if_neg (by omega), if_neg (by omega)]
                       rw [e, if_neg (by decide)]; exact ⟨rfl, rfl⟩)
                    | (have e : nb lo hi tk vl = 0 := by rw [nb, if_neg (by omega), if_pos (by omega)]
                       rw [e, if_pos rfl, if_pos rfl]; exact ⟨rfl, rfl⟩))
             · first
               | (exfalso; omega)
               | (refine q_aload_n 55 rfl rfl dX7_number_54 ?_
                  refine q_getI 58 rfl fX7_95 rfl 77 t_77 dX7_number_55 ?_
                  rw [P7_17]
                  refine q_goto 62 (by decide) dX7_number_58 ?_
                  refine q_istore_n 63 rfl (by decide) dX7_number_62 ?_
                  refine q_aload_n 64 rfl rfl dX7_number_63 ?_
                  refine q_cV0v 67 rfl lX7_110 (k_stepA hG hl ht hsp (by omega)) rfl 77 t_77 rfl rfl rfl dX7_number_64 ?_
                  first
                    | rw [if_pos (rfl : (0 : Nat) = 0)]
                    | rw [if_neg (show ¬ (2 : Nat) = 0 by decide)]
                    | rw [if_neg (show ¬ (3 : Nat) = 0 by decide)]
                  refine q_iload_n 68 rfl rfl dX7_number_67 ?_
                  refine q_iret rfl dX7_number_68 ?_
                  first
                    | (have e : nb lo hi tk vl = 2 := by rw [nb, if_pos (by omega)]
                       rw [e, if_neg (by decide)]; exact ⟨rfl, rfl⟩)
                    | (have e : nb lo hi tk vl = 3 := by rw [nb, if_neg (by omega), if_neg (by omega)]
                       rw [e, if_neg (by decide)]; exact ⟨rfl, rfl⟩)
                    | (have e : nb lo hi tk vl = 0 := by rw [nb, if_neg (by omega), if_pos (by omega)]
                       rw [e, if_pos rfl, if_pos rfl]; exact ⟨rfl, rfl⟩))
           · refine q_aload_n 43 rfl rfl dX7_number_42 ?_
             refine q_iconst 44 rfl 3 k_i3 dX7_number_43 ?_
             refine q_cV1v 47 rfl lX7_106 (k_fails hG (by omega)) rfl 77 t_77 rfl rfl rfl dX7_number_44 ?_
             first
               | rw [if_pos rfl]
               | rw [if_pos (by omega)]
               | rw [if_neg (by omega)]
             refine q_aload_n 48 rfl rfl dX7_number_47 ?_
             refine q_getI 51 rfl fX7_76 rfl 77 t_77 dX7_number_48 ?_
             rw [P7_12]
             refine q_if_ne 54 rfl 61 (by decide) (by omega) dX7_number_51 (fun h51 => ?_) (fun h51 => ?_)
             · first
               | (exfalso; omega)
               | (refine q_iload_n 62 rfl rfl dX7_number_61 ?_
                  refine q_istore_n 63 rfl (by decide) dX7_number_62 ?_
                  refine q_aload_n 64 rfl rfl dX7_number_63 ?_
                  refine q_cV0v 67 rfl lX7_110 (k_stepA hG hl ht hsp (by omega)) rfl 77 t_77 rfl rfl rfl dX7_number_64 ?_
                  first
                    | rw [if_pos (rfl : (0 : Nat) = 0)]
                    | rw [if_neg (show ¬ (2 : Nat) = 0 by decide)]
                    | rw [if_neg (show ¬ (3 : Nat) = 0 by decide)]
                  refine q_iload_n 68 rfl rfl dX7_number_67 ?_
                  refine q_iret rfl dX7_number_68 ?_
                  first
                    | (have e : nb lo hi tk vl = 2 := by rw [nb, if_pos (by omega)]
                       rw [e, if_neg (by decide)]; exact ⟨rfl, rfl⟩)
                    | (have e : nb lo hi tk vl = 3 := by rw [nb, if_neg (by omega), if_neg (by omega)]
                       rw [e, if_neg (by decide)]; exact ⟨rfl, rfl⟩)
                    | (have e : nb lo hi tk vl = 0 := by rw [nb, if_neg (by omega), if_pos (by omega)]
                       rw [e, if_pos rfl, if_pos rfl]; exact ⟨rfl, rfl⟩))
             · first
               | (exfalso; omega)
               | (refine q_aload_n 55 rfl rfl dX7_number_54 ?_
                  refine q_getI 58 rfl fX7_95 rfl 77 t_77 dX7_number_55 ?_
                  rw [P7_17]
                  refine q_goto 62 (by decide) dX7_number_58 ?_
                  refine q_istore_n 63 rfl (by decide) dX7_number_62 ?_
                  refine q_aload_n 64 rfl rfl dX7_number_63 ?_
                  refine q_cV0v 67 rfl lX7_110 (k_stepA hG hl ht hsp (by omega)) rfl 77 t_77 rfl rfl rfl dX7_number_64 ?_
                  first
                    | rw [if_pos (rfl : (0 : Nat) = 0)]
                    | rw [if_neg (show ¬ (2 : Nat) = 0 by decide)]
                    | rw [if_neg (show ¬ (3 : Nat) = 0 by decide)]
                  refine q_iload_n 68 rfl rfl dX7_number_67 ?_
                  refine q_iret rfl dX7_number_68 ?_
                  first
                    | (have e : nb lo hi tk vl = 2 := by rw [nb, if_pos (by omega)]
                       rw [e, if_neg (by decide)]; exact ⟨rfl, rfl⟩)
                    | (have e : nb lo hi tk vl = 3 := by rw [nb, if_neg (by omega), if_neg (by omega)]
                       rw [e, if_neg (by decide)]; exact ⟨rfl, rfl⟩)
                    | (have e : nb lo hi tk vl = 0 := by rw [nb, if_neg (by omega), if_pos (by omega)]
                       rw [e, if_pos rfl, if_pos rfl]; exact ⟨rfl, rfl⟩)))
theorem k_numberB {lo hi : Nat} {b ba sp he tk vl : Nat} (hG : GF ad G) (hb : b ≠ 0) (hb2 : b < 2147483648) : q_Con Γ mX7_number 2 0 0 [.ref (ad 77), .int (nI lo), .int (nI hi)] (LT ad, P7 N b ba sp he tk vl, L, G) (q_is (some (.int (nI lo))) (LT ad, P7 N b ba sp he tk vl, L, G)) := by
  refine q_con (by decide) rfl rfl (Nat.le_of_ble_eq_true rfl) ?_
  refine q_aload_n 1 rfl rfl dX7_number_0 ?_
  refine q_getI 4 rfl fX7_76 rfl 77 t_77 dX7_number_1 ?_
  rw [P7_12]
  refine q_if_ne 7 rfl 20 (by decide) (by omega) dX7_number_4 (fun h4 => ?_) (fun h4 => ?_)
  · refine q_aload_n 21 rfl rfl dX7_number_20 ?_
    refine q_getI 24 rfl fX7_76 rfl 77 t_77 dX7_number_21 ?_
    rw [P7_12]
    refine q_if_ne 27 rfl 47 (by decide) (by omega) dX7_number_24 (fun h24 => ?_) (fun h24 => ?_)
    · refine q_aload_n 48 rfl rfl dX7_number_47 ?_
      refine q_getI 51 rfl fX7_76 rfl 77 t_77 dX7_number_48 ?_
      rw [P7_12]
      refine q_if_ne 54 rfl 61 (by decide) (by omega) dX7_number_51 (fun h51 => ?_) (fun h51 => ?_)
      · refine q_iload_n 62 rfl rfl dX7_number_61 ?_
        refine q_istore_n 63 rfl (by decide) dX7_number_62 ?_
        refine q_aload_n 64 rfl rfl dX7_number_63 ?_
        refine q_cV0v 67 rfl lX7_110 (k_stepB hG hb hb2) rfl 77 t_77 rfl rfl rfl dX7_number_64 ?_
        refine q_iload_n 68 rfl rfl dX7_number_67 ?_
        refine q_iret rfl dX7_number_68 ?_
        exact ⟨rfl, rfl⟩
      · exfalso; omega
    · exfalso; omega
  · exfalso; omega
end
