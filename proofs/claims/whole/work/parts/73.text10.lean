def adM (S : Nat → Nat → Nat) (t : Nat → Nat) (s k : Nat) : Nat → Nat → Nat := q_s (q_r S 6 (fun j => if j < k then t (s + j) - 97 else S 6 j)) 0 4 k
def tldS (S : Nat → Nat → Nat) (wi : Nat) : Nat → Nat → Nat := if wi = 1 then q_s S 0 5 1 else if wi = 3 then q_s S 0 6 1 else S
def chkL (S : Nat → Nat → Nat) (wi : Nat) : Nat := if wi = 0 then (if S 0 0 = 9 then 5 else 0) else if wi = 1 then (if S 0 5 = 1 then 4 else 0) else if wi = 2 then (if S 0 3 = 5 then 5 else 0) else (if S 0 6 = 1 then 4 else 0)
def bF (S : Nat → Nat → Nat) (t : Nat → Nat) (len wi e : Nat) : Nat := if wi = 0 then fName S t len e else if wi = 1 then fLaw t len e else if wi = 2 then fPair t len e else wrdf t len e 8
def bP (S : Nat → Nat → Nat) (t : Nat → Nat) (len wi e : Nat) : Nat := if wi = 0 then pName S t len e else if wi = 1 then pLaw t len e else if wi = 2 then pPair t len e else tkS t len e
def bS (S : Nat → Nat → Nat) (t : Nat → Nat) (len wi e : Nat) : Nat → Nat → Nat := if wi = 0 then adN S t (tkS t len e) (tkE t len e - tkS t len e) (tkV t len (tkE t len e)) else if wi = 1 then adL S (wrd9 t len e - 4) (tkV t len (tkE t len e)) else if wi = 2 then adP S (t (tkS t len e) - 97) (t (tkS t len (tkE t len e)) - 97) else adM S t (tkS t len e) (tkE t len e - tkS t len e)
def bE (t : Nat → Nat) (len wi e : Nat) : Nat := if wi = 3 then tkE t len e else tkE t len (tkE t len e)
/-- a line from p on: its fault, the fault's place, what is read, where it ends -/
def fLine (S : Nat → Nat → Nat) (t : Nat → Nat) (len p : Nat) : Nat := if 3 < wrd9 t len p then 2 else if chkL S (wrd9 t len p) ≠ 0 then chkL S (wrd9 t len p) else if bF (tldS S (wrd9 t len p)) t len (wrd9 t len p) (tkE t len p) ≠ 0 then bF (tldS S (wrd9 t len p)) t len (wrd9 t len p) (tkE t len p) else sttf t len (bE t len (wrd9 t len p) (tkE t len p))
def pLine (S : Nat → Nat → Nat) (t : Nat → Nat) (len p : Nat) : Nat := if 3 < wrd9 t len p then tkS t len p else if chkL S (wrd9 t len p) ≠ 0 then tkS t len p else if bF (tldS S (wrd9 t len p)) t len (wrd9 t len p) (tkE t len p) ≠ 0 then bP (tldS S (wrd9 t len p)) t len (wrd9 t len p) (tkE t len p) else tkS t len (bE t len (wrd9 t len p) (tkE t len p))
def sLine (S : Nat → Nat → Nat) (t : Nat → Nat) (len p : Nat) : Nat → Nat → Nat := bS (tldS S (wrd9 t len p)) t len (wrd9 t len p) (tkE t len p)
def eLine (t : Nat → Nat) (len p : Nat) : Nat := tkE t len (bE t len (wrd9 t len p) (tkE t len p))
theorem stp_12 {N : Nat → Nat → Nat} {ba p : Nat} (h : (tkn (N 84) (N 77 10) p).1 ≠ 4) : stp N ba p 77 12 = 0 := by rw [stp_ok h]; rfl
theorem bits8 : ∀ x, x < 16 → ∀ w, w < 4 → (x ||| 1 * 2 ^ w) < 16 ∧ (x ||| 1 * 2 ^ w) / 2 % 2 = (if w = 1 then 1 else x / 2 % 2) ∧ (x ||| 1 * 2 ^ w) / 8 % 2 = (if w = 3 then 1 else x / 8 % 2) := by decide +kernel
theorem tldS_0 {S : Nat → Nat → Nat} {w : Nat} : tldS S w 0 5 = (if w = 1 then 1 else S 0 5) ∧ tldS S w 0 6 = (if w = 3 then 1 else S 0 6) ∧ (∀ j, j ≠ 5 → j ≠ 6 → tldS S w 0 j = S 0 j) ∧ (∀ r, r ≠ 0 → tldS S w r = S r) := by
  unfold tldS
  by_cases h1 : w = 1
  · rw [if_pos h1, if_pos h1, if_neg (by omega)]
    exact ⟨q_s_at, q_s_off (by omega), fun j q1 _ => q_s_off q1, fun r hr => q_s_ne hr⟩
  · rw [if_neg h1, if_neg h1]
    by_cases h3 : w = 3
    · rw [if_pos h3, if_pos h3]
      exact ⟨q_s_off (by omega), q_s_at, fun j _ q2 => q_s_off q2, fun r hr => q_s_ne hr⟩
    · rw [if_neg h3, if_neg h3]
      exact ⟨rfl, rfl, fun _ _ _ => rfl, fun _ _ => rfl⟩
theorem WFS.tld {S : Nat → Nat → Nat} {w : Nat} (h : WFS S) : WFS (tldS S w) := by
  obtain ⟨t5, t6, t0, tr⟩ := tldS_0 (S := S) (w := w)
  obtain ⟨a1, a2, a3, a4, a5, a6, a7, a8, a9, b1⟩ := h
  unfold WFS
  rw [t0 0 (by omega) (by omega), t0 1 (by omega) (by omega), t0 2 (by omega) (by omega), t0 3 (by omega) (by omega), t0 4 (by omega) (by omega), t5, t6, tr 1 (by omega), tr 2 (by omega), tr 3 (by omega), tr 4 (by omega), tr 5 (by omega), tr 6 (by omega)]
  exact ⟨a1, a2, a3, a4, a5, a6, a7, a8, by split <;> omega, by split <;> omega⟩
theorem MR.tld {S K : Nat → Nat → Nat} {w : Nat} (h : MR S K) (hw : w < 4) : MR (tldS S w) (q_s K 77 8 (K 77 8 ||| 1 * 2 ^ w)) := by
  obtain ⟨t5, t6, t0, tr⟩ := tldS_0 (S := S) (w := w)
  obtain ⟨a1, a2, a3, a4, a5, a6, a7, a8, a9, b1, b2, b3, b4, b5, b6⟩ := h
  obtain ⟨c1, c2, c3⟩ := bits8 _ b1 w hw
  have k8 : q_s K 77 8 (K 77 8 ||| 1 * 2 ^ w) 77 8 = K 77 8 ||| 1 * 2 ^ w := q_s_at
  have k6 : q_s K 77 8 (K 77 8 ||| 1 * 2 ^ w) 77 6 = K 77 6 := q_s_off (by omega)
  have kn : ∀ r, r ≠ 77 → q_s K 77 8 (K 77 8 ||| 1 * 2 ^ w) r = K r := fun r hr => q_s_ne hr
  unfold MR
  rw [k8, k6, kn 81 (by omega), kn 82 (by omega), kn 83 (by omega), t0 0 (by omega) (by omega), t0 1 (by omega) (by omega), t0 2 (by omega) (by omega), t0 3 (by omega) (by omega), t0 4 (by omega) (by omega), t5, t6, tr 1 (by omega), tr 2 (by omega), tr 3 (by omega), tr 4 (by omega), tr 5 (by omega), tr 6 (by omega)]
  exact ⟨a1, a2, a3, a4, a5, a6, a7, a8, a9, c1, by rw [c2, b2], by rw [c3, b3], b4, b5, b6⟩
theorem MR.addM {S K : Nat → Nat → Nat} {t : Nat → Nat} {s k : Nat} (h : MR S K) : MR (adM S t s k) (wrt K 83 0 t s k k) := by
  obtain ⟨a1, a2, a3, a4, a5, a6, a7, a8, a9, b1, b2, b3, b4, b5, b6⟩ := h
  have S0 : ∀ j, j ≠ 4 → adM S t s k 0 j = S 0 j := fun j hj => by unfold adM; rw [q_s_off hj, q_r_ne (by omega)]
  have S04 : adM S t s k 0 4 = k := q_s_at
  have S6 : ∀ j, adM S t s k 6 j = if j < k then t (s + j) - 97 else S 6 j := fun j => by unfold adM; rw [q_s_ne (by omega), q_r_at]
  have Sr : ∀ r, r ≠ 0 → r ≠ 6 → adM S t s k r = S r := fun r h1 h2 => by unfold adM; rw [q_s_ne h1, q_r_ne h2]
  have kn : ∀ r, r ≠ 83 → wrt K 83 0 t s k k r = K r := fun r hr => by unfold wrt; rw [q_r_ne hr]
  have k83 : ∀ j, wrt K 83 0 t s k k 83 j = if j = 0 then k else if 0 + 1 ≤ j ∧ j < 0 + 1 + k then t (s + (j - (0 + 1))) - 97 else K 83 j := fun j => by unfold wrt; rw [q_r_at]
  unfold MR
  rw [S04, S0 0 (by omega), S0 1 (by omega), S0 2 (by omega), S0 3 (by omega), S0 5 (by omega), S0 6 (by omega), Sr 1 (by omega) (by omega), Sr 2 (by omega) (by omega), Sr 3 (by omega) (by omega), Sr 4 (by omega) (by omega), Sr 5 (by omega) (by omega), kn 77 (by omega), kn 81 (by omega), kn 82 (by omega)]
  refine ⟨a1, a2, a3, a4, a5, a6, a7, ?_, fun i hi => ?_, b1, b2, b3, b4, b5, b6⟩
  · rw [k83, if_pos rfl]
  · rw [k83, if_neg (by omega), if_pos (by omega), S6, if_pos hi]
    congr 2
    omega
theorem MB.wrt83 {K : Nat → Nat → Nat} {s n : Nat} {t : Nat → Nat} (h : MB K) (hn : n ≤ 8) (ht : ∀ i, i < n → 97 ≤ t (s + i) ∧ t (s + i) ≤ 122) : MB (wrt K 83 0 t s n n) := by
  obtain ⟨h1, h2, h3, h4⟩ := h
  have e82 : wrt K 83 0 t s n n 82 = K 82 := q_r_ne (by omega)
  have ea : ∀ j, wrt K 83 0 t s n n 83 j = if j = 0 then n else if 0 + 1 ≤ j ∧ j < 0 + 1 + n then t (s + (j - (0 + 1))) - 97 else K 83 j := fun j => by unfold wrt; rw [q_r_at]
  refine ⟨by rw [e82]; exact h1, by rw [e82]; exact h2, fun i hi => ?_, ?_⟩
  · rw [ea]
    split
    · omega
    · split
      · have := ht (i - (0 + 1)) (by omega); omega
      · exact h3 i hi
  · rw [ea, if_pos rfl]; exact hn
section
variable {Γ : q_G} {ad : Nat → Nat} {N : Nat → Nat → Nat} {L : Nat → Nat → Int} {G : Nat → Nat → Option Nat}
theorem rl_tail {mc mz f pos p f2 pos2 ba : Nat} {S : Nat → Nat → Nat} {h : q_H} {v : Option Value} (hG : GF ad G) (hl : N 77 10 ≤ 160) (ht : ∀ i, i < 160 → N 84 i < 128) (hp : p ≤ N 77 10) (hf4 : f < 2147483648) (hf2 : f2 = if f ≠ 0 then f else sttf (N 84) (N 77 10) p) (hpos2 : pos2 = if f ≠ 0 then pos else tkS (N 84) (N 77 10) p) (hq : RS ad L G N S ba f pos p v h) : q_R Γ mX7_readLine (q_room 4 mc mz) (q_Z Γ (RS ad L G N S ba f2 pos2 (tkE (N 84) (N 77 10) p)) 0 0) 0 0 162 [(0, .ref (ad 77))] [] h := by
  obtain ⟨_, hq | hq⟩ := hq
  · obtain ⟨hf, K, sp, he, tk, vl, rfl, hF, hM⟩ := hq
    rw [if_pos hf] at hf2 hpos2
    subst hf2; subst hpos2
    refine q_aload_n 163 rfl rfl dX7_readLine_162 ?_
    refine q_getI 166 rfl fX7_76 rfl 77 t_77 dX7_readLine_163 ?_
    rw [P7_12]
    refine q_if_ne 169 rfl 182 (by decide) (by omega) dX7_readLine_166 (fun h166 => ?_) (fun h166 => ?_)
    · refine q_aload_n 183 rfl rfl dX7_readLine_182 ?_
      refine q_cV0v 186 rfl lX7_110 (k_stepB hG hf hf4) rfl 77 t_77 rfl rfl rfl dX7_readLine_183 ?_
      refine q_vret rfl dX7_readLine_186 ?_
      exact ⟨rfl, Or.inl ⟨hf, _, _, _, _, _, rfl, hF, hM⟩⟩
    · exfalso; omega
  · obtain ⟨hf, K, rfl, hF, hM, hR⟩ := hq
    rw [if_neg (by omega)] at hf2 hpos2
    have e84 := hF.t
    have e10 := hF.len
    obtain ⟨t1, t2, t3, t4, t5, t6, t7, t8, t9⟩ := tkn_spec (t := N 84) hp
    by_cases h4 : (tkn (N 84) (N 77 10) p).1 = 4
    · obtain ⟨e2, k2, v2, hst⟩ := stp_bad (N := K) (ba := ba) (sp := p) (by rw [e84, e10]; exact h4)
      rw [e84, e10] at hst
      rw [hst]
      rw [sttf, if_pos h4] at hf2
      subst hf2; subst hpos2
      refine q_aload_n 163 rfl rfl dX7_readLine_162 ?_
      refine q_getI 166 rfl fX7_76 rfl 77 t_77 dX7_readLine_163 ?_
      rw [P7_12]
      refine q_if_ne 169 rfl 182 (by decide) (by omega) dX7_readLine_166 (fun h166 => ?_) (fun h166 => ?_)
      · refine q_aload_n 183 rfl rfl dX7_readLine_182 ?_
        refine q_cV0v 186 rfl lX7_110 (k_stepB hG (by decide) (by decide)) rfl 77 t_77 rfl rfl rfl dX7_readLine_183 ?_
        refine q_vret rfl dX7_readLine_186 ?_
        exact ⟨rfl, Or.inl ⟨by decide, _, _, _, _, _, rfl, hF, hM⟩⟩
      · exfalso; omega
    · have hst := stp_ok (N := K) (ba := ba) (sp := p) (by rw [e84, e10]; exact h4)
      rw [e84, e10] at hst
      rw [hst]
      rw [sttf, if_neg h4] at hf2
      by_cases h3 : (tkn (N 84) (N 77 10) p).1 = 3
      · rw [if_pos h3] at hf2
        subst hf2; subst hpos2
        refine q_aload_n 163 rfl rfl dX7_readLine_162 ?_
        refine q_getI 166 rfl fX7_76 rfl 77 t_77 dX7_readLine_163 ?_
        rw [P7_12]
        refine q_if_ne 169 rfl 182 (by decide) (by omega) dX7_readLine_166 (fun h166 => ?_) (fun h166 => ?_)
        · exfalso; omega
        · refine q_aload_n 170 rfl rfl dX7_readLine_169 ?_
          refine q_getI 173 rfl fX7_85 rfl 77 t_77 dX7_readLine_170 ?_
          rw [P7_16]
          refine q_iconst 174 rfl 3 k_i3 dX7_readLine_173 ?_
          refine q_icmp_eq 177 rfl 182 (by decide) (by omega) (by omega) dX7_readLine_174 (fun h174 => ?_) (fun h174 => ?_)
          · refine q_aload_n 183 rfl rfl dX7_readLine_182 ?_
            refine q_cV0v 186 rfl lX7_110 (k_step0 hG (by rw [e10]; exact hl) (by rw [e84]; exact ht) (by rw [e10]; exact t3)) rfl 77 t_77 rfl rfl rfl dX7_readLine_183 ?_
            refine q_vret rfl dX7_readLine_186 ?_
            exact ⟨rfl, Or.inr ⟨rfl, _, rfl, hF, hM, hR⟩⟩
          · exfalso; omega
      · rw [if_neg h3] at hf2
        subst hf2; subst hpos2
        refine q_aload_n 163 rfl rfl dX7_readLine_162 ?_
        refine q_getI 166 rfl fX7_76 rfl 77 t_77 dX7_readLine_163 ?_
        rw [P7_12]
        refine q_if_ne 169 rfl 182 (by decide) (by omega) dX7_readLine_166 (fun h166 => ?_) (fun h166 => ?_)
        · exfalso; omega
        · refine q_aload_n 170 rfl rfl dX7_readLine_169 ?_
          refine q_getI 173 rfl fX7_85 rfl 77 t_77 dX7_readLine_170 ?_
          rw [P7_16]
          refine q_iconst 174 rfl 3 k_i3 dX7_readLine_173 ?_
          refine q_icmp_eq 177 rfl 182 (by decide) (by omega) (by omega) dX7_readLine_174 (fun h174 => ?_) (fun h174 => ?_)
          · exfalso; omega
          · refine q_aload_n 178 rfl rfl dX7_readLine_177 ?_
            refine q_iconst 179 rfl 2 k_i2 dX7_readLine_178 ?_
            refine q_cV1v 182 rfl lX7_106 (k_fails hG (by omega)) rfl 77 t_77 rfl rfl rfl dX7_readLine_179 ?_
            rw [if_pos rfl]
            refine q_aload_n 183 rfl rfl dX7_readLine_182 ?_
            refine q_cV0v 186 rfl lX7_110 (k_stepB hG (by decide) (by decide)) rfl 77 t_77 rfl rfl rfl dX7_readLine_183 ?_
            refine q_vret rfl dX7_readLine_186 ?_
            exact ⟨rfl, Or.inl ⟨by decide, _, _, _, _, _, rfl, hF, hM⟩⟩
theorem rl_maid {mc mz p ba : Nat} {S : Nat → Nat → Nat} {Z : q_Zt} (hG : GF ad G) (hl : N 77 10 ≤ 160) (ht : ∀ i, i < 160 → N 84 i < 128) (hR : MR S N) (hB : MB N) (hp : p ≤ N 77 10) (hk4 : (tkn (N 84) (N 77 10) p).1 ≠ 4) (hx : ∀ h, RS ad L G N (adM S (N 84) (tkS (N 84) (N 77 10) p) (tkE (N 84) (N 77 10) p - tkS (N 84) (N 77 10) p)) ba (wrdf (N 84) (N 77 10) p 8) (tkS (N 84) (N 77 10) p) (tkE (N 84) (N 77 10) p) none h → q_R Γ mX7_readLine (q_room 4 mc mz) Z 0 0 162 [(0, .ref (ad 77))] [] h) : q_R Γ mX7_readLine (q_room 4 mc mz) Z 0 0 143 [(0, .ref (ad 77))] [] (LT ad, stp N ba p, L, G) := by
  rw [stp_ok hk4]
  obtain ⟨t1, t2, t3, t4, t5, t6, t7, t8, t9⟩ := tkn_spec (t := N 84) hp
  have hwf : wrdf (N 84) (N 77 10) p 8 = wb 8 (tkn (N 84) (N 77 10) p).1 (tkE (N 84) (N 77 10) p - tkS (N 84) (N 77 10) p) := by rw [wrdf, if_neg hk4]
  have wok := wrdf_ok (t := N 84) (len := N 77 10) (p := p) (mx := 8)
  rw [hwf] at wok hx
  generalize (if (tkn (N 84) (N 77 10) p).1 = 2 then tkV (N 84) (N 77 10) p else 0) = v0 at *
  generalize (tkn (N 84) (N 77 10) p).1 = k at *
  generalize tkE (N 84) (N 77 10) p = e at *
  generalize tkS (N 84) (N 77 10) p = s at *
  have hwb : wb 8 k (e - s) ≤ 3 := by unfold wb; split <;> (try split) <;> omega
  by_cases hw : wb 8 k (e - s) = 0
  · have hk1 := (wok hw).1
    have hk8 := (wok hw).2
    have e84 : wrt N 83 0 (N 84) s (e - s) (e - s) 84 = N 84 := q_r_ne (by omega)
    have e10 : wrt N 83 0 (N 84) s (e - s) (e - s) 77 10 = N 77 10 := by unfold wrt; rw [q_r_ne (by omega)]
    refine q_aload_n 144 rfl rfl dX7_readLine_143 ?_
    refine q_bipush 146 rfl 8 k_b8 dX7_readLine_144 ?_
    refine q_cV1v 149 rfl lX7_113 (k_wordOf hG (by omega) t2 (by omega) t4) rfl 77 t_77 rfl rfl rfl dX7_readLine_146 ?_
    rw [if_pos hw]
    refine q_aload_n 150 rfl rfl dX7_readLine_149 ?_
    refine q_aload_n 151 rfl rfl dX7_readLine_150 ?_
    refine q_getR 154 rfl fX7_25 rfl 77 t_77 (g_77_7 hG) dX7_readLine_151 ?_
    refine q_iconst 155 rfl 0 k_i0 dX7_readLine_154 ?_
    refine q_cV2v 158 rfl lX7_123 (k_writes (nl := 9) hG hl ht t2 t3 (t7 hk1).2 t_83 (by decide) (by decide) (by decide) (by omega)) rfl 77 t_77 rfl rfl rfl dX7_readLine_155 ?_
    refine q_aload_n 159 rfl rfl dX7_readLine_158 ?_
    refine q_cV0v 162 rfl lX7_110 (k_step0 (N := wrt N 83 0 (N 84) s (e - s) (e - s)) hG (by rw [e10]; exact hl) (by rw [e84]; exact ht) (by rw [e10]; exact t3)) rfl 77 t_77 rfl rfl rfl dX7_readLine_159 ?_
    refine q_loc (hx _ ⟨rfl, Or.inr ⟨hw, _, rfl, FR.wr (Or.inr rfl), hB.wrt83 hk8 (fun i hi => (t7 hk1).2 (s + i) (by omega) (by omega)), hR.addM⟩⟩) (q_sub1 rfl q_sub0)
  · have hw2 : wb 8 k (e - s) ≠ 0 := hw
    refine q_aload_n 144 rfl rfl dX7_readLine_143 ?_
    refine q_bipush 146 rfl 8 k_b8 dX7_readLine_144 ?_
    refine q_cV1v 149 rfl lX7_113 (k_wordOf hG (by omega) t2 (by omega) t4) rfl 77 t_77 rfl rfl rfl dX7_readLine_146 ?_
    rw [if_neg hw]
    refine q_aload_n 150 rfl rfl dX7_readLine_149 ?_
    refine q_aload_n 151 rfl rfl dX7_readLine_150 ?_
    refine q_getR 154 rfl fX7_25 rfl 77 t_77 (g_77_7 hG) dX7_readLine_151 ?_
    refine q_iconst 155 rfl 0 k_i0 dX7_readLine_154 ?_
    refine q_cV2v 158 rfl lX7_123 (k_writesB hG hw2 (by omega)) rfl 77 t_77 rfl rfl rfl dX7_readLine_155 ?_
    refine q_aload_n 159 rfl rfl dX7_readLine_158 ?_
    refine q_cV0v 162 rfl lX7_110 (k_stepB hG hw2 (by omega)) rfl 77 t_77 rfl rfl rfl dX7_readLine_159 ?_
    refine q_loc (hx _ ⟨rfl, Or.inl ⟨hw2, _, _, _, _, _, rfl, FR.rf, hB⟩⟩) (q_sub1 rfl q_sub0)
end
