theorem sb_step (x y : Nat) : x &&& y = 2 * ((x / 2) &&& (y / 2)) + (x % 2) * (y % 2) := by
  have h1 := Nat.and_div_two (a := x) (b := y)
  have h2 := Nat.and_mod_two_eq_one (a := x) (b := y)
  have h4 : (x &&& y) % 2 = (x % 2) * (y % 2) := by
    rcases Nat.mod_two_eq_zero_or_one x with a | a <;> rcases Nat.mod_two_eq_zero_or_one y with b | b <;> rw [a, b] <;> omega
  rw [← h4, ← h1]
  omega
theorem sb_half {t A : Nat} (h : t &&& A = t) : (t / 2) &&& (A / 2) = t / 2 ∧ t % 2 ≤ A % 2 := by
  have h1 := sb_step t A
  rw [h] at h1
  have b1 := Nat.mod_two_eq_zero_or_one t
  have b2 := Nat.mod_two_eq_zero_or_one A
  have h2 : ((t / 2) &&& (A / 2)) ≤ t / 2 := Nat.and_le_left
  rcases b1 with a | a <;> rcases b2 with b | b <;> rw [a, b] at h1 <;> omega
theorem sb_mk {t A : Nat} (h : (t / 2) &&& (A / 2) = t / 2) (h2 : t % 2 ≤ A % 2) : t &&& A = t := by
  rw [sb_step, h]
  have b1 := Nat.mod_two_eq_zero_or_one t
  have b2 := Nat.mod_two_eq_zero_or_one A
  rcases b1 with a | a <;> rcases b2 with b | b <;> rw [a, b] <;> omega
theorem sb_le {t A : Nat} (h : t &&& A = t) : t ≤ A := by rw [← h]; exact Nat.and_le_right
theorem sb_same : ∀ k A t, A < 2 ^ k → t &&& A = t → (t + (2 ^ k - 1 - A)) &&& A = t := by
  intro k
  induction k with
  | zero => intro A t hA ht; have : A = 0 := by simp at hA; exact hA
            subst this; simp at ht ⊢; exact ht
  | succ k ih =>
    intro A t hA ht
    obtain ⟨h1, h2⟩ := sb_half ht
    rw [Nat.pow_succ] at hA ⊢
    have i1 := ih (A / 2) (t / 2) (by omega) h1
    have hl := sb_le h1
    generalize hP : 2 ^ k = P at *
    have b1 := Nat.mod_two_eq_zero_or_one t
    have b2 := Nat.mod_two_eq_zero_or_one A
    have e1 : (t + (P * 2 - 1 - A)) / 2 = t / 2 + (P - 1 - A / 2) := by omega
    have e2 : (t + (P * 2 - 1 - A)) % 2 = (t % 2 + 1 - A % 2) := by omega
    rw [sb_step, e1, e2, i1]
    rcases b1 with a | a <;> rcases b2 with b | b <;> rw [a, b] <;> omega
theorem sb_next : ∀ k A t, A < 2 ^ k → t &&& A = t → t ≠ A → t < ((t + 2 ^ k - A) &&& A) ∧ ∀ u, u &&& A = u → u < ((t + 2 ^ k - A) &&& A) → u ≤ t := by
  intro k
  induction k with
  | zero => intro A t hA ht hn; have : A = 0 := by simp at hA; exact hA
            subst this; simp at ht; omega
  | succ k ih =>
    intro A t hA ht hn
    obtain ⟨h1, h2⟩ := sb_half ht
    rw [Nat.pow_succ] at hA ⊢
    have hl := sb_le h1
    have hs := sb_same k (A / 2) (t / 2) (by omega) h1
    have hi := ih (A / 2) (t / 2) (by omega) h1
    have hz := Nat.two_pow_pos k
    generalize hP : 2 ^ k = P at *
    have b1 := Nat.mod_two_eq_zero_or_one t
    have b2 := Nat.mod_two_eq_zero_or_one A
    by_cases hc : t % 2 = A % 2
    · have e1 : (t + P * 2 - A) / 2 = t / 2 + P - A / 2 := by omega
      have e2 : (t + P * 2 - A) % 2 = 0 := by omega
      rw [sb_step, e1, e2, Nat.zero_mul, Nat.add_zero]
      obtain ⟨i1, i2⟩ := hi (by omega)
      refine ⟨by omega, fun u hu hlt => ?_⟩
      obtain ⟨u1, u2⟩ := sb_half hu
      have := i2 _ u1 (by omega)
      omega
    · have e1 : (t + P * 2 - A) / 2 = t / 2 + (P - 1 - A / 2) := by omega
      have e2 : (t + P * 2 - A) % 2 = 1 := by omega
      rw [sb_step, e1, e2, hs]
      refine ⟨by omega, fun u hu hlt => ?_⟩
      have : A % 2 = 1 := by omega
      rw [this] at hlt
      omega
/-- the sets of settleAll() -/
def sbn (A t : Nat) : Nat := (t + 4294967296 - A) &&& A
def sbgo (A : Nat) : Nat → Nat → Bool
  | 0, t => t == A
  | k + 1, t => t != A && sbgo A k (sbn A t)
def sbAll : Nat → Bool
  | 0 => true
  | a + 1 => sbgo a (2 ^ pc a 9 - 1) 0 && sbAll a
theorem sbAll_512 : sbAll 512 = true := by decide +kernel
theorem sbAll_at : ∀ k, sbAll k = true → ∀ a, a < k → sbgo a (2 ^ pc a 9 - 1) 0 = true := by
  intro k
  induction k with
  | zero => intro _ a h; omega
  | succ k ih =>
    intro h a ha
    simp only [sbAll, Bool.and_eq_true] at h
    by_cases e : a = k
    · subst e; exact h.1
    · exact ih h.2 a (by omega)
theorem sbn_sub (A t : Nat) : sbn A t &&& A = sbn A t := by rw [sbn, Nat.and_assoc, Nat.and_self]
theorem sbn_next {A t : Nat} (hA : A < 4294967296) (ht : t &&& A = t) (hn : t ≠ A) : t < sbn A t ∧ ∀ u, u &&& A = u → u < sbn A t → u ≤ t := sb_next 32 A t hA ht hn
theorem sub_and {t A : Nat} (h : ∀ i, t.testBit i = true → A.testBit i = true) : t &&& A = t := by
  apply bit_ext
  intro i
  rw [Nat.testBit_and]
  cases ht : t.testBit i with
  | true => rw [h i ht]; rfl
  | false => rfl
theorem and_sub {t A i : Nat} (h : t &&& A = t) (hb : t.testBit i = true) : A.testBit i = true := by
  rw [← h, Nat.testBit_and, Bool.and_eq_true] at hb
  exact hb.2
/-- settleAll() has come to t -/
def ST (N H : Nat → Nat → Nat) (q A c : Nat) (Rl : Nat → Nat → Bool) (t : Nat) : Prop := (∀ a, a ≠ q → a ≠ q + 3 → H a = N a) ∧ (∀ j, j ≠ 6 → H q j = N q j) ∧ (∀ u, u ≤ t → u &&& A = u → H (q + 3) u = cK Rl c (N (q + 2)) (N q 0) u) ∧ (t ≠ 0 → H q 6 = (amin (vK Rl c (N (q + 2)) (N q 0) t) 1048576 c).2)
theorem ST_step {N H : Nat → Nat → Nat} {q A c : Nat} {Rl : Nat → Nat → Bool} {t n : Nat} (h : ST N H q A c Rl t) (hu : ∀ u, u &&& A = u → u < n → u ≤ t) : ST N (q_s (q_s H q 6 (amin (vK Rl c (N (q + 2)) (N q 0) n) 1048576 c).2) (q + 3) n (cK Rl c (N (q + 2)) (N q 0) n)) q A c Rl n := by
  obtain ⟨s1, s2, s3, s4⟩ := h
  refine ⟨fun a h1 h2 => ?_, fun j hj => ?_, fun u h1 h2 => ?_, fun _ => ?_⟩
  · rw [q_s_ne h2, q_s_ne h1]; exact s1 a h1 h2
  · rw [q_s_ne (by omega), q_s_off hj]; exact s2 j hj
  · by_cases e : u = n
    · subst e; exact q_s_at
    · rw [q_s_off e, q_s_ne (by omega)]; exact s3 u (hu u h2 (by omega)) h2
  · rw [q_s_ne (by omega)]; exact q_s_at
theorem prt_congr {Rl Ql : Nat → Nat → Bool} {c s g a : Nat} (h : ∀ n, n < c → Rl g n = Ql g n) : prt Rl c s g a = prt Ql c s g a := by
  refine mk_ext (fun i hi => ?_)
  have ea : aof Rl g i = aof Ql g i := by simp only [aof, h i hi]
  rw [ea]
theorem cst_congr {Rl Ql : Nat → Nat → Bool} {c : Nat} {w v : Nat → Nat} {op : Nat → Nat → Nat} (h : ∀ g n, g < c → n < c → Rl g n = Ql g n) (hw : ∀ s, w s = v s) : ∀ s, cst Rl c w op s = cst Ql c v op s := by
  intro s
  induction s using Nat.strongRecOn with
  | ind s ih =>
    by_cases h0 : s = 0
    · subst h0; rw [cst_0, cst_0]
    · rw [cst_s h0, cst_s h0, hw s]
      congr 2
      refine amin_congr (fun g hg => ?_)
      rw [csv, csv, prt_congr (fun n hn => h g n hg hn), prt_congr (fun n hn => h g n hg hn)]
      by_cases hh : prt Ql c s g 1 < s ∧ prt Ql c s g 0 < s
      · rw [if_pos hh, if_pos hh, ih _ hh.1, ih _ hh.2]
      · rw [if_neg hh, if_neg hh]
theorem ods_congr {f g : Nat → Nat} {s : Nat} : ∀ {c : Nat}, (∀ n, n < c → f n = g n) → ods f s c = ods g s c := by
  intro c
  induction c with
  | zero => intro _; rfl
  | succ c ih => intro h; simp only [ods]; rw [ih (fun n hn => h n (by omega)), h c (by omega)]
theorem wS_congr {b c : Nat} {f g : Nat → Nat} (h : ∀ n, n < c → f n = g n) (s : Nat) : wS b c f s = wS b c g s := by
  rw [wS, wS, ods_congr h]
theorem cK_congr {Rl Ql : Nat → Nat → Bool} {c b s : Nat} {f g : Nat → Nat} (h : ∀ g n, g < c → n < c → Rl g n = Ql g n) (hf : ∀ n, n < c → f n = g n) : cK Rl c f b s = cK Ql c g b s := cst_congr h (wS_congr hf) s
theorem vK_congr {Rl Ql : Nat → Nat → Bool} {c b s : Nat} {f g : Nat → Nat} (h : ∀ g n, g < c → n < c → Rl g n = Ql g n) (hf : ∀ n, n < c → f n = g n) : amin (vK Rl c f b s) 1048576 c = amin (vK Ql c g b s) 1048576 c := by
  refine amin_congr (fun g hg => ?_)
  simp only [csv]
  rw [prt_congr (fun n hn => h g n hg hn), prt_congr (fun n hn => h g n hg hn), cst_congr h (wS_congr hf), cst_congr h (wS_congr hf)]
section
variable {Γ : q_G} {ad : Nat → Nat} {N : Nat → Nat → Nat} {L : Nat → Nat → Int} {G : Nat → Nat → Option Nat}
theorem settleAll_lp {Z : q_Zt} {K mc mz : Nat} {q c A : Nat} {Rl : Nat → Nat → Bool} (hG : GF ad G) (hq : isS q) (hc : N q 4 = c) (hc9 : c ≤ 9) (hb : N q 0 ≤ 1) (hr : ∀ g, g < c → N (q + 1) g = mk (Rl g) c) (ho : ∀ n, n < c → N (q + 2) n ≤ 9) (h5 : N q 5 = A) (hA : A < 2 ^ c) (hK : K ≤ 512) (hx : ∀ t : Nat, sbgo A (K - (K)) t = true ∧ t &&& A = t → ∀ H : Nat → Nat → Nat, ST N H q A c Rl t → q_R Γ mX4_settleAll (q_room 3 mc mz) Z 0 0 42 [] [] (LT ad, H, L, G)) : ∀ i, i ≤ K →  ∀ t : Nat, sbgo A (K - i) t = true ∧ t &&& A = t → ∀ H : Nat → Nat → Nat, ST N H q A c Rl t → q_R Γ mX4_settleAll (q_room 3 mc mz) Z 0 0 14 [(0, .ref (ad q)), (1, .int (nI K)), (2, .int (nI t)), (3, .int (nI i))] [] (LT ad, H, L, G) := by
  refine dn_loop (K) ?_ ?_
  · intro t h_t H h_H
    refine q_iload_n 15 rfl rfl dX4_settleAll_14 ?_
    refine q_iload_n 16 rfl rfl dX4_settleAll_15 ?_
    refine q_icmp_ge 19 rfl 42 (by decide) (by omega) (by omega) dX4_settleAll_16 (fun h16 => ?_) (fun h16 => ?_)
    · exact q_loc (hx _ h_t _ h_H) q_sub0
    · exfalso; omega
  · intro i h_i ih t h_t H h_H
    have p9 := p2_9 hc9
    obtain ⟨hgo, hsb⟩ := h_t
    obtain ⟨s1, s2, s3, s4⟩ := id h_H
    have e4 : H q 4 = c := by rw [s2 4 (by omega)]; exact hc
    have e5 : H q 5 = A := by rw [s2 5 (by omega)]; exact h5
    have e0 : H q 0 = N q 0 := s2 0 (by omega)
    have e1 : H (q + 1) = N (q + 1) := s1 _ (by omega) (by omega)
    have e2 : H (q + 2) = N (q + 2) := s1 _ (by omega) (by omega)
    have eg : sbgo A (K - i) t = (t != A && sbgo A (K - (i + 1)) (sbn A t)) := by rw [show K - i = (K - (i + 1)) + 1 by omega]; rfl
    rw [eg, Bool.and_eq_true, bne_iff_ne] at hgo
    obtain ⟨n1, n2⟩ := sbn_next (by omega) hsb hgo.1
    have n3 := sbn_sub A t
    have n4 := sb_le n3
    have n5 : ∀ u, u < sbn A t → (∀ i, u.testBit i = true → (sbn A t).testBit i = true) → H (q + 3) u = cK Rl c (H (q + 2)) (H q 0) u := fun u h1 h2 => by
      rw [e2, e0]
      have h3 : u &&& A = u := sub_and (fun i hi => and_sub n3 (h2 i hi))
      exact s3 u (n2 u h3 h1) h3
    refine q_iload_n 15 rfl rfl dX4_settleAll_14 ?_
    refine q_iload_n 16 rfl rfl dX4_settleAll_15 ?_
    refine q_icmp_ge 19 rfl 42 (by decide) (by omega) (by omega) dX4_settleAll_16 (fun h16 => ?_) (fun h16 => ?_)
    · exfalso; omega
    · refine q_iload_n 20 rfl rfl dX4_settleAll_19 ?_
      refine q_aload_n 21 rfl rfl dX4_settleAll_20 ?_
      refine q_getI 24 rfl fX4_43 rfl q (tS hq) dX4_settleAll_21 ?_
      rw [e5]
      refine q_isubG 25 rfl (by omega) dX4_settleAll_24 ?_
      refine q_aload_n 26 rfl rfl dX4_settleAll_25 ?_
      refine q_getI 29 rfl fX4_43 rfl q (tS hq) dX4_settleAll_26 ?_
      rw [e5]
      refine q_iand 30 rfl dX4_settleAll_29 ?_
      rw [show (t + 4294967296 - A) &&& A = sbn A t from rfl]
      refine q_istore_n 31 rfl (by decide) dX4_settleAll_30 ?_
      refine q_aload_n 32 rfl rfl dX4_settleAll_31 ?_
      refine q_iload_n 33 rfl rfl dX4_settleAll_32 ?_
      refine q_cV1v 36 rfl lX4_55 (k_settle (N := H) (Rl := Rl) hG hq e4 hc9 (by omega) (by rw [e1]; exact hr) (by rw [e2]; exact ho) (by omega) n5 (by omega)) rfl q (tS hq) rfl rfl rfl dX4_settleAll_33 ?_
      rw [e2, e0]
      refine q_iinc1 39 rfl 1 k_i1 rfl (by decide) dX4_settleAll_36 ?_
      refine q_goto 14 (by decide) dX4_settleAll_39 ?_
      refine q_loc (ih _ ?_ _ ?_) (q_sub1 rfl (q_sub1 rfl (q_sub1 rfl (q_sub1 rfl q_sub0))))
      · exact ⟨hgo.2, n3⟩
      · exact ST_step h_H n2
theorem k_settleAll {q c A : Nat} {Rl : Nat → Nat → Bool} (hG : GF ad G) (hq : isS q) (hc : N q 4 = c) (hc9 : c ≤ 9) (hb : N q 0 ≤ 1) (hr : ∀ g, g < c → N (q + 1) g = mk (Rl g) c) (ho : ∀ n, n < c → N (q + 2) n ≤ 9) (h5 : N q 5 = A) (hA : A < 2 ^ c) (h0 : N (q + 3) 0 = 0) : q_Con Γ mX4_settleAll 3 0 0 [.ref (ad q)] (LT ad, N, L, G) (fun v h => v = none ∧ ∃ H, h = (LT ad, H, L, G) ∧ ST N H q A c Rl A) := by
  have p9 := p2_9 hc9
  have hgo := sbAll_at 512 sbAll_512 A (by omega)
  have e9 : pc A 26 = pc A 9 := pc_26 (by omega)
  have el := pc_le A 9
  have eK : 1 * 2 ^ pc A 26 = 2 ^ pc A 9 := by rw [e9, Nat.one_mul]
  have kl : 2 ^ pc A 9 ≤ 512 := Nat.pow_le_pow_right (by decide) el
  have k1 := Nat.two_pow_pos (pc A 9)
  have eS : ST N N q A c Rl 0 := ⟨fun _ _ _ => rfl, fun _ _ => rfl, fun u h1 _ => by have e : u = 0 := by omega
                                                                                     subst e; rw [h0]; exact (cst_0 _ _ _ _).symm, fun h => absurd rfl h⟩
  generalize 2 ^ pc A 9 = K at *
  refine q_con (by decide) rfl rfl (Nat.le_of_ble_eq_true rfl) ?_
  refine q_iconst 1 rfl 1 k_i1 dX4_settleAll_0 ?_
  refine q_aload_n 2 rfl rfl dX4_settleAll_1 ?_
  refine q_getI 5 rfl fX4_43 rfl q (tS hq) dX4_settleAll_2 ?_
  rw [h5]
  refine q_cS1 8 rfl lX4_49 (k_bitCount (by omega)) rfl rfl rfl dX4_settleAll_5 ?_
  refine q_ishl 9 rfl (by omega) dX4_settleAll_8 ?_
  rw [eK]
  refine q_istore_n 10 rfl (by decide) dX4_settleAll_9 ?_
  refine q_iconst 11 rfl 0 k_i0 dX4_settleAll_10 ?_
  refine q_istore_n 12 rfl (by decide) dX4_settleAll_11 ?_
  refine q_iconst 13 rfl 1 k_i1 dX4_settleAll_12 ?_
  refine q_istore_n 14 rfl (by decide) dX4_settleAll_13 ?_
  refine q_loc (settleAll_lp (N := N) (Rl := Rl) hG hq hc hc9 hb hr ho h5 hA kl ?_ 1 (by omega) 0 ⟨hgo, by simp⟩ N eS) (q_sub1 rfl (q_sub1 rfl (q_sub1 rfl (q_sub1 rfl q_sub0))))
  intro t h_t H h_H
  rw [Nat.sub_self] at h_t
  have et : t = A := by have := h_t.1; simpa [sbgo] using this
  subst et
  refine q_vret rfl dX4_settleAll_42 ?_
  exact ⟨rfl, _, rfl, h_H⟩
end
