theorem zs_le0 {x : Nat} (h : x ≤ 675 ∨ x = 4294967295) : z_s x ≤ z_s 0 ↔ ¬ (0 < x ∧ x ≤ 675) := by
  rw [z_s_0]
  rcases h with h | h
  · rw [z_s_lo (by omega)]; omega
  · rw [h, z_s_hi (by omega) (by omega)]; omega
theorem won_le (wp : Nat → Nat) (c n : Nat) : won wp c n ≤ c := by
  unfold won; split
  · exact cnt_le _ _
  · exact Nat.zero_le _
theorem mrs_le (wp : Nat → Nat) (c k : Nat) : (mrs wp c k).1 ≤ c ∧ (mrs wp c k).2 ≤ 675 := by
  rcases mrs_spec wp c k with ⟨e, _⟩ | ⟨x, h1, h2, e, _⟩
  · rw [e]; exact ⟨Nat.zero_le _, Nat.zero_le _⟩
  · rw [e]; refine ⟨won_le _ _ _, ?_⟩
    show wp x ≤ 675
    unfold won at h2; by_cases q : 0 < wp x ∧ wp x ≤ 675
    · exact q.2
    · rw [if_neg q] at h2; omega
theorem wpF_p {mx : Nat → Nat → Bool} {lt wl : Nat → Nat} (hmx : ∀ a, mx a a = true) (k : Nat) (h1 : ∀ i, i < k → lt i < 26) (h2 : ∀ i, i < k → wl i < 26) : (0 < wpF mx lt wl k ∧ wpF mx lt wl k ≤ 675) → wpF mx lt wl k / 26 < wpF mx lt wl k % 26 := by
  induction k with
  | zero => intro h; exact absurd h.1 (Nat.lt_irrefl 0)
  | succ k ih =>
    have ih' := ih (fun i hi => h1 i (by omega)) (fun i hi => h2 i (by omega))
    have a1 := h1 k (by omega)
    have a2 := h2 k (by omega)
    simp only [wpF]
    split
    · intro h; omega
    · split
      · exact ih'
      · rename_i hm
        split
        · intro h; omega
        · intro _
          have hne : lt k ≠ wl k := fun q => hm (by rw [q, hmx])
          unfold wpc; omega
theorem wp6_p {N : Nat → Nat → Nat} {nm nw c n : Nat} (hN : CN N nm c) (hn : n < 9) : (0 < wp6 N nm nw n ∧ wp6 N nm nw n ≤ 675) → wp6 N nm nw n / 26 < wp6 N nm nw n % 26 := by
  obtain ⟨-, -, hl, hb26, hls, hvw, hwr, hwl⟩ := hN
  unfold wp6 wpv
  split
  · exact wpF_p (mxd_self _ _ _) _ (fun j hj => hb26 _ (by omega)) (fun j hj => hwl j (by omega))
  · intro h; omega
abbrev mor6 (N : Nat → Nat → Nat) (nm nw c : Nat) : Nat → Nat × Nat := amax (fun k => decide (k / 26 < k % 26)) (fun k => pc (mnt6 N nm nw c (k / 26) (k % 26)) 26) (pc (mnt6 N nm nw c 4294967292 4294967292) 26) 4294967292
theorem mor6_eq {N : Nat → Nat → Nat} {nm nw c : Nat} (hN : CN N nm c) : mor6 N nm nw c 676 = if (mrs (wp6 N nm nw) c c).1 = 0 then (cnt (fun n => decide (wp6 N nm nw n = 0)) c, 4294967292) else (cnt (fun n => decide (wp6 N nm nw n = 0)) c + (mrs (wp6 N nm nw) c c).1, (mrs (wp6 N nm nw) c c).2) := by
  have hc9 := hN.2.1
  have e0 : pc (mnt6 N nm nw c 4294967292 4294967292) 26 = cnt (fun n => decide (wp6 N nm nw n = 0)) c := by
    rw [pc_mk26 (by omega)]
    exact cnt_ext (fun i hi => decide_eq_decide.mpr (wp6_none hN (by omega)))
  unfold mor6
  rw [e0]
  refine more_eq (fun k hk hp => ⟨?_, ?_⟩) (fun n hn h => decide_eq_true (wp6_p hN (by omega) h))
  · have hp' : k / 26 < k % 26 := of_decide_eq_true hp
    rw [pc_mk26 (by omega)]
    refine cnt_add (fun i hi => ?_)
    have := wp6_pair (nw := nw) hN (show i < 9 by omega) hp' (by omega)
    rw [show 26 * (k / 26) + k % 26 = k by omega] at this
    rw [decide_eq_decide.mpr this]
    by_cases q0 : wp6 N nm nw i = 0
    · rw [decide_eq_true (.inl q0), decide_eq_true q0, decide_eq_false (by omega)]; rfl
    · by_cases q1 : wp6 N nm nw i = k
      · rw [decide_eq_true (.inr q1), decide_eq_false q0, decide_eq_true q1]; rfl
      · rw [decide_eq_false (by omega), decide_eq_false q0, decide_eq_false q1]; rfl
  · have hp' : k / 26 < k % 26 := of_decide_eq_true hp
    omega
section
variable {Γ : q_G} {ad : Nat → Nat} {N : Nat → Nat → Nat} {L : Nat → Nat → Int} {G : Nat → Nat → Option Nat}
theorem nwant_lp {rm : Room} {Z : q_Zt} {x : Nat} {nm nw c : Nat} {Rl : Nat → Nat → Bool} (hG : GF ad G) (hX : CX ad G N nm nw c Rl) (hx0 : x < 4294967296) (hw : ∀ i, i < c → N 50 i < 4294967296) (hx : q_R Γ mX6_namesThatWant rm Z 0 0 34 [(2, .int (nI (cnt (fun m => decide (N 50 m = x)) (c))))] [] (LT ad, N, L, G)) : ∀ i, i ≤ c →  ∀ a : Nat, a = cnt (fun m => decide (N 50 m = x)) i → q_R Γ mX6_namesThatWant rm Z 0 0 4 [(0, .ref (ad 0)), (1, .int (nI x)), (2, .int (nI a)), (3, .int (nI i))] [] (LT ad, N, L, G) := by
  refine dn_loop (c) ?_ ?_
  · intro a h_a
    obtain ⟨hnm, hnw, hv5, hv6, hN, hM, hnr⟩ := id hX
    have hc : N nm 0 = c := hN.1
    have hc9 : c ≤ 9 := hN.2.1
    refine q_iload_n 5 rfl rfl dX6_namesThatWant_4 ?_
    refine q_aload_n 6 rfl rfl dX6_namesThatWant_5 ?_
    refine q_getR 9 rfl fX6_23 rfl 0 t_0 hv5 dX6_namesThatWant_6 ?_
    refine q_getI 12 rfl fX6_115 rfl nm (tN hnm) dX6_namesThatWant_9 ?_
    refine q_icmp_ge 15 rfl 34 (by decide) (by omega) (by omega) dX6_namesThatWant_12 (fun h12 => ?_) (fun h12 => ?_)
    · subst h_a
      exact q_loc hx (q_sub1 rfl q_sub0)
    · exfalso; omega
  · intro i h_i ih a h_a
    obtain ⟨hnm, hnw, hv5, hv6, hN, hM, hnr⟩ := id hX
    have hc : N nm 0 = c := hN.1
    have hc9 : c ≤ 9 := hN.2.1
    have b1 := hw i h_i
    refine q_iload_n 5 rfl rfl dX6_namesThatWant_4 ?_
    refine q_aload_n 6 rfl rfl dX6_namesThatWant_5 ?_
    refine q_getR 9 rfl fX6_23 rfl 0 t_0 hv5 dX6_namesThatWant_6 ?_
    refine q_getI 12 rfl fX6_115 rfl nm (tN hnm) dX6_namesThatWant_9 ?_
    refine q_icmp_ge 15 rfl 34 (by decide) (by omega) (by omega) dX6_namesThatWant_12 (fun h12 => ?_) (fun h12 => ?_)
    · exfalso; omega
    · refine q_aload_n 16 rfl rfl dX6_namesThatWant_15 ?_
      refine q_getR 19 rfl fX6_83 rfl 0 t_0 (g_0_19 hG) dX6_namesThatWant_16 ?_
      refine q_iload_n 20 rfl rfl dX6_namesThatWant_19 ?_
      refine q_iald 21 rfl 50 t_50 (by omega) (by decide) dX6_namesThatWant_20 ?_
      refine q_iload_n 22 rfl rfl dX6_namesThatWant_21 ?_
      refine q_icmp_ne 25 rfl 28 (by decide) (by omega) (by omega) dX6_namesThatWant_22 (fun h22 => ?_) (fun h22 => ?_)
      · refine q_iinc1 31 rfl 1 k_i1 rfl (by decide) dX6_namesThatWant_28 ?_
        refine q_goto 4 (by decide) dX6_namesThatWant_31 ?_
        refine q_loc (ih _ ?_) (q_sub1 rfl (q_sub1 rfl (q_sub1 rfl (q_sub1 rfl q_sub0))))
        · rw [h_a]
          simp only [cnt]
          first
            | (rw [decide_eq_true (by assumption)]; rfl)
            | (rw [decide_eq_false (by assumption)]; rfl)
      · refine q_iinc1 28 rfl 1 k_i1 rfl (by decide) dX6_namesThatWant_25 ?_
        refine q_iinc1 31 rfl 1 k_i1 rfl (by decide) dX6_namesThatWant_28 ?_
        refine q_goto 4 (by decide) dX6_namesThatWant_31 ?_
        refine q_loc (ih _ ?_) (q_sub1 rfl (q_sub1 rfl (q_sub1 rfl (q_sub1 rfl q_sub0))))
        · rw [h_a]
          simp only [cnt]
          first
            | (rw [decide_eq_true (by assumption)]; rfl)
            | (rw [decide_eq_false (by assumption)]; rfl)
theorem k_nwant {x : Nat} {nm nw c : Nat} {Rl : Nat → Nat → Bool} (hG : GF ad G) (hX : CX ad G N nm nw c Rl) (hx0 : x < 4294967296) (hw : ∀ i, i < c → N 50 i < 4294967296) : q_Con Γ mX6_namesThatWant 0 0 0 [.ref (ad 0), .int (nI x)] (LT ad, N, L, G) (q_is (some (.int (nI (cnt (fun m => decide (N 50 m = x)) c)))) (LT ad, N, L, G)) := by
  refine q_con (by decide) rfl rfl (Nat.le_of_ble_eq_true rfl) ?_
  refine q_iconst 1 rfl 0 k_i0 dX6_namesThatWant_0 ?_
  refine q_istore_n 2 rfl (by decide) dX6_namesThatWant_1 ?_
  refine q_iconst 3 rfl 0 k_i0 dX6_namesThatWant_2 ?_
  refine q_istore_n 4 rfl (by decide) dX6_namesThatWant_3 ?_
  refine q_loc (nwant_lp (Rl := Rl) (nm := nm) (nw := nw) (c := c) hG hX hx0 hw ?_ 0 (by omega) _ rfl) (q_sub1 rfl (q_sub1 rfl (q_sub1 rfl (q_sub1 rfl q_sub0))))
  refine q_iload_n 35 rfl rfl dX6_namesThatWant_34 ?_
  refine q_iret rfl dX6_namesThatWant_35 ?_
  exact ⟨rfl, rfl⟩
theorem more6_1 {Z : q_Zt} {Y mc mz : Nat} {nm nw c : Nat} {Rl : Nat → Nat → Bool} (hG : GF ad G) (hX : CX ad G N nm nw c Rl) (hx : q_R Γ mX6_more (q_room 2 mc mz) Z 0 0 55 [(0, .ref (ad 0)), (1, .int (nI Y)), (2, .int (nI (cnt (fun n => decide (wp6 N nm nw n = 0)) (c))))] [] (LT ad, (fil N 50 (wp6 N nm nw) (c)), L, G)) : ∀ i, i ≤ c →  ∀ m : Nat, m = cnt (fun n => decide (wp6 N nm nw n = 0)) i → ∀ H : Nat → Nat → Nat, H = fil N 50 (wp6 N nm nw) i → q_R Γ mX6_more (q_room 2 mc mz) Z 0 0 15 [(0, .ref (ad 0)), (1, .int (nI Y)), (2, .int (nI m)), (3, .int (nI i))] [] (LT ad, H, L, G) := by
  refine dn_loop (c) ?_ ?_
  · intro m h_m H h_H
    obtain ⟨hnm, hnw, hv5, hv6, hN, hM, hnr⟩ := id hX
    have hc : N nm 0 = c := hN.1
    have hc9 : c ≤ 9 := hN.2.1
    have hH0 : H nm 0 = c := by rw [h_H, fil_ne (by omega)]; exact hc
    refine q_iload_n 16 rfl rfl dX6_more_15 ?_
    refine q_aload_n 17 rfl rfl dX6_more_16 ?_
    refine q_getR 20 rfl fX6_23 rfl 0 t_0 hv5 dX6_more_17 ?_
    refine q_getI 23 rfl fX6_115 rfl nm (tN hnm) dX6_more_20 ?_
    refine q_icmp_ge 26 rfl 55 (by decide) (by omega) (by omega) dX6_more_23 (fun h23 => ?_) (fun h23 => ?_)
    · subst h_m
      subst h_H
      exact q_loc hx (q_sub1 rfl (q_sub1 rfl (q_sub1 rfl q_sub0)))
    · exfalso; omega
  · intro i h_i ih m h_m H h_H
    obtain ⟨hnm, hnw, hv5, hv6, hN, hM, hnr⟩ := id hX
    have hc : N nm 0 = c := hN.1
    have hc9 : c ≤ 9 := hN.2.1
    have hH0 : H nm 0 = c := by rw [h_H, fil_ne (by omega)]; exact hc
    have hE : ∀ a, (a < 33 ∨ a = 36 ∨ (51 ≤ a ∧ a ≤ 68)) → H a = N a := fun a ha => by rw [h_H, fil_ne (by omega)]
    have hXH : CX ad G H nm nw c Rl := hX.eq hE
    have ew : wp6 H nm nw = wp6 N nm nw := wp6_eq hnm hnw hE
    have wl0 := wp6_le (nw := nw) hN (show i < 9 by omega)
    refine q_iload_n 16 rfl rfl dX6_more_15 ?_
    refine q_aload_n 17 rfl rfl dX6_more_16 ?_
    refine q_getR 20 rfl fX6_23 rfl 0 t_0 hv5 dX6_more_17 ?_
    refine q_getI 23 rfl fX6_115 rfl nm (tN hnm) dX6_more_20 ?_
    refine q_icmp_ge 26 rfl 55 (by decide) (by omega) (by omega) dX6_more_23 (fun h23 => ?_) (fun h23 => ?_)
    · exfalso; omega
    · refine q_aload_n 27 rfl rfl dX6_more_26 ?_
      refine q_getR 30 rfl fX6_83 rfl 0 t_0 (g_0_19 hG) dX6_more_27 ?_
      refine q_iload_n 31 rfl rfl dX6_more_30 ?_
      refine q_aload_n 32 rfl rfl dX6_more_31 ?_
      refine q_iload_n 33 rfl rfl dX6_more_32 ?_
      refine q_cV1 36 rfl lX6_244 (k_wanted (N := H) hG hXH (by omega)) rfl 0 t_0 rfl rfl rfl dX6_more_33 ?_
      rw [ew]
      refine q_iast 37 rfl 50 t_50 (by omega) (by decide) dX6_more_36 ?_
      refine q_aload_n 38 rfl rfl dX6_more_37 ?_
      refine q_getR 41 rfl fX6_83 rfl 0 t_0 (g_0_19 hG) dX6_more_38 ?_
      refine q_iload_n 42 rfl rfl dX6_more_41 ?_
      refine q_iald 43 rfl 50 t_50 (by omega) (by decide) dX6_more_42 ?_
      rw [show q_s H 50 i (wp6 N nm nw i) 50 i = wp6 N nm nw i by simp [q_s]]
      refine q_if_ne 46 rfl 49 (by decide) (by omega) dX6_more_43 (fun h43 => ?_) (fun h43 => ?_)
      · refine q_iinc1 52 rfl 1 k_i1 rfl (by decide) dX6_more_49 ?_
        refine q_goto 15 (by decide) dX6_more_52 ?_
        refine q_loc (ih _ ?_ _ ?_) (q_sub1 rfl (q_sub1 rfl (q_sub1 rfl (q_sub1 rfl q_sub0))))
        · rw [h_m]
          simp only [cnt]
          first
            | (rw [decide_eq_true (by assumption)]; rfl)
            | (rw [decide_eq_false (by assumption)]; rfl)
        · rw [h_H]; exact fil_s N 50 (wp6 N nm nw) i
      · refine q_iinc1 49 rfl 1 k_i1 rfl (by decide) dX6_more_46 ?_
        refine q_iinc1 52 rfl 1 k_i1 rfl (by decide) dX6_more_49 ?_
        refine q_goto 15 (by decide) dX6_more_52 ?_
        refine q_loc (ih _ ?_ _ ?_) (q_sub1 rfl (q_sub1 rfl (q_sub1 rfl (q_sub1 rfl q_sub0))))
        · rw [h_m]
          simp only [cnt]
          first
            | (rw [decide_eq_true (by assumption)]; rfl)
            | (rw [decide_eq_false (by assumption)]; rfl)
        · rw [h_H]; exact fil_s N 50 (wp6 N nm nw) i
end
