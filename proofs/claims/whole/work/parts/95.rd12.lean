/-- the Reader's cells when a reading begins -/
def rl0 (N : Nat → Nat → Nat) (len : Nat) : Nat → Nat → Nat := q_s (q_s (q_s N 2 1 len) 2 9 0) 2 10 0
theorem rl0_f {N : Nat → Nat → Nat} {len : Nat} : (∀ a, a ≠ 2 → rl0 N len a = N a) ∧ rl0 N len 2 1 = len ∧ rl0 N len 2 9 = 0 ∧ rl0 N len 2 10 = 0 := by
  unfold rl0
  refine ⟨fun a ha => by rw [q_s_ne ha, q_s_ne ha, q_s_ne ha], ?_, ?_, q_s_at⟩
  · rw [q_s_off (by decide), q_s_off (by decide), q_s_at]
  · rw [q_s_off (by decide), q_s_at]
/-- the draft is clear -/
def CL0 (N : Nat → Nat → Nat) (dn dm : Nat) : Prop := N dn 0 = 0 ∧ N dn 5 = 0 ∧ N dm 1 = 0 ∧ N dm 2 = 0 ∧ N dm 3 = 0 ∧ N dm 6 = 0 ∧ N dm 9 = 0
theorem CR_0 {N : Nat → Nat → Nat} {dn dm len : Nat} (hd : isD dn dm) (h : CL0 N dn dm) : CR S00 (rl0 N len) dn dm := by
  obtain ⟨r1, r2, r3, r4⟩ := rl0_f (N := N) (len := len)
  obtain ⟨h1, h2, h3, h4, h5, h6, h7⟩ := h
  unfold CR
  rw [r1 dn (by omega), r1 dm (by omega), r3, r4]
  exact ⟨h1, fun n hn => absurd hn (by simp [S00]), h3, h4, h5, fun n hn => absurd hn (by simp [S00]), h2, fun n hn => absurd hn (by simp [S00]), rfl, rfl, h6, h7⟩
theorem CB_rl0 {N : Nat → Nat → Nat} {dn dm len : Nat} (hd : isD dn dm) (h : CB N dn dm) : CB (rl0 N len) dn dm := ((h.fld hd).fld hd).fld hd
/-- names and moment are exchanged with the draft -/
def Gsw (ad : Nat → Nat) (G : Nat → Nat → Option Nat) (nm nw dn dm : Nat) : Nat → Nat → Option Nat := q_s (q_s (q_s (q_s G 0 5 (some (ad dn))) 0 7 (some (ad nm))) 0 6 (some (ad dm))) 0 8 (some (ad nw))
theorem Gsw_f {ad : Nat → Nat} {G : Nat → Nat → Option Nat} {nm nw dn dm : Nat} (h : GF ad G) : GF ad (Gsw ad G nm nw dn dm) ∧ Gsw ad G nm nw dn dm 0 5 = some (ad dn) ∧ Gsw ad G nm nw dn dm 0 6 = some (ad dm) ∧ Gsw ad G nm nw dn dm 0 7 = some (ad nm) ∧ Gsw ad G nm nw dn dm 0 8 = some (ad nw) := by
  unfold Gsw
  refine ⟨(((h.upd nf05).upd nf07).upd nf06).upd nf08, ?_, ?_, ?_, q_s_at⟩
  · rw [q_s_off (by decide), q_s_off (by decide), q_s_off (by decide), q_s_at]
  · rw [q_s_off (by decide), q_s_at]
  · rw [q_s_off (by decide), q_s_off (by decide), q_s_at]
def td0 (N : Nat → Nat → Nat) : Nat → Nat → Nat := q_s (q_s (q_s N 34 0 0) 34 1 0) 0 18 0
def tdH (N : Nat → Nat → Nat) (dn dm c : Nat) : Nat → Nat → Nat := fil (td0 N) 36 (fun n => mk (nr6 (td0 N) dn (td0 N dm 1) (td0 N dm 2) n) c) c
section
variable {Γ : q_G} {ad : Nat → Nat} {N : Nat → Nat → Nat} {L : Nat → Nat → Int} {G : Nat → Nat → Option Nat}
theorem k_readLines {dn dm len p tk st vl ft : Nat} (hG : GF ad G) (hdn : isN dn) (hdm : isM dm) (hd : isD dn dm) (hlen : len ≤ 160) (ht : ∀ i, i < 160 → N 1 i < 128) (hc : CL0 N dn dm) (hB : CB N dn dm) : q_Con Γ mX2_readLines 8 0 0 [.ref (ad 2), .ref (ad 1), .int (nI len), .ref (ad dn), .ref (ad dm)] (LT ad, P2 N p tk st vl ft, L, G) (RLq ad L (G2r ad G dn dm) (rl0 N len) dn dm (prs (N 1) len (len + 1) S00 0 0)) := by
  obtain ⟨g1, g2, g3, g4, g5⟩ := G2r_f (dn := dn) (dm := dm) hG
  obtain ⟨r1, r2, r3, r4⟩ := rl0_f (N := N) (len := len)
  have e1 : rl0 N len 1 = N 1 := r1 1 (by decide)
  refine q_con (by decide) rfl rfl (Nat.le_of_ble_eq_true rfl) ?_
  refine q_aload_n 1 rfl rfl dX2_readLines_0 ?_
  refine q_aload_n 2 rfl rfl dX2_readLines_1 ?_
  refine q_putR 5 rfl pX2_9 (fun q => by cases q) rfl rfl rfl 2 t_2 dX2_readLines_2 ?_
  refine q_aload_n 6 rfl rfl dX2_readLines_5 ?_
  refine q_iload_n 7 rfl rfl dX2_readLines_6 ?_
  refine q_putI 10 rfl pX2_15 (fun q => by cases q) rfl 2 t_2 dX2_readLines_7 ?_
  rw [P2_so (by decide) (by decide)]
  refine q_aload_n 11 rfl rfl dX2_readLines_10 ?_
  refine q_aload_n 12 rfl rfl dX2_readLines_11 ?_
  refine q_putR 15 rfl pX2_19 (fun q => by cases q) rfl rfl rfl 2 t_2 dX2_readLines_12 ?_
  refine q_aload_n 16 rfl rfl dX2_readLines_15 ?_
  refine q_aload 18 rfl rfl dX2_readLines_16 ?_
  refine q_putR 21 rfl pX2_23 (fun q => by cases q) rfl rfl rfl 2 t_2 dX2_readLines_18 ?_
  rw [show q_s (q_s (q_s G 2 0 (some (ad 1))) 2 2 (some (ad dn))) 2 3 (some (ad dm)) = G2r ad G dn dm from rfl]
  refine q_aload_n 22 rfl rfl dX2_readLines_21 ?_
  refine q_iconst 23 rfl 0 k_i0 dX2_readLines_22 ?_
  refine q_putI 26 rfl pX2_27 (fun q => by cases q) rfl 2 t_2 dX2_readLines_23 ?_
  rw [P2_s4]
  refine q_aload_n 27 rfl rfl dX2_readLines_26 ?_
  refine q_iconst 28 rfl 0 k_i0 dX2_readLines_27 ?_
  refine q_putI 31 rfl pX2_30 (fun q => by cases q) rfl 2 t_2 dX2_readLines_28 ?_
  rw [P2_s8]
  refine q_aload_n 32 rfl rfl dX2_readLines_31 ?_
  refine q_iconst 33 rfl 0 k_i0 dX2_readLines_32 ?_
  refine q_putZ 36 rfl pX2_33 (fun q => by cases q) rfl (by omega) 2 t_2 dX2_readLines_33 ?_
  rw [P2_so (by decide) (by decide)]
  refine q_aload_n 37 rfl rfl dX2_readLines_36 ?_
  refine q_iconst 38 rfl 0 k_i0 dX2_readLines_37 ?_
  refine q_putZ 41 rfl pX2_37 (fun q => by cases q) rfl (by omega) 2 t_2 dX2_readLines_38 ?_
  rw [P2_so (by decide) (by decide)]
  rw [show q_s (q_s (q_s N 2 1 len) 2 9 0) 2 10 0 = rl0 N len from rfl]
  refine q_iconst 42 rfl 0 k_i0 dX2_readLines_41 ?_
  refine q_istore 44 rfl (by decide) dX2_readLines_42 ?_
  exact q_loc (rl2_lp (N := rl0 N len) g1 g2 g3 g4 hdn hdm hd (by rw [r2]; exact hlen) (by rw [e1]; exact ht) (len + 1) 0 0 _ _ _ S00 (rl0 N len) (Nat.zero_le _) (by rw [r2]; omega) (Nat.le_refl _) FC.rf (CB_rl0 hd hB) (CR_0 hd hc) wfs_0 (by rw [e1, r2])) (q_sub1 rfl (q_sub1 rfl q_sub0))
theorem k_takeDraft {nm nw dn dm c : Nat} (hG : GF ad G) (hnm : isN nm) (hnw : isM nw) (hdn : isN dn) (hdm : isM dm) (hd : isD dn dm) (hv5 : G 0 5 = some (ad nm)) (hv6 : G 0 6 = some (ad nw)) (hv7 : G 0 7 = some (ad dn)) (hv8 : G 0 8 = some (ad dm)) (hN : CN N dn c) (hk : N dm 1 < 5) (hms : N dm 2 ≤ 8) : q_Con Γ mX6_takeDraft 5 0 0 [.ref (ad 0)] (LT ad, N, L, G) (q_is none (LT ad, tdH N dn dm c, L, Gsw ad G nm nw dn dm)) := by
  obtain ⟨g1, g2, g3, g4, g5⟩ := Gsw_f (nm := nm) (nw := nw) (dn := dn) (dm := dm) hG
  have f1 : ∀ a, a ≠ 0 → a ≠ 34 → td0 N a = N a := fun a q1 q2 => by unfold td0; rw [q_s_ne q1, q_s_ne q2, q_s_ne q2]
  have hN2 : CN (td0 N) dn c := hN.eq (fun a q1 q2 => f1 a (by omega) (by omega))
  refine q_con (by decide) rfl rfl (Nat.le_of_ble_eq_true rfl) ?_
  refine q_aload_n 1 rfl rfl dX6_takeDraft_0 ?_
  refine q_getR 4 rfl fX6_23 rfl 0 t_0 hv5 dX6_takeDraft_1 ?_
  refine q_astore_n 5 rfl (by decide) dX6_takeDraft_4 ?_
  refine q_aload_n 6 rfl rfl dX6_takeDraft_5 ?_
  refine q_aload_n 7 rfl rfl dX6_takeDraft_6 ?_
  refine q_getR 10 rfl fX6_34 rfl 0 t_0 hv7 dX6_takeDraft_7 ?_
  refine q_putR 13 rfl pX6_23 (fun q => by cases q) rfl rfl rfl 0 t_0 dX6_takeDraft_10 ?_
  refine q_aload_n 14 rfl rfl dX6_takeDraft_13 ?_
  refine q_aload_n 15 rfl rfl dX6_takeDraft_14 ?_
  refine q_putR 18 rfl pX6_34 (fun q => by cases q) rfl rfl rfl 0 t_0 dX6_takeDraft_15 ?_
  refine q_aload_n 19 rfl rfl dX6_takeDraft_18 ?_
  refine q_getR 22 rfl fX6_30 rfl 0 t_0 (by rw [q_s_off (by decide), q_s_off (by decide)]; exact hv6) dX6_takeDraft_19 ?_
  refine q_astore_n 23 rfl (by decide) dX6_takeDraft_22 ?_
  refine q_aload_n 24 rfl rfl dX6_takeDraft_23 ?_
  refine q_aload_n 25 rfl rfl dX6_takeDraft_24 ?_
  refine q_getR 28 rfl fX6_37 rfl 0 t_0 (by rw [q_s_off (by decide), q_s_off (by decide)]; exact hv8) dX6_takeDraft_25 ?_
  refine q_putR 31 rfl pX6_30 (fun q => by cases q) rfl rfl rfl 0 t_0 dX6_takeDraft_28 ?_
  refine q_aload_n 32 rfl rfl dX6_takeDraft_31 ?_
  refine q_aload_n 33 rfl rfl dX6_takeDraft_32 ?_
  refine q_putR 36 rfl pX6_37 (fun q => by cases q) rfl rfl rfl 0 t_0 dX6_takeDraft_33 ?_
  rw [show q_s (q_s (q_s (q_s G 0 5 (some (ad dn))) 0 7 (some (ad nm))) 0 6 (some (ad dm))) 0 8 (some (ad nw)) = Gsw ad G nm nw dn dm from rfl]
  have hG := g1
  refine q_aload_n 37 rfl rfl dX6_takeDraft_36 ?_
  refine q_getR 40 rfl fX6_44 rfl 0 t_0 (g_0_10 hG) dX6_takeDraft_37 ?_
  refine q_iconst 41 rfl 0 k_i0 dX6_takeDraft_40 ?_
  refine q_iconst 42 rfl 0 k_i0 dX6_takeDraft_41 ?_
  refine q_zast 43 rfl 34 t_34 (by decide) (by decide) (0) (vp_z (by omega)) dX6_takeDraft_42 ?_
  refine q_aload_n 44 rfl rfl dX6_takeDraft_43 ?_
  refine q_getR 47 rfl fX6_44 rfl 0 t_0 (g_0_10 hG) dX6_takeDraft_44 ?_
  refine q_iconst 48 rfl 1 k_i1 dX6_takeDraft_47 ?_
  refine q_iconst 49 rfl 0 k_i0 dX6_takeDraft_48 ?_
  refine q_zast 50 rfl 34 t_34 (by decide) (by decide) (0) (vp_z (by omega)) dX6_takeDraft_49 ?_
  refine q_aload_n 51 rfl rfl dX6_takeDraft_50 ?_
  refine q_iconst 52 rfl 0 k_i0 dX6_takeDraft_51 ?_
  refine q_putZ 55 rfl pX6_296 (fun q => by cases q) rfl (by omega) 0 t_0 dX6_takeDraft_52 ?_
  rw [show q_s (q_s (q_s N 34 0 0) 34 1 0) 0 18 0 = td0 N from rfl]
  refine q_aload_n 56 rfl rfl dX6_takeDraft_55 ?_
  refine q_cV0v 59 rfl lX6_156 (k_applyLaw (N := td0 N) hG hdn hdm g2 g3 hN2 (by rw [f1 dm (by omega) (by omega)]; exact hk) (by rw [f1 dm (by omega) (by omega)]; exact hms)) rfl 0 t_0 rfl rfl rfl dX6_takeDraft_56 ?_
  refine q_vret rfl dX6_takeDraft_59 ?_
  exact ⟨rfl, rfl⟩
end
