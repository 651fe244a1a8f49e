/-- a name's line behind its first word: the fault, its place -/
def fName (S : Nat → Nat → Nat) (t : Nat → Nat) (len p : Nat) : Nat := if wrdf t len p 8 ≠ 0 then wrdf t len p 8 else if newn S t (tkS t len p) (tkE t len p - tkS t len p) = true then nmbf t len (tkE t len p) 1 9 else 4
def pName (S : Nat → Nat → Nat) (t : Nat → Nat) (len p : Nat) : Nat := if wrdf t len p 8 ≠ 0 then tkS t len p else if newn S t (tkS t len p) (tkE t len p - tkS t len p) = true then tkS t len (tkE t len p) else tkS t len p
theorem wrdf_ok {t : Nat → Nat} {len p mx : Nat} (h : wrdf t len p mx = 0) : (tkn t len p).1 = 1 ∧ tkE t len p - tkS t len p ≤ mx := by
  unfold wrdf at h
  split at h
  · cases h
  · unfold wb at h
    split at h
    · cases h
    · split at h
      · cases h
      · exact ⟨by omega, by omega⟩
theorem nmbf_ok {t : Nat → Nat} {len p lo hi : Nat} (h : nmbf t len p lo hi = 0) : (tkn t len p).1 = 2 ∧ lo ≤ tkV t len p ∧ tkV t len p ≤ hi := by
  unfold nmbf at h
  split at h
  · cases h
  · unfold nb at h
    split at h
    · cases h
    · split at h
      · exact ⟨by omega, by assumption⟩
      · cases h
theorem tkV_le {t : Nat → Nat} {len p : Nat} (hp : p ≤ len) (h : (tkn t len p).1 = 2) : tkV t len p ≤ 99 := by
  obtain ⟨h1, h2, h3, h4, h5, h6, h7, h8, h9⟩ := tkn_spec (t := t) hp
  obtain ⟨q1, q2, q3⟩ := h8 h
  unfold tkV
  rcases (show tkE t len p - tkS t len p = 1 ∨ tkE t len p - tkS t len p = 2 by omega) with e | e
  · rw [e]; have := vlr_1 (q3 (tkS t len p) (by omega) (by omega)); omega
  · rw [e]; exact vlr_2 (q3 (tkS t len p) (by omega) (by omega)) (q3 (tkS t len p + 1) (by omega) (by omega))
section
variable {Γ : q_G} {ad : Nat → Nat} {N : Nat → Nat → Nat} {L : Nat → Nat → Int} {G : Nat → Nat → Option Nat}
theorem rn_b {i mc mz c : Nat} {b ba sp he tk vl : Nat} {Z : q_Zt} (hG : GF ad G) (hb : b ≠ 0) (hb2 : b < 2147483648) (hi : i ≤ 100) (hc : N 77 6 = c) (hc9 : c ≤ 9) (hx : q_R Γ mX7_readName (q_room 3 mc mz) Z 0 0 42 [(0, .ref (ad 77))] [] (LT ad, P7 N b ba sp he tk vl, L, G)) : q_R Γ mX7_readName (q_room 3 mc mz) Z 0 0 8 [(0, .ref (ad 77)), (1, .int (nI i))] [] (LT ad, P7 N b ba sp he tk vl, L, G) := by
  refine q_iload_n 9 rfl rfl dX7_readName_8 ?_
  refine q_aload_n 10 rfl rfl dX7_readName_9 ?_
  refine q_getI 13 rfl fX7_116 rfl 77 t_77 dX7_readName_10 ?_
  rw [P7_o (by decide) (by decide)]
  refine q_icmp_ge 16 rfl 42 (by decide) (by omega) (by omega) dX7_readName_13 (fun h13 => ?_) (fun h13 => ?_)
  · exact q_loc hx (q_sub1 rfl q_sub0)
  · refine q_aload_n 17 rfl rfl dX7_readName_16 ?_
    refine q_getI 20 rfl fX7_76 rfl 77 t_77 dX7_readName_17 ?_
    rw [P7_12]
    refine q_if_ne 23 rfl 42 (by decide) (by omega) dX7_readName_20 (fun h20 => ?_) (fun h20 => ?_)
    · exact q_loc hx (q_sub1 rfl q_sub0)
    · exfalso; omega
theorem rn_lp {Z : q_Zt} {c mc mz : Nat} {S : Nat → Nat → Nat} {ba sp he tk vl : Nat} (hG : GF ad G) (hl : N 77 10 ≤ 160) (ht : ∀ i, i < 160 → N 84 i < 128) (hs : he ≤ sp) (hsp : sp ≤ N 77 10) (hwd : ∀ i, he ≤ i → i < sp → 97 ≤ N 84 i ∧ N 84 i ≤ 122) (hR : MR S N) (hB : MB N) (hc : S 0 0 = c) (hc9 : c ≤ 9) (hk : sp - he ≤ 8) (hx0 : alw (fun n => !spl S (N 84) he (sp - he) n) c = true → q_R Γ mX7_readName (q_room 3 mc mz) Z 0 0 42 [(0, .ref (ad 77))] [] (LT ad, P7 N 0 ba sp he tk vl, L, G)) (hx4 : alw (fun n => !spl S (N 84) he (sp - he) n) c = false → q_R Γ mX7_readName (q_room 3 mc mz) Z 0 0 42 [(0, .ref (ad 77))] [] (LT ad, P7 N 4 he sp he tk vl, L, G))  : ∀ i, i ≤ c → alw (fun n => !spl S (N 84) he (sp - he) n) i = true →  q_R Γ mX7_readName (q_room 3 mc mz) Z 0 0 8 [(0, .ref (ad 77)), (1, .int (nI i))] [] (LT ad, P7 N 0 ba sp he tk vl, L, G) := by
  refine dn_loop (c) ?_ ?_
  · intro h_ex 
    have e6 : N 77 6 = c := hR.1.trans hc
    refine q_iload_n 9 rfl rfl dX7_readName_8 ?_
    refine q_aload_n 10 rfl rfl dX7_readName_9 ?_
    refine q_getI 13 rfl fX7_116 rfl 77 t_77 dX7_readName_10 ?_
    rw [P7_o (by decide) (by decide)]
    refine q_icmp_ge 16 rfl 42 (by decide) (by omega) (by omega) dX7_readName_13 (fun h13 => ?_) (fun h13 => ?_)
    · exact q_loc (hx0 h_ex) (q_sub1 rfl q_sub0)
    · exfalso; omega
  · intro i h_i ih h_ex 
    have e6 : N 77 6 = c := hR.1.trans hc
    have et := tld_spl (t := N 84) (s := he) (k := sp - he) hR (n := i) (by omega)
    refine q_iload_n 9 rfl rfl dX7_readName_8 ?_
    refine q_aload_n 10 rfl rfl dX7_readName_9 ?_
    refine q_getI 13 rfl fX7_116 rfl 77 t_77 dX7_readName_10 ?_
    rw [P7_o (by decide) (by decide)]
    refine q_icmp_ge 16 rfl 42 (by decide) (by omega) (by omega) dX7_readName_13 (fun h13 => ?_) (fun h13 => ?_)
    · exfalso; omega
    · refine q_aload_n 17 rfl rfl dX7_readName_16 ?_
      refine q_getI 20 rfl fX7_76 rfl 77 t_77 dX7_readName_17 ?_
      rw [P7_12]
      refine q_if_ne 23 rfl 42 (by decide) (by omega) dX7_readName_20 (fun h20 => ?_) (fun h20 => ?_)
      · exfalso; omega
      · refine q_aload_n 24 rfl rfl dX7_readName_23 ?_
        refine q_iload_n 25 rfl rfl dX7_readName_24 ?_
        refine q_cV1 28 rfl lX7_119 (k_isTold hG hl ht hs hsp hwd (by omega) hk hB.1) rfl 77 t_77 rfl rfl rfl dX7_readName_25 ?_
        refine q_if_eqB 31 rfl 36 (by decide) dX7_readName_28 (fun h28 => ?_) (fun h28 => ?_)
        · refine q_iinc1 39 rfl 1 k_i1 rfl (by decide) dX7_readName_36 ?_
          refine q_goto 8 (by decide) dX7_readName_39 ?_
          first
            | (have hz : tld (N 82) (N 84) he i (sp - he) (sp - he) = false := h28
               refine q_loc (ih ?_) (q_sub1 rfl (q_sub1 rfl q_sub0))
               rw [show alw (fun n => !spl S (N 84) he (sp - he) n) (i + 1) = (alw (fun n => !spl S (N 84) he (sp - he) n) i && !spl S (N 84) he (sp - he) i) from rfl, h_ex, ← et, h28]; rfl)
            | (have hz : tld (N 82) (N 84) he i (sp - he) (sp - he) = true := h28
               refine q_loc (rn_b hG (by decide) (by decide) (by omega) e6 hc9 (hx4 ?_)) (q_sub1 rfl (q_sub1 rfl q_sub0))
               exact alw_split h_i (by rw [← et, h28]; rfl))
        · refine q_aload_n 32 rfl rfl dX7_readName_31 ?_
          refine q_iconst 33 rfl 4 k_i4 dX7_readName_32 ?_
          refine q_cV1v 36 rfl lX7_106 (k_fails hG (by omega)) rfl 77 t_77 rfl rfl rfl dX7_readName_33 ?_
          rw [if_pos rfl]
          refine q_iinc1 39 rfl 1 k_i1 rfl (by decide) dX7_readName_36 ?_
          refine q_goto 8 (by decide) dX7_readName_39 ?_
          first
            | (have hz : tld (N 82) (N 84) he i (sp - he) (sp - he) = false := h28
               refine q_loc (ih ?_) (q_sub1 rfl (q_sub1 rfl q_sub0))
               rw [show alw (fun n => !spl S (N 84) he (sp - he) n) (i + 1) = (alw (fun n => !spl S (N 84) he (sp - he) n) i && !spl S (N 84) he (sp - he) i) from rfl, h_ex, ← et, h28]; rfl)
            | (have hz : tld (N 82) (N 84) he i (sp - he) (sp - he) = true := h28
               refine q_loc (rn_b hG (by decide) (by decide) (by omega) e6 hc9 (hx4 ?_)) (q_sub1 rfl (q_sub1 rfl q_sub0))
               exact alw_split h_i (by rw [← et, h28]; rfl))
end
