def fta (N : Nat → Nat → Nat) (q i : Nat) : Nat := if N q 0 = 4294967295 then 1 else if i < N q 1 then 0 else 2
def ftg (N : Nat → Nat → Nat) (q i l : Nat) : Nat := if N q 0 ≠ 4294967295 ∧ N q 0 ≠ l then 3 else if fta N q i ≠ 0 then fta N q i else fta N q (i + 1)
def SH (N : Nat → Nat → Nat) (q : Nat) : Prop := (N q 0 ≤ 2 ∨ N q 0 = 4294967295) ∧ N q 1 ≤ 40
theorem fta_le (N : Nat → Nat → Nat) (q i : Nat) : fta N q i ≤ 2 := by unfold fta; split <;> (try split) <;> omega
section
variable {Γ : q_G} {ad : Nat → Nat} {N : Nat → Nat → Nat} {L : Nat → Nat → Int} {G : Nat → Nat → Option Nat}
theorem k_faultAt {q i : Nat} (hG : GF ad G) (hq : isH q) (hS : SH N q) (hi : i < 4294967296) : q_Con Γ mX5_faultAt 1 0 0 [.ref (ad q), .int (nI i)] (LT ad, N, L, G) (q_is (some (.int (nI (fta N q i)))) (LT ad, N, L, G)) := by
  obtain ⟨h0, h1⟩ := id hS
  refine q_con (by decide) rfl rfl (Nat.le_of_ble_eq_true rfl) ?_
  refine q_aload_n 1 rfl rfl dX5_faultAt_0 ?_
  refine q_getI 4 rfl fX5_11 rfl q (tH hq) dX5_faultAt_1 ?_
  refine q_iconst 5 rfl 4294967295 k_im1 dX5_faultAt_4 ?_
  refine q_icmp_ne 8 rfl 10 (by decide) (by omega) (by omega) dX5_faultAt_5 (fun h5 => ?_) (fun h5 => ?_)
  · refine q_iload_n 11 rfl rfl dX5_faultAt_10 ?_
    refine q_iconst 12 rfl 0 k_i0 dX5_faultAt_11 ?_
    refine q_aload_n 13 rfl rfl dX5_faultAt_12 ?_
    refine q_getI 16 rfl fX5_19 rfl q (tH hq) dX5_faultAt_13 ?_
    refine q_iconst 17 rfl 1 k_i1 dX5_faultAt_16 ?_
    refine q_isubG 18 rfl (by omega) dX5_faultAt_17 ?_
    refine q_cS3 21 rfl lX5_28 (k_within1 hi (by omega) (by omega)) rfl rfl rfl dX5_faultAt_18 ?_
    refine q_if_eqD 24 rfl 28 (by decide) dX5_faultAt_21 (fun h21 => ?_) (fun h21 => ?_)
    · refine q_iconst 29 rfl 2 k_i2 dX5_faultAt_28 ?_
      refine q_iret rfl dX5_faultAt_29 ?_
      first
        | (rw [fta, if_pos (by assumption)]; exact ⟨rfl, rfl⟩)
        | (rw [fta, if_neg (by assumption), if_pos (by omega)]; exact ⟨rfl, rfl⟩)
        | (rw [fta, if_neg (by assumption), if_neg (by omega)]; exact ⟨rfl, rfl⟩)
    · refine q_iconst 25 rfl 0 k_i0 dX5_faultAt_24 ?_
      refine q_goto 29 (by decide) dX5_faultAt_25 ?_
      refine q_iret rfl dX5_faultAt_29 ?_
      first
        | (rw [fta, if_pos (by assumption)]; exact ⟨rfl, rfl⟩)
        | (rw [fta, if_neg (by assumption), if_pos (by omega)]; exact ⟨rfl, rfl⟩)
        | (rw [fta, if_neg (by assumption), if_neg (by omega)]; exact ⟨rfl, rfl⟩)
  · refine q_iconst 9 rfl 1 k_i1 dX5_faultAt_8 ?_
    refine q_iret rfl dX5_faultAt_9 ?_
    first
      | (rw [fta, if_pos (by assumption)]; exact ⟨rfl, rfl⟩)
      | (rw [fta, if_neg (by assumption), if_pos (by omega)]; exact ⟨rfl, rfl⟩)
      | (rw [fta, if_neg (by assumption), if_neg (by omega)]; exact ⟨rfl, rfl⟩)
end
