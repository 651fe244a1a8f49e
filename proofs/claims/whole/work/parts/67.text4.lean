theorem whf_s {t : Nat → Nat} {he k r n : Nat} : whf t he k (r + 1) n = if wis t he k n = true then n else whf t he k r (n + 1) := rfl
theorem whf_rg {t : Nat → Nat} {he k : Nat} : ∀ r n, n + r = 9 → whf t he k r n < 9 ∨ whf t he k r n = 4294967292 := by
  intro r
  induction r with
  | zero => intro n _; exact Or.inr rfl
  | succ r ih =>
    intro n h
    rw [whf_s]
    split
    · left; omega
    · exact ih (n + 1) (by omega)
section
variable {Γ : q_G} {ad : Nat → Nat} {N : Nat → Nat → Nat} {L : Nat → Nat → Int} {G : Nat → Nat → Option Nat}
theorem wh_0 {n i mc mz : Nat} {ba sp he vl : Nat} {Z : q_Zt} (hG : GF ad G) (hx : q_R Γ mX7_wordHere (q_room 1 mc mz) Z 0 0 106 [(0, .ref (ad 77)), (1, .int (nI n)), (2, .int (nI 0))] [] (LT ad, P7 N 0 ba sp he 1 vl, L, G)) : q_R Γ mX7_wordHere (q_room 1 mc mz) Z 0 0 51 [(0, .ref (ad 77)), (1, .int (nI n)), (2, .int (nI 0)), (3, .int (nI i))] [] (LT ad, P7 N 0 ba sp he 1 vl, L, G) := by
  refine q_iload_n 52 rfl rfl dX7_wordHere_51 ?_
  refine q_if_eq 55 rfl 106 (by decide) (by omega) dX7_wordHere_52 (fun h52 => ?_) (fun h52 => ?_)
  · exact q_loc hx (q_sub1 rfl (q_sub1 rfl (q_sub1 rfl q_sub0)))
  · exfalso; omega
theorem wh_in {Z : q_Zt} {n mc mz : Nat} {ba sp he vl : Nat} (hG : GF ad G) (hl : N 77 10 ≤ 160) (ht : ∀ i, i < 160 → N 84 i < 128) (hs : he ≤ sp) (hsp : sp ≤ N 77 10) (hcu : ∀ i, i < 10 → N 85 i = cu i) (hlw : ∀ i, i < 42 → N 86 i = lw i) (hn : n < 9) (hk : sp - he = cu (n + 1) - cu n) (hx : ∀ f, f = (wis (N 84) he (sp - he) n).toNat → q_R Γ mX7_wordHere (q_room 1 mc mz) Z 0 0 106 [(0, .ref (ad 77)), (1, .int (nI n)), (2, .int (nI f))] [] (LT ad, P7 N 0 ba sp he 1 vl, L, G))  : ∀ i, i ≤ sp - he → alw (fun i => decide (N 84 (he + i) = lw (cu n + i))) i = true →  q_R Γ mX7_wordHere (q_room 1 mc mz) Z 0 0 51 [(0, .ref (ad 77)), (1, .int (nI n)), (2, .int (nI 1)), (3, .int (nI i))] [] (LT ad, P7 N 0 ba sp he 1 vl, L, G) := by
  refine dn_loop (sp - he) ?_ ?_
  · intro h_ex 
    have c1 := cu_le n hn
    refine q_iload_n 52 rfl rfl dX7_wordHere_51 ?_
    refine q_if_eq 55 rfl 106 (by decide) (by omega) dX7_wordHere_52 (fun h52 => ?_) (fun h52 => ?_)
    · exfalso; omega
    · refine q_iload_n 56 rfl rfl dX7_wordHere_55 ?_
      refine q_aload_n 57 rfl rfl dX7_wordHere_56 ?_
      refine q_getI 60 rfl fX7_88 rfl 77 t_77 dX7_wordHere_57 ?_
      rw [P7_14]
      refine q_aload_n 61 rfl rfl dX7_wordHere_60 ?_
      refine q_getI 64 rfl fX7_79 rfl 77 t_77 dX7_wordHere_61 ?_
      rw [P7_15]
      refine q_isub 65 rfl (by omega) dX7_wordHere_64 ?_
      refine q_icmp_ge 68 rfl 106 (by decide) (by omega) (by omega) dX7_wordHere_65 (fun h65 => ?_) (fun h65 => ?_)
      · refine q_loc (hx 1 ?_) (q_sub1 rfl (q_sub1 rfl (q_sub1 rfl q_sub0)))
        rw [wis, h_ex, decide_eq_true hk]; rfl
      · exfalso; omega
  · intro i h_i ih h_ex 
    have c1 := cu_le n hn
    have c2 := hcu n (by omega)
    have c3 := hlw (cu n + i) (by omega)
    have c4 := lw_le (cu n + i) (by omega)
    have c5 := ht (he + i) (by omega)
    refine q_iload_n 52 rfl rfl dX7_wordHere_51 ?_
    refine q_if_eq 55 rfl 106 (by decide) (by omega) dX7_wordHere_52 (fun h52 => ?_) (fun h52 => ?_)
    · exfalso; omega
    · refine q_iload_n 56 rfl rfl dX7_wordHere_55 ?_
      refine q_aload_n 57 rfl rfl dX7_wordHere_56 ?_
      refine q_getI 60 rfl fX7_88 rfl 77 t_77 dX7_wordHere_57 ?_
      rw [P7_14]
      refine q_aload_n 61 rfl rfl dX7_wordHere_60 ?_
      refine q_getI 64 rfl fX7_79 rfl 77 t_77 dX7_wordHere_61 ?_
      rw [P7_15]
      refine q_isub 65 rfl (by omega) dX7_wordHere_64 ?_
      refine q_icmp_ge 68 rfl 106 (by decide) (by omega) (by omega) dX7_wordHere_65 (fun h65 => ?_) (fun h65 => ?_)
      · exfalso; omega
      · refine q_aload_n 69 rfl rfl dX7_wordHere_68 ?_
        refine q_aload_n 70 rfl rfl dX7_wordHere_69 ?_
        refine q_getI 73 rfl fX7_79 rfl 77 t_77 dX7_wordHere_70 ?_
        rw [P7_15]
        refine q_iload_n 74 rfl rfl dX7_wordHere_73 ?_
        refine q_iadd 75 rfl dX7_wordHere_74 ?_
        refine q_cV1 78 rfl lX7_91 (k_byteAt hG hl (by omega)) rfl 77 t_77 rfl rfl rfl dX7_wordHere_75 ?_
        rw [byt, if_pos (by omega)]
        refine q_aload_n 79 rfl rfl dX7_wordHere_78 ?_
        refine q_getR 82 rfl fX7_34 rfl 77 t_77 (g_77_19 hG) dX7_wordHere_79 ?_
        refine q_aload_n 83 rfl rfl dX7_wordHere_82 ?_
        refine q_getR 86 rfl fX7_31 rfl 77 t_77 (g_77_18 hG) dX7_wordHere_83 ?_
        refine q_iload_n 87 rfl rfl dX7_wordHere_86 ?_
        refine q_iald 88 rfl 85 t_85 (by omega) (by decide) dX7_wordHere_87 ?_
        rw [P7_ne (by decide)]
        rw [c2]
        refine q_iload_n 89 rfl rfl dX7_wordHere_88 ?_
        refine q_iadd 90 rfl dX7_wordHere_89 ?_
        refine q_iald 91 rfl 86 t_86 (by omega) (by decide) dX7_wordHere_90 ?_
        rw [P7_ne (by decide)]
        rw [c3]
        refine q_icmp_ne 94 rfl 98 (by decide) (by omega) (by omega) dX7_wordHere_91 (fun h91 => ?_) (fun h91 => ?_)
        · refine q_iconst 99 rfl 0 k_i0 dX7_wordHere_98 ?_
          refine q_istore_n 100 rfl (by decide) dX7_wordHere_99 ?_
          refine q_iinc1 103 rfl 1 k_i1 rfl (by decide) dX7_wordHere_100 ?_
          refine q_goto 51 (by decide) dX7_wordHere_103 ?_
          refine q_loc (wh_0 (Γ := Γ) hG (hx 0 ?_)) (q_sub1 rfl (q_sub1 rfl (q_sub1 rfl (q_sub1 rfl q_sub0))))
          rw [wis, alw_split h_i (decide_eq_false (by omega)), Bool.and_false]; rfl
        · refine q_iconst 95 rfl 1 k_i1 dX7_wordHere_94 ?_
          refine q_goto 99 (by decide) dX7_wordHere_95 ?_
          refine q_istore_n 100 rfl (by decide) dX7_wordHere_99 ?_
          refine q_iinc1 103 rfl 1 k_i1 rfl (by decide) dX7_wordHere_100 ?_
          refine q_goto 51 (by decide) dX7_wordHere_103 ?_
          refine q_loc (ih ?_) (q_sub1 rfl (q_sub1 rfl (q_sub1 rfl (q_sub1 rfl q_sub0))))
          rw [show alw (fun i => decide (N 84 (he + i) = lw (cu n + i))) (i + 1) = (alw (fun i => decide (N 84 (he + i) = lw (cu n + i))) i && decide (N 84 (he + i) = lw (cu n + i))) from rfl, h_ex, Bool.true_and]
          exact decide_eq_true (by omega)
theorem wh_lp {mc mz : Nat} {ba sp he vl : Nat} {Q : Option Value → q_H → Prop} (hG : GF ad G) (hl : N 77 10 ≤ 160) (ht : ∀ i, i < 160 → N 84 i < 128) (hs : he ≤ sp) (hsp : sp ≤ N 77 10) (hcu : ∀ i, i < 10 → N 85 i = cu i) (hlw : ∀ i, i < 42 → N 86 i = lw i) : ∀ r n, n + r = 9 → (∀ v, v = whf (N 84) he (sp - he) r n → Q (some (.int (nI v))) (LT ad, P7 N 0 ba sp he 1 vl, L, G)) → q_R Γ mX7_wordHere (q_room 1 mc mz) (q_Z Γ Q 0 0) 0 0 2 [(0, .ref (ad 77)), (1, .int (nI n))] [] (LT ad, P7 N 0 ba sp he 1 vl, L, G) := by
  intro r
  induction r with
  | zero =>
    intro n hn hQ
    refine q_iload_n 3 rfl rfl dX7_wordHere_2 ?_
    refine q_bipush 5 rfl 9 k_b9 dX7_wordHere_3 ?_
    refine q_icmp_ge 8 rfl 118 (by decide) (by omega) (by omega) dX7_wordHere_5 (fun h5 => ?_) (fun h5 => ?_)
    · refine q_bipush 120 rfl 4294967292 k_bm4 dX7_wordHere_118 ?_
      refine q_iret rfl dX7_wordHere_120 ?_
      exact hQ _ rfl
    · exfalso; omega
  | succ r ih =>
    intro n hn hQ
    have c1 := cu_le n (by omega)
    have c2 := hcu n (by omega)
    have c3 := hcu (n + 1) (by omega)
    refine q_iload_n 3 rfl rfl dX7_wordHere_2 ?_
    refine q_bipush 5 rfl 9 k_b9 dX7_wordHere_3 ?_
    refine q_icmp_ge 8 rfl 118 (by decide) (by omega) (by omega) dX7_wordHere_5 (fun h5 => ?_) (fun h5 => ?_)
    · exfalso; omega
    · refine q_aload_n 9 rfl rfl dX7_wordHere_8 ?_
      refine q_getI 12 rfl fX7_85 rfl 77 t_77 dX7_wordHere_9 ?_
      rw [P7_16]
      refine q_iconst 13 rfl 1 k_i1 dX7_wordHere_12 ?_
      refine q_icmp_ne 16 rfl 118 (by decide) (by omega) (by omega) dX7_wordHere_13 (fun h13 => ?_) (fun h13 => ?_)
      · exfalso; omega
      · refine q_aload_n 17 rfl rfl dX7_wordHere_16 ?_
        refine q_getI 20 rfl fX7_88 rfl 77 t_77 dX7_wordHere_17 ?_
        rw [P7_14]
        refine q_aload_n 21 rfl rfl dX7_wordHere_20 ?_
        refine q_getI 24 rfl fX7_79 rfl 77 t_77 dX7_wordHere_21 ?_
        rw [P7_15]
        refine q_isub 25 rfl (by omega) dX7_wordHere_24 ?_
        refine q_aload_n 26 rfl rfl dX7_wordHere_25 ?_
        refine q_getR 29 rfl fX7_31 rfl 77 t_77 (g_77_18 hG) dX7_wordHere_26 ?_
        refine q_iload_n 30 rfl rfl dX7_wordHere_29 ?_
        refine q_iconst 31 rfl 1 k_i1 dX7_wordHere_30 ?_
        refine q_iadd 32 rfl dX7_wordHere_31 ?_
        refine q_iald 33 rfl 85 t_85 (by omega) (by decide) dX7_wordHere_32 ?_
        rw [P7_ne (by decide)]
        rw [c3]
        refine q_aload_n 34 rfl rfl dX7_wordHere_33 ?_
        refine q_getR 37 rfl fX7_31 rfl 77 t_77 (g_77_18 hG) dX7_wordHere_34 ?_
        refine q_iload_n 38 rfl rfl dX7_wordHere_37 ?_
        refine q_iald 39 rfl 85 t_85 (by omega) (by decide) dX7_wordHere_38 ?_
        rw [P7_ne (by decide)]
        rw [c2]
        refine q_isub 40 rfl (by omega) dX7_wordHere_39 ?_
        refine q_icmp_ne 43 rfl 47 (by decide) (by omega) (by omega) dX7_wordHere_40 (fun h40 => ?_) (fun h40 => ?_)
        · refine q_iconst 48 rfl 0 k_i0 dX7_wordHere_47 ?_
          refine q_istore_n 49 rfl (by decide) dX7_wordHere_48 ?_
          refine q_iconst 50 rfl 0 k_i0 dX7_wordHere_49 ?_
          refine q_istore_n 51 rfl (by decide) dX7_wordHere_50 ?_
          have hf0 : 0 = (wis (N 84) he (sp - he) n).toNat := by rw [wis, decide_eq_false (by omega)]; rfl
          suffices hx : ∀ f, f = (wis (N 84) he (sp - he) n).toNat → q_R Γ mX7_wordHere (q_room 1 mc mz) (q_Z Γ Q 0 0) 0 0 106 [(0, .ref (ad 77)), (1, .int (nI n)), (2, .int (nI f))] [] (LT ad, P7 N 0 ba sp he 1 vl, L, G) from q_loc (wh_0 hG (hx 0 hf0)) (q_sub1 rfl (q_sub1 rfl (q_sub1 rfl (q_sub1 rfl q_sub0))))
          intro f hf
          refine q_iload_n 107 rfl rfl dX7_wordHere_106 ?_
          have f1 := Bool.toNat_le (wis (N 84) he (sp - he) n)
          refine q_if_eq 110 rfl 112 (by decide) (by omega) dX7_wordHere_107 (fun h107 => ?_) (fun h107 => ?_)
          · refine q_iinc1 115 rfl 1 k_i1 rfl (by decide) dX7_wordHere_112 ?_
            refine q_goto 2 (by decide) dX7_wordHere_115 ?_
            refine q_loc (ih (n + 1) (by omega) (fun v hv => hQ v ?_)) (q_sub1 rfl (q_sub1 rfl q_sub0))
            rw [whf_s, if_neg, hv]
            cases hw : wis (N 84) he (sp - he) n with
            | false => decide
            | true => rw [hw] at hf; exact absurd hf (by have e1 : true.toNat = 1 := rfl; omega)
          · refine q_iload_n 111 rfl rfl dX7_wordHere_110 ?_
            refine q_iret rfl dX7_wordHere_111 ?_
            refine hQ _ ?_
            rw [whf_s, if_pos]
            cases hw : wis (N 84) he (sp - he) n with
            | true => rfl
            | false => rw [hw] at hf; exact absurd hf (by assumption)
        · refine q_iconst 44 rfl 1 k_i1 dX7_wordHere_43 ?_
          refine q_goto 48 (by decide) dX7_wordHere_44 ?_
          refine q_istore_n 49 rfl (by decide) dX7_wordHere_48 ?_
          refine q_iconst 50 rfl 0 k_i0 dX7_wordHere_49 ?_
          refine q_istore_n 51 rfl (by decide) dX7_wordHere_50 ?_
          refine q_loc (wh_in (N := N) (n := n) hG hl ht hs hsp hcu hlw (by omega) (by omega) ?_ 0 (by omega) rfl) (q_sub1 rfl (q_sub1 rfl (q_sub1 rfl (q_sub1 rfl q_sub0))))
          intro f hf
          refine q_iload_n 107 rfl rfl dX7_wordHere_106 ?_
          have f1 := Bool.toNat_le (wis (N 84) he (sp - he) n)
          refine q_if_eq 110 rfl 112 (by decide) (by omega) dX7_wordHere_107 (fun h107 => ?_) (fun h107 => ?_)
          · refine q_iinc1 115 rfl 1 k_i1 rfl (by decide) dX7_wordHere_112 ?_
            refine q_goto 2 (by decide) dX7_wordHere_115 ?_
            refine q_loc (ih (n + 1) (by omega) (fun v hv => hQ v ?_)) (q_sub1 rfl (q_sub1 rfl q_sub0))
            rw [whf_s, if_neg, hv]
            cases hw : wis (N 84) he (sp - he) n with
            | false => decide
            | true => rw [hw] at hf; exact absurd hf (by have e1 : true.toNat = 1 := rfl; omega)
          · refine q_iload_n 111 rfl rfl dX7_wordHere_110 ?_
            refine q_iret rfl dX7_wordHere_111 ?_
            refine hQ _ ?_
            rw [whf_s, if_pos]
            cases hw : wis (N 84) he (sp - he) n with
            | true => rfl
            | false => rw [hw] at hf; exact absurd hf (by assumption)
theorem k_wordHere {ba sp he tk vl : Nat} (hG : GF ad G) (hl : N 77 10 ≤ 160) (ht : ∀ i, i < 160 → N 84 i < 128) (hs : he ≤ sp) (hsp : sp ≤ N 77 10) (hcu : ∀ i, i < 10 → N 85 i = cu i) (hlw : ∀ i, i < 42 → N 86 i = lw i) (htk : tk ≤ 4) : q_Con Γ mX7_wordHere 1 0 0 [.ref (ad 77)] (LT ad, P7 N 0 ba sp he tk vl, L, G) (q_is (some (.int (nI (if tk = 1 then whf (N 84) he (sp - he) 9 0 else 4294967292)))) (LT ad, P7 N 0 ba sp he tk vl, L, G)) := by
  by_cases e1 : tk = 1
  · subst e1
    rw [if_pos rfl]
    refine q_con (by decide) rfl rfl (Nat.le_of_ble_eq_true rfl) ?_
    refine q_iconst 1 rfl 0 k_i0 dX7_wordHere_0 ?_
    refine q_istore_n 2 rfl (by decide) dX7_wordHere_1 ?_
    refine q_loc (wh_lp (N := N) hG hl ht hs hsp hcu hlw 9 0 (by omega) (fun v hv => ?_)) (q_sub1 rfl (q_sub1 rfl q_sub0))
    rw [hv]
    exact ⟨rfl, rfl⟩
  rw [if_neg e1]
  refine q_con (by decide) rfl rfl (Nat.le_of_ble_eq_true rfl) ?_
  refine q_iconst 1 rfl 0 k_i0 dX7_wordHere_0 ?_
  refine q_istore_n 2 rfl (by decide) dX7_wordHere_1 ?_
  refine q_iload_n 3 rfl rfl dX7_wordHere_2 ?_
  refine q_bipush 5 rfl 9 k_b9 dX7_wordHere_3 ?_
  refine q_icmp_ge 8 rfl 118 (by decide) (by omega) (by omega) dX7_wordHere_5 (fun h5 => ?_) (fun h5 => ?_)
  · exfalso; omega
  · refine q_aload_n 9 rfl rfl dX7_wordHere_8 ?_
    refine q_getI 12 rfl fX7_85 rfl 77 t_77 dX7_wordHere_9 ?_
    rw [P7_16]
    refine q_iconst 13 rfl 1 k_i1 dX7_wordHere_12 ?_
    refine q_icmp_ne 16 rfl 118 (by decide) (by omega) (by omega) dX7_wordHere_13 (fun h13 => ?_) (fun h13 => ?_)
    · refine q_bipush 120 rfl 4294967292 k_bm4 dX7_wordHere_118 ?_
      refine q_iret rfl dX7_wordHere_120 ?_
      exact ⟨rfl, rfl⟩
    · exfalso; omega
end
