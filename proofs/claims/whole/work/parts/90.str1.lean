set_option maxRecDepth 20000 in
theorem wJ_9 : Cond.fieldLink RJ0 9 "java/lang/String" "value" "[B" ∈ q_gt := q_in 1310 rfl rfl
set_option maxRecDepth 20000 in
theorem wJ_15 : Cond.fieldLink RJ0 15 "java/lang/String" "coder" "B" ∈ q_gt := q_in 1311 rfl rfl
set_option maxRecDepth 20000 in
theorem wJ_38 : Cond.fieldLink RJ0 38 "java/lang/String" "COMPACT_STRINGS" "Z" ∈ q_gt := q_in 441 rfl rfl
set_option maxRecDepth 20000 in
theorem wJ_1053 : Cond.fieldLink RJ0 1053 "jdk/internal/util/Preconditions" "SIOOBE_FORMATTER" "Ljava/util/function/BiFunction;" ∈ q_gt := q_in 457 rfl rfl
section
variable {Γ : q_G} {m : q_M} {rm : Room} {Z : q_Zt} {k n pc : Nat} {lv : List (Nat × Value)} {st : List Value} {h : q_H}
/-- where the j-th String constant lies, and its bytes -/
abbrev q_sa (Γ : q_G) (j : Nat) : Nat := Γ.2.2.2.2.1 j
abbrev q_va (Γ : q_G) (j : Nat) : Nat := Γ.2.2.2.2.2.1 j
theorem q_ldcs (pc' : Nat) (hp : pc + 2 = pc') (j : Nat) (hj : j < 9) (ho : m.1 = RX2) {idx : Nat} (hi : q_sx.getD j 0 = idx) (hd : decode m.2.2.1 pc = .ok (.ldc idx, 2)) (kk : q_R Γ m rm Z k n pc' lv (.ref (q_sa Γ j) :: st) h) : q_R Γ m rm Z k n pc lv st h := by
  subst hp
  intro p e s mi args below meth c H locs ls C hP hD hS hl
  exact va_ldcS C.1 C.2.1 (by rw [← ho]; exact C.2.2.2.2.2.1) (C.2.2.2.2.2.2.2.1.2.2.2.1 j hj) (by rw [hi]; exact hd) (kk p e s mi args below meth c H locs ls C hP hD hS hl)
theorem q_gsc (pc' : Nat) (hp : pc + 3 = pc') (j : Nat) (hj : j < 9) {idx : Nat} (hw : Cond.fieldLink m.1 idx "java/lang/String" "coder" "B" ∈ q_gt) (hd : decode m.2.2.1 pc = .ok (.getfield idx, 3)) (kk : q_R Γ m rm Z k n pc' lv (.int (nI 0) :: st) h) : q_R Γ m rm Z k n pc lv (.ref (q_sa Γ j) :: st) h := by
  subst hp
  intro p e s mi args below meth c H locs ls C hP hD hS hl
  exact vk_getf C.1 C.2.1 (C.2.2.2.2.2.2.2.1.2.2.1.1 j hj).2.1 hS C.2.2.2.2.2.1 (C.2.2.2.2.2.2.1 _ hw) (fun _ h => h) hd (kk p e s mi args below meth c H locs ls C hP hD hS hl)
theorem q_gsv (pc' : Nat) (hp : pc + 3 = pc') (j : Nat) (hj : j < 9) {idx : Nat} (hw : Cond.fieldLink m.1 idx "java/lang/String" "value" "[B" ∈ q_gt) (hd : decode m.2.2.1 pc = .ok (.getfield idx, 3)) (kk : q_R Γ m rm Z k n pc' lv (.ref (q_va Γ j) :: st) h) : q_R Γ m rm Z k n pc lv (.ref (q_sa Γ j) :: st) h := by
  subst hp
  intro p e s mi args below meth c H locs ls C hP hD hS hl
  exact vk_getf C.1 C.2.1 (C.2.2.2.2.2.2.2.1.2.2.1.1 j hj).2.2.1 hS C.2.2.2.2.2.1 (C.2.2.2.2.2.2.1 _ hw) (fun _ h => h) hd (kk p e s mi args below meth c H locs ls C hP hD hS hl)
theorem q_slen (pc' : Nat) (hp : pc + 1 = pc') (j : Nat) (hj : j < 9) (hd : decode m.2.2.1 pc = .ok (.arraylength, 1)) (kk : q_R Γ m rm Z k n pc' lv (.int (nI (q_sl.getD j 0)) :: st) h) : q_R Γ m rm Z k n pc lv (.ref (q_va Γ j) :: st) h := by
  subst hp
  intro p e s mi args below meth c H locs ls C hP hD hS hl
  exact va_tlen C.1 C.2.1 (C.2.2.2.2.2.2.2.1.2.2.1.1 j hj).2.2.2 hS rfl hd (kk p e s mi args below meth c H locs ls C hP hD hS hl)
/-- the i-th byte of the j-th constant -/
def q_sn (j i : Nat) : Nat := ((q_sb.getD j []).getD i 0).toNatClampNeg
theorem q_sn_ok : ∀ j, j < 9 → ∀ i, i < q_sl.getD j 0 → nI (q_sn j i) = (q_sb.getD j []).getD i 0 ∧ q_sn j i < 128 := by decide +kernel
theorem q_sl_le : ∀ j, j < 9 → q_sl.getD j 0 ≤ 7 := by decide
theorem q_sbald (pc' : Nat) (hp : pc + 1 = pc') (j : Nat) (hj : j < 9) {i : Nat} (hi : i < q_sl.getD j 0) (hd : decode m.2.2.1 pc = .ok (.baload, 1)) (kk : q_R Γ m rm Z k n pc' lv (.int (nI (q_sn j i)) :: st) h) : q_R Γ m rm Z k n pc lv (.int (nI i) :: .ref (q_va Γ j) :: st) h := by
  subst hp
  have h7 := q_sl_le j hj
  intro p e s mi args below meth c H locs ls C hP hD hS hl
  refine va_tb C.1 C.2.1 (C.2.2.2.2.2.2.2.1.2.2.1.1 j hj).2.2.2 hS (vp_in_nI hi (by omega)) ?_ hd (kk p e s mi args below meth c H locs ls C hP hD hS hl)
  show Value.int ((q_sb.getD j []).getD (nI i).toNatClampNeg 0) = .int (nI (q_sn j i))
  rw [nI_clamp (by omega), (q_sn_ok j hj i hi).1]
theorem q_gcs (pc' : Nat) (hp : pc + 3 = pc') {idx : Nat} (hw : Cond.fieldLink m.1 idx "java/lang/String" "COMPACT_STRINGS" "Z" ∈ q_gt) (hd : decode m.2.2.1 pc = .ok (.getstatic idx, 3)) (kk : q_R Γ m rm Z k n pc' lv (.int (nI 1) :: st) h) : q_R Γ m rm Z k n pc lv st h := by
  subst hp
  intro p e s mi args below meth c H locs ls C hP hD hS hl
  exact va_gets C.1 C.2.1 C.2.2.2.2.2.2.2.1.2.2.2.2.1 hS C.2.2.2.2.2.1 (C.2.2.2.2.2.2.1 _ hw) (fun _ h => h) hd (kk p e s mi args below meth c H locs ls C hP hD hS hl)
/-- the formatter: a reference or null -/
theorem q_gfm (pc' : Nat) (hp : pc + 3 = pc') {idx : Nat} (hw : Cond.fieldLink m.1 idx "jdk/internal/util/Preconditions" "SIOOBE_FORMATTER" "Ljava/util/function/BiFunction;" ∈ q_gt) (hd : decode m.2.2.1 pc = .ok (.getstatic idx, 3)) (kk : ∀ v : Value, v.category = 1 → (v = .null ∨ ∃ a, v = .ref a) → q_R Γ m rm Z k n pc' lv (v :: st) h) : q_R Γ m rm Z k n pc lv st h := by
  subst hp
  intro p e s mi args below meth c H locs ls C hP hD hS hl
  rcases C.2.2.2.2.2.2.2.1.2.2.2.2.2.2.2.2.1 with hz | ⟨t, hz⟩
  · exact va_gets C.1 C.2.1 hz hS C.2.2.2.2.2.1 (C.2.2.2.2.2.2.1 _ hw) (fun _ h => h) hd (kk .null rfl (Or.inl rfl) p e s mi args below meth c H locs ls C hP hD hS hl)
  · exact va_gets C.1 C.2.1 hz hS C.2.2.2.2.2.1 (C.2.2.2.2.2.2.1 _ hw) (fun _ h => h) hd (kk (.ref t) rfl (Or.inr ⟨t, rfl⟩) p e s mi args below meth c H locs ls C hP hD hS hl)
/-- the i-th int of the script, as a natural -/
noncomputable def q_xs (Γ : q_G) (i : Nat) : Nat := Classical.choose (z_of (Γ.2.2.2.2.2.2.2.2 i))
theorem q_xs_ok (Γ : q_G) (i : Nat) : q_xs Γ i < 4294967296 ∧ Γ.2.2.2.2.2.2.2.2 i = nI (q_xs Γ i) := Classical.choose_spec (z_of (Γ.2.2.2.2.2.2.2.2 i))
abbrev q_xb (Γ : q_G) : Nat := Γ.2.2.2.2.2.2.1
abbrev q_xl (Γ : q_G) : Nat := Γ.2.2.2.2.2.2.2.1
theorem q_sld (pc' : Nat) (hp : pc + 1 = pc') {i : Nat} (hi : i < q_xl Γ) (hl31 : q_xl Γ < 2147483648) (hd : decode m.2.2.1 pc = .ok (.iaload, 1)) (kk : q_R Γ m rm Z k n pc' lv (.int (nI (q_xs Γ i)) :: st) h) : q_R Γ m rm Z k n pc lv (.int (nI i) :: .ref (q_xb Γ) :: st) h := by
  subst hp
  intro p e s mi args below meth c H locs ls C hP hD hS hl
  obtain ⟨hX, hb⟩ := C.2.2.2.2.2.2.2.1.2.2.2.2.2.2.2.2.2
  have h6 := C.2.2.2.2.2.2.2.1.2.2.2.2.2.1
  refine va_sld C.1 C.2.1 hX (Nat.lt_of_lt_of_le hb h6) (Nat.not_le.mpr hb) hS (vp_in_nI hi hl31) hd ?_
  rw [nI_clamp (by omega), (q_xs_ok Γ i).2]
  exact kk p e s mi args below meth c H locs ls C hP hD hS hl
theorem q_slenX (pc' : Nat) (hp : pc + 1 = pc') (hd : decode m.2.2.1 pc = .ok (.arraylength, 1)) (kk : q_R Γ m rm Z k n pc' lv (.int (nI (q_xl Γ)) :: st) h) : q_R Γ m rm Z k n pc lv (.ref (q_xb Γ) :: st) h := by
  subst hp
  intro p e s mi args below meth c H locs ls C hP hD hS hl
  obtain ⟨hX, hb⟩ := C.2.2.2.2.2.2.2.1.2.2.2.2.2.2.2.2.2
  have h6 := C.2.2.2.2.2.2.2.1.2.2.2.2.2.1
  exact va_slen C.1 C.2.1 hX (Nat.lt_of_lt_of_le hb h6) (Nat.not_le.mpr hb) hS hd (kk p e s mi args below meth c H locs ls C hP hD hS hl)
/-- a call on a String constant -/
theorem q_callT {m2 : q_M} {d2 mc ms nA idx j : Nat} {As rest st0 : List Value} {Q' : Option Value → q_H → Prop} (M : q_MLv m.1 idx m2 nA) (hj : j < 9) (hcl : m2.2.1.cls = "java/lang/String") (hc : q_Con Γ m2 d2 mc ms (.ref (q_sa Γ j) :: As) h Q') (hf : q_fits rm k n d2 mc ms m2.2.2.2.1 = true) (hn : As.length = nA) (hst : st0 = As.reverse ++ .ref (q_sa Γ j) :: rest) (hr : (rest.map fun v => v.category).sum ≤ 8) (hd : decode m.2.2.1 pc = .ok (.invokevirtual idx, 3)) (kk : ∀ v h', Q' v h' → q_R Γ m rm Z (k + mc) (n + ms) (pc + 3) lv (v.toList ++ rest) h') : q_R Γ m rm Z k n pc lv st0 h := by
  obtain ⟨⟨hlink, hini, hcode, hn1, hn2, hsig⟩, hinst, hsel⟩ := M
  obtain ⟨hR, hcs⟩ := q_fits_spec hf
  refine q_after (a := (Value.ref (q_sa Γ j) :: As).toArray) (fun p e s mi args below meth c H locs ls C hP hD hS hl => ?_) kk
  have hb := C.2.2.2.2.2.2.1
  have fix : CallFix p mi c m.2.2.1 m.2.2.2.1 s args q_gt m.1 := ⟨C.1, C.2.1, C.2.2.1, C.2.2.2.2.2.1, hb⟩
  have hrecv : ∃ cellB : Cell, H[q_sa Γ j]? = some cellB ∧ cellB.vm.isStatics = false ∧ s.vm.findClass m2.2.1.cls = some cellB.cls := by
    rw [hcl]; exact vk_recv C.2.2.2.2.2.2.2.1.2.2.1 hj hS
  have hPre : PreV s H m2.2.1.cls (q_sa Γ j) (va_Pc (.ref (q_sa Γ j) :: As) (q_W Γ h)) As := ⟨q_blind, hrecv, fun U hU hW => ⟨rfl, by rw [hU]; exact hP, hD, C.2.2.2.2.2.2.2.1.later hS hU hW⟩⟩
  rcases hlink with hlink | ⟨host, hlink⟩
  · exact va_runV fix hc ⟨callB_of nA hb (q_goodIn hcode) rfl rfl rfl (hb _ hini) (hb _ hlink) ⟨hn1, hn2, hsig⟩ hR, hb _ hinst, hb _ hsel⟩ hPre rfl hn hl.1 hst (lv_room hr) hd hcs
  · exact va_runVN fix hc ⟨va_cnB nA hb (q_goodIn hcode) rfl rfl rfl (C.2.2.2.2.2.2.2.1.2.1 _ hlink) (hb _ hini) ⟨hn1, hn2, hsig⟩ hR, hb _ hinst, hb _ hsel⟩ hPre rfl hn hl.1 hst (lv_room hr) hd hcs
theorem q_cT0 (pc' : Nat) (hp : pc + 3 = pc') {m2 : q_M} {d2 nA idx j : Nat} {rest : List Value} {v : Value} {h' : q_H} (M : q_MLv m.1 idx m2 nA) (hj : j < 9) (hcl : m2.2.1.cls = "java/lang/String") (hc : q_Con Γ m2 d2 0 0 (.ref (q_sa Γ j) :: []) h (q_is (some v) h')) (hf : q_fits rm k n d2 0 0 m2.2.2.2.1 = true) (hn : 0 = nA) (hr : Nat.ble (rest.map (fun v : Value => v.category)).sum 8 = true) (hd : decode m.2.2.1 pc = .ok (.invokevirtual idx, 3)) (kk : q_R Γ m rm Z k n pc' lv (v :: rest) h') : q_R Γ m rm Z k n pc lv (.ref (q_sa Γ j) :: rest) h := by
  subst hp
  exact q_callT (st0 := .ref (q_sa Γ j) :: rest) (As := []) (rest := rest) M hj hcl hc hf hn rfl (Nat.le_of_ble_eq_true hr) hd (fun v2 h2 q => by obtain ⟨rfl, rfl⟩ := q; exact kk)
theorem q_cT1 (pc' : Nat) (hp : pc + 3 = pc') {m2 : q_M} {d2 nA idx j : Nat} {rest : List Value} {x1 v : Value} {h' : q_H} (M : q_MLv m.1 idx m2 nA) (hj : j < 9) (hcl : m2.2.1.cls = "java/lang/String") (hc : q_Con Γ m2 d2 0 0 (.ref (q_sa Γ j) :: [x1]) h (q_is (some v) h')) (hf : q_fits rm k n d2 0 0 m2.2.2.2.1 = true) (hn : 1 = nA) (hr : Nat.ble (rest.map (fun v : Value => v.category)).sum 8 = true) (hd : decode m.2.2.1 pc = .ok (.invokevirtual idx, 3)) (kk : q_R Γ m rm Z k n pc' lv (v :: rest) h') : q_R Γ m rm Z k n pc lv (x1 :: .ref (q_sa Γ j) :: rest) h := by
  subst hp
  exact q_callT (st0 := x1 :: .ref (q_sa Γ j) :: rest) (As := [x1]) (rest := rest) M hj hcl hc hf hn rfl (Nat.le_of_ble_eq_true hr) hd (fun v2 h2 q => by obtain ⟨rfl, rfl⟩ := q; exact kk)
end
section
variable {Γ : q_G} {h : q_H}
theorem k_coder {j : Nat} (hj : j < 9) : q_Con Γ mJ0_coder_7d493 0 0 0 [.ref (q_sa Γ j)] h (q_is (some (.int (nI 0))) h) := by
  refine q_con (by decide) rfl rfl (Nat.le_of_ble_eq_true rfl) ?_
  refine q_gcs 3 rfl (wJ_38) dJ0_coder_7d493_0 ?_
  refine q_if_eq 6 rfl 13 (by decide) (by decide) dJ0_coder_7d493_3 (fun q => ?_) (fun q => ?_)
  · exact absurd q (by decide)
  · refine q_aload_n 7 rfl rfl dJ0_coder_7d493_6 ?_
    refine q_gsc 10 rfl j hj (wJ_15) dJ0_coder_7d493_7 ?_
    refine q_goto 14 (by decide) dJ0_coder_7d493_10 ?_
    refine q_zret rfl (by decide) dJ0_coder_7d493_14 ?_
    exact ⟨rfl, rfl⟩
theorem k_isLatin1 {j : Nat} (hj : j < 9) : q_Con Γ mJ0_isLatin1_aae02 0 0 0 [.ref (q_sa Γ j)] h (q_is (some (.int (nI 1))) h) := by
  refine q_con (by decide) rfl rfl (Nat.le_of_ble_eq_true rfl) ?_
  refine q_gcs 3 rfl (wJ_38) dJ0_isLatin1_aae02_0 ?_
  refine q_if_eq 6 rfl 17 (by decide) (by decide) dJ0_isLatin1_aae02_3 (fun q => ?_) (fun q => ?_)
  · exact absurd q (by decide)
  · refine q_aload_n 7 rfl rfl dJ0_isLatin1_aae02_6 ?_
    refine q_gsc 10 rfl j hj (wJ_15) dJ0_isLatin1_aae02_7 ?_
    refine q_if_ne 13 rfl 17 (by decide) (by decide) dJ0_isLatin1_aae02_10 (fun q => ?_) (fun q => ?_)
    · exact absurd rfl q
    · refine q_iconst 14 rfl 1 k_i1 dJ0_isLatin1_aae02_13 ?_
      refine q_goto 18 (by decide) dJ0_isLatin1_aae02_14 ?_
      refine q_zret rfl q_n1 dJ0_isLatin1_aae02_18 ?_
      exact ⟨rfl, rfl⟩
theorem k_strLen {j : Nat} (hj : j < 9) : q_Con Γ mJ0_length_8abf5 1 0 0 [.ref (q_sa Γ j)] h (q_is (some (.int (nI (q_sl.getD j 0)))) h) := by
  refine q_con (by decide) rfl rfl (Nat.le_of_ble_eq_true rfl) ?_
  have h7 := q_sl_le j hj
  refine q_aload_n 1 rfl rfl dJ0_length_8abf5_0 ?_
  refine q_gsv 4 rfl j hj (wJ_9) dJ0_length_8abf5_1 ?_
  refine q_slen 5 rfl j hj dJ0_length_8abf5_4 ?_
  refine q_aload_n 6 rfl rfl dJ0_length_8abf5_5 ?_
  refine q_cT0 9 rfl lJ0_335 hj rfl (k_coder hj) rfl rfl rfl dJ0_length_8abf5_6 ?_
  refine q_ishr 10 rfl (by omega) (by decide) dJ0_length_8abf5_9 ?_
  rw [Nat.pow_zero, Nat.div_one]
  refine q_iret rfl dJ0_length_8abf5_10 ?_
  exact ⟨rfl, rfl⟩
theorem i2c_ok : ∀ a, a < 128 → ((nI a).toUInt32 % 65536).toInt32 = nI a ∧ narrow .char (.int (nI a)) = .int (nI a) := by decide +kernel
theorem q_i2c {m : q_M} {rm : Room} {Z : q_Zt} {k n pc : Nat} {lv : List (Nat × Value)} {st : List Value} (pc' : Nat) (hp : pc + 1 = pc') {a : Nat} (ha : a < 128) (hd : decode m.2.2.1 pc = .ok (.i2c, 1)) (kk : q_R Γ m rm Z k n pc' lv (.int (nI a) :: st) h) : q_R Γ m rm Z k n pc lv (.int (nI a) :: st) h := by
  subst hp
  exact fun p e s mi args below meth c H locs ls C hP hD hS hl => lv_i2c C.1 C.2.1 hd (i2c_ok a ha).1 (kk p e s mi args below meth c H locs ls C hP hD hS hl)
theorem and_255 {a : Nat} (h : a < 128) : a &&& 255 = a := by
  rw [show (255 : Nat) = 2 ^ 8 - 1 from rfl, Nat.and_two_pow_sub_one_eq_mod, Nat.mod_eq_of_lt (by omega)]
theorem k_ci3N {i l : Nat} (hi : i < l) (hl : l < 2147483648) : q_Con Γ mJ3_checkIndex_8e157 0 0 0 [.int (nI i), .int (nI l), .null] h (q_is (some (.int (nI i))) h) := by
  refine q_con (by decide) rfl rfl (Nat.le_of_ble_eq_true rfl) ?_
  refine q_iload_n 1 rfl rfl dJ3_checkIndex_8e157_0 ?_
  refine q_ifN_lt 4 rfl 9 (by decide) (by omega) dJ3_checkIndex_8e157_1 (fun q => ?_) (fun q => ?_)
  · exfalso; omega
  · refine q_iload_n 5 rfl rfl dJ3_checkIndex_8e157_4 ?_
    refine q_iload_n 6 rfl rfl dJ3_checkIndex_8e157_5 ?_
    refine q_icmp_lt 9 rfl 16 (by decide) (by omega) (by omega) dJ3_checkIndex_8e157_6 (fun q2 => ?_) (fun q2 => ?_)
    · refine q_iload_n 17 rfl rfl dJ3_checkIndex_8e157_16 ?_
      refine q_iret rfl dJ3_checkIndex_8e157_17 ?_
      exact ⟨rfl, rfl⟩
    · exfalso; omega
theorem k_ci3R {i l a : Nat} (hi : i < l) (hl : l < 2147483648) : q_Con Γ mJ3_checkIndex_8e157 0 0 0 [.int (nI i), .int (nI l), .ref a] h (q_is (some (.int (nI i))) h) := by
  refine q_con (by decide) rfl rfl (Nat.le_of_ble_eq_true rfl) ?_
  refine q_iload_n 1 rfl rfl dJ3_checkIndex_8e157_0 ?_
  refine q_ifN_lt 4 rfl 9 (by decide) (by omega) dJ3_checkIndex_8e157_1 (fun q => ?_) (fun q => ?_)
  · exfalso; omega
  · refine q_iload_n 5 rfl rfl dJ3_checkIndex_8e157_4 ?_
    refine q_iload_n 6 rfl rfl dJ3_checkIndex_8e157_5 ?_
    refine q_icmp_lt 9 rfl 16 (by decide) (by omega) (by omega) dJ3_checkIndex_8e157_6 (fun q2 => ?_) (fun q2 => ?_)
    · refine q_iload_n 17 rfl rfl dJ3_checkIndex_8e157_16 ?_
      refine q_iret rfl dJ3_checkIndex_8e157_17 ?_
      exact ⟨rfl, rfl⟩
    · exfalso; omega
theorem k_ci0 {i l : Nat} (hi : i < l) (hl : l < 2147483648) : q_Con Γ mJ0_checkIndex_df160 1 0 0 [.int (nI i), .int (nI l)] h (q_is none h) := by
  refine q_con (by decide) rfl rfl (Nat.le_of_ble_eq_true rfl) ?_
  refine q_iload_n 1 rfl rfl dJ0_checkIndex_df160_0 ?_
  refine q_iload_n 2 rfl rfl dJ0_checkIndex_df160_1 ?_
  refine q_gfm 5 rfl (wJ_1053) dJ0_checkIndex_df160_2 (fun v hc hv => ?_)
  rcases hv with rfl | ⟨a, rfl⟩
  · refine q_cS3 8 rfl lJ0_1059 (k_ci3N hi hl) rfl rfl rfl dJ0_checkIndex_df160_5 ?_
    refine q_pop 9 rfl rfl dJ0_checkIndex_df160_8 ?_
    refine q_vret rfl dJ0_checkIndex_df160_9 ?_
    exact ⟨rfl, rfl⟩
  · refine q_cS3 8 rfl lJ0_1059 (k_ci3R hi hl) rfl rfl rfl dJ0_checkIndex_df160_5 ?_
    refine q_pop 9 rfl rfl dJ0_checkIndex_df160_8 ?_
    refine q_vret rfl dJ0_checkIndex_df160_9 ?_
    exact ⟨rfl, rfl⟩
theorem k_ch1 {j i : Nat} (hj : j < 9) (hi : i < q_sl.getD j 0) : q_Con Γ mJ1_charAt_3b067 2 0 0 [.ref (q_va Γ j), .int (nI i)] h (q_is (some (.int (nI (q_sn j i)))) h) := by
  refine q_con (by decide) rfl rfl (Nat.le_of_ble_eq_true rfl) ?_
  have h7 := q_sl_le j hj
  have hb := (q_sn_ok j hj i hi).2
  refine q_iload_n 1 rfl rfl dJ1_charAt_3b067_0 ?_
  refine q_aload_n 2 rfl rfl dJ1_charAt_3b067_1 ?_
  refine q_slen 3 rfl j hj dJ1_charAt_3b067_2 ?_
  refine q_cS2v 6 rfl lJ1_9 (k_ci0 hi (by omega)) rfl rfl rfl dJ1_charAt_3b067_3 ?_
  refine q_aload_n 7 rfl rfl dJ1_charAt_3b067_6 ?_
  refine q_iload_n 8 rfl rfl dJ1_charAt_3b067_7 ?_
  refine q_sbald 9 rfl j hj hi dJ1_charAt_3b067_8 ?_
  refine q_sipush 12 rfl 255 k_s255 dJ1_charAt_3b067_9 ?_
  refine q_iand 13 rfl dJ1_charAt_3b067_12 ?_
  rw [and_255 hb]
  refine q_i2c 14 rfl hb dJ1_charAt_3b067_13 ?_
  refine q_zret rfl (i2c_ok _ hb).2 dJ1_charAt_3b067_14 ?_
  exact ⟨rfl, rfl⟩
theorem k_charAt {j i : Nat} (hj : j < 9) (hi : i < q_sl.getD j 0) : q_Con Γ mJ0_charAt_5068e 3 0 0 [.ref (q_sa Γ j), .int (nI i)] h (q_is (some (.int (nI (q_sn j i)))) h) := by
  refine q_con (by decide) rfl rfl (Nat.le_of_ble_eq_true rfl) ?_
  have hb := (q_sn_ok j hj i hi).2
  refine q_aload_n 1 rfl rfl dJ0_charAt_5068e_0 ?_
  refine q_cT0 4 rfl lJ0_492 hj rfl (k_isLatin1 hj) rfl rfl rfl dJ0_charAt_5068e_1 ?_
  refine q_if_eq 7 rfl 16 (by decide) (by decide) dJ0_charAt_5068e_4 (fun q => ?_) (fun q => ?_)
  · exact absurd q (by decide)
  · refine q_aload_n 8 rfl rfl dJ0_charAt_5068e_7 ?_
    refine q_gsv 11 rfl j hj (wJ_9) dJ0_charAt_5068e_8 ?_
    refine q_iload_n 12 rfl rfl dJ0_charAt_5068e_11 ?_
    refine q_cS2 15 rfl lJ0_495 (k_ch1 hj hi) rfl rfl rfl dJ0_charAt_5068e_12 ?_
    refine q_zret rfl (i2c_ok _ hb).2 dJ0_charAt_5068e_15 ?_
    exact ⟨rfl, rfl⟩
end
