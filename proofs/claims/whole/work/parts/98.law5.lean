theorem va_arr {args : Array Value} {s : State} {ty : FieldType} (h : (Cond.arrayClass ty).before args s = true) : ∃ cA, ArrOfT s cA ty ∧ s.vm.findClass ("[" ++ ty.toString) = some cA := by
  obtain ⟨cA, kA, comp, h1, h2, h3⟩ := Cond.arrayClass_spec h
  exact ⟨cA, fun n z => ⟨fun k h => (by cases h), kA, h2, comp, h3⟩, h1⟩
theorem va_arq {args : Array Value} {s : State} {C : String} (h : (Cond.arrayOver (.object C)).before args s = true) : ∃ cA, ArrOfT s cA (.object C) ∧ va_RA s cA (.object C) := by
  obtain ⟨comp, cA, kA, f1, f2, f3, f4, f5⟩ := Cond.arrayOver_spec h
  exact ⟨cA, fun n z => ⟨(fun k h => by cases h), kA, f3, comp, f4⟩, kA, comp, f3, f4, f1, f5⟩
abbrev flL : List Cond := flatC (Jvm.Cond.and given_1 narrow_1)
theorem st_ex : ∀ i, i < 9 → Cond.exactly (Term.string RX2 (q_sx.getD i 0)) "java/lang/String" ∈ flL := by decide +kernel
theorem st_co : ∀ i, i < 9 → Cond.eq (.field (Term.string RX2 (q_sx.getD i 0)) "java/lang/String" "coder" "B") (.int 0) ∈ flL := by decide +kernel
theorem st_ar : ∀ i, i < 9 → Cond.arrayOf (.field (Term.string RX2 (q_sx.getD i 0)) "java/lang/String" "value" "[B") .byte ∈ flL := by decide +kernel
theorem st_le : ∀ i, i < 9 → Cond.eq (.length (.field (Term.string RX2 (q_sx.getD i 0)) "java/lang/String" "value" "[B")) (.int (Int32.ofNat (q_sl.getD i 0))) ∈ flL := by decide +kernel
theorem st_el : ∀ i, i < 9 → ∀ j, j < q_sl.getD i 0 → Cond.eq (.elem (.field (Term.string RX2 (q_sx.getD i 0)) "java/lang/String" "value" "[B") (.int (Int32.ofNat j))) (.int ((q_sb.getD i []).getD j 0)) ∈ flL := by decide +kernel
theorem st_ne : ∀ i, i < 9 → ∀ j, j < 9 → i ≠ j → Cond.not (Cond.eq (Term.string RX2 (q_sx.getD i 0)) (Term.string RX2 (q_sx.getD j 0))) ∈ flL ∨ Cond.not (Cond.eq (Term.string RX2 (q_sx.getD j 0)) (Term.string RX2 (q_sx.getD i 0))) ∈ flL := by decide +kernel
theorem st_ld : Cond.eq (.static "java/lang/String" "COMPACT_STRINGS" "Z") (.int 1) ∈ flL := by decide +kernel
theorem st_lf : Cond.isRef (.static "jdk/internal/util/Preconditions" "SIOOBE_FORMATTER" "Ljava/util/function/BiFunction;") ∈ flL := by decide +kernel
set_option maxRecDepth 20000 in
theorem sr_0 : Cond.stringRef RX2 54 "name" ∈ lw_tbl := List.mem_of_getElem? (i := 428) rfl
set_option maxRecDepth 20000 in
theorem sr_1 : Cond.stringRef RX2 66 "near" ∈ lw_tbl := List.mem_of_getElem? (i := 516) rfl
set_option maxRecDepth 20000 in
theorem sr_2 : Cond.stringRef RX2 71 "pair" ∈ lw_tbl := List.mem_of_getElem? (i := 530) rfl
set_option maxRecDepth 20000 in
theorem sr_3 : Cond.stringRef RX2 76 "maid" ∈ lw_tbl := List.mem_of_getElem? (i := 539) rfl
set_option maxRecDepth 20000 in
theorem sr_4 : Cond.stringRef RX2 148 "letters" ∈ lw_tbl := List.mem_of_getElem? (i := 525) rfl
set_option maxRecDepth 20000 in
theorem sr_5 : Cond.stringRef RX2 150 "start" ∈ lw_tbl := List.mem_of_getElem? (i := 526) rfl
set_option maxRecDepth 20000 in
theorem sr_6 : Cond.stringRef RX2 151 "long" ∈ lw_tbl := List.mem_of_getElem? (i := 527) rfl
set_option maxRecDepth 20000 in
theorem sr_7 : Cond.stringRef RX2 153 "share" ∈ lw_tbl := List.mem_of_getElem? (i := 528) rfl
set_option maxRecDepth 20000 in
theorem sr_8 : Cond.stringRef RX2 155 "sound" ∈ lw_tbl := List.mem_of_getElem? (i := 529) rfl
set_option maxRecDepth 20000 in
theorem ao_M : Cond.arrayOver (.object "GuessCalled$Moment") ∈ lw_tbl := List.mem_of_getElem? (i := 254) rfl
set_option maxRecDepth 20000 in
theorem ao_S : Cond.arrayOver (.object "GuessCalled$Sheet") ∈ lw_tbl := List.mem_of_getElem? (i := 256) rfl
set_option maxRecDepth 20000 in
theorem ls_C : Cond.laysStatic "java/lang/String" "COMPACT_STRINGS" "Z" ∈ lw_tbl := List.mem_of_getElem? (i := 442) rfl
set_option maxRecDepth 20000 in
theorem ls_F : Cond.laysStatic "jdk/internal/util/Preconditions" "SIOOBE_FORMATTER" "Ljava/util/function/BiFunction;" ∈ lw_tbl := List.mem_of_getElem? (i := 458) rfl
set_option maxRecDepth 20000 in
theorem in_S : Cond.initialized "java/lang/String" ∈ lw_tbl := List.mem_of_getElem? (i := 98) rfl
set_option maxRecDepth 20000 in
theorem in_P : Cond.initialized "jdk/internal/util/Preconditions" ∈ lw_tbl := List.mem_of_getElem? (i := 100) rfl
theorem q_tb {w : Cond} (h : w ∈ q_gt) : w ∈ lw_tbl := (List.mem_filter.mp h).1
/-- the classes' numbers and slots -/
theorem law_cls {args : Array Value} {s : State} (hts : ∀ w ∈ lw_tbl, w.before args s = true) : ∃ (dC : Nat → ClassId) (dI : Nat → Nat → Nat), ∀ (k : Nat) (q : vw_C), vwCl[k]? = some q → u_Kn s q.1 q.2.1 q.2.2 (dC k) (dI k) := by
  obtain ⟨c0, i0, h0⟩ := u_known (C := RX0) (T := TX0) (N := 13) (n := 13) hts inX0 (hts _ (q_tb io_X0))
  obtain ⟨c1, i1, h1⟩ := u_known (C := RX1) (T := TX1) (N := 7) (n := 7) hts inX1 (hts _ (q_tb io_X1))
  obtain ⟨c2, i2, h2⟩ := u_known (C := RX2) (T := TX2) (N := 11) (n := 11) hts inX2 (hts _ (q_tb io_X2))
  obtain ⟨c3, i3, h3⟩ := u_known (C := RX3) (T := TX3) (N := 3) (n := 3) hts inX3 (hts _ (q_tb io_X3))
  obtain ⟨c4, i4, h4⟩ := u_known (C := RX4) (T := TX4) (N := 7) (n := 7) hts inX4 (hts _ (q_tb io_X4))
  obtain ⟨c5, i5, h5⟩ := u_known (C := RX5) (T := TX5) (N := 3) (n := 3) hts inX5 (hts _ (q_tb io_X5))
  obtain ⟨c6, i6, h6⟩ := u_known (C := RX6) (T := TX6) (N := 20) (n := 20) hts inX6 (hts _ (q_tb io_X6))
  obtain ⟨c7, i7, h7⟩ := u_known (C := RX7) (T := TX7) (N := 30) (n := 30) hts inX7 (hts _ (q_tb io_X7))
  refine ⟨fun k => [c0, c1, c2, c3, c4, c5, c6, c7].getD k c0, fun k => [i0, i1, i2, i3, i4, i5, i6, i7].getD k i0, ?_⟩
  intro k q hq
  match k, hq with
  | 0, hq => cases hq; exact h0
  | 1, hq => cases hq; exact h1
  | 2, hq => cases hq; exact h2
  | 3, hq => cases hq; exact h3
  | 4, hq => cases hq; exact h4
  | 5, hq => cases hq; exact h5
  | 6, hq => cases hq; exact h6
  | 7, hq => cases hq; exact h7
  | k + 8, hq => simp [vwCl] at hq
/-- the array classes -/
theorem law_arr {args : Array Value} {s : State} (hts : ∀ w ∈ lw_tbl, w.before args s = true) : ∃ A : Nat → ClassId, ∀ (k : Nat) (q : ClassId × FieldType), ([(A 0, .int), (A 1, .byte), (A 2, .boolean), (A 3, .long), (A 4, .object "GuessCalled$Moment"), (A 5, .object "GuessCalled$Sheet")] : List (ClassId × FieldType))[k]? = some q → ArrOfT s q.1 q.2 ∧ va_RA s q.1 q.2 := by
  obtain ⟨a0, b0, d0⟩ := va_arr (hts _ (q_tb an_int))
  obtain ⟨a1, b1, d1⟩ := va_arr (hts _ (q_tb an_byte))
  obtain ⟨a2, b2, d2⟩ := va_arr (hts _ (q_tb an_boolean))
  obtain ⟨a3, b3, d3⟩ := va_arr (hts _ (q_tb an_long))
  obtain ⟨a4, b4, d4⟩ := va_arq (hts _ ao_M)
  obtain ⟨a5, b5, d5⟩ := va_arq (hts _ ao_S)
  refine ⟨fun k => [a0, a1, a2, a3, a4, a5].getD k a0, ?_⟩
  intro k q hq
  match k, hq with
  | 0, hq => cases hq; exact ⟨b0, d0⟩
  | 1, hq => cases hq; exact ⟨b1, d1⟩
  | 2, hq => cases hq; exact ⟨b2, d2⟩
  | 3, hq => cases hq; exact ⟨b3, d3⟩
  | 4, hq => cases hq; exact ⟨b4, d4⟩
  | 5, hq => cases hq; exact ⟨b5, d5⟩
  | k + 6, hq => simp at hq
theorem whole_start {p : Program} {e : Env} {s : State} {m : MethodId} {below : List Frame} {meth : Method} {c : Code} (l : Launch) {b L : Nat} {xs : Nat → Int32} (hL : L ≤ 320) (C0 : lw_At p s m meth c b L xs) : W p l e room_1 s m #[Value.ref b] below meth c s.heap [] 0 0 (lw_Z below #[Value.ref b] s) (entryFrame m ([Value.ref b] : List Value).toArray 4) := by
  obtain ⟨hx, hb, hr, hml, hown, hts, hX, hbl, hlocks, hgv⟩ := id C0
  have hs := flat_of_before _ hgv
  obtain ⟨dC, dI, hKc⟩ := law_cls hts
  obtain ⟨A, hA6⟩ := law_arr hts
  have hA : ∀ a : Nat, a < s.heap.size → ¬ (fun q : Nat => s.heap.size ≤ q) a := fun a ha => Nat.not_le.mpr ha
  obtain ⟨adK, adV, hS9, hev⟩ := vk_Sof (N := 9) (tm := fun i => Term.string RX2 (q_sx.getD i 0)) (len := q_sl) (byt := q_sb) (A := fun q : Nat => s.heap.size ≤ q) (by decide) (fun i hi => hs _ (st_ex i hi)) (fun i hi => hs _ (st_co i hi)) (fun i hi => hs _ (st_ar i hi)) (fun i hi => hs _ (st_le i hi)) (fun i hi j hj => hs _ (st_el i hi j hj)) (fun i j hi hj hn => by
    rcases st_ne i hi j hj hn with q | q
    · exact Or.inl (hs _ q)
    · exact Or.inr (hs _ q)) hA
  obtain ⟨Γ, hΓ⟩ : ∃ Γ : q_G, Γ = (l, s.heap.size, (dC, dI), A, adK, adV, (b, L, xs)) := ⟨_, rfl⟩
  have hU : q_U Γ s := by
    subst hΓ
    refine ⟨⟨hKc, hA6⟩, fun w hw => va_Nw.of (by have := (List.mem_filter.mp hw).2; cases w <;> first | rfl | exact absurd this (by simp [q_isN])) (hts w (List.mem_filter.mp hw).1), hS9, fun k hk => ?_, va_Zof (hts _ ls_C) (hts _ in_S) (va_eqt (hs _ st_ld)) hA, Nat.le_refl _, va_AO.of (hts _ ao_M), va_AO.of (hts _ ao_S), va_Zqof (hts _ ls_F) (hts _ in_P) (hs _ st_lf) hA, hX, hbl⟩
    have h1 : (Cond.stringRef RX2 (q_sx.getD k 0) (q_st.getD k "")).before #[Value.ref b] s = true := by
      rcases (show k = 0 ∨ k = 1 ∨ k = 2 ∨ k = 3 ∨ k = 4 ∨ k = 5 ∨ k = 6 ∨ k = 7 ∨ k = 8 by omega) with rfl | rfl | rfl | rfl | rfl | rfl | rfl | rfl | rfl
      · exact hts _ sr_0
      · exact hts _ sr_1
      · exact hts _ sr_2
      · exact hts _ sr_3
      · exact hts _ sr_4
      · exact hts _ sr_5
      · exact hts _ sr_6
      · exact hts _ sr_7
      · exact hts _ sr_8
    exact vk_R.of h1 (hev k hk)
  have eb : q_xb Γ = b := by rw [hΓ]
  have el : q_xl Γ = L := by rw [hΓ]
  have e1 : Γ.1 = l := by rw [hΓ]
  have e2 : Γ.2.1 = s.heap.size := by rw [hΓ]
  clear hΓ
  have hC : q_C Γ (mL ⟨RL, meth.name, ""⟩) p s m #[Value.ref b] meth c := ⟨hx, hb, hml, hr, hlocks, hown, fun w hw => hts w (q_tb hw), hU, rfl⟩
  have hl := lv_entry ([.ref b]) (n := 4) (Nat.le_of_ble_eq_true rfl)
  rw [lg_entry_eq]
  have K := law_in (Γ := Γ) (y := ⟨RL, meth.name, ""⟩) (by omega) p e s m #[Value.ref b] below meth c s.heap [] _ hC (fun k q h => by simp [q_wd] at h) ⟨fun i j p q h => by simp [q_wd] at h, fun k q h => by simp [q_wd] at h⟩ va_S.rf (by rw [eb]; exact hl)
  intro T hT X
  rw [← e1] at X
  obtain ⟨t, a, q⟩ := K T hT X
  refine ⟨t, a, ?_⟩
  have := q ⟨by rw [eb], e2.symm⟩
  rw [eb] at this
  exact this
