theorem q_len {T : List (q_K × Nat)} {x : q_K × Nat} {c : Nat} (h : T.length = c) : (T ++ [x]).length = c + 1 := by rw [List.length_append, h]; rfl
theorem q_lastN {T : List (q_K × Nat)} {x : q_K × Nat} {c : Nat} (h : T.length = c) : (T ++ [x])[c]? = some x := by subst h; exact q_lastT
theorem q_kn {Γ : q_G} {m : q_M} {rm : Room} {Z : q_Zt} {k n k' n' pc : Nat} {lv : List (Nat × Value)} {st : List Value} {h : q_H} (hk : k = k') (hn : n = n') (kk : q_R Γ m rm Z k' n' pc lv st h) : q_R Γ m rm Z k n pc lv st h := by subst hk; subst hn; exact kk
set_option maxRecDepth 20000 in
theorem an_int : Cond.arrayClass .int ∈ q_gt := q_in 190 rfl rfl
set_option maxRecDepth 20000 in
theorem an_byte : Cond.arrayClass .byte ∈ q_gt := q_in 156 rfl rfl
set_option maxRecDepth 20000 in
theorem an_boolean : Cond.arrayClass .boolean ∈ q_gt := q_in 286 rfl rfl
set_option maxRecDepth 20000 in
theorem an_long : Cond.arrayClass .long ∈ q_gt := q_in 974 rfl rfl
set_option maxRecDepth 20000 in
theorem cl_L_7 : Cond.classLink RL 7 RX6 ∈ q_gt := q_in 106 rfl rfl
set_option maxRecDepth 20000 in
theorem cl_X6_13 : Cond.classLink RX6 13 RX2 ∈ q_gt := q_in 114 rfl rfl
set_option maxRecDepth 20000 in
theorem cl_X6_20 : Cond.classLink RX6 20 RX1 ∈ q_gt := q_in 157 rfl rfl
set_option maxRecDepth 20000 in
theorem cl_X6_27 : Cond.classLink RX6 27 RX0 ∈ q_gt := q_in 191 rfl rfl
set_option maxRecDepth 20000 in
theorem cl_X6_48 : Cond.classLink RX6 48 RX5 ∈ q_gt := q_in 255 rfl rfl
set_option maxRecDepth 20000 in
theorem cl_X6_58 : Cond.classLink RX6 58 RX4 ∈ q_gt := q_in 257 rfl rfl
set_option maxRecDepth 20000 in
theorem cl_X6_70 : Cond.classLink RX6 70 RX3 ∈ q_gt := q_in 287 rfl rfl
set_option maxRecDepth 20000 in
theorem cl_L_10 : Cond.classLink RL 10 RX7 ∈ q_gt := q_in 877 rfl rfl
set_option maxRecDepth 20000 in
theorem io_X6 : Cond.instantiable RX6 20 ∈ q_gt := q_in 107 rfl rfl
set_option maxRecDepth 20000 in
theorem iz_X6 : Cond.initialized RX6 ∈ q_gt := q_in 90 rfl rfl
theorem fv_X6 : ∀ j, j < 20 → defaultValue (tyX6 j) = vp_V ((List.range (q_nf 6)).map (q_fv 6 (fun _ => 0) (fun _ => none))) j := by
  intro j hj
  rcases (show j = 0 ∨ j = 1 ∨ j = 2 ∨ j = 3 ∨ j = 4 ∨ j = 5 ∨ j = 6 ∨ j = 7 ∨ j = 8 ∨ j = 9 ∨ j = 10 ∨ j = 11 ∨ j = 12 ∨ j = 13 ∨ j = 14 ∨ j = 15 ∨ j = 16 ∨ j = 17 ∨ j = 18 ∨ j = 19 by omega) with rfl | rfl | rfl | rfl | rfl | rfl | rfl | rfl | rfl | rfl | rfl | rfl | rfl | rfl | rfl | rfl | rfl | rfl | rfl | rfl <;> rfl
set_option maxRecDepth 20000 in
theorem io_X2 : Cond.instantiable RX2 11 ∈ q_gt := q_in 115 rfl rfl
set_option maxRecDepth 20000 in
theorem iz_X2 : Cond.initialized RX2 ∈ q_gt := q_in 91 rfl rfl
theorem fv_X2 : ∀ j, j < 11 → defaultValue (tyX2 j) = vp_V ((List.range (q_nf 2)).map (q_fv 2 (fun _ => 0) (fun _ => none))) j := by
  intro j hj
  rcases (show j = 0 ∨ j = 1 ∨ j = 2 ∨ j = 3 ∨ j = 4 ∨ j = 5 ∨ j = 6 ∨ j = 7 ∨ j = 8 ∨ j = 9 ∨ j = 10 by omega) with rfl | rfl | rfl | rfl | rfl | rfl | rfl | rfl | rfl | rfl | rfl <;> rfl
set_option maxRecDepth 20000 in
theorem io_X1 : Cond.instantiable RX1 7 ∈ q_gt := q_in 158 rfl rfl
set_option maxRecDepth 20000 in
theorem iz_X1 : Cond.initialized RX1 ∈ q_gt := q_in 92 rfl rfl
theorem fv_X1 : ∀ j, j < 7 → defaultValue (tyX1 j) = vp_V ((List.range (q_nf 1)).map (q_fv 1 (fun _ => 0) (fun _ => none))) j := by
  intro j hj
  rcases (show j = 0 ∨ j = 1 ∨ j = 2 ∨ j = 3 ∨ j = 4 ∨ j = 5 ∨ j = 6 by omega) with rfl | rfl | rfl | rfl | rfl | rfl | rfl <;> rfl
set_option maxRecDepth 20000 in
theorem io_X0 : Cond.instantiable RX0 13 ∈ q_gt := q_in 192 rfl rfl
set_option maxRecDepth 20000 in
theorem iz_X0 : Cond.initialized RX0 ∈ q_gt := q_in 93 rfl rfl
theorem fv_X0 : ∀ j, j < 13 → defaultValue (tyX0 j) = vp_V ((List.range (q_nf 0)).map (q_fv 0 (fun _ => 0) (fun _ => none))) j := by
  intro j hj
  rcases (show j = 0 ∨ j = 1 ∨ j = 2 ∨ j = 3 ∨ j = 4 ∨ j = 5 ∨ j = 6 ∨ j = 7 ∨ j = 8 ∨ j = 9 ∨ j = 10 ∨ j = 11 ∨ j = 12 by omega) with rfl | rfl | rfl | rfl | rfl | rfl | rfl | rfl | rfl | rfl | rfl | rfl | rfl <;> rfl
set_option maxRecDepth 20000 in
theorem io_X4 : Cond.instantiable RX4 7 ∈ q_gt := q_in 258 rfl rfl
set_option maxRecDepth 20000 in
theorem iz_X4 : Cond.initialized RX4 ∈ q_gt := q_in 94 rfl rfl
theorem fv_X4 : ∀ j, j < 7 → defaultValue (tyX4 j) = vp_V ((List.range (q_nf 4)).map (q_fv 4 (fun _ => 0) (fun _ => none))) j := by
  intro j hj
  rcases (show j = 0 ∨ j = 1 ∨ j = 2 ∨ j = 3 ∨ j = 4 ∨ j = 5 ∨ j = 6 by omega) with rfl | rfl | rfl | rfl | rfl | rfl | rfl <;> rfl
set_option maxRecDepth 20000 in
theorem io_X3 : Cond.instantiable RX3 3 ∈ q_gt := q_in 288 rfl rfl
set_option maxRecDepth 20000 in
theorem iz_X3 : Cond.initialized RX3 ∈ q_gt := q_in 95 rfl rfl
theorem fv_X3 : ∀ j, j < 3 → defaultValue (tyX3 j) = vp_V ((List.range (q_nf 3)).map (q_fv 3 (fun _ => 0) (fun _ => none))) j := by
  intro j hj
  rcases (show j = 0 ∨ j = 1 ∨ j = 2 by omega) with rfl | rfl | rfl <;> rfl
set_option maxRecDepth 20000 in
theorem io_X5 : Cond.instantiable RX5 3 ∈ q_gt := q_in 305 rfl rfl
set_option maxRecDepth 20000 in
theorem iz_X5 : Cond.initialized RX5 ∈ q_gt := q_in 96 rfl rfl
theorem fv_X5 : ∀ j, j < 3 → defaultValue (tyX5 j) = vp_V ((List.range (q_nf 5)).map (q_fv 5 (fun _ => 0) (fun _ => none))) j := by
  intro j hj
  rcases (show j = 0 ∨ j = 1 ∨ j = 2 by omega) with rfl | rfl | rfl <;> rfl
set_option maxRecDepth 20000 in
theorem io_X7 : Cond.instantiable RX7 30 ∈ q_gt := q_in 878 rfl rfl
set_option maxRecDepth 20000 in
theorem iz_X7 : Cond.initialized RX7 ∈ q_gt := q_in 97 rfl rfl
theorem fv_X7 : ∀ j, j < 30 → defaultValue (tyX7 j) = vp_V ((List.range (q_nf 7)).map (q_fv 7 (fun _ => 0) (fun _ => none))) j := by
  intro j hj
  rcases (show j = 0 ∨ j = 1 ∨ j = 2 ∨ j = 3 ∨ j = 4 ∨ j = 5 ∨ j = 6 ∨ j = 7 ∨ j = 8 ∨ j = 9 ∨ j = 10 ∨ j = 11 ∨ j = 12 ∨ j = 13 ∨ j = 14 ∨ j = 15 ∨ j = 16 ∨ j = 17 ∨ j = 18 ∨ j = 19 ∨ j = 20 ∨ j = 21 ∨ j = 22 ∨ j = 23 ∨ j = 24 ∨ j = 25 ∨ j = 26 ∨ j = 27 ∨ j = 28 ∨ j = 29 by omega) with rfl | rfl | rfl | rfl | rfl | rfl | rfl | rfl | rfl | rfl | rfl | rfl | rfl | rfl | rfl | rfl | rfl | rfl | rfl | rfl | rfl | rfl | rfl | rfl | rfl | rfl | rfl | rfl | rfl | rfl <;> rfl
section
variable {Γ : q_G} {T : List (q_K × Nat)} {N : Nat → Nat → Nat} {L : Nat → Nat → Int} {G : Nat → Nat → Option Nat}
theorem k_iX0 {i b : Nat} (hT : T[i]? = some (.inr 0, b)) (hz : Z0 T N L G) : q_Con Γ mX0_init 1 8 55 [.ref b] (T, N, L, G) (fun u h => u = none ∧ ∃ a1 a2 a3 a4 a5 a6 a7 a8, h = (((((((((T ++ [(.inl (0, 9), a1)]) ++ [(.inl (0, 5), a2)]) ++ [(.inl (0, 5), a3)]) ++ [(.inl (0, 9), a4)]) ++ [(.inl (0, 9), a5)]) ++ [(.inl (0, 6), a6)]) ++ [(.inl (0, 6), a7)]) ++ [(.inl (0, 6), a8)]), N, L, (q_s (q_s (q_s (q_s (q_s (q_s (q_s (q_s G i 0 (some a1)) i 4 (some a2)) i 5 (some a3)) i 7 (some a4)) i 8 (some a5)) i 10 (some a6)) i 11 (some a7)) i 12 (some a8)))) := by
  refine q_con (by decide) rfl rfl (Nat.le_of_ble_eq_true rfl) ?_
  refine q_aload_n 1 rfl rfl dX0_init_0 ?_
  refine q_obj 4 rfl loX0_3 lo_ins lo_cod (Nat.le_of_ble_eq_true rfl) (Nat.le_of_ble_eq_true rfl) (Nat.le_of_ble_eq_true rfl) dX0_init_1 ?_
  refine q_aload_n 5 rfl rfl dX0_init_4 ?_
  refine q_bipush 7 rfl 9 (by decide +kernel) dX0_init_5 ?_
  refine q_newi 9 rfl 1 9 rfl rfl hz (by decide) (Nat.le_of_ble_eq_true rfl) (Nat.le_of_ble_eq_true rfl) an_int dX0_init_7 (fun a1 => ?_)
  have hT := q_app (R := [(.inl (0, 9), a1)]) hT
  have hz := hz.app (R := [(.inl (0, 9), a1)])
  refine q_putR 12 rfl pX0_9 (fun _ => ⟨rfl, rfl⟩) rfl rfl rfl i hT dX0_init_9 ?_
  have hz := hz.putG (f := 0) (v := some a1) hT
  refine q_aload_n 13 rfl rfl dX0_init_12 ?_
  refine q_iconst 14 rfl 5 (by decide +kernel) dX0_init_13 ?_
  refine q_newi 16 rfl 2 14 rfl rfl hz (by decide) (Nat.le_of_ble_eq_true rfl) (Nat.le_of_ble_eq_true rfl) an_int dX0_init_14 (fun a2 => ?_)
  have hT := q_app (R := [(.inl (0, 5), a2)]) hT
  have hz := hz.app (R := [(.inl (0, 5), a2)])
  refine q_putR 19 rfl pX0_15 (fun _ => ⟨rfl, rfl⟩) rfl rfl rfl i hT dX0_init_16 ?_
  have hz := hz.putG (f := 4) (v := some a2) hT
  refine q_aload_n 20 rfl rfl dX0_init_19 ?_
  refine q_iconst 21 rfl 5 (by decide +kernel) dX0_init_20 ?_
  refine q_newi 23 rfl 3 19 rfl rfl hz (by decide) (Nat.le_of_ble_eq_true rfl) (Nat.le_of_ble_eq_true rfl) an_int dX0_init_21 (fun a3 => ?_)
  have hT := q_app (R := [(.inl (0, 5), a3)]) hT
  have hz := hz.app (R := [(.inl (0, 5), a3)])
  refine q_putR 26 rfl pX0_18 (fun _ => ⟨rfl, rfl⟩) rfl rfl rfl i hT dX0_init_23 ?_
  have hz := hz.putG (f := 5) (v := some a3) hT
  refine q_aload_n 27 rfl rfl dX0_init_26 ?_
  refine q_bipush 29 rfl 9 (by decide +kernel) dX0_init_27 ?_
  refine q_newi 31 rfl 4 28 rfl rfl hz (by decide) (Nat.le_of_ble_eq_true rfl) (Nat.le_of_ble_eq_true rfl) an_int dX0_init_29 (fun a4 => ?_)
  have hT := q_app (R := [(.inl (0, 9), a4)]) hT
  have hz := hz.app (R := [(.inl (0, 9), a4)])
  refine q_putR 34 rfl pX0_21 (fun _ => ⟨rfl, rfl⟩) rfl rfl rfl i hT dX0_init_31 ?_
  have hz := hz.putG (f := 7) (v := some a4) hT
  refine q_aload_n 35 rfl rfl dX0_init_34 ?_
  refine q_bipush 37 rfl 9 (by decide +kernel) dX0_init_35 ?_
  refine q_newi 39 rfl 5 37 rfl rfl hz (by decide) (Nat.le_of_ble_eq_true rfl) (Nat.le_of_ble_eq_true rfl) an_int dX0_init_37 (fun a5 => ?_)
  have hT := q_app (R := [(.inl (0, 9), a5)]) hT
  have hz := hz.app (R := [(.inl (0, 9), a5)])
  refine q_putR 42 rfl pX0_24 (fun _ => ⟨rfl, rfl⟩) rfl rfl rfl i hT dX0_init_39 ?_
  have hz := hz.putG (f := 8) (v := some a5) hT
  refine q_aload_n 43 rfl rfl dX0_init_42 ?_
  refine q_bipush 45 rfl 6 (by decide +kernel) dX0_init_43 ?_
  refine q_newi 47 rfl 6 43 rfl rfl hz (by decide) (Nat.le_of_ble_eq_true rfl) (Nat.le_of_ble_eq_true rfl) an_int dX0_init_45 (fun a6 => ?_)
  have hT := q_app (R := [(.inl (0, 6), a6)]) hT
  have hz := hz.app (R := [(.inl (0, 6), a6)])
  refine q_putR 50 rfl pX0_27 (fun _ => ⟨rfl, rfl⟩) rfl rfl rfl i hT dX0_init_47 ?_
  have hz := hz.putG (f := 10) (v := some a6) hT
  refine q_aload_n 51 rfl rfl dX0_init_50 ?_
  refine q_bipush 53 rfl 6 (by decide +kernel) dX0_init_51 ?_
  refine q_newi 55 rfl 7 49 rfl rfl hz (by decide) (Nat.le_of_ble_eq_true rfl) (Nat.le_of_ble_eq_true rfl) an_int dX0_init_53 (fun a7 => ?_)
  have hT := q_app (R := [(.inl (0, 6), a7)]) hT
  have hz := hz.app (R := [(.inl (0, 6), a7)])
  refine q_putR 58 rfl pX0_30 (fun _ => ⟨rfl, rfl⟩) rfl rfl rfl i hT dX0_init_55 ?_
  have hz := hz.putG (f := 11) (v := some a7) hT
  refine q_aload_n 59 rfl rfl dX0_init_58 ?_
  refine q_bipush 61 rfl 6 (by decide +kernel) dX0_init_59 ?_
  refine q_newi 63 rfl 8 55 rfl rfl hz (by decide) (Nat.le_of_ble_eq_true rfl) (Nat.le_of_ble_eq_true rfl) an_int dX0_init_61 (fun a8 => ?_)
  have hT := q_app (R := [(.inl (0, 6), a8)]) hT
  have hz := hz.app (R := [(.inl (0, 6), a8)])
  refine q_putR 66 rfl pX0_33 (fun _ => ⟨rfl, rfl⟩) rfl rfl rfl i hT dX0_init_63 ?_
  have hz := hz.putG (f := 12) (v := some a8) hT
  refine q_vret rfl dX0_init_66 ?_
  exact ⟨rfl, a1, a2, a3, a4, a5, a6, a7, a8, rfl⟩
theorem k_iX1 {i b : Nat} (hT : T[i]? = some (.inr 1, b)) (hz : Z0 T N L G) : q_Con Γ mX1_init 1 5 107 [.ref b] (T, N, L, G) (fun u h => u = none ∧ ∃ a1 a2 a3 a4 a5, h = ((((((T ++ [(.inl (0, 9), a1)]) ++ [(.inl (0, 72), a2)]) ++ [(.inl (0, 9), a3)]) ++ [(.inl (0, 9), a4)]) ++ [(.inl (0, 8), a5)]), N, L, (q_s (q_s (q_s (q_s (q_s G i 1 (some a1)) i 2 (some a2)) i 3 (some a3)) i 4 (some a4)) i 6 (some a5)))) := by
  refine q_con (by decide) rfl rfl (Nat.le_of_ble_eq_true rfl) ?_
  refine q_aload_n 1 rfl rfl dX1_init_0 ?_
  refine q_obj 4 rfl loX1_3 lo_ins lo_cod (Nat.le_of_ble_eq_true rfl) (Nat.le_of_ble_eq_true rfl) (Nat.le_of_ble_eq_true rfl) dX1_init_1 ?_
  refine q_aload_n 5 rfl rfl dX1_init_4 ?_
  refine q_bipush 7 rfl 9 (by decide +kernel) dX1_init_5 ?_
  refine q_newi 9 rfl 1 9 rfl rfl hz (by decide) (Nat.le_of_ble_eq_true rfl) (Nat.le_of_ble_eq_true rfl) an_int dX1_init_7 (fun a1 => ?_)
  have hT := q_app (R := [(.inl (0, 9), a1)]) hT
  have hz := hz.app (R := [(.inl (0, 9), a1)])
  refine q_putR 12 rfl pX1_9 (fun _ => ⟨rfl, rfl⟩) rfl rfl rfl i hT dX1_init_9 ?_
  have hz := hz.putG (f := 1) (v := some a1) hT
  refine q_aload_n 13 rfl rfl dX1_init_12 ?_
  refine q_bipush 15 rfl 72 (by decide +kernel) dX1_init_13 ?_
  refine q_newi 17 rfl 2 81 rfl rfl hz (by decide) (Nat.le_of_ble_eq_true rfl) (Nat.le_of_ble_eq_true rfl) an_int dX1_init_15 (fun a2 => ?_)
  have hT := q_app (R := [(.inl (0, 72), a2)]) hT
  have hz := hz.app (R := [(.inl (0, 72), a2)])
  refine q_putR 20 rfl pX1_15 (fun _ => ⟨rfl, rfl⟩) rfl rfl rfl i hT dX1_init_17 ?_
  have hz := hz.putG (f := 2) (v := some a2) hT
  refine q_aload_n 21 rfl rfl dX1_init_20 ?_
  refine q_bipush 23 rfl 9 (by decide +kernel) dX1_init_21 ?_
  refine q_newi 25 rfl 3 90 rfl rfl hz (by decide) (Nat.le_of_ble_eq_true rfl) (Nat.le_of_ble_eq_true rfl) an_int dX1_init_23 (fun a3 => ?_)
  have hT := q_app (R := [(.inl (0, 9), a3)]) hT
  have hz := hz.app (R := [(.inl (0, 9), a3)])
  refine q_putR 28 rfl pX1_18 (fun _ => ⟨rfl, rfl⟩) rfl rfl rfl i hT dX1_init_25 ?_
  have hz := hz.putG (f := 3) (v := some a3) hT
  refine q_aload_n 29 rfl rfl dX1_init_28 ?_
  refine q_bipush 31 rfl 9 (by decide +kernel) dX1_init_29 ?_
  refine q_newi 33 rfl 4 99 rfl rfl hz (by decide) (Nat.le_of_ble_eq_true rfl) (Nat.le_of_ble_eq_true rfl) an_int dX1_init_31 (fun a4 => ?_)
  have hT := q_app (R := [(.inl (0, 9), a4)]) hT
  have hz := hz.app (R := [(.inl (0, 9), a4)])
  refine q_putR 36 rfl pX1_21 (fun _ => ⟨rfl, rfl⟩) rfl rfl rfl i hT dX1_init_33 ?_
  have hz := hz.putG (f := 4) (v := some a4) hT
  refine q_aload_n 37 rfl rfl dX1_init_36 ?_
  refine q_bipush 39 rfl 8 (by decide +kernel) dX1_init_37 ?_
  refine q_newi 41 rfl 5 107 rfl rfl hz (by decide) (Nat.le_of_ble_eq_true rfl) (Nat.le_of_ble_eq_true rfl) an_int dX1_init_39 (fun a5 => ?_)
  have hT := q_app (R := [(.inl (0, 8), a5)]) hT
  have hz := hz.app (R := [(.inl (0, 8), a5)])
  refine q_putR 44 rfl pX1_24 (fun _ => ⟨rfl, rfl⟩) rfl rfl rfl i hT dX1_init_41 ?_
  have hz := hz.putG (f := 6) (v := some a5) hT
  refine q_vret rfl dX1_init_44 ?_
  exact ⟨rfl, a1, a2, a3, a4, a5, rfl⟩
theorem k_iX2 {i b : Nat} (hT : T[i]? = some (.inr 2, b)) (hz : Z0 T N L G) : q_Con Γ mX2_init 1 0 0 [.ref b] (T, N, L, G) (fun u h => u = none ∧ h = (T, N, L, G)) := by
  refine q_con (by decide) rfl rfl (Nat.le_of_ble_eq_true rfl) ?_
  refine q_aload_n 1 rfl rfl dX2_init_0 ?_
  refine q_obj 4 rfl loX2_3 lo_ins lo_cod (Nat.le_of_ble_eq_true rfl) (Nat.le_of_ble_eq_true rfl) (Nat.le_of_ble_eq_true rfl) dX2_init_1 ?_
  refine q_vret rfl dX2_init_4 ?_
  exact ⟨rfl, rfl⟩
theorem k_iX3 {i b : Nat} (hT : T[i]? = some (.inr 3, b)) (hz : Z0 T N L G) : q_Con Γ mX3_init 1 2 30 [.ref b] (T, N, L, G) (fun u h => u = none ∧ ∃ a1 a2, h = (((T ++ [(.inl (0, 3), a1)]) ++ [(.inl (0, 27), a2)]), N, L, (q_s (q_s G i 0 (some a1)) i 1 (some a2)))) := by
  refine q_con (by decide) rfl rfl (Nat.le_of_ble_eq_true rfl) ?_
  refine q_aload_n 1 rfl rfl dX3_init_0 ?_
  refine q_obj 4 rfl loX3_3 lo_ins lo_cod (Nat.le_of_ble_eq_true rfl) (Nat.le_of_ble_eq_true rfl) (Nat.le_of_ble_eq_true rfl) dX3_init_1 ?_
  refine q_aload_n 5 rfl rfl dX3_init_4 ?_
  refine q_iconst 6 rfl 3 (by decide +kernel) dX3_init_5 ?_
  refine q_newi 8 rfl 1 3 rfl rfl hz (by decide) (Nat.le_of_ble_eq_true rfl) (Nat.le_of_ble_eq_true rfl) an_int dX3_init_6 (fun a1 => ?_)
  have hT := q_app (R := [(.inl (0, 3), a1)]) hT
  have hz := hz.app (R := [(.inl (0, 3), a1)])
  refine q_putR 11 rfl pX3_9 (fun _ => ⟨rfl, rfl⟩) rfl rfl rfl i hT dX3_init_8 ?_
  have hz := hz.putG (f := 0) (v := some a1) hT
  refine q_aload_n 12 rfl rfl dX3_init_11 ?_
  refine q_bipush 14 rfl 27 (by decide +kernel) dX3_init_12 ?_
  refine q_newi 16 rfl 2 30 rfl rfl hz (by decide) (Nat.le_of_ble_eq_true rfl) (Nat.le_of_ble_eq_true rfl) an_int dX3_init_14 (fun a2 => ?_)
  have hT := q_app (R := [(.inl (0, 27), a2)]) hT
  have hz := hz.app (R := [(.inl (0, 27), a2)])
  refine q_putR 19 rfl pX3_15 (fun _ => ⟨rfl, rfl⟩) rfl rfl rfl i hT dX3_init_16 ?_
  have hz := hz.putG (f := 1) (v := some a2) hT
  refine q_vret rfl dX3_init_19 ?_
  exact ⟨rfl, a1, a2, rfl⟩
theorem k_iX4 {i b v : Nat} (hv : v < 2) (hT : T[i]? = some (.inr 4, b)) (hz : Z0 T N L G) : q_Con Γ mX4_init 1 3 530 [.ref b, .int (nI v)] (T, N, L, G) (fun u h => u = none ∧ ∃ a1 a2 a3, h = ((((T ++ [(.inl (0, 9), a1)]) ++ [(.inl (0, 9), a2)]) ++ [(.inl (0, 512), a3)]), (q_s N i 0 v), L, (q_s (q_s (q_s G i 1 (some a1)) i 2 (some a2)) i 3 (some a3)))) := by
  refine q_con (by decide) rfl rfl (Nat.le_of_ble_eq_true rfl) ?_
  refine q_aload_n 1 rfl rfl dX4_init_0 ?_
  refine q_obj 4 rfl loX4_3 lo_ins lo_cod (Nat.le_of_ble_eq_true rfl) (Nat.le_of_ble_eq_true rfl) (Nat.le_of_ble_eq_true rfl) dX4_init_1 ?_
  refine q_aload_n 5 rfl rfl dX4_init_4 ?_
  refine q_bipush 7 rfl 9 (by decide +kernel) dX4_init_5 ?_
  refine q_newi 9 rfl 1 9 rfl rfl hz (by decide) (Nat.le_of_ble_eq_true rfl) (Nat.le_of_ble_eq_true rfl) an_int dX4_init_7 (fun a1 => ?_)
  have hT := q_app (R := [(.inl (0, 9), a1)]) hT
  have hz := hz.app (R := [(.inl (0, 9), a1)])
  refine q_putR 12 rfl pX4_9 (fun _ => ⟨rfl, rfl⟩) rfl rfl rfl i hT dX4_init_9 ?_
  have hz := hz.putG (f := 1) (v := some a1) hT
  refine q_aload_n 13 rfl rfl dX4_init_12 ?_
  refine q_bipush 15 rfl 9 (by decide +kernel) dX4_init_13 ?_
  refine q_newi 17 rfl 2 18 rfl rfl hz (by decide) (Nat.le_of_ble_eq_true rfl) (Nat.le_of_ble_eq_true rfl) an_int dX4_init_15 (fun a2 => ?_)
  have hT := q_app (R := [(.inl (0, 9), a2)]) hT
  have hz := hz.app (R := [(.inl (0, 9), a2)])
  refine q_putR 20 rfl pX4_15 (fun _ => ⟨rfl, rfl⟩) rfl rfl rfl i hT dX4_init_17 ?_
  have hz := hz.putG (f := 2) (v := some a2) hT
  refine q_aload_n 21 rfl rfl dX4_init_20 ?_
  refine q_sipush 24 rfl 512 (by decide +kernel) dX4_init_21 ?_
  refine q_newi 26 rfl 3 530 rfl rfl hz (by decide) (Nat.le_of_ble_eq_true rfl) (Nat.le_of_ble_eq_true rfl) an_int dX4_init_24 (fun a3 => ?_)
  have hT := q_app (R := [(.inl (0, 512), a3)]) hT
  have hz := hz.app (R := [(.inl (0, 512), a3)])
  refine q_putR 29 rfl pX4_18 (fun _ => ⟨rfl, rfl⟩) rfl rfl rfl i hT dX4_init_26 ?_
  have hz := hz.putG (f := 3) (v := some a3) hT
  refine q_aload_n 30 rfl rfl dX4_init_29 ?_
  refine q_iload_n 31 rfl rfl dX4_init_30 ?_
  refine q_putZ 34 rfl pX4_21 (fun _ => ⟨rfl, rfl⟩) rfl hv i hT dX4_init_31 ?_
  have hz := hz.putN (f := 0) (v := v) hT
  refine q_vret rfl dX4_init_34 ?_
  exact ⟨rfl, a1, a2, a3, rfl⟩
theorem k_iX5 {i b : Nat} (hT : T[i]? = some (.inr 5, b)) (hz : Z0 T N L G) : q_Con Γ mX5_init 1 1 40 [.ref b] (T, N, L, G) (fun u h => u = none ∧ ∃ a1, h = ((T ++ [(.inl (0, 40), a1)]), (q_s N i 0 4294967295), L, (q_s G i 2 (some a1)))) := by
  refine q_con (by decide) rfl rfl (Nat.le_of_ble_eq_true rfl) ?_
  refine q_aload_n 1 rfl rfl dX5_init_0 ?_
  refine q_obj 4 rfl loX5_3 lo_ins lo_cod (Nat.le_of_ble_eq_true rfl) (Nat.le_of_ble_eq_true rfl) (Nat.le_of_ble_eq_true rfl) dX5_init_1 ?_
  refine q_aload_n 5 rfl rfl dX5_init_4 ?_
  refine q_iconst 6 rfl 4294967295 (by decide +kernel) dX5_init_5 ?_
  refine q_putI 9 rfl pX5_11 (fun _ => ⟨rfl, rfl⟩) rfl i hT dX5_init_6 ?_
  have hz := hz.putN (f := 0) (v := 4294967295) hT
  refine q_aload_n 10 rfl rfl dX5_init_9 ?_
  refine q_bipush 12 rfl 40 (by decide +kernel) dX5_init_10 ?_
  refine q_newi 14 rfl 1 40 rfl rfl hz (by decide) (Nat.le_of_ble_eq_true rfl) (Nat.le_of_ble_eq_true rfl) an_int dX5_init_12 (fun a1 => ?_)
  have hT := q_app (R := [(.inl (0, 40), a1)]) hT
  have hz := hz.app (R := [(.inl (0, 40), a1)])
  refine q_putR 17 rfl pX5_15 (fun _ => ⟨rfl, rfl⟩) rfl rfl rfl i hT dX5_init_14 ?_
  have hz := hz.putG (f := 2) (v := some a1) hT
  refine q_vret rfl dX5_init_17 ?_
  exact ⟨rfl, a1, rfl⟩
end
