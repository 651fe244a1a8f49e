section
variable {Γ : q_G} {T : List (q_K × Nat)} {N : Nat → Nat → Nat} {L : Nat → Nat → Int} {G : Nat → Nat → Option Nat}
theorem k_iX6 {b : Nat} (hl1 : T.length = 1) (hT : T[0]? = some (.inr 6, b)) (hz : Z0 T N L G) : q_Con Γ mX6_init 2 76 2030 [.ref b] (T, N, L, G) (fun u h => u = none ∧ ∃ f : Nat → Nat, h = ((T ++ [(.inl (1, 160), (f 1)), (.inr 2, (f 2)), (.inr 1, (f 3)), (.inl (0, 9), (f 4)), (.inl (0, 72), (f 5)), (.inl (0, 9), (f 6)), (.inl (0, 9), (f 7)), (.inl (0, 8), (f 8)), (.inr 0, (f 9)), (.inl (0, 9), (f 10)), (.inl (0, 5), (f 11)), (.inl (0, 5), (f 12)), (.inl (0, 9), (f 13)), (.inl (0, 9), (f 14)), (.inl (0, 6), (f 15)), (.inl (0, 6), (f 16)), (.inl (0, 6), (f 17)), (.inr 1, (f 18)), (.inl (0, 9), (f 19)), (.inl (0, 72), (f 20)), (.inl (0, 9), (f 21)), (.inl (0, 9), (f 22)), (.inl (0, 8), (f 23)), (.inr 0, (f 24)), (.inl (0, 9), (f 25)), (.inl (0, 5), (f 26)), (.inl (0, 5), (f 27)), (.inl (0, 9), (f 28)), (.inl (0, 9), (f 29)), (.inl (0, 6), (f 30)), (.inl (0, 6), (f 31)), (.inl (0, 6), (f 32)), (.inl (4, 2), (f 33)), (.inl (2, 2), (f 34)), (.inl (5, 4), (f 35)), (.inl (0, 9), (f 36)), (.inr 4, (f 37)), (.inl (0, 9), (f 38)), (.inl (0, 9), (f 39)), (.inl (0, 512), (f 40)), (.inr 4, (f 41)), (.inl (0, 9), (f 42)), (.inl (0, 9), (f 43)), (.inl (0, 512), (f 44)), (.inr 3, (f 45)), (.inl (0, 3), (f 46)), (.inl (0, 27), (f 47)), (.inl (0, 45), (f 48)), (.inl (0, 9), (f 49)), (.inl (0, 9), (f 50)), (.inr 0, (f 51)), (.inl (0, 9), (f 52)), (.inl (0, 5), (f 53)), (.inl (0, 5), (f 54)), (.inl (0, 9), (f 55)), (.inl (0, 9), (f 56)), (.inl (0, 6), (f 57)), (.inl (0, 6), (f 58)), (.inl (0, 6), (f 59)), (.inr 0, (f 60)), (.inl (0, 9), (f 61)), (.inl (0, 5), (f 62)), (.inl (0, 5), (f 63)), (.inl (0, 9), (f 64)), (.inl (0, 9), (f 65)), (.inl (0, 6), (f 66)), (.inl (0, 6), (f 67)), (.inl (0, 6), (f 68)), (.inr 5, (f 69)), (.inl (0, 40), (f 70)), (.inr 5, (f 71)), (.inl (0, 40), (f 72)), (.inr 5, (f 73)), (.inl (0, 40), (f 74)), (.inr 5, (f 75)), (.inl (0, 40), (f 76))]), (q_s (q_s (q_s (q_s (q_s (q_s N 37 0 0) 41 0 1) 69 0 4294967295) 71 0 4294967295) 73 0 4294967295) 75 0 4294967295), L, (q_s (q_s (q_s (q_s (q_s (q_s (q_s (q_s (q_s (q_s (q_s (q_s (q_s (q_s (q_s (q_s (q_s (q_s (q_s (q_s (q_s (q_s (q_s (q_s (q_s (q_s (q_s (q_s (q_s (q_s (q_s (q_s (q_s (q_s (q_s (q_s (q_s (q_s (q_s (q_s (q_s (q_s (q_s (q_s (q_s (q_s (q_s (q_s (q_s (q_s (q_s (q_s (q_s (q_s (q_s (q_s (q_s (q_s (q_s (q_s (q_s (q_s (q_s (q_s (q_s (q_s (q_s (q_s (q_s (q_s (q_s (q_s (q_s (q_s (q_s (q_s G 0 0 (some (f 1))) 0 4 (some (f 2))) 3 1 (some (f 4))) 3 2 (some (f 5))) 3 3 (some (f 6))) 3 4 (some (f 7))) 3 6 (some (f 8))) 0 5 (some (f 3))) 9 0 (some (f 10))) 9 4 (some (f 11))) 9 5 (some (f 12))) 9 7 (some (f 13))) 9 8 (some (f 14))) 9 10 (some (f 15))) 9 11 (some (f 16))) 9 12 (some (f 17))) 0 6 (some (f 9))) 18 1 (some (f 19))) 18 2 (some (f 20))) 18 3 (some (f 21))) 18 4 (some (f 22))) 18 6 (some (f 23))) 0 7 (some (f 18))) 24 0 (some (f 25))) 24 4 (some (f 26))) 24 5 (some (f 27))) 24 7 (some (f 28))) 24 8 (some (f 29))) 24 10 (some (f 30))) 24 11 (some (f 31))) 24 12 (some (f 32))) 0 8 (some (f 24))) 0 9 (some (f 33))) 0 10 (some (f 34))) 0 11 (some (f 35))) 0 12 (some (f 36))) 37 1 (some (f 38))) 37 2 (some (f 39))) 37 3 (some (f 40))) 0 13 (some (f 37))) 41 1 (some (f 42))) 41 2 (some (f 43))) 41 3 (some (f 44))) 0 14 (some (f 41))) 45 0 (some (f 46))) 45 1 (some (f 47))) 0 15 (some (f 45))) 0 16 (some (f 48))) 0 17 (some (f 49))) 0 19 (some (f 50))) 51 0 (some (f 52))) 51 4 (some (f 53))) 51 5 (some (f 54))) 51 7 (some (f 55))) 51 8 (some (f 56))) 51 10 (some (f 57))) 51 11 (some (f 58))) 51 12 (some (f 59))) 33 0 (some (f 51))) 60 0 (some (f 61))) 60 4 (some (f 62))) 60 5 (some (f 63))) 60 7 (some (f 64))) 60 8 (some (f 65))) 60 10 (some (f 66))) 60 11 (some (f 67))) 60 12 (some (f 68))) 33 1 (some (f 60))) 69 2 (some (f 70))) 35 0 (some (f 69))) 71 2 (some (f 72))) 35 1 (some (f 71))) 73 2 (some (f 74))) 35 2 (some (f 73))) 75 2 (some (f 76))) 35 3 (some (f 75))))) := by
  refine q_con (by decide) rfl rfl (Nat.le_of_ble_eq_true rfl) ?_
  refine q_aload_n 1 rfl rfl dX6_init_0 ?_
  refine q_obj 4 rfl loX6_1 lo_ins lo_cod (Nat.le_of_ble_eq_true rfl) (Nat.le_of_ble_eq_true rfl) (Nat.le_of_ble_eq_true rfl) dX6_init_1 ?_
  refine q_aload_n 5 rfl rfl dX6_init_4 ?_
  refine q_sipush 8 rfl 160 (by decide +kernel) dX6_init_5 ?_
  refine q_newb 10 rfl 1 160 rfl rfl hz (by decide) (Nat.le_of_ble_eq_true rfl) (Nat.le_of_ble_eq_true rfl) an_byte dX6_init_8 (fun a1 => ?_)
  have hT := q_app (R := [(.inl (1, 160), a1)]) hT
  have hz := hz.app (R := [(.inl (1, 160), a1)])
  have hl2 := q_len (x := (.inl (1, 160), a1)) hl1
  refine q_putR 13 rfl pX6_9 (fun _ => ⟨rfl, rfl⟩) rfl rfl rfl 0 hT dX6_init_10 ?_
  have hz := hz.putG (f := 0) (v := some a1) hT
  refine q_aload_n 14 rfl rfl dX6_init_13 ?_
  refine q_newo 17 rfl 2 171 rfl rfl hz (ci := 2) rfl ing2 tyX2_ok cl_X6_13 io_X2 iz_X2 fv_X2 (Nat.le_of_ble_eq_true rfl) (Nat.le_of_ble_eq_true rfl) dX6_init_14 (fun a2 => ?_)
  have hT := q_app (R := [(.inr 2, a2)]) hT
  have hz := hz.app (R := [(.inr 2, a2)])
  have hl3 := q_len (x := (.inr 2, a2)) hl2
  have hT2 := q_lastN (x := (.inr 2, a2)) hl2
  refine q_dup 18 rfl rfl dX6_init_17 ?_
  refine q_callI (As := []) (rest := [.ref a2, .ref b]) lX6_15 (k_iX2 (i := 2) hT2 hz) rfl rfl rfl (Nat.le_of_ble_eq_true rfl) dX6_init_18 ?_
  rintro v h' ⟨rfl, rfl⟩
  refine q_kn (k' := 2) (n' := 171) rfl rfl ?_
  refine q_putR 24 rfl pX6_16 (fun _ => ⟨rfl, rfl⟩) rfl rfl rfl 0 hT dX6_init_21 ?_
  have hz := hz.putG (f := 4) (v := some a2) hT
  refine q_aload_n 25 rfl rfl dX6_init_24 ?_
  refine q_newo 28 rfl 3 178 rfl rfl hz (ci := 1) rfl ing1 tyX1_ok cl_X6_20 io_X1 iz_X1 fv_X1 (Nat.le_of_ble_eq_true rfl) (Nat.le_of_ble_eq_true rfl) dX6_init_25 (fun a3 => ?_)
  have hT := q_app (R := [(.inr 1, a3)]) hT
  have hT2 := q_app (R := [(.inr 1, a3)]) hT2
  have hz := hz.app (R := [(.inr 1, a3)])
  have hl4 := q_len (x := (.inr 1, a3)) hl3
  have hT3 := q_lastN (x := (.inr 1, a3)) hl3
  refine q_dup 29 rfl rfl dX6_init_28 ?_
  refine q_callI (As := []) (rest := [.ref a3, .ref b]) lX6_22 (k_iX1 (i := 3) hT3 hz) rfl rfl rfl (Nat.le_of_ble_eq_true rfl) dX6_init_29 ?_
  rintro v h' ⟨rfl, a4, a5, a6, a7, a8, rfl⟩
  refine q_kn (k' := 8) (n' := 285) rfl rfl ?_
  have hT := q_app (R := [(.inl (0, 9), a4)]) hT
  have hT3 := q_app (R := [(.inl (0, 9), a4)]) hT3
  have hT2 := q_app (R := [(.inl (0, 9), a4)]) hT2
  have hz := hz.app (R := [(.inl (0, 9), a4)])
  have hl5 := q_len (x := (.inl (0, 9), a4)) hl4
  have hT := q_app (R := [(.inl (0, 72), a5)]) hT
  have hT3 := q_app (R := [(.inl (0, 72), a5)]) hT3
  have hT2 := q_app (R := [(.inl (0, 72), a5)]) hT2
  have hz := hz.app (R := [(.inl (0, 72), a5)])
  have hl6 := q_len (x := (.inl (0, 72), a5)) hl5
  have hT := q_app (R := [(.inl (0, 9), a6)]) hT
  have hT3 := q_app (R := [(.inl (0, 9), a6)]) hT3
  have hT2 := q_app (R := [(.inl (0, 9), a6)]) hT2
  have hz := hz.app (R := [(.inl (0, 9), a6)])
  have hl7 := q_len (x := (.inl (0, 9), a6)) hl6
  have hT := q_app (R := [(.inl (0, 9), a7)]) hT
  have hT3 := q_app (R := [(.inl (0, 9), a7)]) hT3
  have hT2 := q_app (R := [(.inl (0, 9), a7)]) hT2
  have hz := hz.app (R := [(.inl (0, 9), a7)])
  have hl8 := q_len (x := (.inl (0, 9), a7)) hl7
  have hT := q_app (R := [(.inl (0, 8), a8)]) hT
  have hT3 := q_app (R := [(.inl (0, 8), a8)]) hT3
  have hT2 := q_app (R := [(.inl (0, 8), a8)]) hT2
  have hz := hz.app (R := [(.inl (0, 8), a8)])
  have hl9 := q_len (x := (.inl (0, 8), a8)) hl8
  have hz := hz.putG (f := 1) (v := some a4) hT3
  have hz := hz.putG (f := 2) (v := some a5) hT3
  have hz := hz.putG (f := 3) (v := some a6) hT3
  have hz := hz.putG (f := 4) (v := some a7) hT3
  have hz := hz.putG (f := 6) (v := some a8) hT3
  refine q_putR 35 rfl pX6_23 (fun _ => ⟨rfl, rfl⟩) rfl rfl rfl 0 hT dX6_init_32 ?_
  have hz := hz.putG (f := 5) (v := some a3) hT
  refine q_aload_n 36 rfl rfl dX6_init_35 ?_
  refine q_newo 39 rfl 9 298 rfl rfl hz (ci := 0) rfl ing0 tyX0_ok cl_X6_27 io_X0 iz_X0 fv_X0 (Nat.le_of_ble_eq_true rfl) (Nat.le_of_ble_eq_true rfl) dX6_init_36 (fun a9 => ?_)
  have hT := q_app (R := [(.inr 0, a9)]) hT
  have hT3 := q_app (R := [(.inr 0, a9)]) hT3
  have hT2 := q_app (R := [(.inr 0, a9)]) hT2
  have hz := hz.app (R := [(.inr 0, a9)])
  have hl10 := q_len (x := (.inr 0, a9)) hl9
  have hT9 := q_lastN (x := (.inr 0, a9)) hl9
  refine q_dup 40 rfl rfl dX6_init_39 ?_
  refine q_callI (As := []) (rest := [.ref a9, .ref b]) lX6_29 (k_iX0 (i := 9) hT9 hz) rfl rfl rfl (Nat.le_of_ble_eq_true rfl) dX6_init_40 ?_
  rintro v h' ⟨rfl, a10, a11, a12, a13, a14, a15, a16, a17, rfl⟩
  refine q_kn (k' := 17) (n' := 353) rfl rfl ?_
  have hT := q_app (R := [(.inl (0, 9), a10)]) hT
  have hT3 := q_app (R := [(.inl (0, 9), a10)]) hT3
  have hT9 := q_app (R := [(.inl (0, 9), a10)]) hT9
  have hT2 := q_app (R := [(.inl (0, 9), a10)]) hT2
  have hz := hz.app (R := [(.inl (0, 9), a10)])
  have hl11 := q_len (x := (.inl (0, 9), a10)) hl10
  have hT := q_app (R := [(.inl (0, 5), a11)]) hT
  have hT3 := q_app (R := [(.inl (0, 5), a11)]) hT3
  have hT9 := q_app (R := [(.inl (0, 5), a11)]) hT9
  have hT2 := q_app (R := [(.inl (0, 5), a11)]) hT2
  have hz := hz.app (R := [(.inl (0, 5), a11)])
  have hl12 := q_len (x := (.inl (0, 5), a11)) hl11
  have hT := q_app (R := [(.inl (0, 5), a12)]) hT
  have hT3 := q_app (R := [(.inl (0, 5), a12)]) hT3
  have hT9 := q_app (R := [(.inl (0, 5), a12)]) hT9
  have hT2 := q_app (R := [(.inl (0, 5), a12)]) hT2
  have hz := hz.app (R := [(.inl (0, 5), a12)])
  have hl13 := q_len (x := (.inl (0, 5), a12)) hl12
  have hT := q_app (R := [(.inl (0, 9), a13)]) hT
  have hT3 := q_app (R := [(.inl (0, 9), a13)]) hT3
  have hT9 := q_app (R := [(.inl (0, 9), a13)]) hT9
  have hT2 := q_app (R := [(.inl (0, 9), a13)]) hT2
  have hz := hz.app (R := [(.inl (0, 9), a13)])
  have hl14 := q_len (x := (.inl (0, 9), a13)) hl13
  have hT := q_app (R := [(.inl (0, 9), a14)]) hT
  have hT3 := q_app (R := [(.inl (0, 9), a14)]) hT3
  have hT9 := q_app (R := [(.inl (0, 9), a14)]) hT9
  have hT2 := q_app (R := [(.inl (0, 9), a14)]) hT2
  have hz := hz.app (R := [(.inl (0, 9), a14)])
  have hl15 := q_len (x := (.inl (0, 9), a14)) hl14
  have hT := q_app (R := [(.inl (0, 6), a15)]) hT
  have hT3 := q_app (R := [(.inl (0, 6), a15)]) hT3
  have hT9 := q_app (R := [(.inl (0, 6), a15)]) hT9
  have hT2 := q_app (R := [(.inl (0, 6), a15)]) hT2
  have hz := hz.app (R := [(.inl (0, 6), a15)])
  have hl16 := q_len (x := (.inl (0, 6), a15)) hl15
  have hT := q_app (R := [(.inl (0, 6), a16)]) hT
  have hT3 := q_app (R := [(.inl (0, 6), a16)]) hT3
  have hT9 := q_app (R := [(.inl (0, 6), a16)]) hT9
  have hT2 := q_app (R := [(.inl (0, 6), a16)]) hT2
  have hz := hz.app (R := [(.inl (0, 6), a16)])
  have hl17 := q_len (x := (.inl (0, 6), a16)) hl16
  have hT := q_app (R := [(.inl (0, 6), a17)]) hT
  have hT3 := q_app (R := [(.inl (0, 6), a17)]) hT3
  have hT9 := q_app (R := [(.inl (0, 6), a17)]) hT9
  have hT2 := q_app (R := [(.inl (0, 6), a17)]) hT2
  have hz := hz.app (R := [(.inl (0, 6), a17)])
  have hl18 := q_len (x := (.inl (0, 6), a17)) hl17
  have hz := hz.putG (f := 0) (v := some a10) hT9
  have hz := hz.putG (f := 4) (v := some a11) hT9
  have hz := hz.putG (f := 5) (v := some a12) hT9
  have hz := hz.putG (f := 7) (v := some a13) hT9
  have hz := hz.putG (f := 8) (v := some a14) hT9
  have hz := hz.putG (f := 10) (v := some a15) hT9
  have hz := hz.putG (f := 11) (v := some a16) hT9
  have hz := hz.putG (f := 12) (v := some a17) hT9
  refine q_putR 46 rfl pX6_30 (fun _ => ⟨rfl, rfl⟩) rfl rfl rfl 0 hT dX6_init_43 ?_
  have hz := hz.putG (f := 6) (v := some a9) hT
  refine q_aload_n 47 rfl rfl dX6_init_46 ?_
  refine q_newo 50 rfl 18 360 rfl rfl hz (ci := 1) rfl ing1 tyX1_ok cl_X6_20 io_X1 iz_X1 fv_X1 (Nat.le_of_ble_eq_true rfl) (Nat.le_of_ble_eq_true rfl) dX6_init_47 (fun a18 => ?_)
  have hT := q_app (R := [(.inr 1, a18)]) hT
  have hT3 := q_app (R := [(.inr 1, a18)]) hT3
  have hT9 := q_app (R := [(.inr 1, a18)]) hT9
  have hT2 := q_app (R := [(.inr 1, a18)]) hT2
  have hz := hz.app (R := [(.inr 1, a18)])
  have hl19 := q_len (x := (.inr 1, a18)) hl18
  have hT18 := q_lastN (x := (.inr 1, a18)) hl18
  refine q_dup 51 rfl rfl dX6_init_50 ?_
  refine q_callI (As := []) (rest := [.ref a18, .ref b]) lX6_22 (k_iX1 (i := 18) hT18 hz) rfl rfl rfl (Nat.le_of_ble_eq_true rfl) dX6_init_51 ?_
  rintro v h' ⟨rfl, a19, a20, a21, a22, a23, rfl⟩
  refine q_kn (k' := 23) (n' := 467) rfl rfl ?_
  have hT3 := q_app (R := [(.inl (0, 9), a19)]) hT3
  have hT9 := q_app (R := [(.inl (0, 9), a19)]) hT9
  have hT18 := q_app (R := [(.inl (0, 9), a19)]) hT18
  have hT2 := q_app (R := [(.inl (0, 9), a19)]) hT2
  have hT := q_app (R := [(.inl (0, 9), a19)]) hT
  have hz := hz.app (R := [(.inl (0, 9), a19)])
  have hl20 := q_len (x := (.inl (0, 9), a19)) hl19
  have hT3 := q_app (R := [(.inl (0, 72), a20)]) hT3
  have hT9 := q_app (R := [(.inl (0, 72), a20)]) hT9
  have hT18 := q_app (R := [(.inl (0, 72), a20)]) hT18
  have hT2 := q_app (R := [(.inl (0, 72), a20)]) hT2
  have hT := q_app (R := [(.inl (0, 72), a20)]) hT
  have hz := hz.app (R := [(.inl (0, 72), a20)])
  have hl21 := q_len (x := (.inl (0, 72), a20)) hl20
  have hT3 := q_app (R := [(.inl (0, 9), a21)]) hT3
  have hT9 := q_app (R := [(.inl (0, 9), a21)]) hT9
  have hT18 := q_app (R := [(.inl (0, 9), a21)]) hT18
  have hT2 := q_app (R := [(.inl (0, 9), a21)]) hT2
  have hT := q_app (R := [(.inl (0, 9), a21)]) hT
  have hz := hz.app (R := [(.inl (0, 9), a21)])
  have hl22 := q_len (x := (.inl (0, 9), a21)) hl21
  have hT3 := q_app (R := [(.inl (0, 9), a22)]) hT3
  have hT9 := q_app (R := [(.inl (0, 9), a22)]) hT9
  have hT18 := q_app (R := [(.inl (0, 9), a22)]) hT18
  have hT2 := q_app (R := [(.inl (0, 9), a22)]) hT2
  have hT := q_app (R := [(.inl (0, 9), a22)]) hT
  have hz := hz.app (R := [(.inl (0, 9), a22)])
  have hl23 := q_len (x := (.inl (0, 9), a22)) hl22
  have hT3 := q_app (R := [(.inl (0, 8), a23)]) hT3
  have hT9 := q_app (R := [(.inl (0, 8), a23)]) hT9
  have hT18 := q_app (R := [(.inl (0, 8), a23)]) hT18
  have hT2 := q_app (R := [(.inl (0, 8), a23)]) hT2
  have hT := q_app (R := [(.inl (0, 8), a23)]) hT
  have hz := hz.app (R := [(.inl (0, 8), a23)])
  have hl24 := q_len (x := (.inl (0, 8), a23)) hl23
  have hz := hz.putG (f := 1) (v := some a19) hT18
  have hz := hz.putG (f := 2) (v := some a20) hT18
  have hz := hz.putG (f := 3) (v := some a21) hT18
  have hz := hz.putG (f := 4) (v := some a22) hT18
  have hz := hz.putG (f := 6) (v := some a23) hT18
  refine q_putR 57 rfl pX6_34 (fun _ => ⟨rfl, rfl⟩) rfl rfl rfl 0 hT dX6_init_54 ?_
  have hz := hz.putG (f := 7) (v := some a18) hT
  refine q_aload_n 58 rfl rfl dX6_init_57 ?_
  refine q_newo 61 rfl 24 480 rfl rfl hz (ci := 0) rfl ing0 tyX0_ok cl_X6_27 io_X0 iz_X0 fv_X0 (Nat.le_of_ble_eq_true rfl) (Nat.le_of_ble_eq_true rfl) dX6_init_58 (fun a24 => ?_)
  have hT3 := q_app (R := [(.inr 0, a24)]) hT3
  have hT9 := q_app (R := [(.inr 0, a24)]) hT9
  have hT18 := q_app (R := [(.inr 0, a24)]) hT18
  have hT2 := q_app (R := [(.inr 0, a24)]) hT2
  have hT := q_app (R := [(.inr 0, a24)]) hT
  have hz := hz.app (R := [(.inr 0, a24)])
  have hl25 := q_len (x := (.inr 0, a24)) hl24
  have hT24 := q_lastN (x := (.inr 0, a24)) hl24
  refine q_dup 62 rfl rfl dX6_init_61 ?_
  refine q_callI (As := []) (rest := [.ref a24, .ref b]) lX6_29 (k_iX0 (i := 24) hT24 hz) rfl rfl rfl (Nat.le_of_ble_eq_true rfl) dX6_init_62 ?_
  rintro v h' ⟨rfl, a25, a26, a27, a28, a29, a30, a31, a32, rfl⟩
  refine q_kn (k' := 32) (n' := 535) rfl rfl ?_
  have hT3 := q_app (R := [(.inl (0, 9), a25)]) hT3
  have hT9 := q_app (R := [(.inl (0, 9), a25)]) hT9
  have hT18 := q_app (R := [(.inl (0, 9), a25)]) hT18
  have hT2 := q_app (R := [(.inl (0, 9), a25)]) hT2
  have hT := q_app (R := [(.inl (0, 9), a25)]) hT
  have hT24 := q_app (R := [(.inl (0, 9), a25)]) hT24
  have hz := hz.app (R := [(.inl (0, 9), a25)])
  have hl26 := q_len (x := (.inl (0, 9), a25)) hl25
  have hT3 := q_app (R := [(.inl (0, 5), a26)]) hT3
  have hT9 := q_app (R := [(.inl (0, 5), a26)]) hT9
  have hT18 := q_app (R := [(.inl (0, 5), a26)]) hT18
  have hT2 := q_app (R := [(.inl (0, 5), a26)]) hT2
  have hT := q_app (R := [(.inl (0, 5), a26)]) hT
  have hT24 := q_app (R := [(.inl (0, 5), a26)]) hT24
  have hz := hz.app (R := [(.inl (0, 5), a26)])
  have hl27 := q_len (x := (.inl (0, 5), a26)) hl26
  have hT3 := q_app (R := [(.inl (0, 5), a27)]) hT3
  have hT9 := q_app (R := [(.inl (0, 5), a27)]) hT9
  have hT18 := q_app (R := [(.inl (0, 5), a27)]) hT18
  have hT2 := q_app (R := [(.inl (0, 5), a27)]) hT2
  have hT := q_app (R := [(.inl (0, 5), a27)]) hT
  have hT24 := q_app (R := [(.inl (0, 5), a27)]) hT24
  have hz := hz.app (R := [(.inl (0, 5), a27)])
  have hl28 := q_len (x := (.inl (0, 5), a27)) hl27
  have hT3 := q_app (R := [(.inl (0, 9), a28)]) hT3
  have hT9 := q_app (R := [(.inl (0, 9), a28)]) hT9
  have hT18 := q_app (R := [(.inl (0, 9), a28)]) hT18
  have hT2 := q_app (R := [(.inl (0, 9), a28)]) hT2
  have hT := q_app (R := [(.inl (0, 9), a28)]) hT
  have hT24 := q_app (R := [(.inl (0, 9), a28)]) hT24
  have hz := hz.app (R := [(.inl (0, 9), a28)])
  have hl29 := q_len (x := (.inl (0, 9), a28)) hl28
  have hT3 := q_app (R := [(.inl (0, 9), a29)]) hT3
  have hT9 := q_app (R := [(.inl (0, 9), a29)]) hT9
  have hT18 := q_app (R := [(.inl (0, 9), a29)]) hT18
  have hT2 := q_app (R := [(.inl (0, 9), a29)]) hT2
  have hT := q_app (R := [(.inl (0, 9), a29)]) hT
  have hT24 := q_app (R := [(.inl (0, 9), a29)]) hT24
  have hz := hz.app (R := [(.inl (0, 9), a29)])
  have hl30 := q_len (x := (.inl (0, 9), a29)) hl29
  have hT3 := q_app (R := [(.inl (0, 6), a30)]) hT3
  have hT9 := q_app (R := [(.inl (0, 6), a30)]) hT9
  have hT18 := q_app (R := [(.inl (0, 6), a30)]) hT18
  have hT2 := q_app (R := [(.inl (0, 6), a30)]) hT2
  have hT := q_app (R := [(.inl (0, 6), a30)]) hT
  have hT24 := q_app (R := [(.inl (0, 6), a30)]) hT24
  have hz := hz.app (R := [(.inl (0, 6), a30)])
  have hl31 := q_len (x := (.inl (0, 6), a30)) hl30
  have hT3 := q_app (R := [(.inl (0, 6), a31)]) hT3
  have hT9 := q_app (R := [(.inl (0, 6), a31)]) hT9
  have hT18 := q_app (R := [(.inl (0, 6), a31)]) hT18
  have hT2 := q_app (R := [(.inl (0, 6), a31)]) hT2
  have hT := q_app (R := [(.inl (0, 6), a31)]) hT
  have hT24 := q_app (R := [(.inl (0, 6), a31)]) hT24
  have hz := hz.app (R := [(.inl (0, 6), a31)])
  have hl32 := q_len (x := (.inl (0, 6), a31)) hl31
  have hT3 := q_app (R := [(.inl (0, 6), a32)]) hT3
  have hT9 := q_app (R := [(.inl (0, 6), a32)]) hT9
  have hT18 := q_app (R := [(.inl (0, 6), a32)]) hT18
  have hT2 := q_app (R := [(.inl (0, 6), a32)]) hT2
  have hT := q_app (R := [(.inl (0, 6), a32)]) hT
  have hT24 := q_app (R := [(.inl (0, 6), a32)]) hT24
  have hz := hz.app (R := [(.inl (0, 6), a32)])
  have hl33 := q_len (x := (.inl (0, 6), a32)) hl32
  have hz := hz.putG (f := 0) (v := some a25) hT24
  have hz := hz.putG (f := 4) (v := some a26) hT24
  have hz := hz.putG (f := 5) (v := some a27) hT24
  have hz := hz.putG (f := 7) (v := some a28) hT24
  have hz := hz.putG (f := 8) (v := some a29) hT24
  have hz := hz.putG (f := 10) (v := some a30) hT24
  have hz := hz.putG (f := 11) (v := some a31) hT24
  have hz := hz.putG (f := 12) (v := some a32) hT24
  refine q_putR 68 rfl pX6_37 (fun _ => ⟨rfl, rfl⟩) rfl rfl rfl 0 hT dX6_init_65 ?_
  have hz := hz.putG (f := 8) (v := some a24) hT
  refine q_aload_n 69 rfl rfl dX6_init_68 ?_
  refine q_iconst 70 rfl 2 (by decide +kernel) dX6_init_69 ?_
  refine q_newq4 73 rfl 33 537 rfl rfl hz (by decide) (Nat.le_of_ble_eq_true rfl) (Nat.le_of_ble_eq_true rfl) cl_X6_27 dX6_init_70 (fun a33 => ?_)
  have hT3 := q_app (R := [(.inl (4, 2), a33)]) hT3
  have hT9 := q_app (R := [(.inl (4, 2), a33)]) hT9
  have hT18 := q_app (R := [(.inl (4, 2), a33)]) hT18
  have hT2 := q_app (R := [(.inl (4, 2), a33)]) hT2
  have hT := q_app (R := [(.inl (4, 2), a33)]) hT
  have hT24 := q_app (R := [(.inl (4, 2), a33)]) hT24
  have hz := hz.app (R := [(.inl (4, 2), a33)])
  have hl34 := q_len (x := (.inl (4, 2), a33)) hl33
  have hT33 := q_lastN (x := (.inl (4, 2), a33)) hl33
  refine q_putR 76 rfl pX6_40 (fun _ => ⟨rfl, rfl⟩) rfl rfl rfl 0 hT dX6_init_73 ?_
  have hz := hz.putG (f := 9) (v := some a33) hT
  refine q_aload_n 77 rfl rfl dX6_init_76 ?_
  refine q_iconst 78 rfl 2 (by decide +kernel) dX6_init_77 ?_
  refine q_newz 80 rfl 34 539 rfl rfl hz (by decide) (Nat.le_of_ble_eq_true rfl) (Nat.le_of_ble_eq_true rfl) an_boolean dX6_init_78 (fun a34 => ?_)
  have hT33 := q_app (R := [(.inl (2, 2), a34)]) hT33
  have hT3 := q_app (R := [(.inl (2, 2), a34)]) hT3
  have hT9 := q_app (R := [(.inl (2, 2), a34)]) hT9
  have hT18 := q_app (R := [(.inl (2, 2), a34)]) hT18
  have hT2 := q_app (R := [(.inl (2, 2), a34)]) hT2
  have hT := q_app (R := [(.inl (2, 2), a34)]) hT
  have hT24 := q_app (R := [(.inl (2, 2), a34)]) hT24
  have hz := hz.app (R := [(.inl (2, 2), a34)])
  have hl35 := q_len (x := (.inl (2, 2), a34)) hl34
  refine q_putR 83 rfl pX6_44 (fun _ => ⟨rfl, rfl⟩) rfl rfl rfl 0 hT dX6_init_80 ?_
  have hz := hz.putG (f := 10) (v := some a34) hT
  refine q_aload_n 84 rfl rfl dX6_init_83 ?_
  refine q_iconst 85 rfl 4 (by decide +kernel) dX6_init_84 ?_
  refine q_newq5 88 rfl 35 543 rfl rfl hz (by decide) (Nat.le_of_ble_eq_true rfl) (Nat.le_of_ble_eq_true rfl) cl_X6_48 dX6_init_85 (fun a35 => ?_)
  have hT33 := q_app (R := [(.inl (5, 4), a35)]) hT33
  have hT3 := q_app (R := [(.inl (5, 4), a35)]) hT3
  have hT9 := q_app (R := [(.inl (5, 4), a35)]) hT9
  have hT18 := q_app (R := [(.inl (5, 4), a35)]) hT18
  have hT2 := q_app (R := [(.inl (5, 4), a35)]) hT2
  have hT := q_app (R := [(.inl (5, 4), a35)]) hT
  have hT24 := q_app (R := [(.inl (5, 4), a35)]) hT24
  have hz := hz.app (R := [(.inl (5, 4), a35)])
  have hl36 := q_len (x := (.inl (5, 4), a35)) hl35
  have hT35 := q_lastN (x := (.inl (5, 4), a35)) hl35
  refine q_putR 91 rfl pX6_50 (fun _ => ⟨rfl, rfl⟩) rfl rfl rfl 0 hT dX6_init_88 ?_
  have hz := hz.putG (f := 11) (v := some a35) hT
  refine q_aload_n 92 rfl rfl dX6_init_91 ?_
  refine q_bipush 94 rfl 9 (by decide +kernel) dX6_init_92 ?_
  refine q_newi 96 rfl 36 552 rfl rfl hz (by decide) (Nat.le_of_ble_eq_true rfl) (Nat.le_of_ble_eq_true rfl) an_int dX6_init_94 (fun a36 => ?_)
  have hT33 := q_app (R := [(.inl (0, 9), a36)]) hT33
  have hT3 := q_app (R := [(.inl (0, 9), a36)]) hT3
  have hT9 := q_app (R := [(.inl (0, 9), a36)]) hT9
  have hT18 := q_app (R := [(.inl (0, 9), a36)]) hT18
  have hT2 := q_app (R := [(.inl (0, 9), a36)]) hT2
  have hT := q_app (R := [(.inl (0, 9), a36)]) hT
  have hT24 := q_app (R := [(.inl (0, 9), a36)]) hT24
  have hT35 := q_app (R := [(.inl (0, 9), a36)]) hT35
  have hz := hz.app (R := [(.inl (0, 9), a36)])
  have hl37 := q_len (x := (.inl (0, 9), a36)) hl36
  refine q_putR 99 rfl pX6_54 (fun _ => ⟨rfl, rfl⟩) rfl rfl rfl 0 hT dX6_init_96 ?_
  have hz := hz.putG (f := 12) (v := some a36) hT
  refine q_aload_n 100 rfl rfl dX6_init_99 ?_
  refine q_newo 103 rfl 37 559 rfl rfl hz (ci := 4) rfl ing4 tyX4_ok cl_X6_58 io_X4 iz_X4 fv_X4 (Nat.le_of_ble_eq_true rfl) (Nat.le_of_ble_eq_true rfl) dX6_init_100 (fun a37 => ?_)
  have hT33 := q_app (R := [(.inr 4, a37)]) hT33
  have hT3 := q_app (R := [(.inr 4, a37)]) hT3
  have hT9 := q_app (R := [(.inr 4, a37)]) hT9
  have hT18 := q_app (R := [(.inr 4, a37)]) hT18
  have hT2 := q_app (R := [(.inr 4, a37)]) hT2
  have hT := q_app (R := [(.inr 4, a37)]) hT
  have hT24 := q_app (R := [(.inr 4, a37)]) hT24
  have hT35 := q_app (R := [(.inr 4, a37)]) hT35
  have hz := hz.app (R := [(.inr 4, a37)])
  have hl38 := q_len (x := (.inr 4, a37)) hl37
  have hT37 := q_lastN (x := (.inr 4, a37)) hl37
  refine q_dup 104 rfl rfl dX6_init_103 ?_
  refine q_iconst 105 rfl 0 (by decide +kernel) dX6_init_104 ?_
  refine q_callI (As := [.int (nI 0)]) (rest := [.ref a37, .ref b]) lX6_60 (k_iX4 (i := 37) (v := 0) (by decide) hT37 hz) rfl rfl rfl (Nat.le_of_ble_eq_true rfl) dX6_init_105 ?_
  rintro v h' ⟨rfl, a38, a39, a40, rfl⟩
  refine q_kn (k' := 40) (n' := 1089) rfl rfl ?_
  have hT33 := q_app (R := [(.inl (0, 9), a38)]) hT33
  have hT3 := q_app (R := [(.inl (0, 9), a38)]) hT3
  have hT9 := q_app (R := [(.inl (0, 9), a38)]) hT9
  have hT18 := q_app (R := [(.inl (0, 9), a38)]) hT18
  have hT37 := q_app (R := [(.inl (0, 9), a38)]) hT37
  have hT2 := q_app (R := [(.inl (0, 9), a38)]) hT2
  have hT := q_app (R := [(.inl (0, 9), a38)]) hT
  have hT24 := q_app (R := [(.inl (0, 9), a38)]) hT24
  have hT35 := q_app (R := [(.inl (0, 9), a38)]) hT35
  have hz := hz.app (R := [(.inl (0, 9), a38)])
  have hl39 := q_len (x := (.inl (0, 9), a38)) hl38
  have hT33 := q_app (R := [(.inl (0, 9), a39)]) hT33
  have hT3 := q_app (R := [(.inl (0, 9), a39)]) hT3
  have hT9 := q_app (R := [(.inl (0, 9), a39)]) hT9
  have hT18 := q_app (R := [(.inl (0, 9), a39)]) hT18
  have hT37 := q_app (R := [(.inl (0, 9), a39)]) hT37
  have hT2 := q_app (R := [(.inl (0, 9), a39)]) hT2
  have hT := q_app (R := [(.inl (0, 9), a39)]) hT
  have hT24 := q_app (R := [(.inl (0, 9), a39)]) hT24
  have hT35 := q_app (R := [(.inl (0, 9), a39)]) hT35
  have hz := hz.app (R := [(.inl (0, 9), a39)])
  have hl40 := q_len (x := (.inl (0, 9), a39)) hl39
  have hT33 := q_app (R := [(.inl (0, 512), a40)]) hT33
  have hT3 := q_app (R := [(.inl (0, 512), a40)]) hT3
  have hT9 := q_app (R := [(.inl (0, 512), a40)]) hT9
  have hT18 := q_app (R := [(.inl (0, 512), a40)]) hT18
  have hT37 := q_app (R := [(.inl (0, 512), a40)]) hT37
  have hT2 := q_app (R := [(.inl (0, 512), a40)]) hT2
  have hT := q_app (R := [(.inl (0, 512), a40)]) hT
  have hT24 := q_app (R := [(.inl (0, 512), a40)]) hT24
  have hT35 := q_app (R := [(.inl (0, 512), a40)]) hT35
  have hz := hz.app (R := [(.inl (0, 512), a40)])
  have hl41 := q_len (x := (.inl (0, 512), a40)) hl40
  have hz := hz.putN (f := 0) (v := 0) hT37
  have hz := hz.putG (f := 1) (v := some a38) hT37
  have hz := hz.putG (f := 2) (v := some a39) hT37
  have hz := hz.putG (f := 3) (v := some a40) hT37
  refine q_putR 111 rfl pX6_63 (fun _ => ⟨rfl, rfl⟩) rfl rfl rfl 0 hT dX6_init_108 ?_
  have hz := hz.putG (f := 13) (v := some a37) hT
  refine q_aload_n 112 rfl rfl dX6_init_111 ?_
  refine q_newo 115 rfl 41 1096 rfl rfl hz (ci := 4) rfl ing4 tyX4_ok cl_X6_58 io_X4 iz_X4 fv_X4 (Nat.le_of_ble_eq_true rfl) (Nat.le_of_ble_eq_true rfl) dX6_init_112 (fun a41 => ?_)
  have hT33 := q_app (R := [(.inr 4, a41)]) hT33
  have hT3 := q_app (R := [(.inr 4, a41)]) hT3
  have hT9 := q_app (R := [(.inr 4, a41)]) hT9
  have hT18 := q_app (R := [(.inr 4, a41)]) hT18
  have hT37 := q_app (R := [(.inr 4, a41)]) hT37
  have hT2 := q_app (R := [(.inr 4, a41)]) hT2
  have hT := q_app (R := [(.inr 4, a41)]) hT
  have hT24 := q_app (R := [(.inr 4, a41)]) hT24
  have hT35 := q_app (R := [(.inr 4, a41)]) hT35
  have hz := hz.app (R := [(.inr 4, a41)])
  have hl42 := q_len (x := (.inr 4, a41)) hl41
  have hT41 := q_lastN (x := (.inr 4, a41)) hl41
  refine q_dup 116 rfl rfl dX6_init_115 ?_
  refine q_iconst 117 rfl 1 (by decide +kernel) dX6_init_116 ?_
  refine q_callI (As := [.int (nI 1)]) (rest := [.ref a41, .ref b]) lX6_60 (k_iX4 (i := 41) (v := 1) (by decide) hT41 hz) rfl rfl rfl (Nat.le_of_ble_eq_true rfl) dX6_init_117 ?_
  rintro v h' ⟨rfl, a42, a43, a44, rfl⟩
  refine q_kn (k' := 44) (n' := 1626) rfl rfl ?_
  have hT33 := q_app (R := [(.inl (0, 9), a42)]) hT33
  have hT3 := q_app (R := [(.inl (0, 9), a42)]) hT3
  have hT41 := q_app (R := [(.inl (0, 9), a42)]) hT41
  have hT9 := q_app (R := [(.inl (0, 9), a42)]) hT9
  have hT18 := q_app (R := [(.inl (0, 9), a42)]) hT18
  have hT37 := q_app (R := [(.inl (0, 9), a42)]) hT37
  have hT2 := q_app (R := [(.inl (0, 9), a42)]) hT2
  have hT := q_app (R := [(.inl (0, 9), a42)]) hT
  have hT24 := q_app (R := [(.inl (0, 9), a42)]) hT24
  have hT35 := q_app (R := [(.inl (0, 9), a42)]) hT35
  have hz := hz.app (R := [(.inl (0, 9), a42)])
  have hl43 := q_len (x := (.inl (0, 9), a42)) hl42
  have hT33 := q_app (R := [(.inl (0, 9), a43)]) hT33
  have hT3 := q_app (R := [(.inl (0, 9), a43)]) hT3
  have hT41 := q_app (R := [(.inl (0, 9), a43)]) hT41
  have hT9 := q_app (R := [(.inl (0, 9), a43)]) hT9
  have hT18 := q_app (R := [(.inl (0, 9), a43)]) hT18
  have hT37 := q_app (R := [(.inl (0, 9), a43)]) hT37
  have hT2 := q_app (R := [(.inl (0, 9), a43)]) hT2
  have hT := q_app (R := [(.inl (0, 9), a43)]) hT
  have hT24 := q_app (R := [(.inl (0, 9), a43)]) hT24
  have hT35 := q_app (R := [(.inl (0, 9), a43)]) hT35
  have hz := hz.app (R := [(.inl (0, 9), a43)])
  have hl44 := q_len (x := (.inl (0, 9), a43)) hl43
  have hT33 := q_app (R := [(.inl (0, 512), a44)]) hT33
  have hT3 := q_app (R := [(.inl (0, 512), a44)]) hT3
  have hT41 := q_app (R := [(.inl (0, 512), a44)]) hT41
  have hT9 := q_app (R := [(.inl (0, 512), a44)]) hT9
  have hT18 := q_app (R := [(.inl (0, 512), a44)]) hT18
  have hT37 := q_app (R := [(.inl (0, 512), a44)]) hT37
  have hT2 := q_app (R := [(.inl (0, 512), a44)]) hT2
  have hT := q_app (R := [(.inl (0, 512), a44)]) hT
  have hT24 := q_app (R := [(.inl (0, 512), a44)]) hT24
  have hT35 := q_app (R := [(.inl (0, 512), a44)]) hT35
  have hz := hz.app (R := [(.inl (0, 512), a44)])
  have hl45 := q_len (x := (.inl (0, 512), a44)) hl44
  have hz := hz.putN (f := 0) (v := 1) hT41
  have hz := hz.putG (f := 1) (v := some a42) hT41
  have hz := hz.putG (f := 2) (v := some a43) hT41
  have hz := hz.putG (f := 3) (v := some a44) hT41
  refine q_putR 123 rfl pX6_67 (fun _ => ⟨rfl, rfl⟩) rfl rfl rfl 0 hT dX6_init_120 ?_
  have hz := hz.putG (f := 14) (v := some a41) hT
  refine q_aload_n 124 rfl rfl dX6_init_123 ?_
  refine q_newo 127 rfl 45 1629 rfl rfl hz (ci := 3) rfl ing3 tyX3_ok cl_X6_70 io_X3 iz_X3 fv_X3 (Nat.le_of_ble_eq_true rfl) (Nat.le_of_ble_eq_true rfl) dX6_init_124 (fun a45 => ?_)
  have hT33 := q_app (R := [(.inr 3, a45)]) hT33
  have hT3 := q_app (R := [(.inr 3, a45)]) hT3
  have hT41 := q_app (R := [(.inr 3, a45)]) hT41
  have hT9 := q_app (R := [(.inr 3, a45)]) hT9
  have hT18 := q_app (R := [(.inr 3, a45)]) hT18
  have hT37 := q_app (R := [(.inr 3, a45)]) hT37
  have hT2 := q_app (R := [(.inr 3, a45)]) hT2
  have hT := q_app (R := [(.inr 3, a45)]) hT
  have hT24 := q_app (R := [(.inr 3, a45)]) hT24
  have hT35 := q_app (R := [(.inr 3, a45)]) hT35
  have hz := hz.app (R := [(.inr 3, a45)])
  have hl46 := q_len (x := (.inr 3, a45)) hl45
  have hT45 := q_lastN (x := (.inr 3, a45)) hl45
  refine q_dup 128 rfl rfl dX6_init_127 ?_
  refine q_callI (As := []) (rest := [.ref a45, .ref b]) lX6_72 (k_iX3 (i := 45) hT45 hz) rfl rfl rfl (Nat.le_of_ble_eq_true rfl) dX6_init_128 ?_
  rintro v h' ⟨rfl, a46, a47, rfl⟩
  refine q_kn (k' := 47) (n' := 1659) rfl rfl ?_
  have hT33 := q_app (R := [(.inl (0, 3), a46)]) hT33
  have hT3 := q_app (R := [(.inl (0, 3), a46)]) hT3
  have hT41 := q_app (R := [(.inl (0, 3), a46)]) hT41
  have hT9 := q_app (R := [(.inl (0, 3), a46)]) hT9
  have hT18 := q_app (R := [(.inl (0, 3), a46)]) hT18
  have hT45 := q_app (R := [(.inl (0, 3), a46)]) hT45
  have hT37 := q_app (R := [(.inl (0, 3), a46)]) hT37
  have hT2 := q_app (R := [(.inl (0, 3), a46)]) hT2
  have hT := q_app (R := [(.inl (0, 3), a46)]) hT
  have hT24 := q_app (R := [(.inl (0, 3), a46)]) hT24
  have hT35 := q_app (R := [(.inl (0, 3), a46)]) hT35
  have hz := hz.app (R := [(.inl (0, 3), a46)])
  have hl47 := q_len (x := (.inl (0, 3), a46)) hl46
  have hT33 := q_app (R := [(.inl (0, 27), a47)]) hT33
  have hT3 := q_app (R := [(.inl (0, 27), a47)]) hT3
  have hT41 := q_app (R := [(.inl (0, 27), a47)]) hT41
  have hT9 := q_app (R := [(.inl (0, 27), a47)]) hT9
  have hT18 := q_app (R := [(.inl (0, 27), a47)]) hT18
  have hT45 := q_app (R := [(.inl (0, 27), a47)]) hT45
  have hT37 := q_app (R := [(.inl (0, 27), a47)]) hT37
  have hT2 := q_app (R := [(.inl (0, 27), a47)]) hT2
  have hT := q_app (R := [(.inl (0, 27), a47)]) hT
  have hT24 := q_app (R := [(.inl (0, 27), a47)]) hT24
  have hT35 := q_app (R := [(.inl (0, 27), a47)]) hT35
  have hz := hz.app (R := [(.inl (0, 27), a47)])
  have hl48 := q_len (x := (.inl (0, 27), a47)) hl47
  have hz := hz.putG (f := 0) (v := some a46) hT45
  have hz := hz.putG (f := 1) (v := some a47) hT45
  refine q_putR 134 rfl pX6_73 (fun _ => ⟨rfl, rfl⟩) rfl rfl rfl 0 hT dX6_init_131 ?_
  have hz := hz.putG (f := 15) (v := some a45) hT
  refine q_aload_n 135 rfl rfl dX6_init_134 ?_
  refine q_bipush 137 rfl 45 (by decide +kernel) dX6_init_135 ?_
  refine q_newi 139 rfl 48 1704 rfl rfl hz (by decide) (Nat.le_of_ble_eq_true rfl) (Nat.le_of_ble_eq_true rfl) an_int dX6_init_137 (fun a48 => ?_)
  have hT33 := q_app (R := [(.inl (0, 45), a48)]) hT33
  have hT3 := q_app (R := [(.inl (0, 45), a48)]) hT3
  have hT41 := q_app (R := [(.inl (0, 45), a48)]) hT41
  have hT9 := q_app (R := [(.inl (0, 45), a48)]) hT9
  have hT18 := q_app (R := [(.inl (0, 45), a48)]) hT18
  have hT45 := q_app (R := [(.inl (0, 45), a48)]) hT45
  have hT37 := q_app (R := [(.inl (0, 45), a48)]) hT37
  have hT2 := q_app (R := [(.inl (0, 45), a48)]) hT2
  have hT := q_app (R := [(.inl (0, 45), a48)]) hT
  have hT24 := q_app (R := [(.inl (0, 45), a48)]) hT24
  have hT35 := q_app (R := [(.inl (0, 45), a48)]) hT35
  have hz := hz.app (R := [(.inl (0, 45), a48)])
  have hl49 := q_len (x := (.inl (0, 45), a48)) hl48
  refine q_putR 142 rfl pX6_77 (fun _ => ⟨rfl, rfl⟩) rfl rfl rfl 0 hT dX6_init_139 ?_
  have hz := hz.putG (f := 16) (v := some a48) hT
  refine q_aload_n 143 rfl rfl dX6_init_142 ?_
  refine q_bipush 145 rfl 9 (by decide +kernel) dX6_init_143 ?_
  refine q_newi 147 rfl 49 1713 rfl rfl hz (by decide) (Nat.le_of_ble_eq_true rfl) (Nat.le_of_ble_eq_true rfl) an_int dX6_init_145 (fun a49 => ?_)
  have hT33 := q_app (R := [(.inl (0, 9), a49)]) hT33
  have hT3 := q_app (R := [(.inl (0, 9), a49)]) hT3
  have hT41 := q_app (R := [(.inl (0, 9), a49)]) hT41
  have hT9 := q_app (R := [(.inl (0, 9), a49)]) hT9
  have hT18 := q_app (R := [(.inl (0, 9), a49)]) hT18
  have hT45 := q_app (R := [(.inl (0, 9), a49)]) hT45
  have hT37 := q_app (R := [(.inl (0, 9), a49)]) hT37
  have hT2 := q_app (R := [(.inl (0, 9), a49)]) hT2
  have hT := q_app (R := [(.inl (0, 9), a49)]) hT
  have hT24 := q_app (R := [(.inl (0, 9), a49)]) hT24
  have hT35 := q_app (R := [(.inl (0, 9), a49)]) hT35
  have hz := hz.app (R := [(.inl (0, 9), a49)])
  have hl50 := q_len (x := (.inl (0, 9), a49)) hl49
  refine q_putR 150 rfl pX6_80 (fun _ => ⟨rfl, rfl⟩) rfl rfl rfl 0 hT dX6_init_147 ?_
  have hz := hz.putG (f := 17) (v := some a49) hT
  refine q_aload_n 151 rfl rfl dX6_init_150 ?_
  refine q_bipush 153 rfl 9 (by decide +kernel) dX6_init_151 ?_
  refine q_newi 155 rfl 50 1722 rfl rfl hz (by decide) (Nat.le_of_ble_eq_true rfl) (Nat.le_of_ble_eq_true rfl) an_int dX6_init_153 (fun a50 => ?_)
  have hT33 := q_app (R := [(.inl (0, 9), a50)]) hT33
  have hT3 := q_app (R := [(.inl (0, 9), a50)]) hT3
  have hT41 := q_app (R := [(.inl (0, 9), a50)]) hT41
  have hT9 := q_app (R := [(.inl (0, 9), a50)]) hT9
  have hT18 := q_app (R := [(.inl (0, 9), a50)]) hT18
  have hT45 := q_app (R := [(.inl (0, 9), a50)]) hT45
  have hT37 := q_app (R := [(.inl (0, 9), a50)]) hT37
  have hT2 := q_app (R := [(.inl (0, 9), a50)]) hT2
  have hT := q_app (R := [(.inl (0, 9), a50)]) hT
  have hT24 := q_app (R := [(.inl (0, 9), a50)]) hT24
  have hT35 := q_app (R := [(.inl (0, 9), a50)]) hT35
  have hz := hz.app (R := [(.inl (0, 9), a50)])
  have hl51 := q_len (x := (.inl (0, 9), a50)) hl50
  refine q_putR 158 rfl pX6_83 (fun _ => ⟨rfl, rfl⟩) rfl rfl rfl 0 hT dX6_init_155 ?_
  have hz := hz.putG (f := 19) (v := some a50) hT
  refine q_iconst 159 rfl 0 (by decide +kernel) dX6_init_158 ?_
  refine q_istore_n 160 rfl (by decide) dX6_init_159 ?_
  refine q_loc (l' := [(0, .ref b), (1, .int (nI 0))]) ?_ (q_sub1 rfl (q_sub1 rfl (q_sub0)))
  refine q_iload_n 161 rfl rfl dX6_init_160 ?_
  refine q_iconst 162 rfl 2 (by decide +kernel) dX6_init_161 ?_
  refine q_icmp_ge 165 rfl 184 rfl (by decide) (by decide) dX6_init_162 (fun h => absurd h (by decide)) (fun _ => ?_)
  refine q_aload_n 166 rfl rfl dX6_init_165 ?_
  refine q_getR 169 rfl fX6_40 rfl 0 hT rfl dX6_init_166 ?_
  refine q_iload_n 170 rfl rfl dX6_init_169 ?_
  refine q_newo 173 rfl 51 1735 rfl rfl hz (ci := 0) rfl ing0 tyX0_ok cl_X6_27 io_X0 iz_X0 fv_X0 (Nat.le_of_ble_eq_true rfl) (Nat.le_of_ble_eq_true rfl) dX6_init_170 (fun a51 => ?_)
  have hT33 := q_app (R := [(.inr 0, a51)]) hT33
  have hT3 := q_app (R := [(.inr 0, a51)]) hT3
  have hT41 := q_app (R := [(.inr 0, a51)]) hT41
  have hT9 := q_app (R := [(.inr 0, a51)]) hT9
  have hT18 := q_app (R := [(.inr 0, a51)]) hT18
  have hT45 := q_app (R := [(.inr 0, a51)]) hT45
  have hT37 := q_app (R := [(.inr 0, a51)]) hT37
  have hT2 := q_app (R := [(.inr 0, a51)]) hT2
  have hT := q_app (R := [(.inr 0, a51)]) hT
  have hT24 := q_app (R := [(.inr 0, a51)]) hT24
  have hT35 := q_app (R := [(.inr 0, a51)]) hT35
  have hz := hz.app (R := [(.inr 0, a51)])
  have hl52 := q_len (x := (.inr 0, a51)) hl51
  have hT51 := q_lastN (x := (.inr 0, a51)) hl51
  refine q_dup 174 rfl rfl dX6_init_173 ?_
  refine q_callI (As := []) (rest := [.ref a51, .int (nI 0), .ref a33]) lX6_29 (k_iX0 (i := 51) hT51 hz) rfl rfl rfl (Nat.le_of_ble_eq_true rfl) dX6_init_174 ?_
  rintro v h' ⟨rfl, a52, a53, a54, a55, a56, a57, a58, a59, rfl⟩
  refine q_kn (k' := 59) (n' := 1790) rfl rfl ?_
  have hT33 := q_app (R := [(.inl (0, 9), a52)]) hT33
  have hT3 := q_app (R := [(.inl (0, 9), a52)]) hT3
  have hT41 := q_app (R := [(.inl (0, 9), a52)]) hT41
  have hT51 := q_app (R := [(.inl (0, 9), a52)]) hT51
  have hT9 := q_app (R := [(.inl (0, 9), a52)]) hT9
  have hT18 := q_app (R := [(.inl (0, 9), a52)]) hT18
  have hT45 := q_app (R := [(.inl (0, 9), a52)]) hT45
  have hT37 := q_app (R := [(.inl (0, 9), a52)]) hT37
  have hT2 := q_app (R := [(.inl (0, 9), a52)]) hT2
  have hT := q_app (R := [(.inl (0, 9), a52)]) hT
  have hT24 := q_app (R := [(.inl (0, 9), a52)]) hT24
  have hT35 := q_app (R := [(.inl (0, 9), a52)]) hT35
  have hz := hz.app (R := [(.inl (0, 9), a52)])
  have hl53 := q_len (x := (.inl (0, 9), a52)) hl52
  have hT33 := q_app (R := [(.inl (0, 5), a53)]) hT33
  have hT3 := q_app (R := [(.inl (0, 5), a53)]) hT3
  have hT41 := q_app (R := [(.inl (0, 5), a53)]) hT41
  have hT51 := q_app (R := [(.inl (0, 5), a53)]) hT51
  have hT9 := q_app (R := [(.inl (0, 5), a53)]) hT9
  have hT18 := q_app (R := [(.inl (0, 5), a53)]) hT18
  have hT45 := q_app (R := [(.inl (0, 5), a53)]) hT45
  have hT37 := q_app (R := [(.inl (0, 5), a53)]) hT37
  have hT2 := q_app (R := [(.inl (0, 5), a53)]) hT2
  have hT := q_app (R := [(.inl (0, 5), a53)]) hT
  have hT24 := q_app (R := [(.inl (0, 5), a53)]) hT24
  have hT35 := q_app (R := [(.inl (0, 5), a53)]) hT35
  have hz := hz.app (R := [(.inl (0, 5), a53)])
  have hl54 := q_len (x := (.inl (0, 5), a53)) hl53
  have hT33 := q_app (R := [(.inl (0, 5), a54)]) hT33
  have hT3 := q_app (R := [(.inl (0, 5), a54)]) hT3
  have hT41 := q_app (R := [(.inl (0, 5), a54)]) hT41
  have hT51 := q_app (R := [(.inl (0, 5), a54)]) hT51
  have hT9 := q_app (R := [(.inl (0, 5), a54)]) hT9
  have hT18 := q_app (R := [(.inl (0, 5), a54)]) hT18
  have hT45 := q_app (R := [(.inl (0, 5), a54)]) hT45
  have hT37 := q_app (R := [(.inl (0, 5), a54)]) hT37
  have hT2 := q_app (R := [(.inl (0, 5), a54)]) hT2
  have hT := q_app (R := [(.inl (0, 5), a54)]) hT
  have hT24 := q_app (R := [(.inl (0, 5), a54)]) hT24
  have hT35 := q_app (R := [(.inl (0, 5), a54)]) hT35
  have hz := hz.app (R := [(.inl (0, 5), a54)])
  have hl55 := q_len (x := (.inl (0, 5), a54)) hl54
  have hT33 := q_app (R := [(.inl (0, 9), a55)]) hT33
  have hT3 := q_app (R := [(.inl (0, 9), a55)]) hT3
  have hT41 := q_app (R := [(.inl (0, 9), a55)]) hT41
  have hT51 := q_app (R := [(.inl (0, 9), a55)]) hT51
  have hT9 := q_app (R := [(.inl (0, 9), a55)]) hT9
  have hT18 := q_app (R := [(.inl (0, 9), a55)]) hT18
  have hT45 := q_app (R := [(.inl (0, 9), a55)]) hT45
  have hT37 := q_app (R := [(.inl (0, 9), a55)]) hT37
  have hT2 := q_app (R := [(.inl (0, 9), a55)]) hT2
  have hT := q_app (R := [(.inl (0, 9), a55)]) hT
  have hT24 := q_app (R := [(.inl (0, 9), a55)]) hT24
  have hT35 := q_app (R := [(.inl (0, 9), a55)]) hT35
  have hz := hz.app (R := [(.inl (0, 9), a55)])
  have hl56 := q_len (x := (.inl (0, 9), a55)) hl55
  have hT33 := q_app (R := [(.inl (0, 9), a56)]) hT33
  have hT3 := q_app (R := [(.inl (0, 9), a56)]) hT3
  have hT41 := q_app (R := [(.inl (0, 9), a56)]) hT41
  have hT51 := q_app (R := [(.inl (0, 9), a56)]) hT51
  have hT9 := q_app (R := [(.inl (0, 9), a56)]) hT9
  have hT18 := q_app (R := [(.inl (0, 9), a56)]) hT18
  have hT45 := q_app (R := [(.inl (0, 9), a56)]) hT45
  have hT37 := q_app (R := [(.inl (0, 9), a56)]) hT37
  have hT2 := q_app (R := [(.inl (0, 9), a56)]) hT2
  have hT := q_app (R := [(.inl (0, 9), a56)]) hT
  have hT24 := q_app (R := [(.inl (0, 9), a56)]) hT24
  have hT35 := q_app (R := [(.inl (0, 9), a56)]) hT35
  have hz := hz.app (R := [(.inl (0, 9), a56)])
  have hl57 := q_len (x := (.inl (0, 9), a56)) hl56
  have hT33 := q_app (R := [(.inl (0, 6), a57)]) hT33
  have hT3 := q_app (R := [(.inl (0, 6), a57)]) hT3
  have hT41 := q_app (R := [(.inl (0, 6), a57)]) hT41
  have hT51 := q_app (R := [(.inl (0, 6), a57)]) hT51
  have hT9 := q_app (R := [(.inl (0, 6), a57)]) hT9
  have hT18 := q_app (R := [(.inl (0, 6), a57)]) hT18
  have hT45 := q_app (R := [(.inl (0, 6), a57)]) hT45
  have hT37 := q_app (R := [(.inl (0, 6), a57)]) hT37
  have hT2 := q_app (R := [(.inl (0, 6), a57)]) hT2
  have hT := q_app (R := [(.inl (0, 6), a57)]) hT
  have hT24 := q_app (R := [(.inl (0, 6), a57)]) hT24
  have hT35 := q_app (R := [(.inl (0, 6), a57)]) hT35
  have hz := hz.app (R := [(.inl (0, 6), a57)])
  have hl58 := q_len (x := (.inl (0, 6), a57)) hl57
  have hT33 := q_app (R := [(.inl (0, 6), a58)]) hT33
  have hT3 := q_app (R := [(.inl (0, 6), a58)]) hT3
  have hT41 := q_app (R := [(.inl (0, 6), a58)]) hT41
  have hT51 := q_app (R := [(.inl (0, 6), a58)]) hT51
  have hT9 := q_app (R := [(.inl (0, 6), a58)]) hT9
  have hT18 := q_app (R := [(.inl (0, 6), a58)]) hT18
  have hT45 := q_app (R := [(.inl (0, 6), a58)]) hT45
  have hT37 := q_app (R := [(.inl (0, 6), a58)]) hT37
  have hT2 := q_app (R := [(.inl (0, 6), a58)]) hT2
  have hT := q_app (R := [(.inl (0, 6), a58)]) hT
  have hT24 := q_app (R := [(.inl (0, 6), a58)]) hT24
  have hT35 := q_app (R := [(.inl (0, 6), a58)]) hT35
  have hz := hz.app (R := [(.inl (0, 6), a58)])
  have hl59 := q_len (x := (.inl (0, 6), a58)) hl58
  have hT33 := q_app (R := [(.inl (0, 6), a59)]) hT33
  have hT3 := q_app (R := [(.inl (0, 6), a59)]) hT3
  have hT41 := q_app (R := [(.inl (0, 6), a59)]) hT41
  have hT51 := q_app (R := [(.inl (0, 6), a59)]) hT51
  have hT9 := q_app (R := [(.inl (0, 6), a59)]) hT9
  have hT18 := q_app (R := [(.inl (0, 6), a59)]) hT18
  have hT45 := q_app (R := [(.inl (0, 6), a59)]) hT45
  have hT37 := q_app (R := [(.inl (0, 6), a59)]) hT37
  have hT2 := q_app (R := [(.inl (0, 6), a59)]) hT2
  have hT := q_app (R := [(.inl (0, 6), a59)]) hT
  have hT24 := q_app (R := [(.inl (0, 6), a59)]) hT24
  have hT35 := q_app (R := [(.inl (0, 6), a59)]) hT35
  have hz := hz.app (R := [(.inl (0, 6), a59)])
  have hl60 := q_len (x := (.inl (0, 6), a59)) hl59
  have hz := hz.putG (f := 0) (v := some a52) hT51
  have hz := hz.putG (f := 4) (v := some a53) hT51
  have hz := hz.putG (f := 5) (v := some a54) hT51
  have hz := hz.putG (f := 7) (v := some a55) hT51
  have hz := hz.putG (f := 8) (v := some a56) hT51
  have hz := hz.putG (f := 10) (v := some a57) hT51
  have hz := hz.putG (f := 11) (v := some a58) hT51
  have hz := hz.putG (f := 12) (v := some a59) hT51
  refine q_aast4 178 rfl 33 51 hT33 hT51 (by decide) (by decide) dX6_init_177 ?_
  have hz := hz.putG (f := 0) (v := some a51) hT33
  refine q_iinc 181 rfl 1 rfl (by decide +kernel) (by decide) dX6_init_178 ?_
  refine q_loc (l' := [(0, .ref b), (1, .int (nI 1))]) ?_ (q_sub1 rfl (q_sub1 rfl (q_sub0)))
  refine q_goto 160 rfl dX6_init_181 ?_
  refine q_iload_n 161 rfl rfl dX6_init_160 ?_
  refine q_iconst 162 rfl 2 (by decide +kernel) dX6_init_161 ?_
  refine q_icmp_ge 165 rfl 184 rfl (by decide) (by decide) dX6_init_162 (fun h => absurd h (by decide)) (fun _ => ?_)
  refine q_aload_n 166 rfl rfl dX6_init_165 ?_
  refine q_getR 169 rfl fX6_40 rfl 0 hT rfl dX6_init_166 ?_
  refine q_iload_n 170 rfl rfl dX6_init_169 ?_
  refine q_newo 173 rfl 60 1803 rfl rfl hz (ci := 0) rfl ing0 tyX0_ok cl_X6_27 io_X0 iz_X0 fv_X0 (Nat.le_of_ble_eq_true rfl) (Nat.le_of_ble_eq_true rfl) dX6_init_170 (fun a60 => ?_)
  have hT33 := q_app (R := [(.inr 0, a60)]) hT33
  have hT3 := q_app (R := [(.inr 0, a60)]) hT3
  have hT41 := q_app (R := [(.inr 0, a60)]) hT41
  have hT9 := q_app (R := [(.inr 0, a60)]) hT9
  have hT18 := q_app (R := [(.inr 0, a60)]) hT18
  have hT45 := q_app (R := [(.inr 0, a60)]) hT45
  have hT37 := q_app (R := [(.inr 0, a60)]) hT37
  have hT2 := q_app (R := [(.inr 0, a60)]) hT2
  have hT := q_app (R := [(.inr 0, a60)]) hT
  have hT24 := q_app (R := [(.inr 0, a60)]) hT24
  have hT35 := q_app (R := [(.inr 0, a60)]) hT35
  have hz := hz.app (R := [(.inr 0, a60)])
  have hl61 := q_len (x := (.inr 0, a60)) hl60
  have hT60 := q_lastN (x := (.inr 0, a60)) hl60
  refine q_dup 174 rfl rfl dX6_init_173 ?_
  refine q_callI (As := []) (rest := [.ref a60, .int (nI 1), .ref a33]) lX6_29 (k_iX0 (i := 60) hT60 hz) rfl rfl rfl (Nat.le_of_ble_eq_true rfl) dX6_init_174 ?_
  rintro v h' ⟨rfl, a61, a62, a63, a64, a65, a66, a67, a68, rfl⟩
  refine q_kn (k' := 68) (n' := 1858) rfl rfl ?_
  have hT33 := q_app (R := [(.inl (0, 9), a61)]) hT33
  have hT3 := q_app (R := [(.inl (0, 9), a61)]) hT3
  have hT41 := q_app (R := [(.inl (0, 9), a61)]) hT41
  have hT60 := q_app (R := [(.inl (0, 9), a61)]) hT60
  have hT9 := q_app (R := [(.inl (0, 9), a61)]) hT9
  have hT18 := q_app (R := [(.inl (0, 9), a61)]) hT18
  have hT45 := q_app (R := [(.inl (0, 9), a61)]) hT45
  have hT37 := q_app (R := [(.inl (0, 9), a61)]) hT37
  have hT2 := q_app (R := [(.inl (0, 9), a61)]) hT2
  have hT := q_app (R := [(.inl (0, 9), a61)]) hT
  have hT24 := q_app (R := [(.inl (0, 9), a61)]) hT24
  have hT35 := q_app (R := [(.inl (0, 9), a61)]) hT35
  have hz := hz.app (R := [(.inl (0, 9), a61)])
  have hl62 := q_len (x := (.inl (0, 9), a61)) hl61
  have hT33 := q_app (R := [(.inl (0, 5), a62)]) hT33
  have hT3 := q_app (R := [(.inl (0, 5), a62)]) hT3
  have hT41 := q_app (R := [(.inl (0, 5), a62)]) hT41
  have hT60 := q_app (R := [(.inl (0, 5), a62)]) hT60
  have hT9 := q_app (R := [(.inl (0, 5), a62)]) hT9
  have hT18 := q_app (R := [(.inl (0, 5), a62)]) hT18
  have hT45 := q_app (R := [(.inl (0, 5), a62)]) hT45
  have hT37 := q_app (R := [(.inl (0, 5), a62)]) hT37
  have hT2 := q_app (R := [(.inl (0, 5), a62)]) hT2
  have hT := q_app (R := [(.inl (0, 5), a62)]) hT
  have hT24 := q_app (R := [(.inl (0, 5), a62)]) hT24
  have hT35 := q_app (R := [(.inl (0, 5), a62)]) hT35
  have hz := hz.app (R := [(.inl (0, 5), a62)])
  have hl63 := q_len (x := (.inl (0, 5), a62)) hl62
  have hT33 := q_app (R := [(.inl (0, 5), a63)]) hT33
  have hT3 := q_app (R := [(.inl (0, 5), a63)]) hT3
  have hT41 := q_app (R := [(.inl (0, 5), a63)]) hT41
  have hT60 := q_app (R := [(.inl (0, 5), a63)]) hT60
  have hT9 := q_app (R := [(.inl (0, 5), a63)]) hT9
  have hT18 := q_app (R := [(.inl (0, 5), a63)]) hT18
  have hT45 := q_app (R := [(.inl (0, 5), a63)]) hT45
  have hT37 := q_app (R := [(.inl (0, 5), a63)]) hT37
  have hT2 := q_app (R := [(.inl (0, 5), a63)]) hT2
  have hT := q_app (R := [(.inl (0, 5), a63)]) hT
  have hT24 := q_app (R := [(.inl (0, 5), a63)]) hT24
  have hT35 := q_app (R := [(.inl (0, 5), a63)]) hT35
  have hz := hz.app (R := [(.inl (0, 5), a63)])
  have hl64 := q_len (x := (.inl (0, 5), a63)) hl63
  have hT33 := q_app (R := [(.inl (0, 9), a64)]) hT33
  have hT3 := q_app (R := [(.inl (0, 9), a64)]) hT3
  have hT41 := q_app (R := [(.inl (0, 9), a64)]) hT41
  have hT60 := q_app (R := [(.inl (0, 9), a64)]) hT60
  have hT9 := q_app (R := [(.inl (0, 9), a64)]) hT9
  have hT18 := q_app (R := [(.inl (0, 9), a64)]) hT18
  have hT45 := q_app (R := [(.inl (0, 9), a64)]) hT45
  have hT37 := q_app (R := [(.inl (0, 9), a64)]) hT37
  have hT2 := q_app (R := [(.inl (0, 9), a64)]) hT2
  have hT := q_app (R := [(.inl (0, 9), a64)]) hT
  have hT24 := q_app (R := [(.inl (0, 9), a64)]) hT24
  have hT35 := q_app (R := [(.inl (0, 9), a64)]) hT35
  have hz := hz.app (R := [(.inl (0, 9), a64)])
  have hl65 := q_len (x := (.inl (0, 9), a64)) hl64
  have hT33 := q_app (R := [(.inl (0, 9), a65)]) hT33
  have hT3 := q_app (R := [(.inl (0, 9), a65)]) hT3
  have hT41 := q_app (R := [(.inl (0, 9), a65)]) hT41
  have hT60 := q_app (R := [(.inl (0, 9), a65)]) hT60
  have hT9 := q_app (R := [(.inl (0, 9), a65)]) hT9
  have hT18 := q_app (R := [(.inl (0, 9), a65)]) hT18
  have hT45 := q_app (R := [(.inl (0, 9), a65)]) hT45
  have hT37 := q_app (R := [(.inl (0, 9), a65)]) hT37
  have hT2 := q_app (R := [(.inl (0, 9), a65)]) hT2
  have hT := q_app (R := [(.inl (0, 9), a65)]) hT
  have hT24 := q_app (R := [(.inl (0, 9), a65)]) hT24
  have hT35 := q_app (R := [(.inl (0, 9), a65)]) hT35
  have hz := hz.app (R := [(.inl (0, 9), a65)])
  have hl66 := q_len (x := (.inl (0, 9), a65)) hl65
  have hT33 := q_app (R := [(.inl (0, 6), a66)]) hT33
  have hT3 := q_app (R := [(.inl (0, 6), a66)]) hT3
  have hT41 := q_app (R := [(.inl (0, 6), a66)]) hT41
  have hT60 := q_app (R := [(.inl (0, 6), a66)]) hT60
  have hT9 := q_app (R := [(.inl (0, 6), a66)]) hT9
  have hT18 := q_app (R := [(.inl (0, 6), a66)]) hT18
  have hT45 := q_app (R := [(.inl (0, 6), a66)]) hT45
  have hT37 := q_app (R := [(.inl (0, 6), a66)]) hT37
  have hT2 := q_app (R := [(.inl (0, 6), a66)]) hT2
  have hT := q_app (R := [(.inl (0, 6), a66)]) hT
  have hT24 := q_app (R := [(.inl (0, 6), a66)]) hT24
  have hT35 := q_app (R := [(.inl (0, 6), a66)]) hT35
  have hz := hz.app (R := [(.inl (0, 6), a66)])
  have hl67 := q_len (x := (.inl (0, 6), a66)) hl66
  have hT33 := q_app (R := [(.inl (0, 6), a67)]) hT33
  have hT3 := q_app (R := [(.inl (0, 6), a67)]) hT3
  have hT41 := q_app (R := [(.inl (0, 6), a67)]) hT41
  have hT60 := q_app (R := [(.inl (0, 6), a67)]) hT60
  have hT9 := q_app (R := [(.inl (0, 6), a67)]) hT9
  have hT18 := q_app (R := [(.inl (0, 6), a67)]) hT18
  have hT45 := q_app (R := [(.inl (0, 6), a67)]) hT45
  have hT37 := q_app (R := [(.inl (0, 6), a67)]) hT37
  have hT2 := q_app (R := [(.inl (0, 6), a67)]) hT2
  have hT := q_app (R := [(.inl (0, 6), a67)]) hT
  have hT24 := q_app (R := [(.inl (0, 6), a67)]) hT24
  have hT35 := q_app (R := [(.inl (0, 6), a67)]) hT35
  have hz := hz.app (R := [(.inl (0, 6), a67)])
  have hl68 := q_len (x := (.inl (0, 6), a67)) hl67
  have hT33 := q_app (R := [(.inl (0, 6), a68)]) hT33
  have hT3 := q_app (R := [(.inl (0, 6), a68)]) hT3
  have hT41 := q_app (R := [(.inl (0, 6), a68)]) hT41
  have hT60 := q_app (R := [(.inl (0, 6), a68)]) hT60
  have hT9 := q_app (R := [(.inl (0, 6), a68)]) hT9
  have hT18 := q_app (R := [(.inl (0, 6), a68)]) hT18
  have hT45 := q_app (R := [(.inl (0, 6), a68)]) hT45
  have hT37 := q_app (R := [(.inl (0, 6), a68)]) hT37
  have hT2 := q_app (R := [(.inl (0, 6), a68)]) hT2
  have hT := q_app (R := [(.inl (0, 6), a68)]) hT
  have hT24 := q_app (R := [(.inl (0, 6), a68)]) hT24
  have hT35 := q_app (R := [(.inl (0, 6), a68)]) hT35
  have hz := hz.app (R := [(.inl (0, 6), a68)])
  have hl69 := q_len (x := (.inl (0, 6), a68)) hl68
  have hz := hz.putG (f := 0) (v := some a61) hT60
  have hz := hz.putG (f := 4) (v := some a62) hT60
  have hz := hz.putG (f := 5) (v := some a63) hT60
  have hz := hz.putG (f := 7) (v := some a64) hT60
  have hz := hz.putG (f := 8) (v := some a65) hT60
  have hz := hz.putG (f := 10) (v := some a66) hT60
  have hz := hz.putG (f := 11) (v := some a67) hT60
  have hz := hz.putG (f := 12) (v := some a68) hT60
  refine q_aast4 178 rfl 33 60 hT33 hT60 (by decide) (by decide) dX6_init_177 ?_
  have hz := hz.putG (f := 1) (v := some a60) hT33
  refine q_iinc 181 rfl 2 rfl (by decide +kernel) (by decide) dX6_init_178 ?_
  refine q_loc (l' := [(0, .ref b), (1, .int (nI 2))]) ?_ (q_sub1 rfl (q_sub1 rfl (q_sub0)))
  refine q_goto 160 rfl dX6_init_181 ?_
  refine q_iload_n 161 rfl rfl dX6_init_160 ?_
  refine q_iconst 162 rfl 2 (by decide +kernel) dX6_init_161 ?_
  refine q_icmp_ge 165 rfl 184 rfl (by decide) (by decide) dX6_init_162 (fun _ => ?_) (fun h => absurd (by decide) h)
  refine q_iconst 185 rfl 0 (by decide +kernel) dX6_init_184 ?_
  refine q_istore_n 186 rfl (by decide) dX6_init_185 ?_
  refine q_loc (l' := [(0, .ref b), (1, .int (nI 0))]) ?_ (q_sub1 rfl (q_sub1 rfl (q_sub0)))
  refine q_iload_n 187 rfl rfl dX6_init_186 ?_
  refine q_iconst 188 rfl 4 (by decide +kernel) dX6_init_187 ?_
  refine q_icmp_ge 191 rfl 210 rfl (by decide) (by decide) dX6_init_188 (fun h => absurd h (by decide)) (fun _ => ?_)
  refine q_aload_n 192 rfl rfl dX6_init_191 ?_
  refine q_getR 195 rfl fX6_50 rfl 0 hT rfl dX6_init_192 ?_
  refine q_iload_n 196 rfl rfl dX6_init_195 ?_
  refine q_newo 199 rfl 69 1861 rfl rfl hz (ci := 5) rfl ing5 tyX5_ok cl_X6_48 io_X5 iz_X5 fv_X5 (Nat.le_of_ble_eq_true rfl) (Nat.le_of_ble_eq_true rfl) dX6_init_196 (fun a69 => ?_)
  have hT33 := q_app (R := [(.inr 5, a69)]) hT33
  have hT3 := q_app (R := [(.inr 5, a69)]) hT3
  have hT41 := q_app (R := [(.inr 5, a69)]) hT41
  have hT9 := q_app (R := [(.inr 5, a69)]) hT9
  have hT18 := q_app (R := [(.inr 5, a69)]) hT18
  have hT45 := q_app (R := [(.inr 5, a69)]) hT45
  have hT37 := q_app (R := [(.inr 5, a69)]) hT37
  have hT2 := q_app (R := [(.inr 5, a69)]) hT2
  have hT := q_app (R := [(.inr 5, a69)]) hT
  have hT24 := q_app (R := [(.inr 5, a69)]) hT24
  have hT35 := q_app (R := [(.inr 5, a69)]) hT35
  have hz := hz.app (R := [(.inr 5, a69)])
  have hl70 := q_len (x := (.inr 5, a69)) hl69
  have hT69 := q_lastN (x := (.inr 5, a69)) hl69
  refine q_dup 200 rfl rfl dX6_init_199 ?_
  refine q_callI (As := []) (rest := [.ref a69, .int (nI 0), .ref a35]) lX6_86 (k_iX5 (i := 69) hT69 hz) rfl rfl rfl (Nat.le_of_ble_eq_true rfl) dX6_init_200 ?_
  rintro v h' ⟨rfl, a70, rfl⟩
  refine q_kn (k' := 70) (n' := 1901) rfl rfl ?_
  have hT33 := q_app (R := [(.inl (0, 40), a70)]) hT33
  have hT3 := q_app (R := [(.inl (0, 40), a70)]) hT3
  have hT41 := q_app (R := [(.inl (0, 40), a70)]) hT41
  have hT9 := q_app (R := [(.inl (0, 40), a70)]) hT9
  have hT69 := q_app (R := [(.inl (0, 40), a70)]) hT69
  have hT18 := q_app (R := [(.inl (0, 40), a70)]) hT18
  have hT45 := q_app (R := [(.inl (0, 40), a70)]) hT45
  have hT37 := q_app (R := [(.inl (0, 40), a70)]) hT37
  have hT2 := q_app (R := [(.inl (0, 40), a70)]) hT2
  have hT := q_app (R := [(.inl (0, 40), a70)]) hT
  have hT24 := q_app (R := [(.inl (0, 40), a70)]) hT24
  have hT35 := q_app (R := [(.inl (0, 40), a70)]) hT35
  have hz := hz.app (R := [(.inl (0, 40), a70)])
  have hl71 := q_len (x := (.inl (0, 40), a70)) hl70
  have hz := hz.putN (f := 0) (v := 4294967295) hT69
  have hz := hz.putG (f := 2) (v := some a70) hT69
  refine q_aast5 204 rfl 35 69 hT35 hT69 (by decide) (by decide) dX6_init_203 ?_
  have hz := hz.putG (f := 0) (v := some a69) hT35
  refine q_iinc 207 rfl 1 rfl (by decide +kernel) (by decide) dX6_init_204 ?_
  refine q_loc (l' := [(0, .ref b), (1, .int (nI 1))]) ?_ (q_sub1 rfl (q_sub1 rfl (q_sub0)))
  refine q_goto 186 rfl dX6_init_207 ?_
  refine q_iload_n 187 rfl rfl dX6_init_186 ?_
  refine q_iconst 188 rfl 4 (by decide +kernel) dX6_init_187 ?_
  refine q_icmp_ge 191 rfl 210 rfl (by decide) (by decide) dX6_init_188 (fun h => absurd h (by decide)) (fun _ => ?_)
  refine q_aload_n 192 rfl rfl dX6_init_191 ?_
  refine q_getR 195 rfl fX6_50 rfl 0 hT rfl dX6_init_192 ?_
  refine q_iload_n 196 rfl rfl dX6_init_195 ?_
  refine q_newo 199 rfl 71 1904 rfl rfl hz (ci := 5) rfl ing5 tyX5_ok cl_X6_48 io_X5 iz_X5 fv_X5 (Nat.le_of_ble_eq_true rfl) (Nat.le_of_ble_eq_true rfl) dX6_init_196 (fun a71 => ?_)
  have hT33 := q_app (R := [(.inr 5, a71)]) hT33
  have hT3 := q_app (R := [(.inr 5, a71)]) hT3
  have hT41 := q_app (R := [(.inr 5, a71)]) hT41
  have hT9 := q_app (R := [(.inr 5, a71)]) hT9
  have hT18 := q_app (R := [(.inr 5, a71)]) hT18
  have hT45 := q_app (R := [(.inr 5, a71)]) hT45
  have hT37 := q_app (R := [(.inr 5, a71)]) hT37
  have hT2 := q_app (R := [(.inr 5, a71)]) hT2
  have hT := q_app (R := [(.inr 5, a71)]) hT
  have hT24 := q_app (R := [(.inr 5, a71)]) hT24
  have hT35 := q_app (R := [(.inr 5, a71)]) hT35
  have hz := hz.app (R := [(.inr 5, a71)])
  have hl72 := q_len (x := (.inr 5, a71)) hl71
  have hT71 := q_lastN (x := (.inr 5, a71)) hl71
  refine q_dup 200 rfl rfl dX6_init_199 ?_
  refine q_callI (As := []) (rest := [.ref a71, .int (nI 1), .ref a35]) lX6_86 (k_iX5 (i := 71) hT71 hz) rfl rfl rfl (Nat.le_of_ble_eq_true rfl) dX6_init_200 ?_
  rintro v h' ⟨rfl, a72, rfl⟩
  refine q_kn (k' := 72) (n' := 1944) rfl rfl ?_
  have hT33 := q_app (R := [(.inl (0, 40), a72)]) hT33
  have hT3 := q_app (R := [(.inl (0, 40), a72)]) hT3
  have hT41 := q_app (R := [(.inl (0, 40), a72)]) hT41
  have hT9 := q_app (R := [(.inl (0, 40), a72)]) hT9
  have hT18 := q_app (R := [(.inl (0, 40), a72)]) hT18
  have hT45 := q_app (R := [(.inl (0, 40), a72)]) hT45
  have hT37 := q_app (R := [(.inl (0, 40), a72)]) hT37
  have hT2 := q_app (R := [(.inl (0, 40), a72)]) hT2
  have hT := q_app (R := [(.inl (0, 40), a72)]) hT
  have hT24 := q_app (R := [(.inl (0, 40), a72)]) hT24
  have hT35 := q_app (R := [(.inl (0, 40), a72)]) hT35
  have hT71 := q_app (R := [(.inl (0, 40), a72)]) hT71
  have hz := hz.app (R := [(.inl (0, 40), a72)])
  have hl73 := q_len (x := (.inl (0, 40), a72)) hl72
  have hz := hz.putN (f := 0) (v := 4294967295) hT71
  have hz := hz.putG (f := 2) (v := some a72) hT71
  refine q_aast5 204 rfl 35 71 hT35 hT71 (by decide) (by decide) dX6_init_203 ?_
  have hz := hz.putG (f := 1) (v := some a71) hT35
  refine q_iinc 207 rfl 2 rfl (by decide +kernel) (by decide) dX6_init_204 ?_
  refine q_loc (l' := [(0, .ref b), (1, .int (nI 2))]) ?_ (q_sub1 rfl (q_sub1 rfl (q_sub0)))
  refine q_goto 186 rfl dX6_init_207 ?_
  refine q_iload_n 187 rfl rfl dX6_init_186 ?_
  refine q_iconst 188 rfl 4 (by decide +kernel) dX6_init_187 ?_
  refine q_icmp_ge 191 rfl 210 rfl (by decide) (by decide) dX6_init_188 (fun h => absurd h (by decide)) (fun _ => ?_)
  refine q_aload_n 192 rfl rfl dX6_init_191 ?_
  refine q_getR 195 rfl fX6_50 rfl 0 hT rfl dX6_init_192 ?_
  refine q_iload_n 196 rfl rfl dX6_init_195 ?_
  refine q_newo 199 rfl 73 1947 rfl rfl hz (ci := 5) rfl ing5 tyX5_ok cl_X6_48 io_X5 iz_X5 fv_X5 (Nat.le_of_ble_eq_true rfl) (Nat.le_of_ble_eq_true rfl) dX6_init_196 (fun a73 => ?_)
  have hT33 := q_app (R := [(.inr 5, a73)]) hT33
  have hT3 := q_app (R := [(.inr 5, a73)]) hT3
  have hT41 := q_app (R := [(.inr 5, a73)]) hT41
  have hT9 := q_app (R := [(.inr 5, a73)]) hT9
  have hT18 := q_app (R := [(.inr 5, a73)]) hT18
  have hT45 := q_app (R := [(.inr 5, a73)]) hT45
  have hT37 := q_app (R := [(.inr 5, a73)]) hT37
  have hT2 := q_app (R := [(.inr 5, a73)]) hT2
  have hT := q_app (R := [(.inr 5, a73)]) hT
  have hT24 := q_app (R := [(.inr 5, a73)]) hT24
  have hT35 := q_app (R := [(.inr 5, a73)]) hT35
  have hz := hz.app (R := [(.inr 5, a73)])
  have hl74 := q_len (x := (.inr 5, a73)) hl73
  have hT73 := q_lastN (x := (.inr 5, a73)) hl73
  refine q_dup 200 rfl rfl dX6_init_199 ?_
  refine q_callI (As := []) (rest := [.ref a73, .int (nI 2), .ref a35]) lX6_86 (k_iX5 (i := 73) hT73 hz) rfl rfl rfl (Nat.le_of_ble_eq_true rfl) dX6_init_200 ?_
  rintro v h' ⟨rfl, a74, rfl⟩
  refine q_kn (k' := 74) (n' := 1987) rfl rfl ?_
  have hT33 := q_app (R := [(.inl (0, 40), a74)]) hT33
  have hT3 := q_app (R := [(.inl (0, 40), a74)]) hT3
  have hT41 := q_app (R := [(.inl (0, 40), a74)]) hT41
  have hT9 := q_app (R := [(.inl (0, 40), a74)]) hT9
  have hT73 := q_app (R := [(.inl (0, 40), a74)]) hT73
  have hT18 := q_app (R := [(.inl (0, 40), a74)]) hT18
  have hT45 := q_app (R := [(.inl (0, 40), a74)]) hT45
  have hT37 := q_app (R := [(.inl (0, 40), a74)]) hT37
  have hT2 := q_app (R := [(.inl (0, 40), a74)]) hT2
  have hT := q_app (R := [(.inl (0, 40), a74)]) hT
  have hT24 := q_app (R := [(.inl (0, 40), a74)]) hT24
  have hT35 := q_app (R := [(.inl (0, 40), a74)]) hT35
  have hz := hz.app (R := [(.inl (0, 40), a74)])
  have hl75 := q_len (x := (.inl (0, 40), a74)) hl74
  have hz := hz.putN (f := 0) (v := 4294967295) hT73
  have hz := hz.putG (f := 2) (v := some a74) hT73
  refine q_aast5 204 rfl 35 73 hT35 hT73 (by decide) (by decide) dX6_init_203 ?_
  have hz := hz.putG (f := 2) (v := some a73) hT35
  refine q_iinc 207 rfl 3 rfl (by decide +kernel) (by decide) dX6_init_204 ?_
  refine q_loc (l' := [(0, .ref b), (1, .int (nI 3))]) ?_ (q_sub1 rfl (q_sub1 rfl (q_sub0)))
  refine q_goto 186 rfl dX6_init_207 ?_
  refine q_iload_n 187 rfl rfl dX6_init_186 ?_
  refine q_iconst 188 rfl 4 (by decide +kernel) dX6_init_187 ?_
  refine q_icmp_ge 191 rfl 210 rfl (by decide) (by decide) dX6_init_188 (fun h => absurd h (by decide)) (fun _ => ?_)
  refine q_aload_n 192 rfl rfl dX6_init_191 ?_
  refine q_getR 195 rfl fX6_50 rfl 0 hT rfl dX6_init_192 ?_
  refine q_iload_n 196 rfl rfl dX6_init_195 ?_
  refine q_newo 199 rfl 75 1990 rfl rfl hz (ci := 5) rfl ing5 tyX5_ok cl_X6_48 io_X5 iz_X5 fv_X5 (Nat.le_of_ble_eq_true rfl) (Nat.le_of_ble_eq_true rfl) dX6_init_196 (fun a75 => ?_)
  have hT33 := q_app (R := [(.inr 5, a75)]) hT33
  have hT3 := q_app (R := [(.inr 5, a75)]) hT3
  have hT41 := q_app (R := [(.inr 5, a75)]) hT41
  have hT9 := q_app (R := [(.inr 5, a75)]) hT9
  have hT18 := q_app (R := [(.inr 5, a75)]) hT18
  have hT45 := q_app (R := [(.inr 5, a75)]) hT45
  have hT37 := q_app (R := [(.inr 5, a75)]) hT37
  have hT2 := q_app (R := [(.inr 5, a75)]) hT2
  have hT := q_app (R := [(.inr 5, a75)]) hT
  have hT24 := q_app (R := [(.inr 5, a75)]) hT24
  have hT35 := q_app (R := [(.inr 5, a75)]) hT35
  have hz := hz.app (R := [(.inr 5, a75)])
  have hl76 := q_len (x := (.inr 5, a75)) hl75
  have hT75 := q_lastN (x := (.inr 5, a75)) hl75
  refine q_dup 200 rfl rfl dX6_init_199 ?_
  refine q_callI (As := []) (rest := [.ref a75, .int (nI 3), .ref a35]) lX6_86 (k_iX5 (i := 75) hT75 hz) rfl rfl rfl (Nat.le_of_ble_eq_true rfl) dX6_init_200 ?_
  rintro v h' ⟨rfl, a76, rfl⟩
  refine q_kn (k' := 76) (n' := 2030) rfl rfl ?_
  have hT33 := q_app (R := [(.inl (0, 40), a76)]) hT33
  have hT3 := q_app (R := [(.inl (0, 40), a76)]) hT3
  have hT41 := q_app (R := [(.inl (0, 40), a76)]) hT41
  have hT9 := q_app (R := [(.inl (0, 40), a76)]) hT9
  have hT18 := q_app (R := [(.inl (0, 40), a76)]) hT18
  have hT45 := q_app (R := [(.inl (0, 40), a76)]) hT45
  have hT37 := q_app (R := [(.inl (0, 40), a76)]) hT37
  have hT2 := q_app (R := [(.inl (0, 40), a76)]) hT2
  have hT := q_app (R := [(.inl (0, 40), a76)]) hT
  have hT75 := q_app (R := [(.inl (0, 40), a76)]) hT75
  have hT24 := q_app (R := [(.inl (0, 40), a76)]) hT24
  have hT35 := q_app (R := [(.inl (0, 40), a76)]) hT35
  have hz := hz.app (R := [(.inl (0, 40), a76)])
  have hl77 := q_len (x := (.inl (0, 40), a76)) hl76
  have hz := hz.putN (f := 0) (v := 4294967295) hT75
  have hz := hz.putG (f := 2) (v := some a76) hT75
  refine q_aast5 204 rfl 35 75 hT35 hT75 (by decide) (by decide) dX6_init_203 ?_
  have hz := hz.putG (f := 3) (v := some a75) hT35
  refine q_iinc 207 rfl 4 rfl (by decide +kernel) (by decide) dX6_init_204 ?_
  refine q_loc (l' := [(0, .ref b), (1, .int (nI 4))]) ?_ (q_sub1 rfl (q_sub1 rfl (q_sub0)))
  refine q_goto 186 rfl dX6_init_207 ?_
  refine q_iload_n 187 rfl rfl dX6_init_186 ?_
  refine q_iconst 188 rfl 4 (by decide +kernel) dX6_init_187 ?_
  refine q_icmp_ge 191 rfl 210 rfl (by decide) (by decide) dX6_init_188 (fun _ => ?_) (fun h => absurd (by decide) h)
  refine q_vret rfl dX6_init_210 ?_
  exact ⟨rfl, fun j => [0, a1, a2, a3, a4, a5, a6, a7, a8, a9, a10, a11, a12, a13, a14, a15, a16, a17, a18, a19, a20, a21, a22, a23, a24, a25, a26, a27, a28, a29, a30, a31, a32, a33, a34, a35, a36, a37, a38, a39, a40, a41, a42, a43, a44, a45, a46, a47, a48, a49, a50, a51, a52, a53, a54, a55, a56, a57, a58, a59, a60, a61, a62, a63, a64, a65, a66, a67, a68, a69, a70, a71, a72, a73, a74, a75, a76].getD j 0, by simp only [List.append_assoc, List.cons_append, List.nil_append] <;> rfl⟩
end
