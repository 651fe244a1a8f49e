abbrev mL (y : MethodName) : q_M := (RL, y, cL_law, 4, some .boolean)
abbrev lvL (Γ : q_G) (ad : Nat → Nat) (i : Nat) : List (Nat × Value) := [(0, .ref (q_xb Γ)), (1, .ref (ad 0)), (2, .ref (ad 77)), (3, .int (nI i))]
theorem lg_same (x : Int64) : lg_cmp x x = 0 := by simp [lg_cmp]
section
variable {Γ : q_G} {m : q_M} {rm : Room} {Z : q_Zt} {k n pc : Nat} {lv : List (Nat × Value)} {st : List Value} {h : q_H}
theorem q_icmp_same (tgt : Nat) {off : Int} (ht : (pc : Int) + off = (tgt : Int)) {x : Int32} (hd : decode m.2.2.1 pc = .ok (.if_icmp .eq off, 3)) (kt : q_R Γ m rm Z k n tgt lv st h) : q_R Γ m rm Z k n pc lv (.int x :: .int x :: st) h :=
  fun p e s mi args below meth c H locs ls C hP hD hS hl => lv_icmp_eq C.1 C.2.1 hd ht (fun _ => kt p e s mi args below meth c H locs ls C hP hD hS hl) (fun q => absurd rfl q)
theorem q_lcmp_same (pc2 : Nat) (hp : pc + 1 = pc2) (tgt : Nat) {off : Int} (ht : (pc2 : Int) + off = (tgt : Int)) {x : Int64} (hd : decode m.2.2.1 pc = .ok (.lcmp, 1)) (hd2 : decode m.2.2.1 pc2 = .ok (.ifCond .eq off, 3)) (kt : q_R Γ m rm Z k n tgt lv st h) : q_R Γ m rm Z k n pc lv (.long x :: .long x :: st) h := by
  subst hp
  exact fun p e s mi args below meth c H locs ls C hP hD hS hl => W.lcmp C.1 C.2.1 hd (lv_if_eq C.1 C.2.1 hd2 ht (fun _ => kt p e s mi args below meth c H locs ls C hP hD hS hl) (fun q => absurd (lg_same x) q))
end
section
variable {Γ : q_G} {ad : Nat → Nat} {N : Nat → Nat → Nat} {L : Nat → Nat → Int} {G : Nat → Nat → Option Nat} {y : MethodName} {Z : q_Zt} {i nm nw dn dm c : Nat}
theorem law_c0 (hi : i + 4 < q_xl Γ) (hl : q_xl Γ < 2147483648) (h : IW ad G N nm nw dn dm c) (hJ : ∀ N' L' G' nm' nw' dn' dm' c', IW ad G' N' nm' nw' dn' dm' c' → q_R Γ (mL y) room_1 Z 96 3981 1222 (lvL Γ ad i) [] (LT ad, N', L', G')) : q_R Γ (mL y) room_1 Z 96 3981 200 (lvL Γ ad i) [] (LT ad, N, L, G) := by
  obtain ⟨Q6, h6, hall⟩ := pr_feed (Γ := Γ) (L := L) h (q_xs_ok Γ (i + 1)).1
  refine q_aload_n 201 rfl rfl dL_law_200 ?_
  refine q_aload_n 202 rfl rfl dL_law_201 ?_
  refine q_iload_n 203 rfl rfl dL_law_202 ?_
  refine q_iconst 204 rfl 1 (by decide +kernel) dL_law_203 ?_
  refine q_iadd 205 rfl dL_law_204 ?_
  refine q_sld 206 rfl (by omega) hl dL_law_205 ?_
  refine q_callV (As := [.int (nI (q_xs Γ (i + 1)))]) (rest := []) lL_13 h6 rfl 0 t_0 rfl rfl rfl (Nat.le_of_ble_eq_true rfl) dL_law_206 ?_
  intro v h1 hq
  obtain ⟨e1, ⟨x, rfl⟩, Q7, h7, hn⟩ := hall v h1 hq
  refine q_kn (k' := 96) (n' := 3981) rfl rfl ?_
  refine q_aload_n 210 rfl rfl dL_law_209 ?_
  refine q_aload_n 211 rfl rfl dL_law_210 ?_
  refine q_iload_n 212 rfl rfl dL_law_211 ?_
  refine q_iconst 213 rfl 1 (by decide +kernel) dL_law_212 ?_
  refine q_iadd 214 rfl dL_law_213 ?_
  refine q_sld 215 rfl (by omega) hl dL_law_214 ?_
  refine q_callV (As := [.int (nI (q_xs Γ (i + 1)))]) (rest := [.int x]) lL_17 h7 rfl 77 (by rw [e1]; exact t_77) rfl rfl rfl (Nat.le_of_ble_eq_true rfl) dL_law_215 ?_
  intro v' h2 hq2
  obtain ⟨rfl, N', L', G', nm', nw', dn', dm', c', rfl, hw⟩ := hn v' h2 hq2
  refine q_kn (k' := 96) (n' := 3981) rfl rfl ?_
  refine q_icmp_same 1222 rfl dL_law_218 ?_
  exact hJ _ _ _ _ _ _ _ _ hw
theorem law_c1 (hi : i + 4 < q_xl Γ) (hl : q_xl Γ < 2147483648) (h : IW ad G N nm nw dn dm c) (hJ : ∀ N' L' G' nm' nw' dn' dm' c', IW ad G' N' nm' nw' dn' dm' c' → q_R Γ (mL y) room_1 Z 96 3981 1222 (lvL Γ ad i) [] (LT ad, N', L', G')) : q_R Γ (mL y) room_1 Z 96 3981 223 (lvL Γ ad i) [] (LT ad, N, L, G) := by
  obtain ⟨Q6, h6, hall⟩ := pr_end (Γ := Γ) (L := L) h (q_xs_ok Γ (i + 1)).1
  refine q_aload_n 224 rfl rfl dL_law_223 ?_
  refine q_aload_n 225 rfl rfl dL_law_224 ?_
  refine q_iload_n 226 rfl rfl dL_law_225 ?_
  refine q_iconst 227 rfl 1 (by decide +kernel) dL_law_226 ?_
  refine q_iadd 228 rfl dL_law_227 ?_
  refine q_sld 229 rfl (by omega) hl dL_law_228 ?_
  refine q_callV (As := [.int (nI (q_xs Γ (i + 1)))]) (rest := []) lL_18 h6 rfl 0 t_0 rfl rfl rfl (Nat.le_of_ble_eq_true rfl) dL_law_229 ?_
  intro v h1 hq
  obtain ⟨e1, ⟨x, rfl⟩, Q7, h7, hn⟩ := hall v h1 hq
  refine q_kn (k' := 96) (n' := 3981) rfl rfl ?_
  refine q_aload_n 233 rfl rfl dL_law_232 ?_
  refine q_aload_n 234 rfl rfl dL_law_233 ?_
  refine q_iload_n 235 rfl rfl dL_law_234 ?_
  refine q_iconst 236 rfl 1 (by decide +kernel) dL_law_235 ?_
  refine q_iadd 237 rfl dL_law_236 ?_
  refine q_sld 238 rfl (by omega) hl dL_law_237 ?_
  refine q_callV (As := [.int (nI (q_xs Γ (i + 1)))]) (rest := [.int x]) lL_21 h7 rfl 77 (by rw [e1]; exact t_77) rfl rfl rfl (Nat.le_of_ble_eq_true rfl) dL_law_238 ?_
  intro v' h2 hq2
  obtain ⟨rfl, N', L', G', nm', nw', dn', dm', c', rfl, hw⟩ := hn v' h2 hq2
  refine q_kn (k' := 96) (n' := 3981) rfl rfl ?_
  refine q_icmp_same 1222 rfl dL_law_241 ?_
  exact hJ _ _ _ _ _ _ _ _ hw
theorem law_c2 (hi : i + 4 < q_xl Γ) (hl : q_xl Γ < 2147483648) (h : IW ad G N nm nw dn dm c) (hJ : ∀ N' L' G' nm' nw' dn' dm' c', IW ad G' N' nm' nw' dn' dm' c' → q_R Γ (mL y) room_1 Z 96 3981 1222 (lvL Γ ad i) [] (LT ad, N', L', G')) : q_R Γ (mL y) room_1 Z 96 3981 246 (lvL Γ ad i) [] (LT ad, N, L, G) := by
  obtain ⟨Q6, h6, hall⟩ := pr_text (Γ := Γ) (L := L) h 
  refine q_aload_n 247 rfl rfl dL_law_246 ?_
  refine q_callV (As := []) (rest := []) lL_22 h6 rfl 0 t_0 rfl rfl rfl (Nat.le_of_ble_eq_true rfl) dL_law_247 ?_
  intro v h1 hq
  obtain ⟨e1, ⟨x, rfl⟩, Q7, h7, hn⟩ := hall v h1 hq
  refine q_kn (k' := 96) (n' := 3981) rfl rfl ?_
  refine q_aload_n 251 rfl rfl dL_law_250 ?_
  refine q_callV (As := []) (rest := [.int x]) lL_26 h7 rfl 77 (by rw [e1]; exact t_77) rfl rfl rfl (Nat.le_of_ble_eq_true rfl) dL_law_251 ?_
  intro v' h2 hq2
  obtain ⟨rfl, N', L', G', nm', nw', dn', dm', c', rfl, hw⟩ := hn v' h2 hq2
  refine q_kn (k' := 96) (n' := 3981) rfl rfl ?_
  refine q_icmp_same 1222 rfl dL_law_254 ?_
  exact hJ _ _ _ _ _ _ _ _ hw
theorem law_c3 (hi : i + 4 < q_xl Γ) (hl : q_xl Γ < 2147483648) (h : IW ad G N nm nw dn dm c) (hJ : ∀ N' L' G' nm' nw' dn' dm' c', IW ad G' N' nm' nw' dn' dm' c' → q_R Γ (mL y) room_1 Z 96 3981 1222 (lvL Γ ad i) [] (LT ad, N', L', G')) : q_R Γ (mL y) room_1 Z 96 3981 259 (lvL Γ ad i) [] (LT ad, N, L, G) := by
  obtain ⟨Q6, h6, hall⟩ := pr_fault (Γ := Γ) (L := L) h 
  refine q_aload_n 260 rfl rfl dL_law_259 ?_
  refine q_callV (As := []) (rest := []) lL_27 h6 rfl 0 t_0 rfl rfl rfl (Nat.le_of_ble_eq_true rfl) dL_law_260 ?_
  intro v h1 hq
  obtain ⟨e1, ⟨x, rfl⟩, Q7, h7, hn⟩ := hall v h1 hq
  refine q_kn (k' := 96) (n' := 3981) rfl rfl ?_
  refine q_aload_n 264 rfl rfl dL_law_263 ?_
  refine q_callV (As := []) (rest := [.int x]) lL_30 h7 rfl 77 (by rw [e1]; exact t_77) rfl rfl rfl (Nat.le_of_ble_eq_true rfl) dL_law_264 ?_
  intro v' h2 hq2
  obtain ⟨rfl, N', L', G', nm', nw', dn', dm', c', rfl, hw⟩ := hn v' h2 hq2
  refine q_kn (k' := 96) (n' := 3981) rfl rfl ?_
  refine q_icmp_same 1222 rfl dL_law_267 ?_
  exact hJ _ _ _ _ _ _ _ _ hw
theorem law_c4 (hi : i + 4 < q_xl Γ) (hl : q_xl Γ < 2147483648) (h : IW ad G N nm nw dn dm c) (hJ : ∀ N' L' G' nm' nw' dn' dm' c', IW ad G' N' nm' nw' dn' dm' c' → q_R Γ (mL y) room_1 Z 96 3981 1222 (lvL Γ ad i) [] (LT ad, N', L', G')) : q_R Γ (mL y) room_1 Z 96 3981 272 (lvL Γ ad i) [] (LT ad, N, L, G) := by
  obtain ⟨Q6, h6, hall⟩ := pr_rule (Γ := Γ) (L := L) h (q_xs_ok Γ (i + 1)).1
  refine q_aload_n 273 rfl rfl dL_law_272 ?_
  refine q_aload_n 274 rfl rfl dL_law_273 ?_
  refine q_iload_n 275 rfl rfl dL_law_274 ?_
  refine q_iconst 276 rfl 1 (by decide +kernel) dL_law_275 ?_
  refine q_iadd 277 rfl dL_law_276 ?_
  refine q_sld 278 rfl (by omega) hl dL_law_277 ?_
  refine q_callV (As := [.int (nI (q_xs Γ (i + 1)))]) (rest := []) lL_31 h6 rfl 0 t_0 rfl rfl rfl (Nat.le_of_ble_eq_true rfl) dL_law_278 ?_
  intro v h1 hq
  obtain ⟨e1, ⟨x, rfl⟩, Q7, h7, hn⟩ := hall v h1 hq
  refine q_kn (k' := 96) (n' := 3981) rfl rfl ?_
  refine q_aload_n 282 rfl rfl dL_law_281 ?_
  refine q_aload_n 283 rfl rfl dL_law_282 ?_
  refine q_iload_n 284 rfl rfl dL_law_283 ?_
  refine q_iconst 285 rfl 1 (by decide +kernel) dL_law_284 ?_
  refine q_iadd 286 rfl dL_law_285 ?_
  refine q_sld 287 rfl (by omega) hl dL_law_286 ?_
  refine q_callV (As := [.int (nI (q_xs Γ (i + 1)))]) (rest := [.int x]) lL_34 h7 rfl 77 (by rw [e1]; exact t_77) rfl rfl rfl (Nat.le_of_ble_eq_true rfl) dL_law_287 ?_
  intro v' h2 hq2
  obtain ⟨rfl, N', L', G', nm', nw', dn', dm', c', rfl, hw⟩ := hn v' h2 hq2
  refine q_kn (k' := 96) (n' := 3981) rfl rfl ?_
  refine q_icmp_same 1222 rfl dL_law_290 ?_
  exact hJ _ _ _ _ _ _ _ _ hw
theorem law_c5 (hi : i + 4 < q_xl Γ) (hl : q_xl Γ < 2147483648) (h : IW ad G N nm nw dn dm c) (hJ : ∀ N' L' G' nm' nw' dn' dm' c', IW ad G' N' nm' nw' dn' dm' c' → q_R Γ (mL y) room_1 Z 96 3981 1222 (lvL Γ ad i) [] (LT ad, N', L', G')) : q_R Γ (mL y) room_1 Z 96 3981 295 (lvL Γ ad i) [] (LT ad, N, L, G) := by
  obtain ⟨Q6, h6, hall⟩ := pr_name (Γ := Γ) (L := L) h (q_xs_ok Γ (i + 1)).1 (q_xs_ok Γ (i + 2)).1
  refine q_aload_n 296 rfl rfl dL_law_295 ?_
  refine q_aload_n 297 rfl rfl dL_law_296 ?_
  refine q_iload_n 298 rfl rfl dL_law_297 ?_
  refine q_iconst 299 rfl 1 (by decide +kernel) dL_law_298 ?_
  refine q_iadd 300 rfl dL_law_299 ?_
  refine q_sld 301 rfl (by omega) hl dL_law_300 ?_
  refine q_aload_n 302 rfl rfl dL_law_301 ?_
  refine q_iload_n 303 rfl rfl dL_law_302 ?_
  refine q_iconst 304 rfl 2 (by decide +kernel) dL_law_303 ?_
  refine q_iadd 305 rfl dL_law_304 ?_
  refine q_sld 306 rfl (by omega) hl dL_law_305 ?_
  refine q_callV (As := [.int (nI (q_xs Γ (i + 1))), .int (nI (q_xs Γ (i + 2)))]) (rest := []) lL_35 h6 rfl 0 t_0 rfl rfl rfl (Nat.le_of_ble_eq_true rfl) dL_law_306 ?_
  intro v h1 hq
  obtain ⟨e1, ⟨x, rfl⟩, Q7, h7, hn⟩ := hall v h1 hq
  refine q_kn (k' := 96) (n' := 3981) rfl rfl ?_
  refine q_aload_n 310 rfl rfl dL_law_309 ?_
  refine q_aload_n 311 rfl rfl dL_law_310 ?_
  refine q_iload_n 312 rfl rfl dL_law_311 ?_
  refine q_iconst 313 rfl 1 (by decide +kernel) dL_law_312 ?_
  refine q_iadd 314 rfl dL_law_313 ?_
  refine q_sld 315 rfl (by omega) hl dL_law_314 ?_
  refine q_aload_n 316 rfl rfl dL_law_315 ?_
  refine q_iload_n 317 rfl rfl dL_law_316 ?_
  refine q_iconst 318 rfl 2 (by decide +kernel) dL_law_317 ?_
  refine q_iadd 319 rfl dL_law_318 ?_
  refine q_sld 320 rfl (by omega) hl dL_law_319 ?_
  refine q_callV (As := [.int (nI (q_xs Γ (i + 1))), .int (nI (q_xs Γ (i + 2)))]) (rest := [.int x]) lL_39 h7 rfl 77 (by rw [e1]; exact t_77) rfl rfl rfl (Nat.le_of_ble_eq_true rfl) dL_law_320 ?_
  intro v' h2 hq2
  obtain ⟨rfl, N', L', G', nm', nw', dn', dm', c', rfl, hw⟩ := hn v' h2 hq2
  refine q_kn (k' := 96) (n' := 3981) rfl rfl ?_
  refine q_icmp_same 1222 rfl dL_law_323 ?_
  exact hJ _ _ _ _ _ _ _ _ hw
theorem law_c6 (hi : i + 4 < q_xl Γ) (hl : q_xl Γ < 2147483648) (h : IW ad G N nm nw dn dm c) (hJ : ∀ N' L' G' nm' nw' dn' dm' c', IW ad G' N' nm' nw' dn' dm' c' → q_R Γ (mL y) room_1 Z 96 3981 1222 (lvL Γ ad i) [] (LT ad, N', L', G')) : q_R Γ (mL y) room_1 Z 96 3981 328 (lvL Γ ad i) [] (LT ad, N, L, G) := by
  obtain ⟨Q6, h6, hall⟩ := pr_wrote (Γ := Γ) (L := L) h (q_xs_ok Γ (i + 1)).1
  refine q_aload_n 329 rfl rfl dL_law_328 ?_
  refine q_aload_n 330 rfl rfl dL_law_329 ?_
  refine q_iload_n 331 rfl rfl dL_law_330 ?_
  refine q_iconst 332 rfl 1 (by decide +kernel) dL_law_331 ?_
  refine q_iadd 333 rfl dL_law_332 ?_
  refine q_sld 334 rfl (by omega) hl dL_law_333 ?_
  refine q_callV (As := [.int (nI (q_xs Γ (i + 1)))]) (rest := []) lL_40 h6 rfl 0 t_0 rfl rfl rfl (Nat.le_of_ble_eq_true rfl) dL_law_334 ?_
  intro v h1 hq
  obtain ⟨e1, ⟨x, rfl⟩, Q7, h7, hn⟩ := hall v h1 hq
  refine q_kn (k' := 96) (n' := 3981) rfl rfl ?_
  refine q_aload_n 338 rfl rfl dL_law_337 ?_
  refine q_aload_n 339 rfl rfl dL_law_338 ?_
  refine q_iload_n 340 rfl rfl dL_law_339 ?_
  refine q_iconst 341 rfl 1 (by decide +kernel) dL_law_340 ?_
  refine q_iadd 342 rfl dL_law_341 ?_
  refine q_sld 343 rfl (by omega) hl dL_law_342 ?_
  refine q_callV (As := [.int (nI (q_xs Γ (i + 1)))]) (rest := [.int x]) lL_43 h7 rfl 77 (by rw [e1]; exact t_77) rfl rfl rfl (Nat.le_of_ble_eq_true rfl) dL_law_343 ?_
  intro v' h2 hq2
  obtain ⟨rfl, N', L', G', nm', nw', dn', dm', c', rfl, hw⟩ := hn v' h2 hq2
  refine q_kn (k' := 96) (n' := 3981) rfl rfl ?_
  refine q_icmp_same 1222 rfl dL_law_346 ?_
  exact hJ _ _ _ _ _ _ _ _ hw
theorem law_c7 (hi : i + 4 < q_xl Γ) (hl : q_xl Γ < 2147483648) (h : IW ad G N nm nw dn dm c) (hJ : ∀ N' L' G' nm' nw' dn' dm' c', IW ad G' N' nm' nw' dn' dm' c' → q_R Γ (mL y) room_1 Z 96 3981 1222 (lvL Γ ad i) [] (LT ad, N', L', G')) : q_R Γ (mL y) room_1 Z 96 3981 351 (lvL Γ ad i) [] (LT ad, N, L, G) := by
  obtain ⟨Q6, h6, hall⟩ := pr_pair (Γ := Γ) (L := L) h (q_xs_ok Γ (i + 1)).1
  refine q_aload_n 352 rfl rfl dL_law_351 ?_
  refine q_aload_n 353 rfl rfl dL_law_352 ?_
  refine q_iload_n 354 rfl rfl dL_law_353 ?_
  refine q_iconst 355 rfl 1 (by decide +kernel) dL_law_354 ?_
  refine q_iadd 356 rfl dL_law_355 ?_
  refine q_sld 357 rfl (by omega) hl dL_law_356 ?_
  refine q_callV (As := [.int (nI (q_xs Γ (i + 1)))]) (rest := []) lL_44 h6 rfl 0 t_0 rfl rfl rfl (Nat.le_of_ble_eq_true rfl) dL_law_357 ?_
  intro v h1 hq
  obtain ⟨e1, ⟨x, rfl⟩, Q7, h7, hn⟩ := hall v h1 hq
  refine q_kn (k' := 96) (n' := 3981) rfl rfl ?_
  refine q_aload_n 361 rfl rfl dL_law_360 ?_
  refine q_aload_n 362 rfl rfl dL_law_361 ?_
  refine q_iload_n 363 rfl rfl dL_law_362 ?_
  refine q_iconst 364 rfl 1 (by decide +kernel) dL_law_363 ?_
  refine q_iadd 365 rfl dL_law_364 ?_
  refine q_sld 366 rfl (by omega) hl dL_law_365 ?_
  refine q_callV (As := [.int (nI (q_xs Γ (i + 1)))]) (rest := [.int x]) lL_47 h7 rfl 77 (by rw [e1]; exact t_77) rfl rfl rfl (Nat.le_of_ble_eq_true rfl) dL_law_366 ?_
  intro v' h2 hq2
  obtain ⟨rfl, N', L', G', nm', nw', dn', dm', c', rfl, hw⟩ := hn v' h2 hq2
  refine q_kn (k' := 96) (n' := 3981) rfl rfl ?_
  refine q_icmp_same 1222 rfl dL_law_369 ?_
  exact hJ _ _ _ _ _ _ _ _ hw
theorem law_c8 (hi : i + 4 < q_xl Γ) (hl : q_xl Γ < 2147483648) (h : IW ad G N nm nw dn dm c) (hJ : ∀ N' L' G' nm' nw' dn' dm' c', IW ad G' N' nm' nw' dn' dm' c' → q_R Γ (mL y) room_1 Z 96 3981 1222 (lvL Γ ad i) [] (LT ad, N', L', G')) : q_R Γ (mL y) room_1 Z 96 3981 374 (lvL Γ ad i) [] (LT ad, N, L, G) := by
  obtain ⟨Q6, h6, hall⟩ := pr_odd (Γ := Γ) (L := L) h (q_xs_ok Γ (i + 1)).1 (q_xs_ok Γ (i + 2)).1
  refine q_aload_n 375 rfl rfl dL_law_374 ?_
  refine q_aload_n 376 rfl rfl dL_law_375 ?_
  refine q_iload_n 377 rfl rfl dL_law_376 ?_
  refine q_iconst 378 rfl 1 (by decide +kernel) dL_law_377 ?_
  refine q_iadd 379 rfl dL_law_378 ?_
  refine q_sld 380 rfl (by omega) hl dL_law_379 ?_
  refine q_aload_n 381 rfl rfl dL_law_380 ?_
  refine q_iload_n 382 rfl rfl dL_law_381 ?_
  refine q_iconst 383 rfl 2 (by decide +kernel) dL_law_382 ?_
  refine q_iadd 384 rfl dL_law_383 ?_
  refine q_sld 385 rfl (by omega) hl dL_law_384 ?_
  refine q_callV (As := [.int (nI (q_xs Γ (i + 1))), .int (nI (q_xs Γ (i + 2)))]) (rest := []) lL_48 h6 rfl 0 t_0 rfl rfl rfl (Nat.le_of_ble_eq_true rfl) dL_law_385 ?_
  intro v h1 hq
  obtain ⟨e1, ⟨x, rfl⟩, Q7, h7, hn⟩ := hall v h1 hq
  refine q_kn (k' := 96) (n' := 3981) rfl rfl ?_
  refine q_aload_n 389 rfl rfl dL_law_388 ?_
  refine q_aload_n 390 rfl rfl dL_law_389 ?_
  refine q_iload_n 391 rfl rfl dL_law_390 ?_
  refine q_iconst 392 rfl 1 (by decide +kernel) dL_law_391 ?_
  refine q_iadd 393 rfl dL_law_392 ?_
  refine q_sld 394 rfl (by omega) hl dL_law_393 ?_
  refine q_aload_n 395 rfl rfl dL_law_394 ?_
  refine q_iload_n 396 rfl rfl dL_law_395 ?_
  refine q_iconst 397 rfl 2 (by decide +kernel) dL_law_396 ?_
  refine q_iadd 398 rfl dL_law_397 ?_
  refine q_sld 399 rfl (by omega) hl dL_law_398 ?_
  refine q_callV (As := [.int (nI (q_xs Γ (i + 1))), .int (nI (q_xs Γ (i + 2)))]) (rest := [.int x]) lL_51 h7 rfl 77 (by rw [e1]; exact t_77) rfl rfl rfl (Nat.le_of_ble_eq_true rfl) dL_law_399 ?_
  intro v' h2 hq2
  obtain ⟨rfl, N', L', G', nm', nw', dn', dm', c', rfl, hw⟩ := hn v' h2 hq2
  refine q_kn (k' := 96) (n' := 3981) rfl rfl ?_
  refine q_icmp_same 1222 rfl dL_law_402 ?_
  exact hJ _ _ _ _ _ _ _ _ hw
theorem law_c9 (hi : i + 4 < q_xl Γ) (hl : q_xl Γ < 2147483648) (h : IW ad G N nm nw dn dm c) (hJ : ∀ N' L' G' nm' nw' dn' dm' c', IW ad G' N' nm' nw' dn' dm' c' → q_R Γ (mL y) room_1 Z 96 3981 1222 (lvL Γ ad i) [] (LT ad, N', L', G')) : q_R Γ (mL y) room_1 Z 96 3981 407 (lvL Γ ad i) [] (LT ad, N, L, G) := by
  obtain ⟨Q6, h6, hall⟩ := pr_law (Γ := Γ) (L := L) h (q_xs_ok Γ (i + 1)).1 (q_xs_ok Γ (i + 2)).1
  refine q_aload_n 408 rfl rfl dL_law_407 ?_
  refine q_aload_n 409 rfl rfl dL_law_408 ?_
  refine q_iload_n 410 rfl rfl dL_law_409 ?_
  refine q_iconst 411 rfl 1 (by decide +kernel) dL_law_410 ?_
  refine q_iadd 412 rfl dL_law_411 ?_
  refine q_sld 413 rfl (by omega) hl dL_law_412 ?_
  refine q_aload_n 414 rfl rfl dL_law_413 ?_
  refine q_iload_n 415 rfl rfl dL_law_414 ?_
  refine q_iconst 416 rfl 2 (by decide +kernel) dL_law_415 ?_
  refine q_iadd 417 rfl dL_law_416 ?_
  refine q_sld 418 rfl (by omega) hl dL_law_417 ?_
  refine q_callV (As := [.int (nI (q_xs Γ (i + 1))), .int (nI (q_xs Γ (i + 2)))]) (rest := []) lL_52 h6 rfl 0 t_0 rfl rfl rfl (Nat.le_of_ble_eq_true rfl) dL_law_418 ?_
  intro v h1 hq
  obtain ⟨e1, ⟨x, rfl⟩, Q7, h7, hn⟩ := hall v h1 hq
  refine q_kn (k' := 96) (n' := 3981) rfl rfl ?_
  refine q_aload_n 422 rfl rfl dL_law_421 ?_
  refine q_aload_n 423 rfl rfl dL_law_422 ?_
  refine q_iload_n 424 rfl rfl dL_law_423 ?_
  refine q_iconst 425 rfl 1 (by decide +kernel) dL_law_424 ?_
  refine q_iadd 426 rfl dL_law_425 ?_
  refine q_sld 427 rfl (by omega) hl dL_law_426 ?_
  refine q_aload_n 428 rfl rfl dL_law_427 ?_
  refine q_iload_n 429 rfl rfl dL_law_428 ?_
  refine q_iconst 430 rfl 2 (by decide +kernel) dL_law_429 ?_
  refine q_iadd 431 rfl dL_law_430 ?_
  refine q_sld 432 rfl (by omega) hl dL_law_431 ?_
  refine q_callV (As := [.int (nI (q_xs Γ (i + 1))), .int (nI (q_xs Γ (i + 2)))]) (rest := [.int x]) lL_55 h7 rfl 77 (by rw [e1]; exact t_77) rfl rfl rfl (Nat.le_of_ble_eq_true rfl) dL_law_432 ?_
  intro v' h2 hq2
  obtain ⟨rfl, N', L', G', nm', nw', dn', dm', c', rfl, hw⟩ := hn v' h2 hq2
  refine q_kn (k' := 96) (n' := 3981) rfl rfl ?_
  refine q_icmp_same 1222 rfl dL_law_435 ?_
  exact hJ _ _ _ _ _ _ _ _ hw
theorem law_c10 (hi : i + 4 < q_xl Γ) (hl : q_xl Γ < 2147483648) (h : IW ad G N nm nw dn dm c) (hJ : ∀ N' L' G' nm' nw' dn' dm' c', IW ad G' N' nm' nw' dn' dm' c' → q_R Γ (mL y) room_1 Z 96 3981 1222 (lvL Γ ad i) [] (LT ad, N', L', G')) : q_R Γ (mL y) room_1 Z 96 3981 440 (lvL Γ ad i) [] (LT ad, N, L, G) := by
  obtain ⟨Q6, h6, hall⟩ := pr_mix (Γ := Γ) (L := L) h (q_xs_ok Γ (i + 1)).1 (q_xs_ok Γ (i + 2)).1
  refine q_aload_n 441 rfl rfl dL_law_440 ?_
  refine q_aload_n 442 rfl rfl dL_law_441 ?_
  refine q_iload_n 443 rfl rfl dL_law_442 ?_
  refine q_iconst 444 rfl 1 (by decide +kernel) dL_law_443 ?_
  refine q_iadd 445 rfl dL_law_444 ?_
  refine q_sld 446 rfl (by omega) hl dL_law_445 ?_
  refine q_aload_n 447 rfl rfl dL_law_446 ?_
  refine q_iload_n 448 rfl rfl dL_law_447 ?_
  refine q_iconst 449 rfl 2 (by decide +kernel) dL_law_448 ?_
  refine q_iadd 450 rfl dL_law_449 ?_
  refine q_sld 451 rfl (by omega) hl dL_law_450 ?_
  refine q_callV (As := [.int (nI (q_xs Γ (i + 1))), .int (nI (q_xs Γ (i + 2)))]) (rest := []) lL_56 h6 rfl 0 t_0 rfl rfl rfl (Nat.le_of_ble_eq_true rfl) dL_law_451 ?_
  intro v h1 hq
  obtain ⟨e1, ⟨x, rfl⟩, Q7, h7, hn⟩ := hall v h1 hq
  refine q_kn (k' := 96) (n' := 3981) rfl rfl ?_
  refine q_aload_n 455 rfl rfl dL_law_454 ?_
  refine q_aload_n 456 rfl rfl dL_law_455 ?_
  refine q_iload_n 457 rfl rfl dL_law_456 ?_
  refine q_iconst 458 rfl 1 (by decide +kernel) dL_law_457 ?_
  refine q_iadd 459 rfl dL_law_458 ?_
  refine q_sld 460 rfl (by omega) hl dL_law_459 ?_
  refine q_aload_n 461 rfl rfl dL_law_460 ?_
  refine q_iload_n 462 rfl rfl dL_law_461 ?_
  refine q_iconst 463 rfl 2 (by decide +kernel) dL_law_462 ?_
  refine q_iadd 464 rfl dL_law_463 ?_
  refine q_sld 465 rfl (by omega) hl dL_law_464 ?_
  refine q_callV (As := [.int (nI (q_xs Γ (i + 1))), .int (nI (q_xs Γ (i + 2)))]) (rest := [.int x]) lL_59 h7 rfl 77 (by rw [e1]; exact t_77) rfl rfl rfl (Nat.le_of_ble_eq_true rfl) dL_law_465 ?_
  intro v' h2 hq2
  obtain ⟨rfl, N', L', G', nm', nw', dn', dm', c', rfl, hw⟩ := hn v' h2 hq2
  refine q_kn (k' := 96) (n' := 3981) rfl rfl ?_
  refine q_icmp_same 1222 rfl dL_law_468 ?_
  exact hJ _ _ _ _ _ _ _ _ hw
theorem law_c11 (hi : i + 4 < q_xl Γ) (hl : q_xl Γ < 2147483648) (h : IW ad G N nm nw dn dm c) (hJ : ∀ N' L' G' nm' nw' dn' dm' c', IW ad G' N' nm' nw' dn' dm' c' → q_R Γ (mL y) room_1 Z 96 3981 1222 (lvL Γ ad i) [] (LT ad, N', L', G')) : q_R Γ (mL y) room_1 Z 96 3981 473 (lvL Γ ad i) [] (LT ad, N, L, G) := by
  obtain ⟨Q6, h6, hall⟩ := pr_part (Γ := Γ) (L := L) h (q_xs_ok Γ (i + 1)).1
  refine q_aload_n 474 rfl rfl dL_law_473 ?_
  refine q_aload_n 475 rfl rfl dL_law_474 ?_
  refine q_iload_n 476 rfl rfl dL_law_475 ?_
  refine q_iconst 477 rfl 1 (by decide +kernel) dL_law_476 ?_
  refine q_iadd 478 rfl dL_law_477 ?_
  refine q_sld 479 rfl (by omega) hl dL_law_478 ?_
  refine q_callV (As := [.int (nI (q_xs Γ (i + 1)))]) (rest := []) lL_60 h6 rfl 0 t_0 rfl rfl rfl (Nat.le_of_ble_eq_true rfl) dL_law_479 ?_
  intro v h1 hq
  obtain ⟨e1, ⟨x, rfl⟩, Q7, h7, hn⟩ := hall v h1 hq
  refine q_kn (k' := 96) (n' := 3981) rfl rfl ?_
  refine q_aload_n 483 rfl rfl dL_law_482 ?_
  refine q_aload_n 484 rfl rfl dL_law_483 ?_
  refine q_iload_n 485 rfl rfl dL_law_484 ?_
  refine q_iconst 486 rfl 1 (by decide +kernel) dL_law_485 ?_
  refine q_iadd 487 rfl dL_law_486 ?_
  refine q_sld 488 rfl (by omega) hl dL_law_487 ?_
  refine q_callV (As := [.int (nI (q_xs Γ (i + 1)))]) (rest := [.int x]) lL_63 h7 rfl 77 (by rw [e1]; exact t_77) rfl rfl rfl (Nat.le_of_ble_eq_true rfl) dL_law_488 ?_
  intro v' h2 hq2
  obtain ⟨rfl, N', L', G', nm', nw', dn', dm', c', rfl, hw⟩ := hn v' h2 hq2
  refine q_kn (k' := 96) (n' := 3981) rfl rfl ?_
  refine q_icmp_same 1222 rfl dL_law_491 ?_
  exact hJ _ _ _ _ _ _ _ _ hw
theorem law_c12 (hi : i + 4 < q_xl Γ) (hl : q_xl Γ < 2147483648) (h : IW ad G N nm nw dn dm c) (hJ : ∀ N' L' G' nm' nw' dn' dm' c', IW ad G' N' nm' nw' dn' dm' c' → q_R Γ (mL y) room_1 Z 96 3981 1222 (lvL Γ ad i) [] (LT ad, N', L', G')) : q_R Γ (mL y) room_1 Z 96 3981 496 (lvL Γ ad i) [] (LT ad, N, L, G) := by
  obtain ⟨Q6, h6, hall⟩ := pr_near (Γ := Γ) (L := L) h (q_xs_ok Γ (i + 1)).1 (q_xs_ok Γ (i + 2)).1
  refine q_aload_n 497 rfl rfl dL_law_496 ?_
  refine q_aload_n 498 rfl rfl dL_law_497 ?_
  refine q_iload_n 499 rfl rfl dL_law_498 ?_
  refine q_iconst 500 rfl 1 (by decide +kernel) dL_law_499 ?_
  refine q_iadd 501 rfl dL_law_500 ?_
  refine q_sld 502 rfl (by omega) hl dL_law_501 ?_
  refine q_aload_n 503 rfl rfl dL_law_502 ?_
  refine q_iload_n 504 rfl rfl dL_law_503 ?_
  refine q_iconst 505 rfl 2 (by decide +kernel) dL_law_504 ?_
  refine q_iadd 506 rfl dL_law_505 ?_
  refine q_sld 507 rfl (by omega) hl dL_law_506 ?_
  refine q_callV (As := [.int (nI (q_xs Γ (i + 1))), .int (nI (q_xs Γ (i + 2)))]) (rest := []) lL_64 h6 rfl 0 t_0 rfl rfl rfl (Nat.le_of_ble_eq_true rfl) dL_law_507 ?_
  intro v h1 hq
  obtain ⟨e1, ⟨x, rfl⟩, Q7, h7, hn⟩ := hall v h1 hq
  refine q_kn (k' := 96) (n' := 3981) rfl rfl ?_
  refine q_aload_n 511 rfl rfl dL_law_510 ?_
  refine q_aload_n 512 rfl rfl dL_law_511 ?_
  refine q_iload_n 513 rfl rfl dL_law_512 ?_
  refine q_iconst 514 rfl 1 (by decide +kernel) dL_law_513 ?_
  refine q_iadd 515 rfl dL_law_514 ?_
  refine q_sld 516 rfl (by omega) hl dL_law_515 ?_
  refine q_aload_n 517 rfl rfl dL_law_516 ?_
  refine q_iload_n 518 rfl rfl dL_law_517 ?_
  refine q_iconst 519 rfl 2 (by decide +kernel) dL_law_518 ?_
  refine q_iadd 520 rfl dL_law_519 ?_
  refine q_sld 521 rfl (by omega) hl dL_law_520 ?_
  refine q_callV (As := [.int (nI (q_xs Γ (i + 1))), .int (nI (q_xs Γ (i + 2)))]) (rest := [.int x]) lL_67 h7 rfl 77 (by rw [e1]; exact t_77) rfl rfl rfl (Nat.le_of_ble_eq_true rfl) dL_law_521 ?_
  intro v' h2 hq2
  obtain ⟨rfl, N', L', G', nm', nw', dn', dm', c', rfl, hw⟩ := hn v' h2 hq2
  refine q_kn (k' := 96) (n' := 3981) rfl rfl ?_
  refine q_icmp_same 1222 rfl dL_law_524 ?_
  exact hJ _ _ _ _ _ _ _ _ hw
theorem law_c13 (hi : i + 4 < q_xl Γ) (hl : q_xl Γ < 2147483648) (h : IW ad G N nm nw dn dm c) (hJ : ∀ N' L' G' nm' nw' dn' dm' c', IW ad G' N' nm' nw' dn' dm' c' → q_R Γ (mL y) room_1 Z 96 3981 1222 (lvL Γ ad i) [] (LT ad, N', L', G')) : q_R Γ (mL y) room_1 Z 96 3981 529 (lvL Γ ad i) [] (LT ad, N, L, G) := by
  obtain ⟨Q6, h6, hall⟩ := pr_guess (Γ := Γ) (L := L) h (q_xs_ok Γ (i + 1)).1 (q_xs_ok Γ (i + 2)).1
  refine q_aload_n 530 rfl rfl dL_law_529 ?_
  refine q_aload_n 531 rfl rfl dL_law_530 ?_
  refine q_iload_n 532 rfl rfl dL_law_531 ?_
  refine q_iconst 533 rfl 1 (by decide +kernel) dL_law_532 ?_
  refine q_iadd 534 rfl dL_law_533 ?_
  refine q_sld 535 rfl (by omega) hl dL_law_534 ?_
  refine q_aload_n 536 rfl rfl dL_law_535 ?_
  refine q_iload_n 537 rfl rfl dL_law_536 ?_
  refine q_iconst 538 rfl 2 (by decide +kernel) dL_law_537 ?_
  refine q_iadd 539 rfl dL_law_538 ?_
  refine q_sld 540 rfl (by omega) hl dL_law_539 ?_
  refine q_callV (As := [.int (nI (q_xs Γ (i + 1))), .int (nI (q_xs Γ (i + 2)))]) (rest := []) lL_68 h6 rfl 0 t_0 rfl rfl rfl (Nat.le_of_ble_eq_true rfl) dL_law_540 ?_
  intro v h1 hq
  obtain ⟨e1, ⟨x, rfl⟩, Q7, h7, hn⟩ := hall v h1 hq
  refine q_kn (k' := 96) (n' := 3981) rfl rfl ?_
  refine q_aload_n 544 rfl rfl dL_law_543 ?_
  refine q_aload_n 545 rfl rfl dL_law_544 ?_
  refine q_iload_n 546 rfl rfl dL_law_545 ?_
  refine q_iconst 547 rfl 1 (by decide +kernel) dL_law_546 ?_
  refine q_iadd 548 rfl dL_law_547 ?_
  refine q_sld 549 rfl (by omega) hl dL_law_548 ?_
  refine q_aload_n 550 rfl rfl dL_law_549 ?_
  refine q_iload_n 551 rfl rfl dL_law_550 ?_
  refine q_iconst 552 rfl 2 (by decide +kernel) dL_law_551 ?_
  refine q_iadd 553 rfl dL_law_552 ?_
  refine q_sld 554 rfl (by omega) hl dL_law_553 ?_
  refine q_callV (As := [.int (nI (q_xs Γ (i + 1))), .int (nI (q_xs Γ (i + 2)))]) (rest := [.int x]) lL_71 h7 rfl 77 (by rw [e1]; exact t_77) rfl rfl rfl (Nat.le_of_ble_eq_true rfl) dL_law_554 ?_
  intro v' h2 hq2
  obtain ⟨rfl, N', L', G', nm', nw', dn', dm', c', rfl, hw⟩ := hn v' h2 hq2
  refine q_kn (k' := 96) (n' := 3981) rfl rfl ?_
  refine q_icmp_same 1222 rfl dL_law_557 ?_
  exact hJ _ _ _ _ _ _ _ _ hw
theorem law_c14 (hi : i + 4 < q_xl Γ) (hl : q_xl Γ < 2147483648) (h : IW ad G N nm nw dn dm c) (hJ : ∀ N' L' G' nm' nw' dn' dm' c', IW ad G' N' nm' nw' dn' dm' c' → q_R Γ (mL y) room_1 Z 96 3981 1222 (lvL Γ ad i) [] (LT ad, N', L', G')) : q_R Γ (mL y) room_1 Z 96 3981 562 (lvL Γ ad i) [] (LT ad, N, L, G) := by
  obtain ⟨Q6, h6, hall⟩ := pr_undo (Γ := Γ) (L := L) h (q_xs_ok Γ (i + 1)).1
  refine q_aload_n 563 rfl rfl dL_law_562 ?_
  refine q_aload_n 564 rfl rfl dL_law_563 ?_
  refine q_iload_n 565 rfl rfl dL_law_564 ?_
  refine q_iconst 566 rfl 1 (by decide +kernel) dL_law_565 ?_
  refine q_iadd 567 rfl dL_law_566 ?_
  refine q_sld 568 rfl (by omega) hl dL_law_567 ?_
  refine q_callV (As := [.int (nI (q_xs Γ (i + 1)))]) (rest := []) lL_72 h6 rfl 0 t_0 rfl rfl rfl (Nat.le_of_ble_eq_true rfl) dL_law_568 ?_
  intro v h1 hq
  obtain ⟨e1, ⟨x, rfl⟩, Q7, h7, hn⟩ := hall v h1 hq
  refine q_kn (k' := 96) (n' := 3981) rfl rfl ?_
  refine q_aload_n 572 rfl rfl dL_law_571 ?_
  refine q_aload_n 573 rfl rfl dL_law_572 ?_
  refine q_iload_n 574 rfl rfl dL_law_573 ?_
  refine q_iconst 575 rfl 1 (by decide +kernel) dL_law_574 ?_
  refine q_iadd 576 rfl dL_law_575 ?_
  refine q_sld 577 rfl (by omega) hl dL_law_576 ?_
  refine q_callV (As := [.int (nI (q_xs Γ (i + 1)))]) (rest := [.int x]) lL_75 h7 rfl 77 (by rw [e1]; exact t_77) rfl rfl rfl (Nat.le_of_ble_eq_true rfl) dL_law_577 ?_
  intro v' h2 hq2
  obtain ⟨rfl, N', L', G', nm', nw', dn', dm', c', rfl, hw⟩ := hn v' h2 hq2
  refine q_kn (k' := 96) (n' := 3981) rfl rfl ?_
  refine q_icmp_same 1222 rfl dL_law_580 ?_
  exact hJ _ _ _ _ _ _ _ _ hw
theorem law_c15 (hi : i + 4 < q_xl Γ) (hl : q_xl Γ < 2147483648) (h : IW ad G N nm nw dn dm c) (hJ : ∀ N' L' G' nm' nw' dn' dm' c', IW ad G' N' nm' nw' dn' dm' c' → q_R Γ (mL y) room_1 Z 96 3981 1222 (lvL Γ ad i) [] (LT ad, N', L', G')) : q_R Γ (mL y) room_1 Z 96 3981 585 (lvL Γ ad i) [] (LT ad, N, L, G) := by
  by_cases hz : q_xs Γ (i + 3) = 0
  · obtain ⟨Q6, h6, hall⟩ := pr_hear (Γ := Γ) (L := L) h (q_xs_ok Γ (i + 1)).1 (q_xs_ok Γ (i + 2)).1 (show 0 < 4294967296 by omega)
    refine q_aload_n 586 rfl rfl dL_law_585 ?_
    refine q_aload_n 587 rfl rfl dL_law_586 ?_
    refine q_iload_n 588 rfl rfl dL_law_587 ?_
    refine q_iconst 589 rfl 1 (by decide +kernel) dL_law_588 ?_
    refine q_iadd 590 rfl dL_law_589 ?_
    refine q_sld 591 rfl (by omega) hl dL_law_590 ?_
    refine q_aload_n 592 rfl rfl dL_law_591 ?_
    refine q_iload_n 593 rfl rfl dL_law_592 ?_
    refine q_iconst 594 rfl 2 (by decide +kernel) dL_law_593 ?_
    refine q_iadd 595 rfl dL_law_594 ?_
    refine q_sld 596 rfl (by omega) hl dL_law_595 ?_
    refine q_aload_n 597 rfl rfl dL_law_596 ?_
    refine q_iload_n 598 rfl rfl dL_law_597 ?_
    refine q_iconst 599 rfl 3 (by decide +kernel) dL_law_598 ?_
    refine q_iadd 600 rfl dL_law_599 ?_
    refine q_sld 601 rfl (by omega) hl dL_law_600 ?_
    refine q_if_eq 604 rfl 608 rfl (q_xs_ok Γ _).1 dL_law_601 (fun _ => ?_) (fun q => absurd hz q)
    refine q_iconst 609 rfl 0 (by decide +kernel) dL_law_608 ?_
    refine q_callV (As := [.int (nI (q_xs Γ (i + 1))), .int (nI (q_xs Γ (i + 2))), .int (nI 0)]) (rest := []) lL_76 h6 rfl 0 t_0 rfl rfl rfl (Nat.le_of_ble_eq_true rfl) dL_law_609 ?_
    intro v h1 hq
    obtain ⟨e1, ⟨x, rfl⟩, Q7, h7, hn⟩ := hall v h1 hq
    refine q_kn (k' := 96) (n' := 3981) rfl rfl ?_
    refine q_aload_n 613 rfl rfl dL_law_612 ?_
    refine q_aload_n 614 rfl rfl dL_law_613 ?_
    refine q_iload_n 615 rfl rfl dL_law_614 ?_
    refine q_iconst 616 rfl 1 (by decide +kernel) dL_law_615 ?_
    refine q_iadd 617 rfl dL_law_616 ?_
    refine q_sld 618 rfl (by omega) hl dL_law_617 ?_
    refine q_aload_n 619 rfl rfl dL_law_618 ?_
    refine q_iload_n 620 rfl rfl dL_law_619 ?_
    refine q_iconst 621 rfl 2 (by decide +kernel) dL_law_620 ?_
    refine q_iadd 622 rfl dL_law_621 ?_
    refine q_sld 623 rfl (by omega) hl dL_law_622 ?_
    refine q_aload_n 624 rfl rfl dL_law_623 ?_
    refine q_iload_n 625 rfl rfl dL_law_624 ?_
    refine q_iconst 626 rfl 3 (by decide +kernel) dL_law_625 ?_
    refine q_iadd 627 rfl dL_law_626 ?_
    refine q_sld 628 rfl (by omega) hl dL_law_627 ?_
    refine q_if_eq 631 rfl 635 rfl (q_xs_ok Γ _).1 dL_law_628 (fun _ => ?_) (fun q => absurd hz q)
    refine q_iconst 636 rfl 0 (by decide +kernel) dL_law_635 ?_
    refine q_callV (As := [.int (nI (q_xs Γ (i + 1))), .int (nI (q_xs Γ (i + 2))), .int (nI 0)]) (rest := [.int x]) lL_80 h7 rfl 77 (by rw [e1]; exact t_77) rfl rfl rfl (Nat.le_of_ble_eq_true rfl) dL_law_636 ?_
    intro v' h2 hq2
    obtain ⟨rfl, N', L', G', nm', nw', dn', dm', c', rfl, hw⟩ := hn v' h2 hq2
    refine q_kn (k' := 96) (n' := 3981) rfl rfl ?_
    refine q_icmp_same 1222 rfl dL_law_639 ?_
    exact hJ _ _ _ _ _ _ _ _ hw
  · obtain ⟨Q6, h6, hall⟩ := pr_hear (Γ := Γ) (L := L) h (q_xs_ok Γ (i + 1)).1 (q_xs_ok Γ (i + 2)).1 (show 1 < 4294967296 by omega)
    refine q_aload_n 586 rfl rfl dL_law_585 ?_
    refine q_aload_n 587 rfl rfl dL_law_586 ?_
    refine q_iload_n 588 rfl rfl dL_law_587 ?_
    refine q_iconst 589 rfl 1 (by decide +kernel) dL_law_588 ?_
    refine q_iadd 590 rfl dL_law_589 ?_
    refine q_sld 591 rfl (by omega) hl dL_law_590 ?_
    refine q_aload_n 592 rfl rfl dL_law_591 ?_
    refine q_iload_n 593 rfl rfl dL_law_592 ?_
    refine q_iconst 594 rfl 2 (by decide +kernel) dL_law_593 ?_
    refine q_iadd 595 rfl dL_law_594 ?_
    refine q_sld 596 rfl (by omega) hl dL_law_595 ?_
    refine q_aload_n 597 rfl rfl dL_law_596 ?_
    refine q_iload_n 598 rfl rfl dL_law_597 ?_
    refine q_iconst 599 rfl 3 (by decide +kernel) dL_law_598 ?_
    refine q_iadd 600 rfl dL_law_599 ?_
    refine q_sld 601 rfl (by omega) hl dL_law_600 ?_
    refine q_if_eq 604 rfl 608 rfl (q_xs_ok Γ _).1 dL_law_601 (fun q => absurd q hz) (fun _ => ?_)
    refine q_iconst 605 rfl 1 (by decide +kernel) dL_law_604 ?_
    refine q_goto 609 rfl dL_law_605 ?_
    refine q_callV (As := [.int (nI (q_xs Γ (i + 1))), .int (nI (q_xs Γ (i + 2))), .int (nI 1)]) (rest := []) lL_76 h6 rfl 0 t_0 rfl rfl rfl (Nat.le_of_ble_eq_true rfl) dL_law_609 ?_
    intro v h1 hq
    obtain ⟨e1, ⟨x, rfl⟩, Q7, h7, hn⟩ := hall v h1 hq
    refine q_kn (k' := 96) (n' := 3981) rfl rfl ?_
    refine q_aload_n 613 rfl rfl dL_law_612 ?_
    refine q_aload_n 614 rfl rfl dL_law_613 ?_
    refine q_iload_n 615 rfl rfl dL_law_614 ?_
    refine q_iconst 616 rfl 1 (by decide +kernel) dL_law_615 ?_
    refine q_iadd 617 rfl dL_law_616 ?_
    refine q_sld 618 rfl (by omega) hl dL_law_617 ?_
    refine q_aload_n 619 rfl rfl dL_law_618 ?_
    refine q_iload_n 620 rfl rfl dL_law_619 ?_
    refine q_iconst 621 rfl 2 (by decide +kernel) dL_law_620 ?_
    refine q_iadd 622 rfl dL_law_621 ?_
    refine q_sld 623 rfl (by omega) hl dL_law_622 ?_
    refine q_aload_n 624 rfl rfl dL_law_623 ?_
    refine q_iload_n 625 rfl rfl dL_law_624 ?_
    refine q_iconst 626 rfl 3 (by decide +kernel) dL_law_625 ?_
    refine q_iadd 627 rfl dL_law_626 ?_
    refine q_sld 628 rfl (by omega) hl dL_law_627 ?_
    refine q_if_eq 631 rfl 635 rfl (q_xs_ok Γ _).1 dL_law_628 (fun q => absurd q hz) (fun _ => ?_)
    refine q_iconst 632 rfl 1 (by decide +kernel) dL_law_631 ?_
    refine q_goto 636 rfl dL_law_632 ?_
    refine q_callV (As := [.int (nI (q_xs Γ (i + 1))), .int (nI (q_xs Γ (i + 2))), .int (nI 1)]) (rest := [.int x]) lL_80 h7 rfl 77 (by rw [e1]; exact t_77) rfl rfl rfl (Nat.le_of_ble_eq_true rfl) dL_law_636 ?_
    intro v' h2 hq2
    obtain ⟨rfl, N', L', G', nm', nw', dn', dm', c', rfl, hw⟩ := hn v' h2 hq2
    refine q_kn (k' := 96) (n' := 3981) rfl rfl ?_
    refine q_icmp_same 1222 rfl dL_law_639 ?_
    exact hJ _ _ _ _ _ _ _ _ hw
theorem law_c16 (hi : i + 4 < q_xl Γ) (hl : q_xl Γ < 2147483648) (h : IW ad G N nm nw dn dm c) (hJ : ∀ N' L' G' nm' nw' dn' dm' c', IW ad G' N' nm' nw' dn' dm' c' → q_R Γ (mL y) room_1 Z 96 3981 1222 (lvL Γ ad i) [] (LT ad, N', L', G')) : q_R Γ (mL y) room_1 Z 96 3981 644 (lvL Γ ad i) [] (LT ad, N, L, G) := by
  obtain ⟨Q6, h6, hall⟩ := pr_forget (Γ := Γ) (L := L) h (q_xs_ok Γ (i + 1)).1
  refine q_aload_n 645 rfl rfl dL_law_644 ?_
  refine q_aload_n 646 rfl rfl dL_law_645 ?_
  refine q_iload_n 647 rfl rfl dL_law_646 ?_
  refine q_iconst 648 rfl 1 (by decide +kernel) dL_law_647 ?_
  refine q_iadd 649 rfl dL_law_648 ?_
  refine q_sld 650 rfl (by omega) hl dL_law_649 ?_
  refine q_callV (As := [.int (nI (q_xs Γ (i + 1)))]) (rest := []) lL_81 h6 rfl 0 t_0 rfl rfl rfl (Nat.le_of_ble_eq_true rfl) dL_law_650 ?_
  intro v h1 hq
  obtain ⟨e1, ⟨x, rfl⟩, Q7, h7, hn⟩ := hall v h1 hq
  refine q_kn (k' := 96) (n' := 3981) rfl rfl ?_
  refine q_aload_n 654 rfl rfl dL_law_653 ?_
  refine q_aload_n 655 rfl rfl dL_law_654 ?_
  refine q_iload_n 656 rfl rfl dL_law_655 ?_
  refine q_iconst 657 rfl 1 (by decide +kernel) dL_law_656 ?_
  refine q_iadd 658 rfl dL_law_657 ?_
  refine q_sld 659 rfl (by omega) hl dL_law_658 ?_
  refine q_callV (As := [.int (nI (q_xs Γ (i + 1)))]) (rest := [.int x]) lL_84 h7 rfl 77 (by rw [e1]; exact t_77) rfl rfl rfl (Nat.le_of_ble_eq_true rfl) dL_law_659 ?_
  intro v' h2 hq2
  obtain ⟨rfl, N', L', G', nm', nw', dn', dm', c', rfl, hw⟩ := hn v' h2 hq2
  refine q_kn (k' := 96) (n' := 3981) rfl rfl ?_
  refine q_icmp_same 1222 rfl dL_law_662 ?_
  exact hJ _ _ _ _ _ _ _ _ hw
theorem law_c17 (hi : i + 4 < q_xl Γ) (hl : q_xl Γ < 2147483648) (h : IW ad G N nm nw dn dm c) (hJ : ∀ N' L' G' nm' nw' dn' dm' c', IW ad G' N' nm' nw' dn' dm' c' → q_R Γ (mL y) room_1 Z 96 3981 1222 (lvL Γ ad i) [] (LT ad, N', L', G')) : q_R Γ (mL y) room_1 Z 96 3981 667 (lvL Γ ad i) [] (LT ad, N, L, G) := by
  obtain ⟨Q6, h6, hall⟩ := pr_can (Γ := Γ) (L := L) h 
  refine q_aload_n 668 rfl rfl dL_law_667 ?_
  refine q_callV (As := []) (rest := []) lL_85 h6 rfl 0 t_0 rfl rfl rfl (Nat.le_of_ble_eq_true rfl) dL_law_668 ?_
  intro v h1 hq
  obtain ⟨e1, ⟨x, rfl⟩, Q7, h7, hn⟩ := hall v h1 hq
  refine q_kn (k' := 96) (n' := 3981) rfl rfl ?_
  refine q_aload_n 672 rfl rfl dL_law_671 ?_
  refine q_callV (As := []) (rest := [.int x]) lL_88 h7 rfl 77 (by rw [e1]; exact t_77) rfl rfl rfl (Nat.le_of_ble_eq_true rfl) dL_law_672 ?_
  intro v' h2 hq2
  obtain ⟨rfl, N', L', G', nm', nw', dn', dm', c', rfl, hw⟩ := hn v' h2 hq2
  refine q_kn (k' := 96) (n' := 3981) rfl rfl ?_
  refine q_icmp_same 1222 rfl dL_law_675 ?_
  exact hJ _ _ _ _ _ _ _ _ hw
theorem law_c18 (hi : i + 4 < q_xl Γ) (hl : q_xl Γ < 2147483648) (h : IW ad G N nm nw dn dm c) (hJ : ∀ N' L' G' nm' nw' dn' dm' c', IW ad G' N' nm' nw' dn' dm' c' → q_R Γ (mL y) room_1 Z 96 3981 1222 (lvL Γ ad i) [] (LT ad, N', L', G')) : q_R Γ (mL y) room_1 Z 96 3981 680 (lvL Γ ad i) [] (LT ad, N, L, G) := by
  obtain ⟨Q6, h6, hall⟩ := pr_likely (Γ := Γ) (L := L) h (q_xs_ok Γ (i + 1)).1 (q_xs_ok Γ (i + 2)).1
  refine q_aload_n 681 rfl rfl dL_law_680 ?_
  refine q_aload_n 682 rfl rfl dL_law_681 ?_
  refine q_iload_n 683 rfl rfl dL_law_682 ?_
  refine q_iconst 684 rfl 1 (by decide +kernel) dL_law_683 ?_
  refine q_iadd 685 rfl dL_law_684 ?_
  refine q_sld 686 rfl (by omega) hl dL_law_685 ?_
  refine q_aload_n 687 rfl rfl dL_law_686 ?_
  refine q_iload_n 688 rfl rfl dL_law_687 ?_
  refine q_iconst 689 rfl 2 (by decide +kernel) dL_law_688 ?_
  refine q_iadd 690 rfl dL_law_689 ?_
  refine q_sld 691 rfl (by omega) hl dL_law_690 ?_
  refine q_callV (As := [.int (nI (q_xs Γ (i + 1))), .int (nI (q_xs Γ (i + 2)))]) (rest := []) lL_89 h6 rfl 0 t_0 rfl rfl rfl (Nat.le_of_ble_eq_true rfl) dL_law_691 ?_
  intro v h1 hq
  obtain ⟨e1, ⟨x, rfl⟩, Q7, h7, hn⟩ := hall v h1 hq
  refine q_kn (k' := 96) (n' := 3981) rfl rfl ?_
  refine q_aload_n 695 rfl rfl dL_law_694 ?_
  refine q_aload_n 696 rfl rfl dL_law_695 ?_
  refine q_iload_n 697 rfl rfl dL_law_696 ?_
  refine q_iconst 698 rfl 1 (by decide +kernel) dL_law_697 ?_
  refine q_iadd 699 rfl dL_law_698 ?_
  refine q_sld 700 rfl (by omega) hl dL_law_699 ?_
  refine q_aload_n 701 rfl rfl dL_law_700 ?_
  refine q_iload_n 702 rfl rfl dL_law_701 ?_
  refine q_iconst 703 rfl 2 (by decide +kernel) dL_law_702 ?_
  refine q_iadd 704 rfl dL_law_703 ?_
  refine q_sld 705 rfl (by omega) hl dL_law_704 ?_
  refine q_callV (As := [.int (nI (q_xs Γ (i + 1))), .int (nI (q_xs Γ (i + 2)))]) (rest := [.long x]) lL_93 h7 rfl 77 (by rw [e1]; exact t_77) rfl rfl rfl (Nat.le_of_ble_eq_true rfl) dL_law_705 ?_
  intro v' h2 hq2
  obtain ⟨rfl, N', L', G', nm', nw', dn', dm', c', rfl, hw⟩ := hn v' h2 hq2
  refine q_kn (k' := 96) (n' := 3981) rfl rfl ?_
  refine q_lcmp_same 709 rfl 1222 rfl dL_law_708 dL_law_709 ?_
  exact hJ _ _ _ _ _ _ _ _ hw
theorem law_c19 (hi : i + 4 < q_xl Γ) (hl : q_xl Γ < 2147483648) (h : IW ad G N nm nw dn dm c) (hJ : ∀ N' L' G' nm' nw' dn' dm' c', IW ad G' N' nm' nw' dn' dm' c' → q_R Γ (mL y) room_1 Z 96 3981 1222 (lvL Γ ad i) [] (LT ad, N', L', G')) : q_R Γ (mL y) room_1 Z 96 3981 714 (lvL Γ ad i) [] (LT ad, N, L, G) := by
  obtain ⟨Q6, h6, hall⟩ := pr_lied (Γ := Γ) (L := L) h 
  refine q_aload_n 715 rfl rfl dL_law_714 ?_
  refine q_callV (As := []) (rest := []) lL_94 h6 rfl 0 t_0 rfl rfl rfl (Nat.le_of_ble_eq_true rfl) dL_law_715 ?_
  intro v h1 hq
  obtain ⟨e1, ⟨x, rfl⟩, Q7, h7, hn⟩ := hall v h1 hq
  refine q_kn (k' := 96) (n' := 3981) rfl rfl ?_
  refine q_aload_n 719 rfl rfl dL_law_718 ?_
  refine q_callV (As := []) (rest := [.int x]) lL_97 h7 rfl 77 (by rw [e1]; exact t_77) rfl rfl rfl (Nat.le_of_ble_eq_true rfl) dL_law_719 ?_
  intro v' h2 hq2
  obtain ⟨rfl, N', L', G', nm', nw', dn', dm', c', rfl, hw⟩ := hn v' h2 hq2
  refine q_kn (k' := 96) (n' := 3981) rfl rfl ?_
  refine q_icmp_same 1222 rfl dL_law_722 ?_
  exact hJ _ _ _ _ _ _ _ _ hw
theorem law_c20 (hi : i + 4 < q_xl Γ) (hl : q_xl Γ < 2147483648) (h : IW ad G N nm nw dn dm c) (hJ : ∀ N' L' G' nm' nw' dn' dm' c', IW ad G' N' nm' nw' dn' dm' c' → q_R Γ (mL y) room_1 Z 96 3981 1222 (lvL Γ ad i) [] (LT ad, N', L', G')) : q_R Γ (mL y) room_1 Z 96 3981 727 (lvL Γ ad i) [] (LT ad, N, L, G) := by
  obtain ⟨Q6, h6, hall⟩ := pr_next (Γ := Γ) (L := L) h (q_xs_ok Γ (i + 1)).1
  refine q_aload_n 728 rfl rfl dL_law_727 ?_
  refine q_aload_n 729 rfl rfl dL_law_728 ?_
  refine q_iload_n 730 rfl rfl dL_law_729 ?_
  refine q_iconst 731 rfl 1 (by decide +kernel) dL_law_730 ?_
  refine q_iadd 732 rfl dL_law_731 ?_
  refine q_sld 733 rfl (by omega) hl dL_law_732 ?_
  refine q_callV (As := [.int (nI (q_xs Γ (i + 1)))]) (rest := []) lL_98 h6 rfl 0 t_0 rfl rfl rfl (Nat.le_of_ble_eq_true rfl) dL_law_733 ?_
  intro v h1 hq
  obtain ⟨e1, ⟨x, rfl⟩, Q7, h7, hn⟩ := hall v h1 hq
  refine q_kn (k' := 96) (n' := 3981) rfl rfl ?_
  refine q_aload_n 737 rfl rfl dL_law_736 ?_
  refine q_aload_n 738 rfl rfl dL_law_737 ?_
  refine q_iload_n 739 rfl rfl dL_law_738 ?_
  refine q_iconst 740 rfl 1 (by decide +kernel) dL_law_739 ?_
  refine q_iadd 741 rfl dL_law_740 ?_
  refine q_sld 742 rfl (by omega) hl dL_law_741 ?_
  refine q_callV (As := [.int (nI (q_xs Γ (i + 1)))]) (rest := [.int x]) lL_101 h7 rfl 77 (by rw [e1]; exact t_77) rfl rfl rfl (Nat.le_of_ble_eq_true rfl) dL_law_742 ?_
  intro v' h2 hq2
  obtain ⟨rfl, N', L', G', nm', nw', dn', dm', c', rfl, hw⟩ := hn v' h2 hq2
  refine q_kn (k' := 96) (n' := 3981) rfl rfl ?_
  refine q_icmp_same 1222 rfl dL_law_745 ?_
  exact hJ _ _ _ _ _ _ _ _ hw
theorem law_c21 (hi : i + 4 < q_xl Γ) (hl : q_xl Γ < 2147483648) (h : IW ad G N nm nw dn dm c) (hJ : ∀ N' L' G' nm' nw' dn' dm' c', IW ad G' N' nm' nw' dn' dm' c' → q_R Γ (mL y) room_1 Z 96 3981 1222 (lvL Γ ad i) [] (LT ad, N', L', G')) : q_R Γ (mL y) room_1 Z 96 3981 750 (lvL Γ ad i) [] (LT ad, N, L, G) := by
  obtain ⟨Q6, h6, hall⟩ := pr_sure (Γ := Γ) (L := L) h (q_xs_ok Γ (i + 1)).1
  refine q_aload_n 751 rfl rfl dL_law_750 ?_
  refine q_aload_n 752 rfl rfl dL_law_751 ?_
  refine q_iload_n 753 rfl rfl dL_law_752 ?_
  refine q_iconst 754 rfl 1 (by decide +kernel) dL_law_753 ?_
  refine q_iadd 755 rfl dL_law_754 ?_
  refine q_sld 756 rfl (by omega) hl dL_law_755 ?_
  refine q_callV (As := [.int (nI (q_xs Γ (i + 1)))]) (rest := []) lL_102 h6 rfl 0 t_0 rfl rfl rfl (Nat.le_of_ble_eq_true rfl) dL_law_756 ?_
  intro v h1 hq
  obtain ⟨e1, ⟨x, rfl⟩, Q7, h7, hn⟩ := hall v h1 hq
  refine q_kn (k' := 96) (n' := 3981) rfl rfl ?_
  refine q_aload_n 760 rfl rfl dL_law_759 ?_
  refine q_aload_n 761 rfl rfl dL_law_760 ?_
  refine q_iload_n 762 rfl rfl dL_law_761 ?_
  refine q_iconst 763 rfl 1 (by decide +kernel) dL_law_762 ?_
  refine q_iadd 764 rfl dL_law_763 ?_
  refine q_sld 765 rfl (by omega) hl dL_law_764 ?_
  refine q_callV (As := [.int (nI (q_xs Γ (i + 1)))]) (rest := [.int x]) lL_105 h7 rfl 77 (by rw [e1]; exact t_77) rfl rfl rfl (Nat.le_of_ble_eq_true rfl) dL_law_765 ?_
  intro v' h2 hq2
  obtain ⟨rfl, N', L', G', nm', nw', dn', dm', c', rfl, hw⟩ := hn v' h2 hq2
  refine q_kn (k' := 96) (n' := 3981) rfl rfl ?_
  refine q_icmp_same 1222 rfl dL_law_768 ?_
  exact hJ _ _ _ _ _ _ _ _ hw
theorem law_c22 (hi : i + 4 < q_xl Γ) (hl : q_xl Γ < 2147483648) (h : IW ad G N nm nw dn dm c) (hJ : ∀ N' L' G' nm' nw' dn' dm' c', IW ad G' N' nm' nw' dn' dm' c' → q_R Γ (mL y) room_1 Z 96 3981 1222 (lvL Γ ad i) [] (LT ad, N', L', G')) : q_R Γ (mL y) room_1 Z 96 3981 773 (lvL Γ ad i) [] (LT ad, N, L, G) := by
  obtain ⟨Q6, h6, hall⟩ := pr_mean (Γ := Γ) (L := L) h (q_xs_ok Γ (i + 1)).1
  refine q_aload_n 774 rfl rfl dL_law_773 ?_
  refine q_aload_n 775 rfl rfl dL_law_774 ?_
  refine q_iload_n 776 rfl rfl dL_law_775 ?_
  refine q_iconst 777 rfl 1 (by decide +kernel) dL_law_776 ?_
  refine q_iadd 778 rfl dL_law_777 ?_
  refine q_sld 779 rfl (by omega) hl dL_law_778 ?_
  refine q_callV (As := [.int (nI (q_xs Γ (i + 1)))]) (rest := []) lL_106 h6 rfl 0 t_0 rfl rfl rfl (Nat.le_of_ble_eq_true rfl) dL_law_779 ?_
  intro v h1 hq
  obtain ⟨e1, ⟨x, rfl⟩, Q7, h7, hn⟩ := hall v h1 hq
  refine q_kn (k' := 96) (n' := 3981) rfl rfl ?_
  refine q_aload_n 783 rfl rfl dL_law_782 ?_
  refine q_aload_n 784 rfl rfl dL_law_783 ?_
  refine q_iload_n 785 rfl rfl dL_law_784 ?_
  refine q_iconst 786 rfl 1 (by decide +kernel) dL_law_785 ?_
  refine q_iadd 787 rfl dL_law_786 ?_
  refine q_sld 788 rfl (by omega) hl dL_law_787 ?_
  refine q_callV (As := [.int (nI (q_xs Γ (i + 1)))]) (rest := [.long x]) lL_110 h7 rfl 77 (by rw [e1]; exact t_77) rfl rfl rfl (Nat.le_of_ble_eq_true rfl) dL_law_788 ?_
  intro v' h2 hq2
  obtain ⟨rfl, N', L', G', nm', nw', dn', dm', c', rfl, hw⟩ := hn v' h2 hq2
  refine q_kn (k' := 96) (n' := 3981) rfl rfl ?_
  refine q_lcmp_same 792 rfl 1222 rfl dL_law_791 dL_law_792 ?_
  exact hJ _ _ _ _ _ _ _ _ hw
theorem law_c23 (hi : i + 4 < q_xl Γ) (hl : q_xl Γ < 2147483648) (h : IW ad G N nm nw dn dm c) (hJ : ∀ N' L' G' nm' nw' dn' dm' c', IW ad G' N' nm' nw' dn' dm' c' → q_R Γ (mL y) room_1 Z 96 3981 1222 (lvL Γ ad i) [] (LT ad, N', L', G')) : q_R Γ (mL y) room_1 Z 96 3981 797 (lvL Γ ad i) [] (LT ad, N, L, G) := by
  obtain ⟨Q6, h6, hall⟩ := pr_best (Γ := Γ) (L := L) h (q_xs_ok Γ (i + 1)).1
  refine q_aload_n 798 rfl rfl dL_law_797 ?_
  refine q_aload_n 799 rfl rfl dL_law_798 ?_
  refine q_iload_n 800 rfl rfl dL_law_799 ?_
  refine q_iconst 801 rfl 1 (by decide +kernel) dL_law_800 ?_
  refine q_iadd 802 rfl dL_law_801 ?_
  refine q_sld 803 rfl (by omega) hl dL_law_802 ?_
  refine q_callV (As := [.int (nI (q_xs Γ (i + 1)))]) (rest := []) lL_111 h6 rfl 0 t_0 rfl rfl rfl (Nat.le_of_ble_eq_true rfl) dL_law_803 ?_
  intro v h1 hq
  obtain ⟨e1, ⟨x, rfl⟩, Q7, h7, hn⟩ := hall v h1 hq
  refine q_kn (k' := 96) (n' := 3981) rfl rfl ?_
  refine q_aload_n 807 rfl rfl dL_law_806 ?_
  refine q_aload_n 808 rfl rfl dL_law_807 ?_
  refine q_iload_n 809 rfl rfl dL_law_808 ?_
  refine q_iconst 810 rfl 1 (by decide +kernel) dL_law_809 ?_
  refine q_iadd 811 rfl dL_law_810 ?_
  refine q_sld 812 rfl (by omega) hl dL_law_811 ?_
  refine q_callV (As := [.int (nI (q_xs Γ (i + 1)))]) (rest := [.int x]) lL_114 h7 rfl 77 (by rw [e1]; exact t_77) rfl rfl rfl (Nat.le_of_ble_eq_true rfl) dL_law_812 ?_
  intro v' h2 hq2
  obtain ⟨rfl, N', L', G', nm', nw', dn', dm', c', rfl, hw⟩ := hn v' h2 hq2
  refine q_kn (k' := 96) (n' := 3981) rfl rfl ?_
  refine q_icmp_same 1222 rfl dL_law_815 ?_
  exact hJ _ _ _ _ _ _ _ _ hw
theorem law_c24 (hi : i + 4 < q_xl Γ) (hl : q_xl Γ < 2147483648) (h : IW ad G N nm nw dn dm c) (hJ : ∀ N' L' G' nm' nw' dn' dm' c', IW ad G' N' nm' nw' dn' dm' c' → q_R Γ (mL y) room_1 Z 96 3981 1222 (lvL Γ ad i) [] (LT ad, N', L', G')) : q_R Γ (mL y) room_1 Z 96 3981 820 (lvL Γ ad i) [] (LT ad, N, L, G) := by
  obtain ⟨Q6, h6, hall⟩ := pr_laws (Γ := Γ) (L := L) h (q_xs_ok Γ (i + 1)).1
  refine q_aload_n 821 rfl rfl dL_law_820 ?_
  refine q_aload_n 822 rfl rfl dL_law_821 ?_
  refine q_iload_n 823 rfl rfl dL_law_822 ?_
  refine q_iconst 824 rfl 1 (by decide +kernel) dL_law_823 ?_
  refine q_iadd 825 rfl dL_law_824 ?_
  refine q_sld 826 rfl (by omega) hl dL_law_825 ?_
  refine q_callV (As := [.int (nI (q_xs Γ (i + 1)))]) (rest := []) lL_115 h6 rfl 0 t_0 rfl rfl rfl (Nat.le_of_ble_eq_true rfl) dL_law_826 ?_
  intro v h1 hq
  obtain ⟨e1, ⟨x, rfl⟩, Q7, h7, hn⟩ := hall v h1 hq
  refine q_kn (k' := 96) (n' := 3981) rfl rfl ?_
  refine q_aload_n 830 rfl rfl dL_law_829 ?_
  refine q_aload_n 831 rfl rfl dL_law_830 ?_
  refine q_iload_n 832 rfl rfl dL_law_831 ?_
  refine q_iconst 833 rfl 1 (by decide +kernel) dL_law_832 ?_
  refine q_iadd 834 rfl dL_law_833 ?_
  refine q_sld 835 rfl (by omega) hl dL_law_834 ?_
  refine q_callV (As := [.int (nI (q_xs Γ (i + 1)))]) (rest := [.int x]) lL_118 h7 rfl 77 (by rw [e1]; exact t_77) rfl rfl rfl (Nat.le_of_ble_eq_true rfl) dL_law_835 ?_
  intro v' h2 hq2
  obtain ⟨rfl, N', L', G', nm', nw', dn', dm', c', rfl, hw⟩ := hn v' h2 hq2
  refine q_kn (k' := 96) (n' := 3981) rfl rfl ?_
  refine q_icmp_same 1222 rfl dL_law_838 ?_
  exact hJ _ _ _ _ _ _ _ _ hw
theorem law_c25 (hi : i + 4 < q_xl Γ) (hl : q_xl Γ < 2147483648) (h : IW ad G N nm nw dn dm c) (hJ : ∀ N' L' G' nm' nw' dn' dm' c', IW ad G' N' nm' nw' dn' dm' c' → q_R Γ (mL y) room_1 Z 96 3981 1222 (lvL Γ ad i) [] (LT ad, N', L', G')) : q_R Γ (mL y) room_1 Z 96 3981 843 (lvL Γ ad i) [] (LT ad, N, L, G) := by
  obtain ⟨Q6, h6, hall⟩ := pr_row (Γ := Γ) (L := L) h (q_xs_ok Γ (i + 1)).1 (q_xs_ok Γ (i + 2)).1
  refine q_aload_n 844 rfl rfl dL_law_843 ?_
  refine q_aload_n 845 rfl rfl dL_law_844 ?_
  refine q_iload_n 846 rfl rfl dL_law_845 ?_
  refine q_iconst 847 rfl 1 (by decide +kernel) dL_law_846 ?_
  refine q_iadd 848 rfl dL_law_847 ?_
  refine q_sld 849 rfl (by omega) hl dL_law_848 ?_
  refine q_aload_n 850 rfl rfl dL_law_849 ?_
  refine q_iload_n 851 rfl rfl dL_law_850 ?_
  refine q_iconst 852 rfl 2 (by decide +kernel) dL_law_851 ?_
  refine q_iadd 853 rfl dL_law_852 ?_
  refine q_sld 854 rfl (by omega) hl dL_law_853 ?_
  refine q_callV (As := [.int (nI (q_xs Γ (i + 1))), .int (nI (q_xs Γ (i + 2)))]) (rest := []) lL_119 h6 rfl 0 t_0 rfl rfl rfl (Nat.le_of_ble_eq_true rfl) dL_law_854 ?_
  intro v h1 hq
  obtain ⟨e1, ⟨x, rfl⟩, Q7, h7, hn⟩ := hall v h1 hq
  refine q_kn (k' := 96) (n' := 3981) rfl rfl ?_
  refine q_aload_n 858 rfl rfl dL_law_857 ?_
  refine q_aload_n 859 rfl rfl dL_law_858 ?_
  refine q_iload_n 860 rfl rfl dL_law_859 ?_
  refine q_iconst 861 rfl 1 (by decide +kernel) dL_law_860 ?_
  refine q_iadd 862 rfl dL_law_861 ?_
  refine q_sld 863 rfl (by omega) hl dL_law_862 ?_
  refine q_aload_n 864 rfl rfl dL_law_863 ?_
  refine q_iload_n 865 rfl rfl dL_law_864 ?_
  refine q_iconst 866 rfl 2 (by decide +kernel) dL_law_865 ?_
  refine q_iadd 867 rfl dL_law_866 ?_
  refine q_sld 868 rfl (by omega) hl dL_law_867 ?_
  refine q_callV (As := [.int (nI (q_xs Γ (i + 1))), .int (nI (q_xs Γ (i + 2)))]) (rest := [.int x]) lL_122 h7 rfl 77 (by rw [e1]; exact t_77) rfl rfl rfl (Nat.le_of_ble_eq_true rfl) dL_law_868 ?_
  intro v' h2 hq2
  obtain ⟨rfl, N', L', G', nm', nw', dn', dm', c', rfl, hw⟩ := hn v' h2 hq2
  refine q_kn (k' := 96) (n' := 3981) rfl rfl ?_
  refine q_icmp_same 1222 rfl dL_law_871 ?_
  exact hJ _ _ _ _ _ _ _ _ hw
theorem law_c26 (hi : i + 4 < q_xl Γ) (hl : q_xl Γ < 2147483648) (h : IW ad G N nm nw dn dm c) (hJ : ∀ N' L' G' nm' nw' dn' dm' c', IW ad G' N' nm' nw' dn' dm' c' → q_R Γ (mL y) room_1 Z 96 3981 1222 (lvL Γ ad i) [] (LT ad, N', L', G')) : q_R Γ (mL y) room_1 Z 96 3981 876 (lvL Γ ad i) [] (LT ad, N, L, G) := by
  obtain ⟨Q6, h6, hall⟩ := pr_twins (Γ := Γ) (L := L) h 
  refine q_aload_n 877 rfl rfl dL_law_876 ?_
  refine q_callV (As := []) (rest := []) lL_123 h6 rfl 0 t_0 rfl rfl rfl (Nat.le_of_ble_eq_true rfl) dL_law_877 ?_
  intro v h1 hq
  obtain ⟨e1, ⟨x, rfl⟩, Q7, h7, hn⟩ := hall v h1 hq
  refine q_kn (k' := 96) (n' := 3981) rfl rfl ?_
  refine q_aload_n 881 rfl rfl dL_law_880 ?_
  refine q_callV (As := []) (rest := [.int x]) lL_126 h7 rfl 77 (by rw [e1]; exact t_77) rfl rfl rfl (Nat.le_of_ble_eq_true rfl) dL_law_881 ?_
  intro v' h2 hq2
  obtain ⟨rfl, N', L', G', nm', nw', dn', dm', c', rfl, hw⟩ := hn v' h2 hq2
  refine q_kn (k' := 96) (n' := 3981) rfl rfl ?_
  refine q_icmp_same 1222 rfl dL_law_884 ?_
  exact hJ _ _ _ _ _ _ _ _ hw
theorem law_c27 (hi : i + 4 < q_xl Γ) (hl : q_xl Γ < 2147483648) (h : IW ad G N nm nw dn dm c) (hJ : ∀ N' L' G' nm' nw' dn' dm' c', IW ad G' N' nm' nw' dn' dm' c' → q_R Γ (mL y) room_1 Z 96 3981 1222 (lvL Γ ad i) [] (LT ad, N', L', G')) : q_R Γ (mL y) room_1 Z 96 3981 889 (lvL Γ ad i) [] (LT ad, N, L, G) := by
  obtain ⟨Q6, h6, hall⟩ := pr_meant (Γ := Γ) (L := L) h 
  refine q_aload_n 890 rfl rfl dL_law_889 ?_
  refine q_callV (As := []) (rest := []) lL_127 h6 rfl 0 t_0 rfl rfl rfl (Nat.le_of_ble_eq_true rfl) dL_law_890 ?_
  intro v h1 hq
  obtain ⟨e1, ⟨x, rfl⟩, Q7, h7, hn⟩ := hall v h1 hq
  refine q_kn (k' := 96) (n' := 3981) rfl rfl ?_
  refine q_aload_n 894 rfl rfl dL_law_893 ?_
  refine q_callV (As := []) (rest := [.int x]) lL_130 h7 rfl 77 (by rw [e1]; exact t_77) rfl rfl rfl (Nat.le_of_ble_eq_true rfl) dL_law_894 ?_
  intro v' h2 hq2
  obtain ⟨rfl, N', L', G', nm', nw', dn', dm', c', rfl, hw⟩ := hn v' h2 hq2
  refine q_kn (k' := 96) (n' := 3981) rfl rfl ?_
  refine q_icmp_same 1222 rfl dL_law_897 ?_
  exact hJ _ _ _ _ _ _ _ _ hw
theorem law_c28 (hi : i + 4 < q_xl Γ) (hl : q_xl Γ < 2147483648) (h : IW ad G N nm nw dn dm c) (hJ : ∀ N' L' G' nm' nw' dn' dm' c', IW ad G' N' nm' nw' dn' dm' c' → q_R Γ (mL y) room_1 Z 96 3981 1222 (lvL Γ ad i) [] (LT ad, N', L', G')) : q_R Γ (mL y) room_1 Z 96 3981 902 (lvL Γ ad i) [] (LT ad, N, L, G) := by
  obtain ⟨Q6, h6, hall⟩ := pr_slips (Γ := Γ) (L := L) h (q_xs_ok Γ (i + 1)).1
  refine q_aload_n 903 rfl rfl dL_law_902 ?_
  refine q_aload_n 904 rfl rfl dL_law_903 ?_
  refine q_iload_n 905 rfl rfl dL_law_904 ?_
  refine q_iconst 906 rfl 1 (by decide +kernel) dL_law_905 ?_
  refine q_iadd 907 rfl dL_law_906 ?_
  refine q_sld 908 rfl (by omega) hl dL_law_907 ?_
  refine q_callV (As := [.int (nI (q_xs Γ (i + 1)))]) (rest := []) lL_131 h6 rfl 0 t_0 rfl rfl rfl (Nat.le_of_ble_eq_true rfl) dL_law_908 ?_
  intro v h1 hq
  obtain ⟨e1, ⟨x, rfl⟩, Q7, h7, hn⟩ := hall v h1 hq
  refine q_kn (k' := 96) (n' := 3981) rfl rfl ?_
  refine q_aload_n 912 rfl rfl dL_law_911 ?_
  refine q_aload_n 913 rfl rfl dL_law_912 ?_
  refine q_iload_n 914 rfl rfl dL_law_913 ?_
  refine q_iconst 915 rfl 1 (by decide +kernel) dL_law_914 ?_
  refine q_iadd 916 rfl dL_law_915 ?_
  refine q_sld 917 rfl (by omega) hl dL_law_916 ?_
  refine q_callV (As := [.int (nI (q_xs Γ (i + 1)))]) (rest := [.int x]) lL_134 h7 rfl 77 (by rw [e1]; exact t_77) rfl rfl rfl (Nat.le_of_ble_eq_true rfl) dL_law_917 ?_
  intro v' h2 hq2
  obtain ⟨rfl, N', L', G', nm', nw', dn', dm', c', rfl, hw⟩ := hn v' h2 hq2
  refine q_kn (k' := 96) (n' := 3981) rfl rfl ?_
  refine q_icmp_same 1222 rfl dL_law_920 ?_
  exact hJ _ _ _ _ _ _ _ _ hw
theorem law_c29 (hi : i + 4 < q_xl Γ) (hl : q_xl Γ < 2147483648) (h : IW ad G N nm nw dn dm c) (hJ : ∀ N' L' G' nm' nw' dn' dm' c', IW ad G' N' nm' nw' dn' dm' c' → q_R Γ (mL y) room_1 Z 96 3981 1222 (lvL Γ ad i) [] (LT ad, N', L', G')) : q_R Γ (mL y) room_1 Z 96 3981 925 (lvL Γ ad i) [] (LT ad, N, L, G) := by
  obtain ⟨Q6, h6, hall⟩ := pr_more (Γ := Γ) (L := L) h (q_xs_ok Γ (i + 1)).1
  refine q_aload_n 926 rfl rfl dL_law_925 ?_
  refine q_aload_n 927 rfl rfl dL_law_926 ?_
  refine q_iload_n 928 rfl rfl dL_law_927 ?_
  refine q_iconst 929 rfl 1 (by decide +kernel) dL_law_928 ?_
  refine q_iadd 930 rfl dL_law_929 ?_
  refine q_sld 931 rfl (by omega) hl dL_law_930 ?_
  refine q_callV (As := [.int (nI (q_xs Γ (i + 1)))]) (rest := []) lL_135 h6 rfl 0 t_0 rfl rfl rfl (Nat.le_of_ble_eq_true rfl) dL_law_931 ?_
  intro v h1 hq
  obtain ⟨e1, ⟨x, rfl⟩, Q7, h7, hn⟩ := hall v h1 hq
  refine q_kn (k' := 96) (n' := 3981) rfl rfl ?_
  refine q_aload_n 935 rfl rfl dL_law_934 ?_
  refine q_aload_n 936 rfl rfl dL_law_935 ?_
  refine q_iload_n 937 rfl rfl dL_law_936 ?_
  refine q_iconst 938 rfl 1 (by decide +kernel) dL_law_937 ?_
  refine q_iadd 939 rfl dL_law_938 ?_
  refine q_sld 940 rfl (by omega) hl dL_law_939 ?_
  refine q_callV (As := [.int (nI (q_xs Γ (i + 1)))]) (rest := [.int x]) lL_138 h7 rfl 77 (by rw [e1]; exact t_77) rfl rfl rfl (Nat.le_of_ble_eq_true rfl) dL_law_940 ?_
  intro v' h2 hq2
  obtain ⟨rfl, N', L', G', nm', nw', dn', dm', c', rfl, hw⟩ := hn v' h2 hq2
  refine q_kn (k' := 96) (n' := 3981) rfl rfl ?_
  refine q_icmp_same 1222 rfl dL_law_943 ?_
  exact hJ _ _ _ _ _ _ _ _ hw
theorem law_c30 (hi : i + 4 < q_xl Γ) (hl : q_xl Γ < 2147483648) (h : IW ad G N nm nw dn dm c) (hJ : ∀ N' L' G' nm' nw' dn' dm' c', IW ad G' N' nm' nw' dn' dm' c' → q_R Γ (mL y) room_1 Z 96 3981 1222 (lvL Γ ad i) [] (LT ad, N', L', G')) : q_R Γ (mL y) room_1 Z 96 3981 948 (lvL Γ ad i) [] (LT ad, N, L, G) := by
  obtain ⟨Q6, h6, hall⟩ := pr_play (Γ := Γ) (L := L) h (q_xs_ok Γ (i + 1)).1 (q_xs_ok Γ (i + 2)).1 (q_xs_ok Γ (i + 3)).1 (q_xs_ok Γ (i + 4)).1
  refine q_aload_n 949 rfl rfl dL_law_948 ?_
  refine q_aload_n 950 rfl rfl dL_law_949 ?_
  refine q_iload_n 951 rfl rfl dL_law_950 ?_
  refine q_iconst 952 rfl 1 (by decide +kernel) dL_law_951 ?_
  refine q_iadd 953 rfl dL_law_952 ?_
  refine q_sld 954 rfl (by omega) hl dL_law_953 ?_
  refine q_aload_n 955 rfl rfl dL_law_954 ?_
  refine q_iload_n 956 rfl rfl dL_law_955 ?_
  refine q_iconst 957 rfl 2 (by decide +kernel) dL_law_956 ?_
  refine q_iadd 958 rfl dL_law_957 ?_
  refine q_sld 959 rfl (by omega) hl dL_law_958 ?_
  refine q_aload_n 960 rfl rfl dL_law_959 ?_
  refine q_iload_n 961 rfl rfl dL_law_960 ?_
  refine q_iconst 962 rfl 3 (by decide +kernel) dL_law_961 ?_
  refine q_iadd 963 rfl dL_law_962 ?_
  refine q_sld 964 rfl (by omega) hl dL_law_963 ?_
  refine q_aload_n 965 rfl rfl dL_law_964 ?_
  refine q_iload_n 966 rfl rfl dL_law_965 ?_
  refine q_iconst 967 rfl 4 (by decide +kernel) dL_law_966 ?_
  refine q_iadd 968 rfl dL_law_967 ?_
  refine q_sld 969 rfl (by omega) hl dL_law_968 ?_
  refine q_callV (As := [.int (nI (q_xs Γ (i + 1))), .int (nI (q_xs Γ (i + 2))), .int (nI (q_xs Γ (i + 3))), .int (nI (q_xs Γ (i + 4)))]) (rest := []) lL_139 h6 rfl 0 t_0 rfl rfl rfl (Nat.le_of_ble_eq_true rfl) dL_law_969 ?_
  intro v h1 hq
  obtain ⟨e1, ⟨x, rfl⟩, Q7, h7, hn⟩ := hall v h1 hq
  refine q_kn (k' := 96) (n' := 3981) rfl rfl ?_
  refine q_aload_n 973 rfl rfl dL_law_972 ?_
  refine q_aload_n 974 rfl rfl dL_law_973 ?_
  refine q_iload_n 975 rfl rfl dL_law_974 ?_
  refine q_iconst 976 rfl 1 (by decide +kernel) dL_law_975 ?_
  refine q_iadd 977 rfl dL_law_976 ?_
  refine q_sld 978 rfl (by omega) hl dL_law_977 ?_
  refine q_aload_n 979 rfl rfl dL_law_978 ?_
  refine q_iload_n 980 rfl rfl dL_law_979 ?_
  refine q_iconst 981 rfl 2 (by decide +kernel) dL_law_980 ?_
  refine q_iadd 982 rfl dL_law_981 ?_
  refine q_sld 983 rfl (by omega) hl dL_law_982 ?_
  refine q_aload_n 984 rfl rfl dL_law_983 ?_
  refine q_iload_n 985 rfl rfl dL_law_984 ?_
  refine q_iconst 986 rfl 3 (by decide +kernel) dL_law_985 ?_
  refine q_iadd 987 rfl dL_law_986 ?_
  refine q_sld 988 rfl (by omega) hl dL_law_987 ?_
  refine q_aload_n 989 rfl rfl dL_law_988 ?_
  refine q_iload_n 990 rfl rfl dL_law_989 ?_
  refine q_iconst 991 rfl 4 (by decide +kernel) dL_law_990 ?_
  refine q_iadd 992 rfl dL_law_991 ?_
  refine q_sld 993 rfl (by omega) hl dL_law_992 ?_
  refine q_callV (As := [.int (nI (q_xs Γ (i + 1))), .int (nI (q_xs Γ (i + 2))), .int (nI (q_xs Γ (i + 3))), .int (nI (q_xs Γ (i + 4)))]) (rest := [.int x]) lL_143 h7 rfl 77 (by rw [e1]; exact t_77) rfl rfl rfl (Nat.le_of_ble_eq_true rfl) dL_law_993 ?_
  intro v' h2 hq2
  obtain ⟨rfl, N', L', G', nm', nw', dn', dm', c', rfl, hw⟩ := hn v' h2 hq2
  refine q_kn (k' := 96) (n' := 3981) rfl rfl ?_
  refine q_icmp_same 1222 rfl dL_law_996 ?_
  exact hJ _ _ _ _ _ _ _ _ hw
theorem law_c31 (hi : i + 4 < q_xl Γ) (hl : q_xl Γ < 2147483648) (h : IW ad G N nm nw dn dm c) (hJ : ∀ N' L' G' nm' nw' dn' dm' c', IW ad G' N' nm' nw' dn' dm' c' → q_R Γ (mL y) room_1 Z 96 3981 1222 (lvL Γ ad i) [] (LT ad, N', L', G')) : q_R Γ (mL y) room_1 Z 96 3981 1001 (lvL Γ ad i) [] (LT ad, N, L, G) := by
  obtain ⟨Q6, h6, hall⟩ := pr_keep (Γ := Γ) (L := L) h (q_xs_ok Γ (i + 1)).1
  refine q_aload_n 1002 rfl rfl dL_law_1001 ?_
  refine q_aload_n 1003 rfl rfl dL_law_1002 ?_
  refine q_iload_n 1004 rfl rfl dL_law_1003 ?_
  refine q_iconst 1005 rfl 1 (by decide +kernel) dL_law_1004 ?_
  refine q_iadd 1006 rfl dL_law_1005 ?_
  refine q_sld 1007 rfl (by omega) hl dL_law_1006 ?_
  refine q_callV (As := [.int (nI (q_xs Γ (i + 1)))]) (rest := []) lL_144 h6 rfl 0 t_0 rfl rfl rfl (Nat.le_of_ble_eq_true rfl) dL_law_1007 ?_
  intro v h1 hq
  obtain ⟨e1, ⟨x, rfl⟩, Q7, h7, hn⟩ := hall v h1 hq
  refine q_kn (k' := 96) (n' := 3981) rfl rfl ?_
  refine q_aload_n 1011 rfl rfl dL_law_1010 ?_
  refine q_aload_n 1012 rfl rfl dL_law_1011 ?_
  refine q_iload_n 1013 rfl rfl dL_law_1012 ?_
  refine q_iconst 1014 rfl 1 (by decide +kernel) dL_law_1013 ?_
  refine q_iadd 1015 rfl dL_law_1014 ?_
  refine q_sld 1016 rfl (by omega) hl dL_law_1015 ?_
  refine q_callV (As := [.int (nI (q_xs Γ (i + 1)))]) (rest := [.int x]) lL_147 h7 rfl 77 (by rw [e1]; exact t_77) rfl rfl rfl (Nat.le_of_ble_eq_true rfl) dL_law_1016 ?_
  intro v' h2 hq2
  obtain ⟨rfl, N', L', G', nm', nw', dn', dm', c', rfl, hw⟩ := hn v' h2 hq2
  refine q_kn (k' := 96) (n' := 3981) rfl rfl ?_
  refine q_icmp_same 1222 rfl dL_law_1019 ?_
  exact hJ _ _ _ _ _ _ _ _ hw
theorem law_c32 (hi : i + 4 < q_xl Γ) (hl : q_xl Γ < 2147483648) (h : IW ad G N nm nw dn dm c) (hJ : ∀ N' L' G' nm' nw' dn' dm' c', IW ad G' N' nm' nw' dn' dm' c' → q_R Γ (mL y) room_1 Z 96 3981 1222 (lvL Γ ad i) [] (LT ad, N', L', G')) : q_R Γ (mL y) room_1 Z 96 3981 1024 (lvL Γ ad i) [] (LT ad, N, L, G) := by
  obtain ⟨Q6, h6, hall⟩ := pr_back (Γ := Γ) (L := L) h (q_xs_ok Γ (i + 1)).1
  refine q_aload_n 1025 rfl rfl dL_law_1024 ?_
  refine q_aload_n 1026 rfl rfl dL_law_1025 ?_
  refine q_iload_n 1027 rfl rfl dL_law_1026 ?_
  refine q_iconst 1028 rfl 1 (by decide +kernel) dL_law_1027 ?_
  refine q_iadd 1029 rfl dL_law_1028 ?_
  refine q_sld 1030 rfl (by omega) hl dL_law_1029 ?_
  refine q_callV (As := [.int (nI (q_xs Γ (i + 1)))]) (rest := []) lL_148 h6 rfl 0 t_0 rfl rfl rfl (Nat.le_of_ble_eq_true rfl) dL_law_1030 ?_
  intro v h1 hq
  obtain ⟨e1, ⟨x, rfl⟩, Q7, h7, hn⟩ := hall v h1 hq
  refine q_kn (k' := 96) (n' := 3981) rfl rfl ?_
  refine q_aload_n 1034 rfl rfl dL_law_1033 ?_
  refine q_aload_n 1035 rfl rfl dL_law_1034 ?_
  refine q_iload_n 1036 rfl rfl dL_law_1035 ?_
  refine q_iconst 1037 rfl 1 (by decide +kernel) dL_law_1036 ?_
  refine q_iadd 1038 rfl dL_law_1037 ?_
  refine q_sld 1039 rfl (by omega) hl dL_law_1038 ?_
  refine q_callV (As := [.int (nI (q_xs Γ (i + 1)))]) (rest := [.int x]) lL_151 h7 rfl 77 (by rw [e1]; exact t_77) rfl rfl rfl (Nat.le_of_ble_eq_true rfl) dL_law_1039 ?_
  intro v' h2 hq2
  obtain ⟨rfl, N', L', G', nm', nw', dn', dm', c', rfl, hw⟩ := hn v' h2 hq2
  refine q_kn (k' := 96) (n' := 3981) rfl rfl ?_
  refine q_icmp_same 1222 rfl dL_law_1042 ?_
  exact hJ _ _ _ _ _ _ _ _ hw
theorem law_c33 (hi : i + 4 < q_xl Γ) (hl : q_xl Γ < 2147483648) (h : IW ad G N nm nw dn dm c) (hJ : ∀ N' L' G' nm' nw' dn' dm' c', IW ad G' N' nm' nw' dn' dm' c' → q_R Γ (mL y) room_1 Z 96 3981 1222 (lvL Γ ad i) [] (LT ad, N', L', G')) : q_R Γ (mL y) room_1 Z 96 3981 1047 (lvL Γ ad i) [] (LT ad, N, L, G) := by
  obtain ⟨Q6, h6, hall⟩ := pr_sheet (Γ := Γ) (L := L) h (q_xs_ok Γ (i + 1)).1 (q_xs_ok Γ (i + 2)).1 (q_xs_ok Γ (i + 3)).1
  refine q_aload_n 1048 rfl rfl dL_law_1047 ?_
  refine q_aload_n 1049 rfl rfl dL_law_1048 ?_
  refine q_iload_n 1050 rfl rfl dL_law_1049 ?_
  refine q_iconst 1051 rfl 1 (by decide +kernel) dL_law_1050 ?_
  refine q_iadd 1052 rfl dL_law_1051 ?_
  refine q_sld 1053 rfl (by omega) hl dL_law_1052 ?_
  refine q_aload_n 1054 rfl rfl dL_law_1053 ?_
  refine q_iload_n 1055 rfl rfl dL_law_1054 ?_
  refine q_iconst 1056 rfl 2 (by decide +kernel) dL_law_1055 ?_
  refine q_iadd 1057 rfl dL_law_1056 ?_
  refine q_sld 1058 rfl (by omega) hl dL_law_1057 ?_
  refine q_aload_n 1059 rfl rfl dL_law_1058 ?_
  refine q_iload_n 1060 rfl rfl dL_law_1059 ?_
  refine q_iconst 1061 rfl 3 (by decide +kernel) dL_law_1060 ?_
  refine q_iadd 1062 rfl dL_law_1061 ?_
  refine q_sld 1063 rfl (by omega) hl dL_law_1062 ?_
  refine q_callV (As := [.int (nI (q_xs Γ (i + 1))), .int (nI (q_xs Γ (i + 2))), .int (nI (q_xs Γ (i + 3)))]) (rest := []) lL_152 h6 rfl 0 t_0 rfl rfl rfl (Nat.le_of_ble_eq_true rfl) dL_law_1063 ?_
  intro v h1 hq
  obtain ⟨e1, ⟨x, rfl⟩, Q7, h7, hn⟩ := hall v h1 hq
  refine q_kn (k' := 96) (n' := 3981) rfl rfl ?_
  refine q_aload_n 1067 rfl rfl dL_law_1066 ?_
  refine q_aload_n 1068 rfl rfl dL_law_1067 ?_
  refine q_iload_n 1069 rfl rfl dL_law_1068 ?_
  refine q_iconst 1070 rfl 1 (by decide +kernel) dL_law_1069 ?_
  refine q_iadd 1071 rfl dL_law_1070 ?_
  refine q_sld 1072 rfl (by omega) hl dL_law_1071 ?_
  refine q_aload_n 1073 rfl rfl dL_law_1072 ?_
  refine q_iload_n 1074 rfl rfl dL_law_1073 ?_
  refine q_iconst 1075 rfl 2 (by decide +kernel) dL_law_1074 ?_
  refine q_iadd 1076 rfl dL_law_1075 ?_
  refine q_sld 1077 rfl (by omega) hl dL_law_1076 ?_
  refine q_aload_n 1078 rfl rfl dL_law_1077 ?_
  refine q_iload_n 1079 rfl rfl dL_law_1078 ?_
  refine q_iconst 1080 rfl 3 (by decide +kernel) dL_law_1079 ?_
  refine q_iadd 1081 rfl dL_law_1080 ?_
  refine q_sld 1082 rfl (by omega) hl dL_law_1081 ?_
  refine q_callV (As := [.int (nI (q_xs Γ (i + 1))), .int (nI (q_xs Γ (i + 2))), .int (nI (q_xs Γ (i + 3)))]) (rest := [.int x]) lL_156 h7 rfl 77 (by rw [e1]; exact t_77) rfl rfl rfl (Nat.le_of_ble_eq_true rfl) dL_law_1082 ?_
  intro v' h2 hq2
  obtain ⟨rfl, N', L', G', nm', nw', dn', dm', c', rfl, hw⟩ := hn v' h2 hq2
  refine q_kn (k' := 96) (n' := 3981) rfl rfl ?_
  refine q_icmp_same 1222 rfl dL_law_1085 ?_
  exact hJ _ _ _ _ _ _ _ _ hw
theorem law_c34 (hi : i + 4 < q_xl Γ) (hl : q_xl Γ < 2147483648) (h : IW ad G N nm nw dn dm c) (hJ : ∀ N' L' G' nm' nw' dn' dm' c', IW ad G' N' nm' nw' dn' dm' c' → q_R Γ (mL y) room_1 Z 96 3981 1222 (lvL Γ ad i) [] (LT ad, N', L', G')) : q_R Γ (mL y) room_1 Z 96 3981 1090 (lvL Γ ad i) [] (LT ad, N, L, G) := by
  obtain ⟨Q6, h6, hall⟩ := pr_lay (Γ := Γ) (L := L) h (q_xs_ok Γ (i + 1)).1 (q_xs_ok Γ (i + 2)).1 (q_xs_ok Γ (i + 3)).1
  refine q_aload_n 1091 rfl rfl dL_law_1090 ?_
  refine q_aload_n 1092 rfl rfl dL_law_1091 ?_
  refine q_iload_n 1093 rfl rfl dL_law_1092 ?_
  refine q_iconst 1094 rfl 1 (by decide +kernel) dL_law_1093 ?_
  refine q_iadd 1095 rfl dL_law_1094 ?_
  refine q_sld 1096 rfl (by omega) hl dL_law_1095 ?_
  refine q_aload_n 1097 rfl rfl dL_law_1096 ?_
  refine q_iload_n 1098 rfl rfl dL_law_1097 ?_
  refine q_iconst 1099 rfl 2 (by decide +kernel) dL_law_1098 ?_
  refine q_iadd 1100 rfl dL_law_1099 ?_
  refine q_sld 1101 rfl (by omega) hl dL_law_1100 ?_
  refine q_aload_n 1102 rfl rfl dL_law_1101 ?_
  refine q_iload_n 1103 rfl rfl dL_law_1102 ?_
  refine q_iconst 1104 rfl 3 (by decide +kernel) dL_law_1103 ?_
  refine q_iadd 1105 rfl dL_law_1104 ?_
  refine q_sld 1106 rfl (by omega) hl dL_law_1105 ?_
  refine q_callV (As := [.int (nI (q_xs Γ (i + 1))), .int (nI (q_xs Γ (i + 2))), .int (nI (q_xs Γ (i + 3)))]) (rest := []) lL_157 h6 rfl 0 t_0 rfl rfl rfl (Nat.le_of_ble_eq_true rfl) dL_law_1106 ?_
  intro v h1 hq
  obtain ⟨e1, ⟨x, rfl⟩, Q7, h7, hn⟩ := hall v h1 hq
  refine q_kn (k' := 96) (n' := 3981) rfl rfl ?_
  refine q_aload_n 1110 rfl rfl dL_law_1109 ?_
  refine q_aload_n 1111 rfl rfl dL_law_1110 ?_
  refine q_iload_n 1112 rfl rfl dL_law_1111 ?_
  refine q_iconst 1113 rfl 1 (by decide +kernel) dL_law_1112 ?_
  refine q_iadd 1114 rfl dL_law_1113 ?_
  refine q_sld 1115 rfl (by omega) hl dL_law_1114 ?_
  refine q_aload_n 1116 rfl rfl dL_law_1115 ?_
  refine q_iload_n 1117 rfl rfl dL_law_1116 ?_
  refine q_iconst 1118 rfl 2 (by decide +kernel) dL_law_1117 ?_
  refine q_iadd 1119 rfl dL_law_1118 ?_
  refine q_sld 1120 rfl (by omega) hl dL_law_1119 ?_
  refine q_aload_n 1121 rfl rfl dL_law_1120 ?_
  refine q_iload_n 1122 rfl rfl dL_law_1121 ?_
  refine q_iconst 1123 rfl 3 (by decide +kernel) dL_law_1122 ?_
  refine q_iadd 1124 rfl dL_law_1123 ?_
  refine q_sld 1125 rfl (by omega) hl dL_law_1124 ?_
  refine q_callV (As := [.int (nI (q_xs Γ (i + 1))), .int (nI (q_xs Γ (i + 2))), .int (nI (q_xs Γ (i + 3)))]) (rest := [.int x]) lL_160 h7 rfl 77 (by rw [e1]; exact t_77) rfl rfl rfl (Nat.le_of_ble_eq_true rfl) dL_law_1125 ?_
  intro v' h2 hq2
  obtain ⟨rfl, N', L', G', nm', nw', dn', dm', c', rfl, hw⟩ := hn v' h2 hq2
  refine q_kn (k' := 96) (n' := 3981) rfl rfl ?_
  refine q_icmp_same 1222 rfl dL_law_1128 ?_
  exact hJ _ _ _ _ _ _ _ _ hw
theorem law_c35 (hi : i + 4 < q_xl Γ) (hl : q_xl Γ < 2147483648) (h : IW ad G N nm nw dn dm c) (hJ : ∀ N' L' G' nm' nw' dn' dm' c', IW ad G' N' nm' nw' dn' dm' c' → q_R Γ (mL y) room_1 Z 96 3981 1222 (lvL Γ ad i) [] (LT ad, N', L', G')) : q_R Γ (mL y) room_1 Z 96 3981 1133 (lvL Γ ad i) [] (LT ad, N, L, G) := by
  obtain ⟨Q6, h6, hall⟩ := pr_read (Γ := Γ) (L := L) h (q_xs_ok Γ (i + 1)).1 (q_xs_ok Γ (i + 2)).1 (q_xs_ok Γ (i + 3)).1 (q_xs_ok Γ (i + 4)).1
  refine q_aload_n 1134 rfl rfl dL_law_1133 ?_
  refine q_aload_n 1135 rfl rfl dL_law_1134 ?_
  refine q_iload_n 1136 rfl rfl dL_law_1135 ?_
  refine q_iconst 1137 rfl 1 (by decide +kernel) dL_law_1136 ?_
  refine q_iadd 1138 rfl dL_law_1137 ?_
  refine q_sld 1139 rfl (by omega) hl dL_law_1138 ?_
  refine q_aload_n 1140 rfl rfl dL_law_1139 ?_
  refine q_iload_n 1141 rfl rfl dL_law_1140 ?_
  refine q_iconst 1142 rfl 2 (by decide +kernel) dL_law_1141 ?_
  refine q_iadd 1143 rfl dL_law_1142 ?_
  refine q_sld 1144 rfl (by omega) hl dL_law_1143 ?_
  refine q_aload_n 1145 rfl rfl dL_law_1144 ?_
  refine q_iload_n 1146 rfl rfl dL_law_1145 ?_
  refine q_iconst 1147 rfl 3 (by decide +kernel) dL_law_1146 ?_
  refine q_iadd 1148 rfl dL_law_1147 ?_
  refine q_sld 1149 rfl (by omega) hl dL_law_1148 ?_
  refine q_aload_n 1150 rfl rfl dL_law_1149 ?_
  refine q_iload_n 1151 rfl rfl dL_law_1150 ?_
  refine q_iconst 1152 rfl 4 (by decide +kernel) dL_law_1151 ?_
  refine q_iadd 1153 rfl dL_law_1152 ?_
  refine q_sld 1154 rfl (by omega) hl dL_law_1153 ?_
  refine q_callV (As := [.int (nI (q_xs Γ (i + 1))), .int (nI (q_xs Γ (i + 2))), .int (nI (q_xs Γ (i + 3))), .int (nI (q_xs Γ (i + 4)))]) (rest := []) lL_161 h6 rfl 0 t_0 rfl rfl rfl (Nat.le_of_ble_eq_true rfl) dL_law_1154 ?_
  intro v h1 hq
  obtain ⟨e1, ⟨x, rfl⟩, Q7, h7, hn⟩ := hall v h1 hq
  refine q_kn (k' := 96) (n' := 3981) rfl rfl ?_
  refine q_aload_n 1158 rfl rfl dL_law_1157 ?_
  refine q_aload_n 1159 rfl rfl dL_law_1158 ?_
  refine q_iload_n 1160 rfl rfl dL_law_1159 ?_
  refine q_iconst 1161 rfl 1 (by decide +kernel) dL_law_1160 ?_
  refine q_iadd 1162 rfl dL_law_1161 ?_
  refine q_sld 1163 rfl (by omega) hl dL_law_1162 ?_
  refine q_aload_n 1164 rfl rfl dL_law_1163 ?_
  refine q_iload_n 1165 rfl rfl dL_law_1164 ?_
  refine q_iconst 1166 rfl 2 (by decide +kernel) dL_law_1165 ?_
  refine q_iadd 1167 rfl dL_law_1166 ?_
  refine q_sld 1168 rfl (by omega) hl dL_law_1167 ?_
  refine q_aload_n 1169 rfl rfl dL_law_1168 ?_
  refine q_iload_n 1170 rfl rfl dL_law_1169 ?_
  refine q_iconst 1171 rfl 3 (by decide +kernel) dL_law_1170 ?_
  refine q_iadd 1172 rfl dL_law_1171 ?_
  refine q_sld 1173 rfl (by omega) hl dL_law_1172 ?_
  refine q_aload_n 1174 rfl rfl dL_law_1173 ?_
  refine q_iload_n 1175 rfl rfl dL_law_1174 ?_
  refine q_iconst 1176 rfl 4 (by decide +kernel) dL_law_1175 ?_
  refine q_iadd 1177 rfl dL_law_1176 ?_
  refine q_sld 1178 rfl (by omega) hl dL_law_1177 ?_
  refine q_callV (As := [.int (nI (q_xs Γ (i + 1))), .int (nI (q_xs Γ (i + 2))), .int (nI (q_xs Γ (i + 3))), .int (nI (q_xs Γ (i + 4)))]) (rest := [.int x]) lL_164 h7 rfl 77 (by rw [e1]; exact t_77) rfl rfl rfl (Nat.le_of_ble_eq_true rfl) dL_law_1178 ?_
  intro v' h2 hq2
  obtain ⟨rfl, N', L', G', nm', nw', dn', dm', c', rfl, hw⟩ := hn v' h2 hq2
  refine q_kn (k' := 96) (n' := 3981) rfl rfl ?_
  refine q_icmp_same 1222 rfl dL_law_1181 ?_
  exact hJ _ _ _ _ _ _ _ _ hw
theorem law_c36 (hi : i + 4 < q_xl Γ) (hl : q_xl Γ < 2147483648) (h : IW ad G N nm nw dn dm c) (hJ : ∀ N' L' G' nm' nw' dn' dm' c', IW ad G' N' nm' nw' dn' dm' c' → q_R Γ (mL y) room_1 Z 96 3981 1222 (lvL Γ ad i) [] (LT ad, N', L', G')) : q_R Γ (mL y) room_1 Z 96 3981 1186 (lvL Γ ad i) [] (LT ad, N, L, G) := by
  obtain ⟨Q6, h6, hall⟩ := pr_torn (Γ := Γ) (L := L) h 
  refine q_aload_n 1187 rfl rfl dL_law_1186 ?_
  refine q_callV (As := []) (rest := []) lL_165 h6 rfl 0 t_0 rfl rfl rfl (Nat.le_of_ble_eq_true rfl) dL_law_1187 ?_
  intro v h1 hq
  obtain ⟨e1, ⟨x, rfl⟩, Q7, h7, hn⟩ := hall v h1 hq
  refine q_kn (k' := 96) (n' := 3981) rfl rfl ?_
  refine q_aload_n 1191 rfl rfl dL_law_1190 ?_
  refine q_callV (As := []) (rest := [.int x]) lL_168 h7 rfl 77 (by rw [e1]; exact t_77) rfl rfl rfl (Nat.le_of_ble_eq_true rfl) dL_law_1191 ?_
  intro v' h2 hq2
  obtain ⟨rfl, N', L', G', nm', nw', dn', dm', c', rfl, hw⟩ := hn v' h2 hq2
  refine q_kn (k' := 96) (n' := 3981) rfl rfl ?_
  refine q_icmp_same 1222 rfl dL_law_1194 ?_
  exact hJ _ _ _ _ _ _ _ _ hw
theorem law_c37 (hi : i + 4 < q_xl Γ) (hl : q_xl Γ < 2147483648) (h : IW ad G N nm nw dn dm c) (hJ : ∀ N' L' G' nm' nw' dn' dm' c', IW ad G' N' nm' nw' dn' dm' c' → q_R Γ (mL y) room_1 Z 96 3981 1222 (lvL Γ ad i) [] (LT ad, N', L', G')) : q_R Γ (mL y) room_1 Z 96 3981 1199 (lvL Γ ad i) [] (LT ad, N, L, G) := by
  obtain ⟨Q6, h6, hall⟩ := pr_count (Γ := Γ) (L := L) h (q_xs_ok Γ (i + 1)).1
  refine q_aload_n 1200 rfl rfl dL_law_1199 ?_
  refine q_aload_n 1201 rfl rfl dL_law_1200 ?_
  refine q_iload_n 1202 rfl rfl dL_law_1201 ?_
  refine q_iconst 1203 rfl 1 (by decide +kernel) dL_law_1202 ?_
  refine q_iadd 1204 rfl dL_law_1203 ?_
  refine q_sld 1205 rfl (by omega) hl dL_law_1204 ?_
  refine q_callV (As := [.int (nI (q_xs Γ (i + 1)))]) (rest := []) lL_169 h6 rfl 0 t_0 rfl rfl rfl (Nat.le_of_ble_eq_true rfl) dL_law_1205 ?_
  intro v h1 hq
  obtain ⟨e1, ⟨x, rfl⟩, Q7, h7, hn⟩ := hall v h1 hq
  refine q_kn (k' := 96) (n' := 3981) rfl rfl ?_
  refine q_aload_n 1209 rfl rfl dL_law_1208 ?_
  refine q_aload_n 1210 rfl rfl dL_law_1209 ?_
  refine q_iload_n 1211 rfl rfl dL_law_1210 ?_
  refine q_iconst 1212 rfl 1 (by decide +kernel) dL_law_1211 ?_
  refine q_iadd 1213 rfl dL_law_1212 ?_
  refine q_sld 1214 rfl (by omega) hl dL_law_1213 ?_
  refine q_callV (As := [.int (nI (q_xs Γ (i + 1)))]) (rest := [.int x]) lL_172 h7 rfl 77 (by rw [e1]; exact t_77) rfl rfl rfl (Nat.le_of_ble_eq_true rfl) dL_law_1214 ?_
  intro v' h2 hq2
  obtain ⟨rfl, N', L', G', nm', nw', dn', dm', c', rfl, hw⟩ := hn v' h2 hq2
  refine q_kn (k' := 96) (n' := 3981) rfl rfl ?_
  refine q_icmp_same 1222 rfl dL_law_1217 ?_
  exact hJ _ _ _ _ _ _ _ _ hw
end
