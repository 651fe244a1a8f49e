/-! Making cells: new, newarray, anewarray, aastore. -/
/-- behind the cells that there are all is as at birth -/
def Z0 (T : List (q_K × Nat)) (N : Nat → Nat → Nat) (L : Nat → Nat → Int) (G : Nat → Nat → Option Nat) : Prop := ∀ j, T.length ≤ j → N j = (fun _ => 0) ∧ L j = (fun _ => 0) ∧ G j = (fun _ => none)
theorem Z0.app {T R : List (q_K × Nat)} {N : Nat → Nat → Nat} {L : Nat → Nat → Int} {G : Nat → Nat → Option Nat} (h : Z0 T N L G) : Z0 (T ++ R) N L G := fun j hj => h j (by rw [List.length_append] at hj; omega)
theorem Z0.putG {T : List (q_K × Nat)} {N : Nat → Nat → Nat} {L : Nat → Nat → Int} {G : Nat → Nat → Option Nat} {i f : Nat} {v : Option Nat} {x : q_K × Nat} (h : Z0 T N L G) (hi : T[i]? = some x) : Z0 T N L (q_s G i f v) := fun j hj => by
  have := (List.getElem?_eq_some_iff.mp hi).1
  rw [q_s_ne (by omega)]; exact h j hj
theorem Z0.putN {T : List (q_K × Nat)} {N : Nat → Nat → Nat} {L : Nat → Nat → Int} {G : Nat → Nat → Option Nat} {i f v : Nat} {x : q_K × Nat} (h : Z0 T N L G) (hi : T[i]? = some x) : Z0 T (q_s N i f v) L G := fun j hj => by
  have := (List.getElem?_eq_some_iff.mp hi).1
  rw [q_s_ne (by omega)]; exact h j hj
theorem q_app {T R : List (q_K × Nat)} {i : Nat} {x : q_K × Nat} (h : T[i]? = some x) : (T ++ R)[i]? = some x := by
  have := (List.getElem?_eq_some_iff.mp h).1
  rw [List.getElem?_append_left this]; exact h
theorem q_lastT {T : List (q_K × Nat)} {x : q_K × Nat} : (T ++ [x])[T.length]? = some x := by simp
theorem q_wd_app {Γ : q_G} {T : List (q_K × Nat)} {N : Nat → Nat → Nat} {L : Nat → Nat → Int} {G : Nat → Nat → Option Nat} {kd : q_K} {a : Nat} (hz : Z0 T N L G) : q_wd Γ (T ++ [(kd, a)], N, L, G) = q_wd Γ (T, N, L, G) ++ [(a, q_E Γ (fun _ => 0) (fun _ => 0) (fun _ => none) kd)] := by
  obtain ⟨h1, h2, h3⟩ := hz T.length (Nat.le_refl _)
  simp only [q_wd, List.mapIdx_concat, h1, h2, h3]
section
variable {Γ : q_G} {m : q_M} {rm : Room} {Z : q_Zt} {k n pc : Nat} {lv : List (Nat × Value)} {st : List Value} {T : List (q_K × Nat)} {N : Nat → Nat → Nat} {L : Nat → Nat → Int} {G : Nat → Nat → Option Nat}

theorem q_newi (pc' : Nat) (hp : pc + 2 = pc') {len : Nat} (k' n' : Nat) (hk : k + 1 = k') (hn : n + len = n') (hz : Z0 T N L G) (hlen : len ≤ 1000) (hc : k' ≤ rm.cells) (hs : n' ≤ rm.slots) (hw : Cond.arrayClass .int ∈ q_gt) (hd : decode m.2.2.1 pc = .ok (.newarray .int, 2)) (kk : ∀ a, q_R Γ m rm Z k' n' pc' lv (.ref a :: st) (T ++ [(.inl (0, len), a)], N, L, G)) : q_R Γ m rm Z k n pc lv (.int (nI len) :: st) (T, N, L, G) := by
  subst hp; subst hk; subst hn
  have e : (nI len).toNatClampNeg = len := nI_clamp (by omega)
  have hin : vp_in (nI len) (len + 1) := vp_in_nI (by omega) (by omega)
  intro p ee s mi args below meth c H locs ls C hP hD hS hl
  refine va_newa (atype := .int) (N' := len) (a0 := (len, .inl (fun _ => nI 0))) C.1 C.2.1 (C.2.2.2.2.2.2.1 _ hw) rfl C.2.2.2.2.2.2.2.1.1 hP hD hS (fun q hq => Nat.le_trans C.2.2.2.2.2.2.2.1.2.2.2.2.2.1 hq) (fun cA => rfl) (fun q => hin (Or.inl q)) e ?_ hc hs hd (fun q cA H1 hK1 hP1 hD1 hS1 => ?_)
  · show len * 4 ≤ 536870912
    omega
  · have h1 : s.vm.findClass _ = some cA := (hK1.2 6 (cA, .int) rfl).2
    have h2 : s.vm.findClass _ = some (Γ.2.2.2.1 0) := (hK1.2 0 (Γ.2.2.2.1 0, .int) rfl).2
    have e1 : cA = Γ.2.2.2.1 0 := Option.some.inj (h1.symm.trans h2)
    subst e1
    exact kk q p ee s mi args below meth c H1 locs ls C (by rw [q_wd_app hz]; exact hP1) (by rw [q_wd_app hz]; exact hD1) hS1 hl
theorem q_newb (pc' : Nat) (hp : pc + 2 = pc') {len : Nat} (k' n' : Nat) (hk : k + 1 = k') (hn : n + len = n') (hz : Z0 T N L G) (hlen : len ≤ 1000) (hc : k' ≤ rm.cells) (hs : n' ≤ rm.slots) (hw : Cond.arrayClass .byte ∈ q_gt) (hd : decode m.2.2.1 pc = .ok (.newarray .byte, 2)) (kk : ∀ a, q_R Γ m rm Z k' n' pc' lv (.ref a :: st) (T ++ [(.inl (1, len), a)], N, L, G)) : q_R Γ m rm Z k n pc lv (.int (nI len) :: st) (T, N, L, G) := by
  subst hp; subst hk; subst hn
  have e : (nI len).toNatClampNeg = len := nI_clamp (by omega)
  have hin : vp_in (nI len) (len + 1) := vp_in_nI (by omega) (by omega)
  intro p ee s mi args below meth c H locs ls C hP hD hS hl
  refine va_newa (atype := .byte) (N' := len) (a0 := (len, .inl (fun _ => nI 0))) C.1 C.2.1 (C.2.2.2.2.2.2.1 _ hw) rfl C.2.2.2.2.2.2.2.1.1 hP hD hS (fun q hq => Nat.le_trans C.2.2.2.2.2.2.2.1.2.2.2.2.2.1 hq) (fun cA => rfl) (fun q => hin (Or.inl q)) e ?_ hc hs hd (fun q cA H1 hK1 hP1 hD1 hS1 => ?_)
  · show len * 1 ≤ 536870912
    omega
  · have h1 : s.vm.findClass _ = some cA := (hK1.2 6 (cA, .byte) rfl).2
    have h2 : s.vm.findClass _ = some (Γ.2.2.2.1 1) := (hK1.2 1 (Γ.2.2.2.1 1, .byte) rfl).2
    have e1 : cA = Γ.2.2.2.1 1 := Option.some.inj (h1.symm.trans h2)
    subst e1
    exact kk q p ee s mi args below meth c H1 locs ls C (by rw [q_wd_app hz]; exact hP1) (by rw [q_wd_app hz]; exact hD1) hS1 hl
theorem q_newz (pc' : Nat) (hp : pc + 2 = pc') {len : Nat} (k' n' : Nat) (hk : k + 1 = k') (hn : n + len = n') (hz : Z0 T N L G) (hlen : len ≤ 1000) (hc : k' ≤ rm.cells) (hs : n' ≤ rm.slots) (hw : Cond.arrayClass .boolean ∈ q_gt) (hd : decode m.2.2.1 pc = .ok (.newarray .boolean, 2)) (kk : ∀ a, q_R Γ m rm Z k' n' pc' lv (.ref a :: st) (T ++ [(.inl (2, len), a)], N, L, G)) : q_R Γ m rm Z k n pc lv (.int (nI len) :: st) (T, N, L, G) := by
  subst hp; subst hk; subst hn
  have e : (nI len).toNatClampNeg = len := nI_clamp (by omega)
  have hin : vp_in (nI len) (len + 1) := vp_in_nI (by omega) (by omega)
  intro p ee s mi args below meth c H locs ls C hP hD hS hl
  refine va_newa (atype := .boolean) (N' := len) (a0 := (len, .inl (fun _ => nI 0))) C.1 C.2.1 (C.2.2.2.2.2.2.1 _ hw) rfl C.2.2.2.2.2.2.2.1.1 hP hD hS (fun q hq => Nat.le_trans C.2.2.2.2.2.2.2.1.2.2.2.2.2.1 hq) (fun cA => rfl) (fun q => hin (Or.inl q)) e ?_ hc hs hd (fun q cA H1 hK1 hP1 hD1 hS1 => ?_)
  · show len * 1 ≤ 536870912
    omega
  · have h1 : s.vm.findClass _ = some cA := (hK1.2 6 (cA, .boolean) rfl).2
    have h2 : s.vm.findClass _ = some (Γ.2.2.2.1 2) := (hK1.2 2 (Γ.2.2.2.1 2, .boolean) rfl).2
    have e1 : cA = Γ.2.2.2.1 2 := Option.some.inj (h1.symm.trans h2)
    subst e1
    exact kk q p ee s mi args below meth c H1 locs ls C (by rw [q_wd_app hz]; exact hP1) (by rw [q_wd_app hz]; exact hD1) hS1 hl
theorem q_newl (pc' : Nat) (hp : pc + 2 = pc') {len : Nat} (k' n' : Nat) (hk : k + 1 = k') (hn : n + len = n') (hz : Z0 T N L G) (hlen : len ≤ 1000) (hc : k' ≤ rm.cells) (hs : n' ≤ rm.slots) (hw : Cond.arrayClass .long ∈ q_gt) (hd : decode m.2.2.1 pc = .ok (.newarray .long, 2)) (kk : ∀ a, q_R Γ m rm Z k' n' pc' lv (.ref a :: st) (T ++ [(.inl (3, len), a)], N, L, G)) : q_R Γ m rm Z k n pc lv (.int (nI len) :: st) (T, N, L, G) := by
  subst hp; subst hk; subst hn
  have e : (nI len).toNatClampNeg = len := nI_clamp (by omega)
  have hin : vp_in (nI len) (len + 1) := vp_in_nI (by omega) (by omega)
  intro p ee s mi args below meth c H locs ls C hP hD hS hl
  refine va_newa (atype := .long) (N' := len) (a0 := (len, .inr (.inl (fun _ => lZ 0)))) C.1 C.2.1 (C.2.2.2.2.2.2.1 _ hw) rfl C.2.2.2.2.2.2.2.1.1 hP hD hS (fun q hq => Nat.le_trans C.2.2.2.2.2.2.2.1.2.2.2.2.2.1 hq) (fun cA => rfl) (fun q => hin (Or.inl q)) e ?_ hc hs hd (fun q cA H1 hK1 hP1 hD1 hS1 => ?_)
  · show len * 8 ≤ 536870912
    omega
  · have h1 : s.vm.findClass _ = some cA := (hK1.2 6 (cA, .long) rfl).2
    have h2 : s.vm.findClass _ = some (Γ.2.2.2.1 3) := (hK1.2 3 (Γ.2.2.2.1 3, .long) rfl).2
    have e1 : cA = Γ.2.2.2.1 3 := Option.some.inj (h1.symm.trans h2)
    subst e1
    exact kk q p ee s mi args below meth c H1 locs ls C (by rw [q_wd_app hz]; exact hP1) (by rw [q_wd_app hz]; exact hD1) hS1 hl
theorem q_newq4 (pc' : Nat) (hp : pc + 3 = pc') {len idx : Nat} (k' n' : Nat) (hk : k + 1 = k') (hn : n + len = n') (hz : Z0 T N L G) (hlen : len ≤ 1000) (hc : k' ≤ rm.cells) (hs : n' ≤ rm.slots) (hw : Cond.classLink m.1 idx "GuessCalled$Moment" ∈ q_gt) (hd : decode m.2.2.1 pc = .ok (.anewarray idx, 3)) (kk : ∀ a, q_R Γ m rm Z k' n' pc' lv (.ref a :: st) (T ++ [(.inl (4, len), a)], N, L, G)) : q_R Γ m rm Z k n pc lv (.int (nI len) :: st) (T, N, L, G) := by
  subst hp; subst hk; subst hn
  have e : (nI len).toNatClampNeg = len := nI_clamp (by omega)
  have hin : vp_in (nI len) (len + 1) := vp_in_nI (by omega) (by omega)
  intro p ee s mi args below meth c H locs ls C hP hD hS hl
  refine va_newq (N' := len) C.1 C.2.1 C.2.2.2.2.2.1 (C.2.2.2.2.2.2.1 _ hw) C.2.2.2.2.2.2.2.1.2.2.2.2.2.2.1 C.2.2.2.2.2.2.2.1.1 hP hD hS (fun q hq => Nat.le_trans C.2.2.2.2.2.2.2.1.2.2.2.2.2.1 hq) (fun q => hin (Or.inl q)) e (by omega) hc hs hd (fun q cA H1 hK1 hP1 hD1 hS1 => ?_)
  obtain ⟨_, _, _, _, _, h1⟩ := (hK1.2 6 (cA, .object "GuessCalled$Moment") rfl).2
  obtain ⟨_, _, _, _, _, h2⟩ := (hK1.2 4 (Γ.2.2.2.1 4, .object "GuessCalled$Moment") rfl).2
  have e1 : cA = Γ.2.2.2.1 4 := Option.some.inj (h1.symm.trans h2)
  subst e1
  exact kk q p ee s mi args below meth c H1 locs ls C (by rw [q_wd_app hz]; exact hP1) (by rw [q_wd_app hz]; exact hD1) hS1 hl
theorem q_newq5 (pc' : Nat) (hp : pc + 3 = pc') {len idx : Nat} (k' n' : Nat) (hk : k + 1 = k') (hn : n + len = n') (hz : Z0 T N L G) (hlen : len ≤ 1000) (hc : k' ≤ rm.cells) (hs : n' ≤ rm.slots) (hw : Cond.classLink m.1 idx "GuessCalled$Sheet" ∈ q_gt) (hd : decode m.2.2.1 pc = .ok (.anewarray idx, 3)) (kk : ∀ a, q_R Γ m rm Z k' n' pc' lv (.ref a :: st) (T ++ [(.inl (5, len), a)], N, L, G)) : q_R Γ m rm Z k n pc lv (.int (nI len) :: st) (T, N, L, G) := by
  subst hp; subst hk; subst hn
  have e : (nI len).toNatClampNeg = len := nI_clamp (by omega)
  have hin : vp_in (nI len) (len + 1) := vp_in_nI (by omega) (by omega)
  intro p ee s mi args below meth c H locs ls C hP hD hS hl
  refine va_newq (N' := len) C.1 C.2.1 C.2.2.2.2.2.1 (C.2.2.2.2.2.2.1 _ hw) C.2.2.2.2.2.2.2.1.2.2.2.2.2.2.2.1 C.2.2.2.2.2.2.2.1.1 hP hD hS (fun q hq => Nat.le_trans C.2.2.2.2.2.2.2.1.2.2.2.2.2.1 hq) (fun q => hin (Or.inl q)) e (by omega) hc hs hd (fun q cA H1 hK1 hP1 hD1 hS1 => ?_)
  obtain ⟨_, _, _, _, _, h1⟩ := (hK1.2 6 (cA, .object "GuessCalled$Sheet") rfl).2
  obtain ⟨_, _, _, _, _, h2⟩ := (hK1.2 5 (Γ.2.2.2.1 5, .object "GuessCalled$Sheet") rfl).2
  have e1 : cA = Γ.2.2.2.1 5 := Option.some.inj (h1.symm.trans h2)
  subst e1
  exact kk q p ee s mi args below meth c H1 locs ls C (by rw [q_wd_app hz]; exact hP1) (by rw [q_wd_app hz]; exact hD1) hS1 hl
theorem q_newo (pc' : Nat) (hp : pc + 3 = pc') {idx ci : Nat} {r : vw_C} {ty : Nat → FieldType} (k' n' : Nat) (hk : k + 1 = k') (hn : n + r.2.2 = n') (hz : Z0 T N L G) (hr : vwCl[ci]? = some r) (hin : ∀ w ∈ u_ws r.1 r.2.1 r.2.2, w ∈ q_gt) (hty : ∀ j, j < r.2.2 → parseFieldDescriptor (r.2.1 j).2.2.1 = some (ty j)) (hcl : Cond.classLink m.1 idx r.1 ∈ q_gt) (hinst : Cond.instantiable r.1 r.2.2 ∈ q_gt) (hini : Cond.initialized r.1 ∈ q_gt) (hfs : ∀ j, j < r.2.2 → defaultValue (ty j) = vp_V ((List.range (q_nf ci)).map (q_fv ci (fun _ => 0) (fun _ => none))) j) (hc : k' ≤ rm.cells) (hs : n' ≤ rm.slots) (hd : decode m.2.2.1 pc = .ok (.new idx, 3)) (kk : ∀ a, q_R Γ m rm Z k' n' pc' lv (.ref a :: st) (T ++ [(.inr ci, a)], N, L, G)) : q_R Γ m rm Z k n pc lv st (T, N, L, G) := by
  subst hp; subst hk; subst hn
  intro p ee s mi args below meth c H locs ls C hP hD hS hl
  have hb := C.2.2.2.2.2.2.1
  obtain ⟨rc, rt, rn⟩ := r
  refine va_new (C := rc) (T := rt) (N := rn) C.1 C.2.1 hb hin ty hty C.2.2.2.2.2.1 (hb _ hcl) (hb _ hinst) (hb _ hini) C.2.2.2.2.2.2.2.1.1 hP hD hS (fun q hq => Nat.le_trans C.2.2.2.2.2.2.2.1.2.2.2.2.2.1 hq) hr hfs hc hs hd (fun q H1 hP1 hD1 hS1 => ?_)
  exact kk q p ee s mi args below meth c H1 locs ls C (by rw [q_wd_app hz]; exact hP1) (by rw [q_wd_app hz]; exact hD1) hS1 hl
theorem q_aast4 (pc' : Nat) (hp : pc + 1 = pc') {j a len v : Nat} (i qk : Nat) (hT : T[i]? = some (.inl (4, len), a)) (hv : T[qk]? = some (.inr 0, v)) (hj : j < len) (hlen : len < 2147483648) (hd : decode m.2.2.1 pc = .ok (.aastore, 1)) (kk : q_R Γ m rm Z k n pc' lv st (T, N, L, q_s G i j (some v))) : q_R Γ m rm Z k n pc lv (.ref v :: .int (nI j) :: .ref a :: st) (T, N, L, G) := by
  subst hp
  have e : (nI j).toNatClampNeg = j := nI_clamp (by omega)
  intro p ee s mi args below meth c H locs ls C hP hD hS hl
  refine va_astq C.1 C.2.1 C.2.2.2.2.2.2.2.1.1 hP hD hS i 4 qk 0 (q_wd_get (Γ := Γ) (h := (T, N, L, G)) hT) rfl (q_wd_get (Γ := Γ) (h := (T, N, L, G)) hv) rfl (vp_in_nI hj (by omega)) hd ?_
  rw [e, q_wd_set (h := (T, N, L, G)) (h' := (T, N, L, q_s G i j (some v))) hT rfl ?_ (fun x hx => ⟨rfl, rfl, q_s_ne hx⟩)]
  · exact fun H1 locs1 hP1 hD1 hS1 => kk p ee s mi args below meth c H1 locs1 ls C hP1 hD1 hS1 hl
  · show Sum.inl (_, len, Sum.inr (Sum.inr (Sum.inr (Sum.inr _)))) = Sum.inl (_, len, Sum.inr (Sum.inr (Sum.inr (Sum.inr _))))
    congr 7
    funext x
    show va_up (G i) j (some v) x = q_s G i j (some v) i x
    rw [q_s_row]
    simp only [va_up]
theorem q_aast5 (pc' : Nat) (hp : pc + 1 = pc') {j a len v : Nat} (i qk : Nat) (hT : T[i]? = some (.inl (5, len), a)) (hv : T[qk]? = some (.inr 5, v)) (hj : j < len) (hlen : len < 2147483648) (hd : decode m.2.2.1 pc = .ok (.aastore, 1)) (kk : q_R Γ m rm Z k n pc' lv st (T, N, L, q_s G i j (some v))) : q_R Γ m rm Z k n pc lv (.ref v :: .int (nI j) :: .ref a :: st) (T, N, L, G) := by
  subst hp
  have e : (nI j).toNatClampNeg = j := nI_clamp (by omega)
  intro p ee s mi args below meth c H locs ls C hP hD hS hl
  refine va_astq C.1 C.2.1 C.2.2.2.2.2.2.2.1.1 hP hD hS i 5 qk 5 (q_wd_get (Γ := Γ) (h := (T, N, L, G)) hT) rfl (q_wd_get (Γ := Γ) (h := (T, N, L, G)) hv) rfl (vp_in_nI hj (by omega)) hd ?_
  rw [e, q_wd_set (h := (T, N, L, G)) (h' := (T, N, L, q_s G i j (some v))) hT rfl ?_ (fun x hx => ⟨rfl, rfl, q_s_ne hx⟩)]
  · exact fun H1 locs1 hP1 hD1 hS1 => kk p ee s mi args below meth c H1 locs1 ls C hP1 hD1 hS1 hl
  · show Sum.inl (_, len, Sum.inr (Sum.inr (Sum.inr (Sum.inr _)))) = Sum.inl (_, len, Sum.inr (Sum.inr (Sum.inr (Sum.inr _))))
    congr 7
    funext x
    show va_up (G i) j (some v) x = q_s G i j (some v) i x
    rw [q_s_row]
    simp only [va_up]
end
