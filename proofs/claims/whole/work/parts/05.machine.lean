/-! THE JUDGEMENT q_R: a method's body over the machine, its world an abstract heap: cells by number; whole numbers as naturals (nI), longs, references by address. -/
/-- launch; first address of ours; class numbers and slots; array classes by kind; addresses of the String constants and of their bytes -/
abbrev q_G : Type := Launch × Nat × va_G × (Nat → ClassId) × (Nat → Nat) × (Nat → Nat) × (Nat × Nat × (Nat → Int32))
/-- a method: its class, name, bytes, locals, what it returns -/
abbrev q_M : Type := String × MethodName × ByteArray × Nat × Option FieldType
/-- a cell's kind: an array (0 int, 1 byte, 2 boolean, 3 long, 4 Moment, 5 Sheet) of a length, or an object of a class -/
abbrev q_K : Type := (Nat × Nat) ⊕ Nat
abbrev q_H : Type := List (q_K × Nat) × (Nat → Nat → Nat) × (Nat → Nat → Int) × (Nat → Nat → Option Nat)
/-- which fields of a class are references -/
def q_fts : List (List Bool) := [[true, false, false, false, true, true, false, true, true, false, true, true, true], [false, true, true, true, true, false, true], [true, false, true, true, false, false, false, false, false, false, false], [true, true, false], [false, true, true, true, false, false, false], [false, false, true], [true, false, false, false, true, true, true, true, true, true, true, true, true, true, true, true, true, true, false, true], [true, true, false, true, true, true, false, true, false, true, false, false, false, false, false, false, false, false, true, true, true, true, true, true, true, true, true, true, true, false]]
def q_ft (ci k : Nat) : Bool := (q_fts.getD ci []).getD k false
def q_nf (ci : Nat) : Nat := (q_fts.getD ci []).length
def q_fv (ci : Nat) (N : Nat → Nat) (G : Nat → Option Nat) (k : Nat) : Value := bif q_ft ci k then va_rf (G k) else .int (nI (N k))
def q_E (Γ : q_G) (N : Nat → Nat) (L : Nat → Int) (G : Nat → Option Nat) : q_K → va_E
  | .inl (0, n) => .inl (Γ.2.2.2.1 0, n, .inl (fun j => nI (N j)))
  | .inl (1, n) => .inl (Γ.2.2.2.1 1, n, .inl (fun j => nI (N j)))
  | .inl (2, n) => .inl (Γ.2.2.2.1 2, n, .inl (fun j => nI (N j)))
  | .inl (3, n) => .inl (Γ.2.2.2.1 3, n, .inr (.inl (fun j => lZ (L j))))
  | .inl (4, n) => .inl (Γ.2.2.2.1 4, n, .inr (.inr (.inr (.inr G))))
  | .inl (_, n) => .inl (Γ.2.2.2.1 5, n, .inr (.inr (.inr (.inr G))))
  | .inr ci => .inr (ci, (List.range (q_nf ci)).map (q_fv ci N G))
def q_wd (Γ : q_G) (h : q_H) : va_W := h.1.mapIdx (fun i q => (q.2, q_E Γ (h.2.1 i) (h.2.2.1 i) (h.2.2.2 i) q.1))
theorem q_wd_get {Γ : q_G} {h : q_H} {i a : Nat} {kd : q_K} (hT : h.1[i]? = some (kd, a)) : (q_wd Γ h)[i]? = some (a, q_E Γ (h.2.1 i) (h.2.2.1 i) (h.2.2.2 i) kd) := by
  simp [q_wd, List.getElem?_mapIdx, hT]
theorem q_wd_set {Γ : q_G} {h h' : q_H} {i a : Nat} {kd : q_K} {E : va_E} (hT : h.1[i]? = some (kd, a)) (e1 : h'.1 = h.1) (hE : E = q_E Γ (h'.2.1 i) (h'.2.2.1 i) (h'.2.2.2 i) kd)
    (ho : ∀ j, j ≠ i → h'.2.1 j = h.2.1 j ∧ h'.2.2.1 j = h.2.2.1 j ∧ h'.2.2.2 j = h.2.2.2 j) : (q_wd Γ h).set i (a, E) = q_wd Γ h' := by
  apply List.ext_getElem?
  intro j
  by_cases hj : j = i
  · subst hj
    have hl : j < (q_wd Γ h).length := (List.getElem?_eq_some_iff.mp (q_wd_get hT)).1
    rw [List.getElem?_set_self hl, q_wd_get (h := h') (by rw [e1]; exact hT), hE]
  · rw [List.getElem?_set_ne (Ne.symm hj)]
    obtain ⟨g1, g2, g3⟩ := ho j hj
    simp only [q_wd, List.getElem?_mapIdx, e1, g1, g2, g3]
/-- one place of one cell -/
def q_s {α : Type} (f : Nat → Nat → α) (i j : Nat) (v : α) : Nat → Nat → α := fun a => if a = i then (fun b => if b = j then v else f i b) else f a
theorem q_s_ne {α : Type} {f : Nat → Nat → α} {i j : Nat} {v : α} {a : Nat} (h : a ≠ i) : q_s f i j v a = f a := by simp [q_s, h]
theorem q_s_row {α : Type} {f : Nat → Nat → α} {i j : Nat} {v : α} : q_s f i j v i = fun b => if b = j then v else f i b := by simp [q_s]
theorem q_s_at {α : Type} {f : Nat → Nat → α} {i j : Nat} {v : α} : q_s f i j v i j = v := by simp [q_s]
theorem q_s_off {α : Type} {f : Nat → Nat → α} {i j b : Nat} {v : α} (h : b ≠ j) : q_s f i j v i b = f i b := by simp [q_s, h]
/-- a whole cell -/
def q_r {α : Type} (f : Nat → Nat → α) (i : Nat) (g : Nat → α) : Nat → Nat → α := fun a => if a = i then g else f a
theorem q_r_ne {α : Type} {f : Nat → Nat → α} {i : Nat} {g : Nat → α} {a : Nat} (h : a ≠ i) : q_r f i g a = f a := by simp [q_r, h]
theorem q_r_at {α : Type} {f : Nat → Nat → α} {i : Nat} {g : Nat → α} : q_r f i g i = g := by simp [q_r]
-- words
def q_gt : List Cond := lw_tbl.filter goodWord
def q_isN : Cond → Bool
  | .fieldLinkNest .. => true
  | .methodLinkNest .. => true
  | _ => false
def q_nt : List Cond := lw_tbl.filter q_isN
theorem q_in {w : Cond} (i : Nat) (h : lw_tbl[i]? = some w) (hg : goodWord w = true) : w ∈ q_gt := List.mem_filter.mpr ⟨List.mem_of_getElem? h, hg⟩
theorem q_inN {w : Cond} (i : Nat) (h : lw_tbl[i]? = some w) (hg : q_isN w = true) : w ∈ q_nt := List.mem_filter.mpr ⟨List.mem_of_getElem? h, hg⟩
theorem q_good {w : Cond} (h : w ∈ q_gt) : goodWord w = true := (List.mem_filter.mp h).2
theorem q_warmN {w : Cond} (hw : q_isN w = true) {s U : State} (hW : s.WarmedH U.vm) (h : va_Nw w s) : va_Nw w U := by
  cases w <;> first | exact va_Nw.warmF hW h | exact va_Nw.warmM hW h | exact absurd hw (by simp [q_isN])
def q_tys (Γ : q_G) : List (ClassId × FieldType) := [(Γ.2.2.2.1 0, .int), (Γ.2.2.2.1 1, .byte), (Γ.2.2.2.1 2, .boolean), (Γ.2.2.2.1 3, .long), (Γ.2.2.2.1 4, .object "GuessCalled$Moment"), (Γ.2.2.2.1 5, .object "GuessCalled$Sheet")]
def q_A (Γ : q_G) : Nat → Prop := fun q => Γ.2.1 ≤ q
-- the String constants
def q_sx : List Nat := [54, 66, 71, 76, 148, 150, 151, 153, 155]
def q_st : List String := ["name", "near", "pair", "maid", "letters", "start", "long", "share", "sound"]
def q_sl : List Nat := [4, 4, 4, 4, 7, 5, 4, 5, 5]
def q_sb : List (List Int32) := [[110, 97, 109, 101], [110, 101, 97, 114], [112, 97, 105, 114], [109, 97, 105, 100], [108, 101, 116, 116, 101, 114, 115], [115, 116, 97, 114, 116], [108, 111, 110, 103], [115, 104, 97, 114, 101], [115, 111, 117, 110, 100]]
/-- what holds of the tables and of the old cells, at any state of the run -/
def q_U (Γ : q_G) (U : State) : Prop := va_K Γ.2.2.1 vwCl (q_tys Γ) U ∧ (∀ w ∈ q_nt, va_Nw w U) ∧ vk_S 9 q_sl q_sb Γ.2.2.2.2.1 Γ.2.2.2.2.2.1 (q_A Γ) U U.heap ∧ (∀ k, k < 9 → vk_R RX2 (q_sx.getD k 0) (q_st.getD k "") (Γ.2.2.2.2.1 k) U) ∧ va_Z "java/lang/String" "COMPACT_STRINGS" "Z" (.int 1) (q_A Γ) U U.heap ∧ Γ.2.1 ≤ U.heap.size ∧ va_AO "GuessCalled$Moment" U ∧ va_AO "GuessCalled$Sheet" U ∧ va_Zq "jdk/internal/util/Preconditions" "SIOOBE_FORMATTER" "Ljava/util/function/BiFunction;" (q_A Γ) U U.heap ∧ va_X Γ.2.2.2.2.2.2.1 Γ.2.2.2.2.2.2.2.1 Γ.2.2.2.2.2.2.2.2 U U.heap ∧ Γ.2.2.2.2.2.2.1 < Γ.2.1
def q_W (Γ : q_G) (h : q_H) (U : State) : Prop := va_P Γ.2.2.1 vwCl (q_wd Γ h) U.heap ∧ va_D (q_A Γ) (q_wd Γ h) ∧ q_U Γ U
theorem q_U.calling {Γ : q_G} {U : State} (h : q_U Γ U) (g : JFrame) (mk : MethodId) (a : Array Value) : q_U Γ (U.calling g mk a) := by
  obtain ⟨h1, h2, h3, h4, h5, h6, h7, h8, h9, h10, h11⟩ := h
  exact ⟨va_K.moved (u := U) (U := U.calling g mk a) (Vm.Alike.refl U.vm) h1, fun w hw => va_Nw.same (u := U) (by have := (List.mem_filter.mp hw).2; cases w <;> first | rfl | exact absurd this (by simp [q_isN])) rfl (h2 w hw),
    vk_S.moved (u := U) (U := U.calling g mk a) (Vm.Alike.refl U.vm) h3, fun k hk => vk_R.same (u := U) (U := U.calling g mk a) rfl (h4 k hk), va_Z.moved (u := U) (U := U.calling g mk a) (Vm.Alike.refl U.vm) h5, h6, va_AO.moved (u := U) (U := U.calling g mk a) (Vm.Alike.refl U.vm) h7, va_AO.moved (u := U) (U := U.calling g mk a) (Vm.Alike.refl U.vm) h8, va_Zq.moved (u := U) (U := U.calling g mk a) (Vm.Alike.refl U.vm) h9, va_X.moved (u := U) (U := U.calling g mk a) (Vm.Alike.refl U.vm) h10, h11⟩
/-- the same later: a state that is warmer, its old cells unchanged -/
theorem q_U.later {Γ : q_G} {s U : State} {H : Heap} {locs : List Loc} (h : q_U Γ s) (hS : va_S (q_A Γ) s.heap H locs) (hU : U.heap = H) (hW : s.WarmedH U.vm) : q_U Γ U := by
  obtain ⟨h1, h2, h3, h4, h5, h6, h7, h8, h9, h10, h11⟩ := h
  have hk : ∀ a : Nat, a < s.heap.size → ¬ q_A Γ a → U.heap[a]? = s.heap[a]? := fun a ha hb => by rw [hU]; exact hS.2.1 a ha hb
  exact ⟨va_K.moved hW.alike h1, fun w hw => q_warmN (List.mem_filter.mp hw).2 hW (h2 w hw), vk_S.moved hW.alike (h3.kept hk), fun k hk => vk_R.warm hW (h4 k hk), va_Z.moved hW.alike (h5.kept hk), Nat.le_trans h6 (by rw [hU]; exact hS.1), va_AO.moved hW.alike h7, va_AO.moved hW.alike h8, va_Zq.moved hW.alike (h9.kept hk), va_X.moved hW.alike (h10.kept (hk _ (Nat.lt_of_lt_of_le h11 h6) (Nat.not_le.mpr h11))), h11⟩
-- what a method's walk stands on
def q_C (Γ : q_G) (m : q_M) (p : Program) (s : State) (mi : MethodId) (args : Array Value) (meth : Method) (c : Code) : Prop :=
  p.tables.exec = Jvm.exec ∧ c.code = m.2.2.1 ∧ c.maxLocals = m.2.2.2.1 ∧ meth.sig.returnType = m.2.2.2.2 ∧ meth.locks = false ∧ s.vm.findClass m.1 = some mi.cls ∧ (∀ w ∈ q_gt, w.before args s = true) ∧ q_U Γ s ∧ meth.name = m.2.1.name
abbrev q_Zt : Type := List Frame → Array Value → State → State → Prop
def q_R (Γ : q_G) (m : q_M) (rm : Room) (Z : q_Zt) (k n pc : Nat) (lv : List (Nat × Value)) (st : List Value) (h : q_H) : Prop :=
  ∀ (p : Program) (e : Env) (s : State) (mi : MethodId) (args : Array Value) (below : List Frame) (meth : Method) (c : Code) (H : Heap) (locs : List Loc) (ls : Array Slot), q_C Γ m p s mi args meth c → va_P Γ.2.2.1 vwCl (q_wd Γ h) H → va_D (q_A Γ) (q_wd Γ h) → va_S (q_A Γ) s.heap H locs → lv_has ls m.2.2.2.1 lv →
    W p Γ.1 e rm s mi args below meth c H locs k n (Z below args s) (F0 mi pc ls st)
def q_QQ (Γ : q_G) (Q : Option Value → q_H → Prop) : Array Value → State → Outcome → State → Prop := fun _ st oc t => ∃ (v : Option Value) (h : q_H), oc = .returned v ∧ Q v h ∧ va_P Γ.2.2.1 vwCl (q_wd Γ h) t.heap ∧ va_D (q_A Γ) (q_wd Γ h) ∧ va_F (q_A Γ) st t
def q_Z (Γ : q_G) (Q : Option Value → q_H → Prop) (mc ms : Nat) : q_Zt := fun below args s => MQ below (q_QQ Γ Q) args s mc ms (q_A Γ)
def q_room (d mc ms : Nat) : Room := { frames := d, cells := mc, slots := ms, locals := 36 * d }
/-- a method's contract -/
def q_Con (Γ : q_G) (m : q_M) (d mc ms : Nat) (av : List Value) (h : q_H) (Q : Option Value → q_H → Prop) : Prop :=
  Met Γ.1 m.2.1 (Cond.code m.2.1 m.2.2.1 m.2.2.2.1 m.2.2.2.2 :: q_gt) (q_room d mc ms) (va_Pc av (q_W Γ h)) (q_QQ Γ Q) mc ms (q_A Γ)
/-- just this answer, just this heap -/
def q_is (v : Option Value) (h : q_H) : Option Value → q_H → Prop := fun v' h' => v' = v ∧ h' = h
/-- locals -/
def q_lg : List (Nat × Value) → Nat → Option Value
  | [], _ => none
  | (i, v) :: l, j => bif Nat.beq i j then some v else q_lg l j
theorem q_lg_mem {l : List (Nat × Value)} {j : Nat} {v : Value} (h : q_lg l j = some v) : (j, v) ∈ l := by
  induction l with
  | nil => cases h
  | cons q l ih =>
    obtain ⟨i, u⟩ := q
    simp only [q_lg] at h
    cases hb : Nat.beq i j with
    | true =>
      rw [hb] at h
      have e : i = j := Nat.eq_of_beq_eq_true hb
      have : u = v := by simpa using h
      subst e; subst this
      exact List.mem_cons_self
    | false =>
      rw [hb] at h
      exact List.mem_cons_of_mem _ (ih h)
theorem q_lg_at {ls : Array Slot} {nL j : Nat} {l : List (Nat × Value)} {v : Value} (hl : lv_has ls nL l) (h : q_lg l j = some v) : ls[j]? = some (.val v) := hl.2.2 (j, v) (q_lg_mem h)
/-- a store: in its place (by number); a long below it goes -/
def q_ins : List (Nat × Value) → Nat → Value → List (Nat × Value)
  | [], i, v => [(i, v)]
  | (j, u) :: l, i, v => bif Nat.blt i j then (i, v) :: (j, u) :: l else (j, u) :: q_ins l i v
theorem q_ins_mem {l : List (Nat × Value)} {i : Nat} {v : Value} {q : Nat × Value} (h : q ∈ q_ins l i v) : q ∈ (i, v) :: l := by
  induction l with
  | nil => exact h
  | cons x l ih =>
    obtain ⟨j, u⟩ := x
    simp only [q_ins] at h
    cases hb : Nat.blt i j with
    | true => rw [hb] at h; exact h
    | false =>
      rw [hb] at h
      rcases List.mem_cons.mp h with rfl | h
      · exact List.mem_cons_of_mem _ List.mem_cons_self
      · rcases List.mem_cons.mp (ih h) with h | h
        · rw [h]; exact List.mem_cons_self
        · exact List.mem_cons_of_mem _ (List.mem_cons_of_mem _ h)
def q_kp (i : Nat) : List (Nat × Value) → List (Nat × Value)
  | [] => []
  | (j, u) :: l => bif Nat.beq j i then q_kp i l else bif (Nat.beq (j + 1) i && Nat.beq u.category 2) then q_kp i l else (j, u) :: q_kp i l
theorem q_kp_mem {l : List (Nat × Value)} {i : Nat} {q : Nat × Value} (h : q ∈ q_kp i l) : q ∈ l.filter (fun q => !(q.1 == i) && !(q.1 + 1 == i && q.2.category == 2)) := by
  induction l with
  | nil => cases h
  | cons x l ih =>
    obtain ⟨j, u⟩ := x
    have up : q ∈ l.filter (fun q => !(q.1 == i) && !(q.1 + 1 == i && q.2.category == 2)) → q ∈ ((j, u) :: l).filter (fun q => !(q.1 == i) && !(q.1 + 1 == i && q.2.category == 2)) := fun h => List.mem_filter.mpr ⟨List.mem_cons_of_mem _ (List.mem_filter.mp h).1, (List.mem_filter.mp h).2⟩
    simp only [q_kp] at h
    cases hb : Nat.beq j i with
    | true => rw [hb] at h; exact up (ih h)
    | false =>
      rw [hb] at h
      cases hc : (Nat.beq (j + 1) i && Nat.beq u.category 2) with
      | true => rw [hc] at h; exact up (ih h)
      | false =>
        rw [hc] at h
        rcases List.mem_cons.mp h with rfl | h
        · refine List.mem_filter.mpr ⟨List.mem_cons_self, ?_⟩
          have h1 : ¬ j = i := fun e => by rw [e] at hb; simp at hb
          have h2 : ¬ (j + 1 = i ∧ u.category = 2) := fun e => by rw [e.1, e.2] at hc; simp at hc
          simp only [Bool.and_eq_true, Bool.not_eq_true', beq_eq_false_iff_ne, ne_eq, Bool.and_eq_false_iff]
          refine ⟨h1, ?_⟩
          by_cases e : j + 1 = i
          · exact Or.inr (fun q => h2 ⟨e, q⟩)
          · exact Or.inl e
        · exact up (ih h)
def q_lp (l : List (Nat × Value)) (i : Nat) (v : Value) : List (Nat × Value) := q_ins (q_kp i l) i v
theorem q_lp_mem {l : List (Nat × Value)} {i : Nat} {v : Value} {q : Nat × Value} (h : q ∈ q_lp l i v) : q ∈ (i, v) :: l.filter (fun q => !(q.1 == i) && !(q.1 + 1 == i && q.2.category == 2)) := by
  rcases List.mem_cons.mp (q_ins_mem h) with h | h
  · rw [h]; exact List.mem_cons_self
  · exact List.mem_cons_of_mem _ (q_kp_mem h)
def q_lp2 (l : List (Nat × Value)) (i : Nat) (v : Value) : List (Nat × Value) := q_ins (q_kp i (q_kp (i + 1) l)) i v
theorem q_kp_in {l : List (Nat × Value)} {i : Nat} {q : Nat × Value} (h : q ∈ q_kp i l) : q ∈ l := (List.mem_filter.mp (q_kp_mem h)).1
theorem q_lp2_mem {l : List (Nat × Value)} {i : Nat} {v : Value} {q : Nat × Value} (h : q ∈ q_lp2 l i v) : q ∈ (i, v) :: l.filter (fun q => !(q.1 == i) && (!(q.1 == i + 1) && !(q.1 + 1 == i && q.2.category == 2))) := by
  rcases List.mem_cons.mp (q_ins_mem h) with h | h
  · rw [h]; exact List.mem_cons_self
  · have h1 := List.mem_filter.mp (q_kp_mem h)
    have h2 := List.mem_filter.mp (q_kp_mem h1.1)
    refine List.mem_cons_of_mem _ (List.mem_filter.mpr ⟨h2.1, ?_⟩)
    have a1 := h1.2
    have a2 := h2.2
    simp only [Bool.and_eq_true] at a1 a2 ⊢
    exact ⟨a1.1, a2.1, a1.2⟩
theorem q_lv_sub {ls : Array Slot} {nL : Nat} {l l' : List (Nat × Value)} (h : lv_has ls nL l) (hs : ∀ q ∈ l', q ∈ l) : lv_has ls nL l' := ⟨h.1, h.2.1, fun q hq => h.2.2 q (hs q hq)⟩
/-- fewer locals -/
def q_sub (l' l : List (Nat × Value)) : Prop := ∀ q ∈ l', q_lg l q.1 = some q.2
theorem q_sub0 {l : List (Nat × Value)} : q_sub [] l := fun _ h => by cases h
theorem q_sub1 {l t : List (Nat × Value)} {i : Nat} {v : Value} (h : q_lg l i = some v) (ht : q_sub t l) : q_sub ((i, v) :: t) l := fun q hq => by
  rcases List.mem_cons.mp hq with rfl | hq
  · exact h
  · exact ht q hq

section
variable {Γ : q_G} {m : q_M} {rm : Room} {Z : q_Zt} {k n pc : Nat} {lv : List (Nat × Value)} {st : List Value} {h : q_H}
theorem q_iconst (pc' : Nat) (hp : pc + 1 = pc') {z : Int} (v : Nat) (hv : Int32.ofInt z = nI v) (hd : decode m.2.2.1 pc = .ok (.iconst z, 1)) (kk : q_R Γ m rm Z k n pc' lv (.int (nI v) :: st) h) : q_R Γ m rm Z k n pc lv (st) h := by
  subst hp
  exact fun p e s mi args below meth c H locs ls C hP hD hS hl => lv_iconst C.1 C.2.1 hd hv (kk p e s mi args below meth c H locs ls C hP hD hS hl)
theorem q_bipush (pc' : Nat) (hp : pc + 2 = pc') {z : Int} (v : Nat) (hv : (Int8.ofInt z).toInt32 = nI v) (hd : decode m.2.2.1 pc = .ok (.bipush z, 2)) (kk : q_R Γ m rm Z k n pc' lv (.int (nI v) :: st) h) : q_R Γ m rm Z k n pc lv (st) h := by
  subst hp
  exact fun p e s mi args below meth c H locs ls C hP hD hS hl => lv_bipush C.1 C.2.1 hd hv (kk p e s mi args below meth c H locs ls C hP hD hS hl)
theorem q_sipush (pc' : Nat) (hp : pc + 3 = pc') {z : Int} (v : Nat) (hv : (Int16.ofInt z).toInt32 = nI v) (hd : decode m.2.2.1 pc = .ok (.sipush z, 3)) (kk : q_R Γ m rm Z k n pc' lv (.int (nI v) :: st) h) : q_R Γ m rm Z k n pc lv (st) h := by
  subst hp
  exact fun p e s mi args below meth c H locs ls C hP hD hS hl => lv_sipush C.1 C.2.1 hd hv (kk p e s mi args below meth c H locs ls C hP hD hS hl)
theorem q_lconst (pc' : Nat) (hp : pc + 1 = pc') {z : Fin 2} (v : Int) (hv : Int64.ofNat (z : Nat) = lZ v) (hd : decode m.2.2.1 pc = .ok (.lconst z, 1)) (kk : q_R Γ m rm Z k n pc' lv (.long (lZ v) :: st) h) : q_R Γ m rm Z k n pc lv (st) h := by
  subst hp
  exact fun p e s mi args below meth c H locs ls C hP hD hS hl => lv_lconst C.1 C.2.1 hd hv (kk p e s mi args below meth c H locs ls C hP hD hS hl)
theorem q_ldc (pc' : Nat) (hp : pc + 2 = pc') {x : Nat} {u : Int32} (v : Nat) (hc : Cond.constant m.1 x u ∈ q_gt) (hv : u = nI v) (hd : decode m.2.2.1 pc = .ok (.ldc x, 2)) (kk : q_R Γ m rm Z k n pc' lv (.int (nI v) :: st) h) : q_R Γ m rm Z k n pc lv (st) h := by
  subst hp
  exact fun p e s mi args below meth c H locs ls C hP hD hS hl => lv_ldc C.1 C.2.1 C.2.2.2.2.2.1 (hv ▸ C.2.2.2.2.2.2.1 _ hc) hd (kk p e s mi args below meth c H locs ls C hP hD hS hl)
theorem q_ldcw (pc' : Nat) (hp : pc + 3 = pc') {x : Nat} {u : Int32} (v : Nat) (hc : Cond.constant m.1 x u ∈ q_gt) (hv : u = nI v) (hd : decode m.2.2.1 pc = .ok (.ldc_w x, 3)) (kk : q_R Γ m rm Z k n pc' lv (.int (nI v) :: st) h) : q_R Γ m rm Z k n pc lv (st) h := by
  subst hp
  exact fun p e s mi args below meth c H locs ls C hP hD hS hl => lv_ldcw C.1 C.2.1 C.2.2.2.2.2.1 (hv ▸ C.2.2.2.2.2.2.1 _ hc) hd (kk p e s mi args below meth c H locs ls C hP hD hS hl)
theorem q_ldc2 (pc' : Nat) (hp : pc + 3 = pc') {x : Nat} {u : Int64} (v : Int) (hc : Cond.constantLong m.1 x u ∈ q_gt) (hv : u = lZ v) (hd : decode m.2.2.1 pc = .ok (.ldc2_w x, 3)) (kk : q_R Γ m rm Z k n pc' lv (.long (lZ v) :: st) h) : q_R Γ m rm Z k n pc lv (st) h := by
  subst hp
  exact fun p e s mi args below meth c H locs ls C hP hD hS hl => lv_ldc2 C.1 C.2.1 C.2.2.2.2.2.1 (hv ▸ C.2.2.2.2.2.2.1 _ hc) hd (kk p e s mi args below meth c H locs ls C hP hD hS hl)
theorem q_iload_n (pc' : Nat) (hp : pc + 1 = pc') {j : Fin 4} {x : Int32} (hg : q_lg lv j = some (.int x)) (hd : decode m.2.2.1 pc = .ok (.iload_n j, 1)) (kk : q_R Γ m rm Z k n pc' lv (.int x :: st) h) : q_R Γ m rm Z k n pc lv (st) h := by
  subst hp
  exact fun p e s mi args below meth c H locs ls C hP hD hS hl => lv_iload_n C.1 C.2.1 hd rfl (q_lg_at hl hg) (kk p e s mi args below meth c H locs ls C hP hD hS hl)
theorem q_iload (pc' : Nat) (hp : pc + 2 = pc') {j : Nat} {x : Int32} (hg : q_lg lv j = some (.int x)) (hd : decode m.2.2.1 pc = .ok (.iload j, 2)) (kk : q_R Γ m rm Z k n pc' lv (.int x :: st) h) : q_R Γ m rm Z k n pc lv (st) h := by
  subst hp
  exact fun p e s mi args below meth c H locs ls C hP hD hS hl => lv_iload C.1 C.2.1 hd (q_lg_at hl hg) (kk p e s mi args below meth c H locs ls C hP hD hS hl)
theorem q_istore_n (pc' : Nat) (hp : pc + 1 = pc') {j : Fin 4} {x : Int32} (hj : (j : Nat) < m.2.2.2.1) (hd : decode m.2.2.1 pc = .ok (.istore_n j, 1)) (kk : q_R Γ m rm Z k n pc' (q_lp lv j (.int x)) (st) h) : q_R Γ m rm Z k n pc lv (.int x :: st) h := by
  subst hp
  exact fun p e s mi args below meth c H locs ls C hP hD hS hl => lv_istore_n C.1 C.2.1 hd rfl hl hj rfl (fun ls hl => kk p e s mi args below meth c H locs ls C hP hD hS (q_lv_sub hl (fun q hq => q_lp_mem hq)))
theorem q_istore (pc' : Nat) (hp : pc + 2 = pc') {j : Nat} {x : Int32} (hj : (j : Nat) < m.2.2.2.1) (hd : decode m.2.2.1 pc = .ok (.istore j, 2)) (kk : q_R Γ m rm Z k n pc' (q_lp lv j (.int x)) (st) h) : q_R Γ m rm Z k n pc lv (.int x :: st) h := by
  subst hp
  exact fun p e s mi args below meth c H locs ls C hP hD hS hl => lv_istore C.1 C.2.1 hd hl hj rfl (fun ls hl => kk p e s mi args below meth c H locs ls C hP hD hS (q_lv_sub hl (fun q hq => q_lp_mem hq)))
theorem q_lload_n (pc' : Nat) (hp : pc + 1 = pc') {j : Fin 4} {x : Int64} (hg : q_lg lv j = some (.long x)) (hd : decode m.2.2.1 pc = .ok (.lload_n j, 1)) (kk : q_R Γ m rm Z k n pc' lv (.long x :: st) h) : q_R Γ m rm Z k n pc lv (st) h := by
  subst hp
  exact fun p e s mi args below meth c H locs ls C hP hD hS hl => lv_lload_n C.1 C.2.1 hd rfl (q_lg_at hl hg) (kk p e s mi args below meth c H locs ls C hP hD hS hl)
theorem q_lload (pc' : Nat) (hp : pc + 2 = pc') {j : Nat} {x : Int64} (hg : q_lg lv j = some (.long x)) (hd : decode m.2.2.1 pc = .ok (.lload j, 2)) (kk : q_R Γ m rm Z k n pc' lv (.long x :: st) h) : q_R Γ m rm Z k n pc lv (st) h := by
  subst hp
  exact fun p e s mi args below meth c H locs ls C hP hD hS hl => lv_lload C.1 C.2.1 hd (q_lg_at hl hg) (kk p e s mi args below meth c H locs ls C hP hD hS hl)
theorem q_lstore_n (pc' : Nat) (hp : pc + 1 = pc') {j : Fin 4} {x : Int64} (hj : (j : Nat) + 1 < m.2.2.2.1) (hd : decode m.2.2.1 pc = .ok (.lstore_n j, 1)) (kk : q_R Γ m rm Z k n pc' (q_lp2 lv j (.long x)) (st) h) : q_R Γ m rm Z k n pc lv (.long x :: st) h := by
  subst hp
  exact fun p e s mi args below meth c H locs ls C hP hD hS hl => lv_lstore_n C.1 C.2.1 hd rfl hl hj rfl (fun ls hl => kk p e s mi args below meth c H locs ls C hP hD hS (q_lv_sub hl (fun q hq => q_lp2_mem hq)))
theorem q_lstore (pc' : Nat) (hp : pc + 2 = pc') {j : Nat} {x : Int64} (hj : (j : Nat) + 1 < m.2.2.2.1) (hd : decode m.2.2.1 pc = .ok (.lstore j, 2)) (kk : q_R Γ m rm Z k n pc' (q_lp2 lv j (.long x)) (st) h) : q_R Γ m rm Z k n pc lv (.long x :: st) h := by
  subst hp
  exact fun p e s mi args below meth c H locs ls C hP hD hS hl => lv_lstore C.1 C.2.1 hd hl hj rfl (fun ls hl => kk p e s mi args below meth c H locs ls C hP hD hS (q_lv_sub hl (fun q hq => q_lp2_mem hq)))
theorem q_aload_n (pc' : Nat) (hp : pc + 1 = pc') {j : Fin 4} {x : Nat} (hg : q_lg lv j = some (.ref x)) (hd : decode m.2.2.1 pc = .ok (.aload_n j, 1)) (kk : q_R Γ m rm Z k n pc' lv (.ref x :: st) h) : q_R Γ m rm Z k n pc lv (st) h := by
  subst hp
  exact fun p e s mi args below meth c H locs ls C hP hD hS hl => lv_aload_n C.1 C.2.1 hd rfl (q_lg_at hl hg) (kk p e s mi args below meth c H locs ls C hP hD hS hl)
theorem q_aload (pc' : Nat) (hp : pc + 2 = pc') {j : Nat} {x : Nat} (hg : q_lg lv j = some (.ref x)) (hd : decode m.2.2.1 pc = .ok (.aload j, 2)) (kk : q_R Γ m rm Z k n pc' lv (.ref x :: st) h) : q_R Γ m rm Z k n pc lv (st) h := by
  subst hp
  exact fun p e s mi args below meth c H locs ls C hP hD hS hl => lv_aload C.1 C.2.1 hd (q_lg_at hl hg) (kk p e s mi args below meth c H locs ls C hP hD hS hl)
theorem q_astore_n (pc' : Nat) (hp : pc + 1 = pc') {j : Fin 4} {x : Nat} (hj : (j : Nat) < m.2.2.2.1) (hd : decode m.2.2.1 pc = .ok (.astore_n j, 1)) (kk : q_R Γ m rm Z k n pc' (q_lp lv j (.ref x)) (st) h) : q_R Γ m rm Z k n pc lv (.ref x :: st) h := by
  subst hp
  exact fun p e s mi args below meth c H locs ls C hP hD hS hl => lv_astore_n C.1 C.2.1 hd rfl hl hj rfl (fun ls hl => kk p e s mi args below meth c H locs ls C hP hD hS (q_lv_sub hl (fun q hq => q_lp_mem hq)))
theorem q_astore (pc' : Nat) (hp : pc + 2 = pc') {j : Nat} {x : Nat} (hj : (j : Nat) < m.2.2.2.1) (hd : decode m.2.2.1 pc = .ok (.astore j, 2)) (kk : q_R Γ m rm Z k n pc' (q_lp lv j (.ref x)) (st) h) : q_R Γ m rm Z k n pc lv (.ref x :: st) h := by
  subst hp
  exact fun p e s mi args below meth c H locs ls C hP hD hS hl => lv_astore C.1 C.2.1 hd hl hj rfl (fun ls hl => kk p e s mi args below meth c H locs ls C hP hD hS (q_lv_sub hl (fun q hq => q_lp_mem hq)))
theorem q_iinc (pc' : Nat) (hp : pc + 3 = pc') {j a : Nat} {z : Int} (v : Nat) (hg : q_lg lv j = some (.int (nI a))) (hv : nI a + Int32.ofInt z = nI v) (hj : j < m.2.2.2.1) (hd : decode m.2.2.1 pc = .ok (.iinc j z, 3)) (kk : q_R Γ m rm Z k n pc' (q_lp lv j (.int (nI v))) (st) h) : q_R Γ m rm Z k n pc lv (st) h := by
  subst hp
  intro p e s mi args below meth c H locs ls C hP hD hS hl
  obtain ⟨q, hq⟩ := List.getElem?_of_mem (q_lg_mem hg)
  exact lv_iinc C.1 C.2.1 hd hl hq hv hj rfl (fun ls hl => kk p e s mi args below meth c H locs ls C hP hD hS (q_lv_sub hl (fun q hq => q_lp_mem hq)))
theorem q_iinc1 (pc' : Nat) (hp : pc + 3 = pc') {j a : Nat} {z : Int} (u : Nat) (hz : Int32.ofInt z = nI u) (hg : q_lg lv j = some (.int (nI a))) (hj : j < m.2.2.2.1) (hd : decode m.2.2.1 pc = .ok (.iinc j z, 3)) (kk : q_R Γ m rm Z k n pc' (q_lp lv j (.int (nI (a + u)))) (st) h) : q_R Γ m rm Z k n pc lv (st) h :=
  q_iinc pc' hp (a + u) hg (by rw [hz, nI_add]) hj hd kk
theorem q_iadd (pc' : Nat) (hp : pc + 1 = pc') {a b : Nat}  (hd : decode m.2.2.1 pc = .ok (.iadd, 1)) (kk : q_R Γ m rm Z k n pc' lv (.int (nI (a + b)) :: st) h) : q_R Γ m rm Z k n pc lv (.int (nI b) :: .int (nI a) :: st) h := by
  subst hp
  rw [← nI_add] at kk
  exact fun p e s mi args below meth c H locs ls C hP hD hS hl => lv_iadd C.1 C.2.1 hd (kk p e s mi args below meth c H locs ls C hP hD hS hl)
theorem q_isub (pc' : Nat) (hp : pc + 1 = pc') {a b : Nat} (hs : b ≤ a) (hd : decode m.2.2.1 pc = .ok (.isub, 1)) (kk : q_R Γ m rm Z k n pc' lv (.int (nI (a - b)) :: st) h) : q_R Γ m rm Z k n pc lv (.int (nI b) :: .int (nI a) :: st) h := by
  subst hp
  rw [← pk_sub hs] at kk
  exact fun p e s mi args below meth c H locs ls C hP hD hS hl => lv_isub C.1 C.2.1 hd (kk p e s mi args below meth c H locs ls C hP hD hS hl)
theorem q_isubG (pc' : Nat) (hp : pc + 1 = pc') {a b : Nat} (hs : b ≤ 4294967296) (hd : decode m.2.2.1 pc = .ok (.isub, 1)) (kk : q_R Γ m rm Z k n pc' lv (.int (nI (a + 4294967296 - b)) :: st) h) : q_R Γ m rm Z k n pc lv (.int (nI b) :: .int (nI a) :: st) h := by
  subst hp
  rw [← z_sub a b hs] at kk
  exact fun p e s mi args below meth c H locs ls C hP hD hS hl => lv_isub C.1 C.2.1 hd (kk p e s mi args below meth c H locs ls C hP hD hS hl)
theorem q_imul (pc' : Nat) (hp : pc + 1 = pc') {a b : Nat}  (hd : decode m.2.2.1 pc = .ok (.imul, 1)) (kk : q_R Γ m rm Z k n pc' lv (.int (nI (a * b)) :: st) h) : q_R Γ m rm Z k n pc lv (.int (nI b) :: .int (nI a) :: st) h := by
  subst hp
  rw [← pk_mul] at kk
  exact fun p e s mi args below meth c H locs ls C hP hD hS hl => lv_imul C.1 C.2.1 hd (kk p e s mi args below meth c H locs ls C hP hD hS hl)
theorem q_iand (pc' : Nat) (hp : pc + 1 = pc') {a b : Nat}  (hd : decode m.2.2.1 pc = .ok (.iand, 1)) (kk : q_R Γ m rm Z k n pc' lv (.int (nI (a &&& b)) :: st) h) : q_R Γ m rm Z k n pc lv (.int (nI b) :: .int (nI a) :: st) h := by
  subst hp
  rw [← z_and] at kk
  exact fun p e s mi args below meth c H locs ls C hP hD hS hl => lv_iand C.1 C.2.1 hd (kk p e s mi args below meth c H locs ls C hP hD hS hl)
theorem q_ior (pc' : Nat) (hp : pc + 1 = pc') {a b : Nat}  (hd : decode m.2.2.1 pc = .ok (.ior, 1)) (kk : q_R Γ m rm Z k n pc' lv (.int (nI (a ||| b)) :: st) h) : q_R Γ m rm Z k n pc lv (.int (nI b) :: .int (nI a) :: st) h := by
  subst hp
  rw [← z_or] at kk
  exact fun p e s mi args below meth c H locs ls C hP hD hS hl => lv_ior C.1 C.2.1 hd (kk p e s mi args below meth c H locs ls C hP hD hS hl)
theorem q_ixor (pc' : Nat) (hp : pc + 1 = pc') {a b : Nat}  (hd : decode m.2.2.1 pc = .ok (.ixor, 1)) (kk : q_R Γ m rm Z k n pc' lv (.int (nI (a ^^^ b)) :: st) h) : q_R Γ m rm Z k n pc lv (.int (nI b) :: .int (nI a) :: st) h := by
  subst hp
  rw [← z_xor] at kk
  exact fun p e s mi args below meth c H locs ls C hP hD hS hl => lv_ixor C.1 C.2.1 hd (kk p e s mi args below meth c H locs ls C hP hD hS hl)
theorem q_idiv (pc' : Nat) (hp : pc + 1 = pc') {a b : Nat} (ha : a < 2147483648) (hb0 : 0 < b) (hb : b < 2147483648) (hd : decode m.2.2.1 pc = .ok (.idiv, 1)) (kk : q_R Γ m rm Z k n pc' lv (.int (nI (a / b)) :: st) h) : q_R Γ m rm Z k n pc lv (.int (nI b) :: .int (nI a) :: st) h := by
  subst hp
  rw [← pk_div ha hb0 hb] at kk
  exact fun p e s mi args below meth c H locs ls C hP hD hS hl => lv_idiv C.1 C.2.1 hd (nI_ne0 hb0 hb) (kk p e s mi args below meth c H locs ls C hP hD hS hl)
theorem q_irem (pc' : Nat) (hp : pc + 1 = pc') {a b : Nat} (ha : a < 2147483648) (hb0 : 0 < b) (hb : b < 2147483648) (hd : decode m.2.2.1 pc = .ok (.irem, 1)) (kk : q_R Γ m rm Z k n pc' lv (.int (nI (a % b)) :: st) h) : q_R Γ m rm Z k n pc lv (.int (nI b) :: .int (nI a) :: st) h := by
  subst hp
  rw [← pk_rem ha hb0 hb] at kk
  exact fun p e s mi args below meth c H locs ls C hP hD hS hl => lv_irem C.1 C.2.1 hd (nI_ne0 hb0 hb) (kk p e s mi args below meth c H locs ls C hP hD hS hl)
theorem q_ishl (pc' : Nat) (hp : pc + 1 = pc') {a b : Nat} (hb : b < 32) (hd : decode m.2.2.1 pc = .ok (.ishl, 1)) (kk : q_R Γ m rm Z k n pc' lv (.int (nI (a * 2 ^ b)) :: st) h) : q_R Γ m rm Z k n pc lv (.int (nI b) :: .int (nI a) :: st) h := by
  subst hp
  rw [← z_shl a hb] at kk
  exact fun p e s mi args below meth c H locs ls C hP hD hS hl => lv_ishl C.1 C.2.1 hd (kk p e s mi args below meth c H locs ls C hP hD hS hl)
theorem q_ishr (pc' : Nat) (hp : pc + 1 = pc') {a b : Nat} (ha : a < 2147483648) (hb : b < 32) (hd : decode m.2.2.1 pc = .ok (.ishr, 1)) (kk : q_R Γ m rm Z k n pc' lv (.int (nI (a / 2 ^ b)) :: st) h) : q_R Γ m rm Z k n pc lv (.int (nI b) :: .int (nI a) :: st) h := by
  subst hp
  rw [← z_shr ha hb] at kk
  exact fun p e s mi args below meth c H locs ls C hP hD hS hl => lv_ishr C.1 C.2.1 hd (kk p e s mi args below meth c H locs ls C hP hD hS hl)
theorem q_ishrG (pc' : Nat) (hp : pc + 1 = pc') {a b : Nat} (v : Nat) (hv : nI a >>> (nI b &&& 31) = nI v) (hd : decode m.2.2.1 pc = .ok (.ishr, 1)) (kk : q_R Γ m rm Z k n pc' lv (.int (nI v) :: st) h) : q_R Γ m rm Z k n pc lv (.int (nI b) :: .int (nI a) :: st) h := by
  subst hp
  rw [← hv] at kk
  exact fun p e s mi args below meth c H locs ls C hP hD hS hl => lv_ishr C.1 C.2.1 hd (kk p e s mi args below meth c H locs ls C hP hD hS hl)
theorem q_iushr (pc' : Nat) (hp : pc + 1 = pc') {a b : Nat} (ha : a < 4294967296) (hb : b < 32) (hd : decode m.2.2.1 pc = .ok (.iushr, 1)) (kk : q_R Γ m rm Z k n pc' lv (.int (nI (a / 2 ^ b)) :: st) h) : q_R Γ m rm Z k n pc lv (.int (nI b) :: .int (nI a) :: st) h := by
  subst hp
  exact fun p e s mi args below meth c H locs ls C hP hD hS hl => lv_iushr C.1 C.2.1 hd (z_ushr ha hb) (kk p e s mi args below meth c H locs ls C hP hD hS hl)
theorem q_ineg (pc' : Nat) (hp : pc + 1 = pc') {a : Nat} (ha : a ≤ 4294967296) (hd : decode m.2.2.1 pc = .ok (.ineg, 1)) (kk : q_R Γ m rm Z k n pc' lv (.int (nI (4294967296 - a)) :: st) h) : q_R Γ m rm Z k n pc lv (.int (nI a) :: st) h := by
  subst hp
  have e : (0 : Int32) - nI a = nI (4294967296 - a) := by have := z_sub 0 a ha; rw [Nat.zero_add] at this; exact this
  rw [← e] at kk
  exact fun p e s mi args below meth c H locs ls C hP hD hS hl => lv_ineg C.1 C.2.1 hd (kk p e s mi args below meth c H locs ls C hP hD hS hl)
theorem q_i2l (pc' : Nat) (hp : pc + 1 = pc') {a : Nat} (hd : decode m.2.2.1 pc = .ok (.i2l, 1)) (kk : q_R Γ m rm Z k n pc' lv (.long (lZ (z_s a)) :: st) h) : q_R Γ m rm Z k n pc lv (.int (nI a) :: st) h := by
  subst hp
  exact fun p e s mi args below meth c H locs ls C hP hD hS hl => lv_i2l C.1 C.2.1 hd (z_i2l a) (kk p e s mi args below meth c H locs ls C hP hD hS hl)
theorem q_l2i (pc' : Nat) (hp : pc + 1 = pc') {z : Int} (v : Nat) (hv : (lZ z).toInt32 = nI v) (hd : decode m.2.2.1 pc = .ok (.l2i, 1)) (kk : q_R Γ m rm Z k n pc' lv (.int (nI v) :: st) h) : q_R Γ m rm Z k n pc lv (.long (lZ z) :: st) h := by
  subst hp
  exact fun p e s mi args below meth c H locs ls C hP hD hS hl => lv_l2i C.1 C.2.1 hd hv (kk p e s mi args below meth c H locs ls C hP hD hS hl)
theorem q_i2b (pc' : Nat) (hp : pc + 1 = pc') {a : Nat} (v : Nat) (hv : (nI a).toInt8.toInt32 = nI v) (hd : decode m.2.2.1 pc = .ok (.i2b, 1)) (kk : q_R Γ m rm Z k n pc' lv (.int (nI v) :: st) h) : q_R Γ m rm Z k n pc lv (.int (nI a) :: st) h := by
  subst hp
  exact fun p e s mi args below meth c H locs ls C hP hD hS hl => lv_i2b C.1 C.2.1 hd hv (kk p e s mi args below meth c H locs ls C hP hD hS hl)
theorem q_i2s (pc' : Nat) (hp : pc + 1 = pc') {a : Nat} (v : Nat) (hv : (nI a).toInt16.toInt32 = nI v) (hd : decode m.2.2.1 pc = .ok (.i2s, 1)) (kk : q_R Γ m rm Z k n pc' lv (.int (nI v) :: st) h) : q_R Γ m rm Z k n pc lv (.int (nI a) :: st) h := by
  subst hp
  exact fun p e s mi args below meth c H locs ls C hP hD hS hl => lv_i2s C.1 C.2.1 hd hv (kk p e s mi args below meth c H locs ls C hP hD hS hl)
theorem q_ladd (pc' : Nat) (hp : pc + 1 = pc') {a b : Int}  (hd : decode m.2.2.1 pc = .ok (.ladd, 1)) (kk : q_R Γ m rm Z k n pc' lv (.long (lZ (a + b)) :: st) h) : q_R Γ m rm Z k n pc lv (.long (lZ (b)) :: .long (lZ (a)) :: st) h := by
  subst hp
  rw [← lZ_add] at kk
  exact fun p e s mi args below meth c H locs ls C hP hD hS hl => lv_ladd C.1 C.2.1 hd (kk p e s mi args below meth c H locs ls C hP hD hS hl)
theorem q_ldiv (pc' : Nat) (hp : pc + 1 = pc') {a b : Nat} (ha : a < 4611686018427387904) (hb0 : 0 < b) (hb : b < 4611686018427387904) (hd : decode m.2.2.1 pc = .ok (.ldiv, 1)) (kk : q_R Γ m rm Z k n pc' lv (.long (lZ (((a / b : Nat) : Int))) :: st) h) : q_R Γ m rm Z k n pc lv (.long (lZ ((b : Int))) :: .long (lZ ((a : Int))) :: st) h := by
  subst hp
  rw [← lZ_div (by omega) hb0 (by omega)] at kk
  exact fun p e s mi args below meth c H locs ls C hP hD hS hl => lv_ldiv C.1 C.2.1 hd (fun q => by rw [show (0 : Int64) = lZ ((0 : Nat) : Int) from rfl, lZ_eq (by omega) (by omega)] at q; omega) (kk p e s mi args below meth c H locs ls C hP hD hS hl)
theorem q_lrem (pc' : Nat) (hp : pc + 1 = pc') {a b : Nat} (ha : a < 4611686018427387904) (hb0 : 0 < b) (hb : b < 4611686018427387904) (hd : decode m.2.2.1 pc = .ok (.lrem, 1)) (kk : q_R Γ m rm Z k n pc' lv (.long (lZ (((a % b : Nat) : Int))) :: st) h) : q_R Γ m rm Z k n pc lv (.long (lZ ((b : Int))) :: .long (lZ ((a : Int))) :: st) h := by
  subst hp
  rw [← lZ_rem (by omega) hb0 (by omega)] at kk
  exact fun p e s mi args below meth c H locs ls C hP hD hS hl => lv_lrem C.1 C.2.1 hd (fun q => by rw [show (0 : Int64) = lZ ((0 : Nat) : Int) from rfl, lZ_eq (by omega) (by omega)] at q; omega) (kk p e s mi args below meth c H locs ls C hP hD hS hl)
theorem q_dup (pc' : Nat) (hp : pc + 1 = pc') {v : Value} (hv : v.category = 1) (hd : decode m.2.2.1 pc = .ok (.dup, 1)) (kk : q_R Γ m rm Z k n pc' lv (v :: v :: st) h) : q_R Γ m rm Z k n pc lv (v :: st) h := by
  subst hp
  exact fun p e s mi args below meth c H locs ls C hP hD hS hl => lv_dup C.1 C.2.1 hd hv (kk p e s mi args below meth c H locs ls C hP hD hS hl)
theorem q_pop (pc' : Nat) (hp : pc + 1 = pc') {v : Value} (hv : v.category = 1) (hd : decode m.2.2.1 pc = .ok (.pop, 1)) (kk : q_R Γ m rm Z k n pc' lv (st) h) : q_R Γ m rm Z k n pc lv (v :: st) h := by
  subst hp
  exact fun p e s mi args below meth c H locs ls C hP hD hS hl => lv_pop C.1 C.2.1 hd hv (kk p e s mi args below meth c H locs ls C hP hD hS hl)
theorem q_dup2 (pc' : Nat) (hp : pc + 1 = pc') {v u : Value} (hv : v.category = 1) (hu : u.category = 1) (hd : decode m.2.2.1 pc = .ok (.dup2, 1)) (kk : q_R Γ m rm Z k n pc' lv (v :: u :: v :: u :: st) h) : q_R Γ m rm Z k n pc lv (v :: u :: st) h := by
  subst hp
  exact fun p e s mi args below meth c H locs ls C hP hD hS hl => lv_dup2_11 C.1 C.2.1 hd hv hu (kk p e s mi args below meth c H locs ls C hP hD hS hl)
theorem q_goto (tgt : Nat) {off : Int} (ht : (pc : Int) + off = (tgt : Int)) (hd : decode m.2.2.1 pc = .ok (.goto off, 3)) (kk : q_R Γ m rm Z k n tgt lv (st) h) : q_R Γ m rm Z k n pc lv (st) h :=
  fun p e s mi args below meth c H locs ls C hP hD hS hl => lv_goto C.1 C.2.1 hd ht (kk p e s mi args below meth c H locs ls C hP hD hS hl)
theorem q_if_eq (pc' : Nat) (hp : pc + 3 = pc') (tgt : Nat) {off : Int} (ht : (pc : Int) + off = (tgt : Int)) {a : Nat} (ha : a < 4294967296) (hd : decode m.2.2.1 pc = .ok (.ifCond .eq off, 3)) (kt : a = 0 → q_R Γ m rm Z k n tgt lv (st) h) (kf : ¬ (a = 0) → q_R Γ m rm Z k n pc' lv (st) h) : q_R Γ m rm Z k n pc lv (.int (nI a) :: st) h := by
  subst hp
  have eqv := z_eq (a := a) (b := 0) ha (by omega)
  exact fun p e s mi args below meth c H locs ls C hP hD hS hl => lv_if_eq C.1 C.2.1 hd ht (fun q => kt (eqv.mp q) p e s mi args below meth c H locs ls C hP hD hS hl) (fun q => kf (fun z => q (eqv.mpr z)) p e s mi args below meth c H locs ls C hP hD hS hl)
theorem q_icmp_eq (pc' : Nat) (hp : pc + 3 = pc') (tgt : Nat) {off : Int} (ht : (pc : Int) + off = (tgt : Int)) {a b : Nat} (ha : a < 4294967296) (hb : b < 4294967296) (hd : decode m.2.2.1 pc = .ok (.if_icmp .eq off, 3)) (kt : a = b → q_R Γ m rm Z k n tgt lv (st) h) (kf : ¬ (a = b) → q_R Γ m rm Z k n pc' lv (st) h) : q_R Γ m rm Z k n pc lv (.int (nI b) :: .int (nI a) :: st) h := by
  subst hp
  have eqv := z_eq (a := a) (b := b) ha hb
  exact fun p e s mi args below meth c H locs ls C hP hD hS hl => lv_icmp_eq C.1 C.2.1 hd ht (fun q => kt (eqv.mp q) p e s mi args below meth c H locs ls C hP hD hS hl) (fun q => kf (fun z => q (eqv.mpr z)) p e s mi args below meth c H locs ls C hP hD hS hl)
theorem q_if_ne (pc' : Nat) (hp : pc + 3 = pc') (tgt : Nat) {off : Int} (ht : (pc : Int) + off = (tgt : Int)) {a : Nat} (ha : a < 4294967296) (hd : decode m.2.2.1 pc = .ok (.ifCond .ne off, 3)) (kt : a ≠ 0 → q_R Γ m rm Z k n tgt lv (st) h) (kf : a = 0 → q_R Γ m rm Z k n pc' lv (st) h) : q_R Γ m rm Z k n pc lv (.int (nI a) :: st) h := by
  subst hp
  have eqv := (not_congr (z_eq (a := a) (b := 0) ha (by omega)))
  exact fun p e s mi args below meth c H locs ls C hP hD hS hl => lv_if_ne C.1 C.2.1 hd ht (fun q => kt (eqv.mp q) p e s mi args below meth c H locs ls C hP hD hS hl) (fun q => kf (Classical.not_not.mp (fun z => (eqv.mpr z) q)) p e s mi args below meth c H locs ls C hP hD hS hl)
theorem q_icmp_ne (pc' : Nat) (hp : pc + 3 = pc') (tgt : Nat) {off : Int} (ht : (pc : Int) + off = (tgt : Int)) {a b : Nat} (ha : a < 4294967296) (hb : b < 4294967296) (hd : decode m.2.2.1 pc = .ok (.if_icmp .ne off, 3)) (kt : a ≠ b → q_R Γ m rm Z k n tgt lv (st) h) (kf : a = b → q_R Γ m rm Z k n pc' lv (st) h) : q_R Γ m rm Z k n pc lv (.int (nI b) :: .int (nI a) :: st) h := by
  subst hp
  have eqv := (not_congr (z_eq (a := a) (b := b) ha hb))
  exact fun p e s mi args below meth c H locs ls C hP hD hS hl => lv_icmp_ne C.1 C.2.1 hd ht (fun q => kt (eqv.mp q) p e s mi args below meth c H locs ls C hP hD hS hl) (fun q => kf (Classical.not_not.mp (fun z => (eqv.mpr z) q)) p e s mi args below meth c H locs ls C hP hD hS hl)
theorem q_icmp_lt (pc' : Nat) (hp : pc + 3 = pc') (tgt : Nat) {off : Int} (ht : (pc : Int) + off = (tgt : Int)) {a b : Nat} (ha : a < 2147483648) (hb : b < 2147483648) (hd : decode m.2.2.1 pc = .ok (.if_icmp .lt off, 3)) (kt : a < b → q_R Γ m rm Z k n tgt lv (st) h) (kf : ¬ (a < b) → q_R Γ m rm Z k n pc' lv (st) h) : q_R Γ m rm Z k n pc lv (.int (nI b) :: .int (nI a) :: st) h := by
  subst hp
  have eqv := nI_ltI ha hb
  exact fun p e s mi args below meth c H locs ls C hP hD hS hl => lv_icmp_lt C.1 C.2.1 hd ht (fun q => kt (eqv.mp q) p e s mi args below meth c H locs ls C hP hD hS hl) (fun q => kf (fun z => q (eqv.mpr z)) p e s mi args below meth c H locs ls C hP hD hS hl)
theorem q_icmp_ge (pc' : Nat) (hp : pc + 3 = pc') (tgt : Nat) {off : Int} (ht : (pc : Int) + off = (tgt : Int)) {a b : Nat} (ha : a < 2147483648) (hb : b < 2147483648) (hd : decode m.2.2.1 pc = .ok (.if_icmp .ge off, 3)) (kt : a ≥ b → q_R Γ m rm Z k n tgt lv (st) h) (kf : ¬ (a ≥ b) → q_R Γ m rm Z k n pc' lv (st) h) : q_R Γ m rm Z k n pc lv (.int (nI b) :: .int (nI a) :: st) h := by
  subst hp
  have eqv := nI_leI hb ha
  exact fun p e s mi args below meth c H locs ls C hP hD hS hl => lv_icmp_ge C.1 C.2.1 hd ht (fun q => kt (eqv.mp q) p e s mi args below meth c H locs ls C hP hD hS hl) (fun q => kf (fun z => q (eqv.mpr z)) p e s mi args below meth c H locs ls C hP hD hS hl)
theorem q_icmp_gt (pc' : Nat) (hp : pc + 3 = pc') (tgt : Nat) {off : Int} (ht : (pc : Int) + off = (tgt : Int)) {a b : Nat} (ha : a < 2147483648) (hb : b < 2147483648) (hd : decode m.2.2.1 pc = .ok (.if_icmp .gt off, 3)) (kt : a > b → q_R Γ m rm Z k n tgt lv (st) h) (kf : ¬ (a > b) → q_R Γ m rm Z k n pc' lv (st) h) : q_R Γ m rm Z k n pc lv (.int (nI b) :: .int (nI a) :: st) h := by
  subst hp
  have eqv := nI_ltI hb ha
  exact fun p e s mi args below meth c H locs ls C hP hD hS hl => lv_icmp_gt C.1 C.2.1 hd ht (fun q => kt (eqv.mp q) p e s mi args below meth c H locs ls C hP hD hS hl) (fun q => kf (fun z => q (eqv.mpr z)) p e s mi args below meth c H locs ls C hP hD hS hl)
theorem q_icmp_le (pc' : Nat) (hp : pc + 3 = pc') (tgt : Nat) {off : Int} (ht : (pc : Int) + off = (tgt : Int)) {a b : Nat} (ha : a < 2147483648) (hb : b < 2147483648) (hd : decode m.2.2.1 pc = .ok (.if_icmp .le off, 3)) (kt : a ≤ b → q_R Γ m rm Z k n tgt lv (st) h) (kf : ¬ (a ≤ b) → q_R Γ m rm Z k n pc' lv (st) h) : q_R Γ m rm Z k n pc lv (.int (nI b) :: .int (nI a) :: st) h := by
  subst hp
  have eqv := nI_leI ha hb
  exact fun p e s mi args below meth c H locs ls C hP hD hS hl => lv_icmp_le C.1 C.2.1 hd ht (fun q => kt (eqv.mp q) p e s mi args below meth c H locs ls C hP hD hS hl) (fun q => kf (fun z => q (eqv.mpr z)) p e s mi args below meth c H locs ls C hP hD hS hl)
theorem q_icmpS_lt (pc' : Nat) (hp : pc + 3 = pc') (tgt : Nat) {off : Int} (ht : (pc : Int) + off = (tgt : Int)) {a b : Nat} (hd : decode m.2.2.1 pc = .ok (.if_icmp .lt off, 3)) (kt : z_s a < z_s b → q_R Γ m rm Z k n tgt lv (st) h) (kf : ¬ (z_s a < z_s b) → q_R Γ m rm Z k n pc' lv (st) h) : q_R Γ m rm Z k n pc lv (.int (nI b) :: .int (nI a) :: st) h := by
  subst hp
  have eqv := z_lt (a := a) (b := b)
  exact fun p e s mi args below meth c H locs ls C hP hD hS hl => lv_icmp_lt C.1 C.2.1 hd ht (fun q => kt (eqv.mp q) p e s mi args below meth c H locs ls C hP hD hS hl) (fun q => kf (fun z => q (eqv.mpr z)) p e s mi args below meth c H locs ls C hP hD hS hl)
theorem q_icmpS_ge (pc' : Nat) (hp : pc + 3 = pc') (tgt : Nat) {off : Int} (ht : (pc : Int) + off = (tgt : Int)) {a b : Nat} (hd : decode m.2.2.1 pc = .ok (.if_icmp .ge off, 3)) (kt : z_s a ≥ z_s b → q_R Γ m rm Z k n tgt lv (st) h) (kf : ¬ (z_s a ≥ z_s b) → q_R Γ m rm Z k n pc' lv (st) h) : q_R Γ m rm Z k n pc lv (.int (nI b) :: .int (nI a) :: st) h := by
  subst hp
  have eqv := z_le (a := b) (b := a)
  exact fun p e s mi args below meth c H locs ls C hP hD hS hl => lv_icmp_ge C.1 C.2.1 hd ht (fun q => kt (eqv.mp q) p e s mi args below meth c H locs ls C hP hD hS hl) (fun q => kf (fun z => q (eqv.mpr z)) p e s mi args below meth c H locs ls C hP hD hS hl)
theorem q_icmpS_gt (pc' : Nat) (hp : pc + 3 = pc') (tgt : Nat) {off : Int} (ht : (pc : Int) + off = (tgt : Int)) {a b : Nat} (hd : decode m.2.2.1 pc = .ok (.if_icmp .gt off, 3)) (kt : z_s a > z_s b → q_R Γ m rm Z k n tgt lv (st) h) (kf : ¬ (z_s a > z_s b) → q_R Γ m rm Z k n pc' lv (st) h) : q_R Γ m rm Z k n pc lv (.int (nI b) :: .int (nI a) :: st) h := by
  subst hp
  have eqv := z_lt (a := b) (b := a)
  exact fun p e s mi args below meth c H locs ls C hP hD hS hl => lv_icmp_gt C.1 C.2.1 hd ht (fun q => kt (eqv.mp q) p e s mi args below meth c H locs ls C hP hD hS hl) (fun q => kf (fun z => q (eqv.mpr z)) p e s mi args below meth c H locs ls C hP hD hS hl)
theorem q_icmpS_le (pc' : Nat) (hp : pc + 3 = pc') (tgt : Nat) {off : Int} (ht : (pc : Int) + off = (tgt : Int)) {a b : Nat} (hd : decode m.2.2.1 pc = .ok (.if_icmp .le off, 3)) (kt : z_s a ≤ z_s b → q_R Γ m rm Z k n tgt lv (st) h) (kf : ¬ (z_s a ≤ z_s b) → q_R Γ m rm Z k n pc' lv (st) h) : q_R Γ m rm Z k n pc lv (.int (nI b) :: .int (nI a) :: st) h := by
  subst hp
  have eqv := z_le (a := a) (b := b)
  exact fun p e s mi args below meth c H locs ls C hP hD hS hl => lv_icmp_le C.1 C.2.1 hd ht (fun q => kt (eqv.mp q) p e s mi args below meth c H locs ls C hP hD hS hl) (fun q => kf (fun z => q (eqv.mpr z)) p e s mi args below meth c H locs ls C hP hD hS hl)
theorem q_ifS_lt (pc' : Nat) (hp : pc + 3 = pc') (tgt : Nat) {off : Int} (ht : (pc : Int) + off = (tgt : Int)) {a : Nat} (hd : decode m.2.2.1 pc = .ok (.ifCond .lt off, 3)) (kt : z_s a < z_s 0 → q_R Γ m rm Z k n tgt lv (st) h) (kf : ¬ (z_s a < z_s 0) → q_R Γ m rm Z k n pc' lv (st) h) : q_R Γ m rm Z k n pc lv (.int (nI a) :: st) h := by
  subst hp
  have eqv := z_lt (a := a) (b := 0)
  exact fun p e s mi args below meth c H locs ls C hP hD hS hl => lv_if_lt C.1 C.2.1 hd ht (fun q => kt (eqv.mp q) p e s mi args below meth c H locs ls C hP hD hS hl) (fun q => kf (fun z => q (eqv.mpr z)) p e s mi args below meth c H locs ls C hP hD hS hl)
theorem q_ifS_ge (pc' : Nat) (hp : pc + 3 = pc') (tgt : Nat) {off : Int} (ht : (pc : Int) + off = (tgt : Int)) {a : Nat} (hd : decode m.2.2.1 pc = .ok (.ifCond .ge off, 3)) (kt : z_s a ≥ z_s 0 → q_R Γ m rm Z k n tgt lv (st) h) (kf : ¬ (z_s a ≥ z_s 0) → q_R Γ m rm Z k n pc' lv (st) h) : q_R Γ m rm Z k n pc lv (.int (nI a) :: st) h := by
  subst hp
  have eqv := z_le (a := 0) (b := a)
  exact fun p e s mi args below meth c H locs ls C hP hD hS hl => lv_if_ge C.1 C.2.1 hd ht (fun q => kt (eqv.mp q) p e s mi args below meth c H locs ls C hP hD hS hl) (fun q => kf (fun z => q (eqv.mpr z)) p e s mi args below meth c H locs ls C hP hD hS hl)
theorem q_ifS_gt (pc' : Nat) (hp : pc + 3 = pc') (tgt : Nat) {off : Int} (ht : (pc : Int) + off = (tgt : Int)) {a : Nat} (hd : decode m.2.2.1 pc = .ok (.ifCond .gt off, 3)) (kt : z_s a > z_s 0 → q_R Γ m rm Z k n tgt lv (st) h) (kf : ¬ (z_s a > z_s 0) → q_R Γ m rm Z k n pc' lv (st) h) : q_R Γ m rm Z k n pc lv (.int (nI a) :: st) h := by
  subst hp
  have eqv := z_lt (a := 0) (b := a)
  exact fun p e s mi args below meth c H locs ls C hP hD hS hl => lv_if_gt C.1 C.2.1 hd ht (fun q => kt (eqv.mp q) p e s mi args below meth c H locs ls C hP hD hS hl) (fun q => kf (fun z => q (eqv.mpr z)) p e s mi args below meth c H locs ls C hP hD hS hl)
theorem q_ifS_le (pc' : Nat) (hp : pc + 3 = pc') (tgt : Nat) {off : Int} (ht : (pc : Int) + off = (tgt : Int)) {a : Nat} (hd : decode m.2.2.1 pc = .ok (.ifCond .le off, 3)) (kt : z_s a ≤ z_s 0 → q_R Γ m rm Z k n tgt lv (st) h) (kf : ¬ (z_s a ≤ z_s 0) → q_R Γ m rm Z k n pc' lv (st) h) : q_R Γ m rm Z k n pc lv (.int (nI a) :: st) h := by
  subst hp
  have eqv := z_le (a := a) (b := 0)
  exact fun p e s mi args below meth c H locs ls C hP hD hS hl => lv_if_le C.1 C.2.1 hd ht (fun q => kt (eqv.mp q) p e s mi args below meth c H locs ls C hP hD hS hl) (fun q => kf (fun z => q (eqv.mpr z)) p e s mi args below meth c H locs ls C hP hD hS hl)
theorem q_ifN_lt (pc' : Nat) (hp : pc + 3 = pc') (tgt : Nat) {off : Int} (ht : (pc : Int) + off = (tgt : Int)) {a : Nat} (ha : a < 2147483648) (hd : decode m.2.2.1 pc = .ok (.ifCond .lt off, 3)) (kt : a < 0 → q_R Γ m rm Z k n tgt lv (st) h) (kf : ¬ (a < 0) → q_R Γ m rm Z k n pc' lv (st) h) : q_R Γ m rm Z k n pc lv (.int (nI a) :: st) h := by
  subst hp
  have eqv := nI_ltI ha (b := 0) (by omega)
  exact fun p e s mi args below meth c H locs ls C hP hD hS hl => lv_if_lt C.1 C.2.1 hd ht (fun q => kt (eqv.mp q) p e s mi args below meth c H locs ls C hP hD hS hl) (fun q => kf (fun z => q (eqv.mpr z)) p e s mi args below meth c H locs ls C hP hD hS hl)
theorem q_ifN_ge (pc' : Nat) (hp : pc + 3 = pc') (tgt : Nat) {off : Int} (ht : (pc : Int) + off = (tgt : Int)) {a : Nat} (ha : a < 2147483648) (hd : decode m.2.2.1 pc = .ok (.ifCond .ge off, 3)) (kt : a ≥ 0 → q_R Γ m rm Z k n tgt lv (st) h) (kf : ¬ (a ≥ 0) → q_R Γ m rm Z k n pc' lv (st) h) : q_R Γ m rm Z k n pc lv (.int (nI a) :: st) h := by
  subst hp
  have eqv := nI_leI (a := 0) (by omega) ha
  exact fun p e s mi args below meth c H locs ls C hP hD hS hl => lv_if_ge C.1 C.2.1 hd ht (fun q => kt (eqv.mp q) p e s mi args below meth c H locs ls C hP hD hS hl) (fun q => kf (fun z => q (eqv.mpr z)) p e s mi args below meth c H locs ls C hP hD hS hl)
theorem q_ifN_gt (pc' : Nat) (hp : pc + 3 = pc') (tgt : Nat) {off : Int} (ht : (pc : Int) + off = (tgt : Int)) {a : Nat} (ha : a < 2147483648) (hd : decode m.2.2.1 pc = .ok (.ifCond .gt off, 3)) (kt : a > 0 → q_R Γ m rm Z k n tgt lv (st) h) (kf : ¬ (a > 0) → q_R Γ m rm Z k n pc' lv (st) h) : q_R Γ m rm Z k n pc lv (.int (nI a) :: st) h := by
  subst hp
  have eqv := nI_ltI (a := 0) (by omega) ha
  exact fun p e s mi args below meth c H locs ls C hP hD hS hl => lv_if_gt C.1 C.2.1 hd ht (fun q => kt (eqv.mp q) p e s mi args below meth c H locs ls C hP hD hS hl) (fun q => kf (fun z => q (eqv.mpr z)) p e s mi args below meth c H locs ls C hP hD hS hl)
theorem q_ifN_le (pc' : Nat) (hp : pc + 3 = pc') (tgt : Nat) {off : Int} (ht : (pc : Int) + off = (tgt : Int)) {a : Nat} (ha : a < 2147483648) (hd : decode m.2.2.1 pc = .ok (.ifCond .le off, 3)) (kt : a ≤ 0 → q_R Γ m rm Z k n tgt lv (st) h) (kf : ¬ (a ≤ 0) → q_R Γ m rm Z k n pc' lv (st) h) : q_R Γ m rm Z k n pc lv (.int (nI a) :: st) h := by
  subst hp
  have eqv := nI_leI ha (b := 0) (by omega)
  exact fun p e s mi args below meth c H locs ls C hP hD hS hl => lv_if_le C.1 C.2.1 hd ht (fun q => kt (eqv.mp q) p e s mi args below meth c H locs ls C hP hD hS hl) (fun q => kf (fun z => q (eqv.mpr z)) p e s mi args below meth c H locs ls C hP hD hS hl)
theorem q_if_eqB (pc' : Nat) (hp : pc + 3 = pc') (tgt : Nat) {off : Int} (ht : (pc : Int) + off = (tgt : Int)) {b : Bool} (hd : decode m.2.2.1 pc = .ok (.ifCond .eq off, 3)) (kt : b = false → q_R Γ m rm Z k n tgt lv (st) h) (kf : b = true → q_R Γ m rm Z k n pc' lv (st) h) : q_R Γ m rm Z k n pc lv (.int (nI b.toNat) :: st) h := by
  refine q_if_eq pc' hp tgt ht (by cases b <;> decide) hd (fun q => kt ?_) (fun q => kf ?_)
  · cases b with
    | false => rfl
    | true => exact absurd q (by decide)
  · cases b with
    | false => exact absurd rfl q
    | true => rfl
theorem q_if_neB (pc' : Nat) (hp : pc + 3 = pc') (tgt : Nat) {off : Int} (ht : (pc : Int) + off = (tgt : Int)) {b : Bool} (hd : decode m.2.2.1 pc = .ok (.ifCond .ne off, 3)) (kt : b = true → q_R Γ m rm Z k n tgt lv (st) h) (kf : b = false → q_R Γ m rm Z k n pc' lv (st) h) : q_R Γ m rm Z k n pc lv (.int (nI b.toNat) :: st) h := by
  refine q_if_ne pc' hp tgt ht (by cases b <;> decide) hd (fun q => kt ?_) (fun q => kf ?_)
  · cases b with
    | true => rfl
    | false => exact absurd rfl q
  · cases b with
    | true => exact absurd q (by decide)
    | false => rfl
theorem q_lcmp_lt (pc' : Nat) (pc2 : Nat) (hp : pc + 1 = pc2) (hp2 : pc2 + 3 = pc') (tgt : Nat) {off : Int} (ht : (pc2 : Int) + off = (tgt : Int)) {a b : Int} (ha : -4611686018427387904 ≤ a ∧ a < 4611686018427387904) (hb : -4611686018427387904 ≤ b ∧ b < 4611686018427387904) (hd : decode m.2.2.1 pc = .ok (.lcmp, 1)) (hd2 : decode m.2.2.1 pc2 = .ok (.ifCond .lt off, 3)) (kt : a < b → q_R Γ m rm Z k n tgt lv (st) h) (kf : ¬ (a < b) → q_R Γ m rm Z k n pc' lv (st) h) : q_R Γ m rm Z k n pc lv (.long (lZ b) :: .long (lZ a) :: st) h := by
  subst hp; subst hp2
  refine fun p e s mi args below meth c H locs ls C hP hD hS hl => W.lcmp C.1 C.2.1 hd (lv_if_lt C.1 C.2.1 hd2 ht (fun q => kt ?_ p e s mi args below meth c H locs ls C hP hD hS hl) (fun q => kf ?_ p e s mi args below meth c H locs ls C hP hD hS hl))
  · rw [lZ_cmp ha hb] at q
    split at q
    · first | omega | exact absurd q (by decide)
    · split at q
      · first | omega | exact absurd q (by decide)
      · first | omega | exact absurd q (by decide)
  · rw [lZ_cmp ha hb] at q
    split at q
    · first | omega | exact absurd (by decide) q | exact absurd q (by decide)
    · split at q
      · first | omega | exact absurd (by decide) q | exact absurd q (by decide)
      · first | omega | exact absurd (by decide) q | exact absurd q (by decide)
theorem q_lcmp_ge (pc' : Nat) (pc2 : Nat) (hp : pc + 1 = pc2) (hp2 : pc2 + 3 = pc') (tgt : Nat) {off : Int} (ht : (pc2 : Int) + off = (tgt : Int)) {a b : Int} (ha : -4611686018427387904 ≤ a ∧ a < 4611686018427387904) (hb : -4611686018427387904 ≤ b ∧ b < 4611686018427387904) (hd : decode m.2.2.1 pc = .ok (.lcmp, 1)) (hd2 : decode m.2.2.1 pc2 = .ok (.ifCond .ge off, 3)) (kt : a ≥ b → q_R Γ m rm Z k n tgt lv (st) h) (kf : ¬ (a ≥ b) → q_R Γ m rm Z k n pc' lv (st) h) : q_R Γ m rm Z k n pc lv (.long (lZ b) :: .long (lZ a) :: st) h := by
  subst hp; subst hp2
  refine fun p e s mi args below meth c H locs ls C hP hD hS hl => W.lcmp C.1 C.2.1 hd (lv_if_ge C.1 C.2.1 hd2 ht (fun q => kt ?_ p e s mi args below meth c H locs ls C hP hD hS hl) (fun q => kf ?_ p e s mi args below meth c H locs ls C hP hD hS hl))
  · rw [lZ_cmp ha hb] at q
    split at q
    · first | omega | exact absurd q (by decide)
    · split at q
      · first | omega | exact absurd q (by decide)
      · first | omega | exact absurd q (by decide)
  · rw [lZ_cmp ha hb] at q
    split at q
    · first | omega | exact absurd (by decide) q | exact absurd q (by decide)
    · split at q
      · first | omega | exact absurd (by decide) q | exact absurd q (by decide)
      · first | omega | exact absurd (by decide) q | exact absurd q (by decide)
theorem q_lcmp_gt (pc' : Nat) (pc2 : Nat) (hp : pc + 1 = pc2) (hp2 : pc2 + 3 = pc') (tgt : Nat) {off : Int} (ht : (pc2 : Int) + off = (tgt : Int)) {a b : Int} (ha : -4611686018427387904 ≤ a ∧ a < 4611686018427387904) (hb : -4611686018427387904 ≤ b ∧ b < 4611686018427387904) (hd : decode m.2.2.1 pc = .ok (.lcmp, 1)) (hd2 : decode m.2.2.1 pc2 = .ok (.ifCond .gt off, 3)) (kt : a > b → q_R Γ m rm Z k n tgt lv (st) h) (kf : ¬ (a > b) → q_R Γ m rm Z k n pc' lv (st) h) : q_R Γ m rm Z k n pc lv (.long (lZ b) :: .long (lZ a) :: st) h := by
  subst hp; subst hp2
  refine fun p e s mi args below meth c H locs ls C hP hD hS hl => W.lcmp C.1 C.2.1 hd (lv_if_gt C.1 C.2.1 hd2 ht (fun q => kt ?_ p e s mi args below meth c H locs ls C hP hD hS hl) (fun q => kf ?_ p e s mi args below meth c H locs ls C hP hD hS hl))
  · rw [lZ_cmp ha hb] at q
    split at q
    · first | omega | exact absurd q (by decide)
    · split at q
      · first | omega | exact absurd q (by decide)
      · first | omega | exact absurd q (by decide)
  · rw [lZ_cmp ha hb] at q
    split at q
    · first | omega | exact absurd (by decide) q | exact absurd q (by decide)
    · split at q
      · first | omega | exact absurd (by decide) q | exact absurd q (by decide)
      · first | omega | exact absurd (by decide) q | exact absurd q (by decide)
theorem q_lcmp_le (pc' : Nat) (pc2 : Nat) (hp : pc + 1 = pc2) (hp2 : pc2 + 3 = pc') (tgt : Nat) {off : Int} (ht : (pc2 : Int) + off = (tgt : Int)) {a b : Int} (ha : -4611686018427387904 ≤ a ∧ a < 4611686018427387904) (hb : -4611686018427387904 ≤ b ∧ b < 4611686018427387904) (hd : decode m.2.2.1 pc = .ok (.lcmp, 1)) (hd2 : decode m.2.2.1 pc2 = .ok (.ifCond .le off, 3)) (kt : a ≤ b → q_R Γ m rm Z k n tgt lv (st) h) (kf : ¬ (a ≤ b) → q_R Γ m rm Z k n pc' lv (st) h) : q_R Γ m rm Z k n pc lv (.long (lZ b) :: .long (lZ a) :: st) h := by
  subst hp; subst hp2
  refine fun p e s mi args below meth c H locs ls C hP hD hS hl => W.lcmp C.1 C.2.1 hd (lv_if_le C.1 C.2.1 hd2 ht (fun q => kt ?_ p e s mi args below meth c H locs ls C hP hD hS hl) (fun q => kf ?_ p e s mi args below meth c H locs ls C hP hD hS hl))
  · rw [lZ_cmp ha hb] at q
    split at q
    · first | omega | exact absurd q (by decide)
    · split at q
      · first | omega | exact absurd q (by decide)
      · first | omega | exact absurd q (by decide)
  · rw [lZ_cmp ha hb] at q
    split at q
    · first | omega | exact absurd (by decide) q | exact absurd q (by decide)
    · split at q
      · first | omega | exact absurd (by decide) q | exact absurd q (by decide)
      · first | omega | exact absurd (by decide) q | exact absurd q (by decide)
theorem q_lcmp_eq (pc' : Nat) (pc2 : Nat) (hp : pc + 1 = pc2) (hp2 : pc2 + 3 = pc') (tgt : Nat) {off : Int} (ht : (pc2 : Int) + off = (tgt : Int)) {a b : Int} (ha : -4611686018427387904 ≤ a ∧ a < 4611686018427387904) (hb : -4611686018427387904 ≤ b ∧ b < 4611686018427387904) (hd : decode m.2.2.1 pc = .ok (.lcmp, 1)) (hd2 : decode m.2.2.1 pc2 = .ok (.ifCond .eq off, 3)) (kt : a = b → q_R Γ m rm Z k n tgt lv (st) h) (kf : ¬ (a = b) → q_R Γ m rm Z k n pc' lv (st) h) : q_R Γ m rm Z k n pc lv (.long (lZ b) :: .long (lZ a) :: st) h := by
  subst hp; subst hp2
  refine fun p e s mi args below meth c H locs ls C hP hD hS hl => W.lcmp C.1 C.2.1 hd (lv_if_eq C.1 C.2.1 hd2 ht (fun q => kt ?_ p e s mi args below meth c H locs ls C hP hD hS hl) (fun q => kf ?_ p e s mi args below meth c H locs ls C hP hD hS hl))
  · rw [lZ_cmp ha hb] at q
    split at q
    · first | omega | exact absurd q (by decide)
    · split at q
      · first | omega | exact absurd q (by decide)
      · first | omega | exact absurd q (by decide)
  · rw [lZ_cmp ha hb] at q
    split at q
    · first | omega | exact absurd (by decide) q | exact absurd q (by decide)
    · split at q
      · first | omega | exact absurd (by decide) q | exact absurd q (by decide)
      · first | omega | exact absurd (by decide) q | exact absurd q (by decide)
theorem q_lcmp_ne (pc' : Nat) (pc2 : Nat) (hp : pc + 1 = pc2) (hp2 : pc2 + 3 = pc') (tgt : Nat) {off : Int} (ht : (pc2 : Int) + off = (tgt : Int)) {a b : Int} (ha : -4611686018427387904 ≤ a ∧ a < 4611686018427387904) (hb : -4611686018427387904 ≤ b ∧ b < 4611686018427387904) (hd : decode m.2.2.1 pc = .ok (.lcmp, 1)) (hd2 : decode m.2.2.1 pc2 = .ok (.ifCond .ne off, 3)) (kt : a ≠ b → q_R Γ m rm Z k n tgt lv (st) h) (kf : ¬ (a ≠ b) → q_R Γ m rm Z k n pc' lv (st) h) : q_R Γ m rm Z k n pc lv (.long (lZ b) :: .long (lZ a) :: st) h := by
  subst hp; subst hp2
  refine fun p e s mi args below meth c H locs ls C hP hD hS hl => W.lcmp C.1 C.2.1 hd (lv_if_ne C.1 C.2.1 hd2 ht (fun q => kt ?_ p e s mi args below meth c H locs ls C hP hD hS hl) (fun q => kf ?_ p e s mi args below meth c H locs ls C hP hD hS hl))
  · rw [lZ_cmp ha hb] at q
    split at q
    · first | omega | exact absurd q (by decide)
    · split at q
      · first | omega | exact absurd q (by decide)
      · first | omega | exact absurd q (by decide)
  · rw [lZ_cmp ha hb] at q
    split at q
    · first | omega | exact absurd (by decide) q | exact absurd q (by decide)
    · split at q
      · first | omega | exact absurd (by decide) q | exact absurd q (by decide)
      · first | omega | exact absurd (by decide) q | exact absurd q (by decide)
theorem q_tab (tgt : Nat) {dflt lo hi : Int} {offs : Array Int} {len a : Nat} {off : Int} (ha : a < 2147483648) (h1 : ¬ (a : Int) < lo) (h2 : ¬ hi < (a : Int)) (ho : offs[((a : Int) - lo).toNat]? = some off) (ht : (pc : Int) + off = (tgt : Int)) (hd : decode m.2.2.1 pc = .ok (.tableswitch dflt lo hi offs, len)) (kk : q_R Γ m rm Z k n tgt lv (st) h) : q_R Γ m rm Z k n pc lv (.int (nI a) :: st) h := by
  rw [← nI_toInt ha] at h1 h2 ho
  exact fun p e s mi args below meth c H locs ls C hP hD hS hl => lv_tableIn C.1 C.2.1 hd h1 h2 ho ht (kk p e s mi args below meth c H locs ls C hP hD hS hl)
theorem q_tabO (tgt : Nat) {dflt lo hi : Int} {offs : Array Int} {len a : Nat} (h1 : z_s a < lo ∨ hi < z_s a) (ht : (pc : Int) + dflt = (tgt : Int)) (hd : decode m.2.2.1 pc = .ok (.tableswitch dflt lo hi offs, len)) (kk : q_R Γ m rm Z k n tgt lv (st) h) : q_R Γ m rm Z k n pc lv (.int (nI a) :: st) h :=
  fun p e s mi args below meth c H locs ls C hP hD hS hl => lv_tableOut C.1 C.2.1 hd h1 ht (kk p e s mi args below meth c H locs ls C hP hD hS hl)
theorem q_loc {l' : List (Nat × Value)} (kk : q_R Γ m rm Z k n pc l' (st) h) (hs : q_sub l' lv) : q_R Γ m rm Z k n pc lv (st) h :=
  fun p e s mi args below meth c H locs ls C hP hD hS hl => kk p e s mi args below meth c H locs ls C hP hD hS (q_lv_sub hl (fun q hq => q_lg_mem (hs q hq)))
theorem q_widen {k' n' : Nat} (h1 : k ≤ k') (h2 : n ≤ n') (kk : q_R Γ m rm Z k' n' pc lv (st) h) : q_R Γ m rm Z k n pc lv (st) h :=
  fun p e s mi args below meth c H locs ls C hP hD hS hl => W.widen h1 h2 (kk p e s mi args below meth c H locs ls C hP hD hS hl)
end
section
variable {Γ : q_G} {m : q_M} {rm : Room} {Z : q_Zt} {k n pc : Nat} {lv : List (Nat × Value)} {st : List Value} {h : q_H}
/-- a field's link from a class -/
def q_FL (own : String) (idx ci f : Nat) : Prop := ∃ q : vw_C, vwCl[ci]? = some q ∧ q.2.2 = q_nf ci ∧ f < q_nf ci ∧ (∀ w ∈ u_ws q.1 q.2.1 q.2.2, w ∈ q_gt) ∧ (Cond.fieldLink own idx (q.2.1 f).1 (q.2.1 f).2.1 (q.2.1 f).2.2.1 ∈ q_gt ∨ ∃ host, Cond.fieldLinkNest own idx (q.2.1 f).1 (q.2.1 f).2.1 (q.2.1 f).2.2.1 host ∈ q_nt)
theorem q_fields {ci f : Nat} {N : Nat → Nat} {G : Nat → Option Nat} (hf : f < q_nf ci) : ((List.range (q_nf ci)).map (q_fv ci N G))[f]? = some (q_fv ci N G f) := by
  rw [List.getElem?_map, List.getElem?_range hf]
  rfl
theorem q_getV (pc' : Nat) (hp : pc + 3 = pc') {idx ci f a : Nat} (F : q_FL m.1 idx ci f) (i : Nat) (hT : h.1[i]? = some (.inr ci, a)) (hd : decode m.2.2.1 pc = .ok (.getfield idx, 3)) (kk : q_R Γ m rm Z k n pc' lv (q_fv ci (h.2.1 i) (h.2.2.2 i) f :: st) h) : q_R Γ m rm Z k n pc lv (.ref a :: st) h := by
  subst hp
  intro p e s mi args below meth c H locs ls C hP hD hS hl
  obtain ⟨q, hq, hn, hf, hin, hlink⟩ := F
  have he := q_wd_get (Γ := Γ) hT
  have kk' := kk p e s mi args below meth c H locs ls C hP hD hS hl
  rcases hlink with hlink | ⟨host, hlink⟩
  · exact va_get (T := q.2.1) (N := q.2.2) (C := q.1) C.1 C.2.1 C.2.2.2.2.2.2.1 hin C.2.2.2.2.2.1 C.2.2.2.2.2.2.2.1.1 hP i he hq f (by rw [hn]; exact hf) (C.2.2.2.2.2.2.1 _ hlink) (fun x h => h) (q_fields hf) hd kk'
  · exact va_getN (T := q.2.1) (N := q.2.2) (C := q.1) C.1 C.2.1 C.2.2.2.2.2.2.1 hin C.2.2.2.2.2.1 C.2.2.2.2.2.2.2.1.1 hP i he hq f (by rw [hn]; exact hf) (va_Nw.use rfl (C.2.2.2.2.2.2.2.1.2.1 _ hlink)) (fun x h => h) (q_fields hf) hd kk'
/-- a field's link, and what may be put there -/
def q_FP (own : String) (idx ci f : Nat) (ty : FieldType) (fin : Bool) : Prop := ∃ (q : vw_C) (ty0 : Nat → FieldType), vwCl[ci]? = some q ∧ q.2.2 = q_nf ci ∧ f < q_nf ci ∧ (∀ w ∈ u_ws q.1 q.2.1 q.2.2, w ∈ q_gt) ∧ (Cond.fieldLink own idx (q.2.1 f).1 (q.2.1 f).2.1 (q.2.1 f).2.2.1 ∈ q_gt ∨ (fin = false ∧ ∃ host, Cond.fieldLinkNest own idx (q.2.1 f).1 (q.2.1 f).2.1 (q.2.1 f).2.2.1 host ∈ q_nt)) ∧ (∀ k, k < q.2.2 → parseFieldDescriptor (q.2.1 k).2.2.1 = some (ty0 k)) ∧ (∀ a, a < q.2.2 → ∀ b, b < q.2.2 → a ≠ b → (q.2.1 a).2.1 ≠ (q.2.1 b).2.1) ∧ (q.2.1 f).2.2.2 = fin ∧ parseFieldDescriptor (q.2.1 f).2.2.1 = some ty ∧ (q.2.1 f).1 = q.1
theorem q_putV (pc' : Nat) (hp : pc + 3 = pc') {idx ci f a : Nat} {ty : FieldType} {fin : Bool} {v : Value} {h' : q_H} (F : q_FP m.1 idx ci f ty fin) (hfin : fin = true → m.2.1.name = "<init>" ∧ (vwCl[ci]?).map (fun q => q.1) = some m.1) (hn : narrow ty v = v) (hfit : fits ty v = true) (i : Nat) (hT : h.1[i]? = some (.inr ci, a)) (e1 : h'.1 = h.1) (ho : ∀ j, j ≠ i → h'.2.1 j = h.2.1 j ∧ h'.2.2.1 j = h.2.2.1 j ∧ h'.2.2.2 j = h.2.2.2 j)
    (hv : q_fv ci (h'.2.1 i) (h'.2.2.2 i) f = v) (hw : ∀ j, j ≠ f → q_fv ci (h'.2.1 i) (h'.2.2.2 i) j = q_fv ci (h.2.1 i) (h.2.2.2 i) j) (hd : decode m.2.2.1 pc = .ok (.putfield idx, 3)) (kk : q_R Γ m rm Z k n pc' lv st h') : q_R Γ m rm Z k n pc lv (v :: .ref a :: st) h := by
  subst hp
  intro p e s mi args below meth c H locs ls C hP hD hS hl
  obtain ⟨q, ty0, hq, hnf, hf, hin, hlink, hty, hnm, hfq, hpd, hcq⟩ := F
  have he := q_wd_get (Γ := Γ) hT
  have hset : ((List.range (q_nf ci)).map (q_fv ci (h.2.1 i) (h.2.2.2 i))).set f v = (List.range (q_nf ci)).map (q_fv ci (h'.2.1 i) (h'.2.2.2 i)) := by
    apply List.ext_getElem?
    intro j
    by_cases hj : j = f
    · subst hj
      rw [List.getElem?_set_self (by simpa using hf), q_fields hf, hv]
    · rw [List.getElem?_set_ne (Ne.symm hj), List.getElem?_map, List.getElem?_map]
      cases hr : (List.range (q_nf ci))[j]? with
      | none => rfl
      | some x =>
        obtain ⟨hx1, hx2⟩ := List.getElem?_eq_some_iff.mp hr
        have : x = j := by simpa using hx2.symm
        subst this
        show some _ = some _
        rw [hw x hj]
  have hws : (q_wd Γ h).set i (a, .inr (ci, ((List.range (q_nf ci)).map (q_fv ci (h.2.1 i) (h.2.2.2 i))).set f v)) = q_wd Γ h' := q_wd_set hT e1 (by rw [hset]; rfl) ho
  have kk' : ∀ (H1 : Heap) (locs1 : List Loc), va_P Γ.2.2.1 vwCl ((q_wd Γ h).set i (a, .inr (ci, ((List.range (q_nf ci)).map (q_fv ci (h.2.1 i) (h.2.2.2 i))).set f v))) H1 → va_D (q_A Γ) ((q_wd Γ h).set i (a, .inr (ci, ((List.range (q_nf ci)).map (q_fv ci (h.2.1 i) (h.2.2.2 i))).set f v))) → va_S (q_A Γ) s.heap H1 locs1 → W p Γ.1 e rm s mi args below meth c H1 locs1 k n (Z below args s) (F0 mi (pc + 3) ls st) := by
    rw [hws]
    exact fun H1 locs1 hP1 hD1 hS1 => kk p e s mi args below meth c H1 locs1 ls C hP1 hD1 hS1 hl
  have hlen : f < ((List.range (q_nf ci)).map (q_fv ci (h.2.1 i) (h.2.2.2 i))).length := by simpa using hf
  rcases hlink with hlink | ⟨hfn, host, hlink⟩
  · cases fin with
    | false => exact va_put (T := q.2.1) (N := q.2.2) (C := q.1) C.1 C.2.1 C.2.2.2.2.2.2.1 hin ty0 hty hnm C.2.2.2.2.2.1 C.2.2.2.2.2.2.2.1.1 hP hD hS i he hq f (by rw [hnf]; exact hf) (C.2.2.2.2.2.2.1 _ hlink) (fun x h => h) hfq hpd hn hfit hlen hd kk'
    | true =>
      obtain ⟨hi1, hi2⟩ := hfin rfl
      rw [hq] at hi2
      exact va_putF (T := q.2.1) (N := q.2.2) (C := q.1) C.1 C.2.1 C.2.2.2.2.2.2.1 hin ty0 hty hnm C.2.2.2.2.2.1 C.2.2.2.2.2.2.2.1.1 hP hD hS i he hq f (by rw [hnf]; exact hf) (C.2.2.2.2.2.2.1 _ hlink) (fun x h => h) hfq (C.2.2.2.2.2.2.2.2.trans hi1) (hcq.trans (Option.some.inj hi2)) hpd hn hfit hlen hd kk'
  · subst hfn
    exact va_putN (T := q.2.1) (N := q.2.2) (C := q.1) C.1 C.2.1 C.2.2.2.2.2.2.1 hin ty0 hty hnm C.2.2.2.2.2.1 C.2.2.2.2.2.2.2.1.1 hP hD hS i he hq f (by rw [hnf]; exact hf) (va_Nw.use rfl (C.2.2.2.2.2.2.2.1.2.1 _ hlink)) (fun x h => h) hfq hpd hn hfit hlen hd kk'
end
section
variable {Γ : q_G} {m : q_M} {rm : Room} {Z : q_Zt} {k n pc : Nat} {lv : List (Nat × Value)} {st : List Value} {T : List (q_K × Nat)} {N : Nat → Nat → Nat} {L : Nat → Nat → Int} {G : Nat → Nat → Option Nat}
theorem q_getI (pc' : Nat) (hp : pc + 3 = pc') {idx ci f a : Nat} (F : q_FL m.1 idx ci f) (hf : q_ft ci f = false) (i : Nat) (hT : T[i]? = some (.inr ci, a)) (hd : decode m.2.2.1 pc = .ok (.getfield idx, 3)) (kk : q_R Γ m rm Z k n pc' lv (.int (nI (N i f)) :: st) (T, N, L, G)) : q_R Γ m rm Z k n pc lv (.ref a :: st) (T, N, L, G) :=
  q_getV (h := (T, N, L, G)) pc' hp F i hT hd (by rw [q_fv, hf]; exact kk)
theorem q_getR (pc' : Nat) (hp : pc + 3 = pc') {idx ci f a b : Nat} (F : q_FL m.1 idx ci f) (hf : q_ft ci f = true) (i : Nat) (hT : T[i]? = some (.inr ci, a)) (hG : G i f = some b) (hd : decode m.2.2.1 pc = .ok (.getfield idx, 3)) (kk : q_R Γ m rm Z k n pc' lv (.ref b :: st) (T, N, L, G)) : q_R Γ m rm Z k n pc lv (.ref a :: st) (T, N, L, G) :=
  q_getV (h := (T, N, L, G)) pc' hp F i hT hd (by rw [q_fv, hf]; show q_R Γ m rm Z k n pc' lv (va_rf (G i f) :: st) (T, N, L, G); rw [hG]; exact kk)
theorem q_putI (pc' : Nat) (hp : pc + 3 = pc') {idx ci f a v : Nat} {fin : Bool} (F : q_FP m.1 idx ci f .int fin) (hfin : fin = true → m.2.1.name = "<init>" ∧ (vwCl[ci]?).map (fun q => q.1) = some m.1) (hf : q_ft ci f = false) (i : Nat) (hT : T[i]? = some (.inr ci, a)) (hd : decode m.2.2.1 pc = .ok (.putfield idx, 3)) (kk : q_R Γ m rm Z k n pc' lv st (T, q_s N i f v, L, G)) : q_R Γ m rm Z k n pc lv (.int (nI v) :: .ref a :: st) (T, N, L, G) :=
  q_putV pc' hp (h := (T, N, L, G)) (h' := (T, q_s N i f v, L, G)) F hfin rfl rfl i hT rfl (fun j hj => ⟨q_s_ne hj, rfl, rfl⟩) (by rw [q_fv, hf]; show Value.int (nI (q_s N i f v i f)) = _; rw [q_s_at]) (fun j hj => by simp only [q_fv]; rw [q_s_off hj]) hd kk
theorem q_putZ (pc' : Nat) (hp : pc + 3 = pc') {idx ci f a v : Nat} {fin : Bool} (F : q_FP m.1 idx ci f .boolean fin) (hfin : fin = true → m.2.1.name = "<init>" ∧ (vwCl[ci]?).map (fun q => q.1) = some m.1) (hf : q_ft ci f = false) (hv : v < 2) (i : Nat) (hT : T[i]? = some (.inr ci, a)) (hd : decode m.2.2.1 pc = .ok (.putfield idx, 3)) (kk : q_R Γ m rm Z k n pc' lv st (T, q_s N i f v, L, G)) : q_R Γ m rm Z k n pc lv (.int (nI v) :: .ref a :: st) (T, N, L, G) :=
  q_putV pc' hp (h := (T, N, L, G)) (h' := (T, q_s N i f v, L, G)) F hfin (by rcases (show v = 0 ∨ v = 1 by omega) with rfl | rfl <;> decide) (by rcases (show v = 0 ∨ v = 1 by omega) with rfl | rfl <;> decide) i hT rfl (fun j hj => ⟨q_s_ne hj, rfl, rfl⟩) (by rw [q_fv, hf]; show Value.int (nI (q_s N i f v i f)) = _; rw [q_s_at]) (fun j hj => by simp only [q_fv]; rw [q_s_off hj]) hd kk
theorem q_putR (pc' : Nat) (hp : pc + 3 = pc') {idx ci f a v : Nat} {ty : FieldType} {fin : Bool} (F : q_FP m.1 idx ci f ty fin) (hfin : fin = true → m.2.1.name = "<init>" ∧ (vwCl[ci]?).map (fun q => q.1) = some m.1) (hf : q_ft ci f = true) (hn : narrow ty (.ref v) = .ref v) (hfit : fits ty (.ref v) = true) (i : Nat) (hT : T[i]? = some (.inr ci, a)) (hd : decode m.2.2.1 pc = .ok (.putfield idx, 3)) (kk : q_R Γ m rm Z k n pc' lv st (T, N, L, q_s G i f (some v))) : q_R Γ m rm Z k n pc lv (.ref v :: .ref a :: st) (T, N, L, G) :=
  q_putV pc' hp (h := (T, N, L, G)) (h' := (T, N, L, q_s G i f (some v))) F hfin hn hfit i hT rfl (fun j hj => ⟨rfl, rfl, q_s_ne hj⟩) (by rw [q_fv, hf]; show va_rf (q_s G i f (some v) i f) = _; rw [q_s_at]; rfl) (fun j hj => by simp only [q_fv]; rw [q_s_off hj]) hd kk
-- arrays
theorem q_iald (pc' : Nat) (hp : pc + 1 = pc') {j a len : Nat} (i : Nat) (hT : T[i]? = some (.inl (0, len), a)) (hj : j < len) (hlen : len < 2147483648) (hd : decode m.2.2.1 pc = .ok (.iaload, 1)) (kk : q_R Γ m rm Z k n pc' lv (.int (nI (N i j)) :: st) (T, N, L, G)) : q_R Γ m rm Z k n pc lv (.int (nI j) :: .ref a :: st) (T, N, L, G) := by
  subst hp
  have e : (nI j).toNatClampNeg = j := nI_clamp (by omega)
  intro p ee s mi args below meth c H locs ls C hP hD hS hl
  refine va_iald C.1 C.2.1 C.2.2.2.2.2.2.2.1.1 hP i 0 (q_wd_get (Γ := Γ) (h := (T, N, L, G)) hT) rfl (vp_in_nI hj (by omega)) hd ?_
  rw [e]
  exact kk p ee s mi args below meth c H locs ls C hP hD hS hl
theorem q_bald (pc' : Nat) (hp : pc + 1 = pc') {j a len : Nat} (i : Nat) (hT : T[i]? = some (.inl (1, len), a)) (hj : j < len) (hlen : len < 2147483648) (hd : decode m.2.2.1 pc = .ok (.baload, 1)) (kk : q_R Γ m rm Z k n pc' lv (.int (nI (N i j)) :: st) (T, N, L, G)) : q_R Γ m rm Z k n pc lv (.int (nI j) :: .ref a :: st) (T, N, L, G) := by
  subst hp
  have e : (nI j).toNatClampNeg = j := nI_clamp (by omega)
  intro p ee s mi args below meth c H locs ls C hP hD hS hl
  refine va_bald C.1 C.2.1 C.2.2.2.2.2.2.2.1.1 hP i 1 (q_wd_get (Γ := Γ) (h := (T, N, L, G)) hT) rfl (vp_in_nI hj (by omega)) hd ?_
  rw [e]
  exact kk p ee s mi args below meth c H locs ls C hP hD hS hl
theorem q_zald (pc' : Nat) (hp : pc + 1 = pc') {j a len : Nat} (i : Nat) (hT : T[i]? = some (.inl (2, len), a)) (hj : j < len) (hlen : len < 2147483648) (hd : decode m.2.2.1 pc = .ok (.baload, 1)) (kk : q_R Γ m rm Z k n pc' lv (.int (nI (N i j)) :: st) (T, N, L, G)) : q_R Γ m rm Z k n pc lv (.int (nI j) :: .ref a :: st) (T, N, L, G) := by
  subst hp
  have e : (nI j).toNatClampNeg = j := nI_clamp (by omega)
  intro p ee s mi args below meth c H locs ls C hP hD hS hl
  refine va_zald C.1 C.2.1 C.2.2.2.2.2.2.2.1.1 hP i 2 (q_wd_get (Γ := Γ) (h := (T, N, L, G)) hT) rfl (vp_in_nI hj (by omega)) hd ?_
  rw [e]
  exact kk p ee s mi args below meth c H locs ls C hP hD hS hl
theorem q_lald (pc' : Nat) (hp : pc + 1 = pc') {j a len : Nat} (i : Nat) (hT : T[i]? = some (.inl (3, len), a)) (hj : j < len) (hlen : len < 2147483648) (hd : decode m.2.2.1 pc = .ok (.laload, 1)) (kk : q_R Γ m rm Z k n pc' lv (.long (lZ (L i j)) :: st) (T, N, L, G)) : q_R Γ m rm Z k n pc lv (.int (nI j) :: .ref a :: st) (T, N, L, G) := by
  subst hp
  have e : (nI j).toNatClampNeg = j := nI_clamp (by omega)
  intro p ee s mi args below meth c H locs ls C hP hD hS hl
  refine va_lald C.1 C.2.1 C.2.2.2.2.2.2.2.1.1 hP i 3 (q_wd_get (Γ := Γ) (h := (T, N, L, G)) hT) rfl (vp_in_nI hj (by omega)) hd ?_
  rw [e]
  exact kk p ee s mi args below meth c H locs ls C hP hD hS hl
theorem q_aald4 (pc' : Nat) (hp : pc + 1 = pc') {j a len b : Nat} (i : Nat) (hT : T[i]? = some (.inl (4, len), a)) (hj : j < len) (hlen : len < 2147483648) (hG : G i j = some b) (hd : decode m.2.2.1 pc = .ok (.aaload, 1)) (kk : q_R Γ m rm Z k n pc' lv (.ref b :: st) (T, N, L, G)) : q_R Γ m rm Z k n pc lv (.int (nI j) :: .ref a :: st) (T, N, L, G) := by
  subst hp
  have e : (nI j).toNatClampNeg = j := nI_clamp (by omega)
  intro p ee s mi args below meth c H locs ls C hP hD hS hl
  refine va_aldq C.1 C.2.1 C.2.2.2.2.2.2.2.1.1 hP i 4 (q_wd_get (Γ := Γ) (h := (T, N, L, G)) hT) rfl (vp_in_nI hj (by omega)) hd ?_
  show W _ _ _ _ _ _ _ _ _ _ _ _ _ _ _ (F0 _ _ _ (va_rf (G i (nI j).toNatClampNeg) :: _))
  rw [e, hG]
  exact kk p ee s mi args below meth c H locs ls C hP hD hS hl
theorem q_aald5 (pc' : Nat) (hp : pc + 1 = pc') {j a len b : Nat} (i : Nat) (hT : T[i]? = some (.inl (5, len), a)) (hj : j < len) (hlen : len < 2147483648) (hG : G i j = some b) (hd : decode m.2.2.1 pc = .ok (.aaload, 1)) (kk : q_R Γ m rm Z k n pc' lv (.ref b :: st) (T, N, L, G)) : q_R Γ m rm Z k n pc lv (.int (nI j) :: .ref a :: st) (T, N, L, G) := by
  subst hp
  have e : (nI j).toNatClampNeg = j := nI_clamp (by omega)
  intro p ee s mi args below meth c H locs ls C hP hD hS hl
  refine va_aldq C.1 C.2.1 C.2.2.2.2.2.2.2.1.1 hP i 5 (q_wd_get (Γ := Γ) (h := (T, N, L, G)) hT) rfl (vp_in_nI hj (by omega)) hd ?_
  show W _ _ _ _ _ _ _ _ _ _ _ _ _ _ _ (F0 _ _ _ (va_rf (G i (nI j).toNatClampNeg) :: _))
  rw [e, hG]
  exact kk p ee s mi args below meth c H locs ls C hP hD hS hl
theorem q_iast (pc' : Nat) (hp : pc + 1 = pc') {j a len v : Nat} (i : Nat) (hT : T[i]? = some (.inl (0, len), a)) (hj : j < len) (hlen : len < 2147483648) (hd : decode m.2.2.1 pc = .ok (.iastore, 1)) (kk : q_R Γ m rm Z k n pc' lv st (T, q_s N i j v, L, G)) : q_R Γ m rm Z k n pc lv (.int (nI v) :: .int (nI j) :: .ref a :: st) (T, N, L, G) := by
  subst hp
  have e : (nI j).toNatClampNeg = j := nI_clamp (by omega)
  intro p ee s mi args below meth c H locs ls C hP hD hS hl
  refine va_iast C.1 C.2.1 C.2.2.2.2.2.2.2.1.1 hP hD hS i 0 (q_wd_get (Γ := Γ) (h := (T, N, L, G)) hT) rfl (vp_in_nI hj (by omega)) hd ?_
  rw [e, q_wd_set (h := (T, N, L, G)) (h' := (T, q_s N i j v, L, G)) hT rfl ?_ (fun x hx => ⟨q_s_ne hx, rfl, rfl⟩)]
  · exact fun H1 locs1 hP1 hD1 hS1 => kk p ee s mi args below meth c H1 locs1 ls C hP1 hD1 hS1 hl
  · show Sum.inl (_, len, Sum.inl _) = Sum.inl (_, len, Sum.inl _)
    congr 4
    funext x
    show upd (fun j => nI (N i j)) j (nI v) x = nI (q_s N i j v i x)
    rw [q_s_row]
    simp only [upd]
    split <;> rfl
theorem q_bast (pc' : Nat) (hp : pc + 1 = pc') {j a len v : Nat} (i : Nat) (hT : T[i]? = some (.inl (1, len), a)) (hj : j < len) (hlen : len < 2147483648) (u : Nat) (hu : vp_nar .byte (nI v) = nI u) (hd : decode m.2.2.1 pc = .ok (.bastore, 1)) (kk : q_R Γ m rm Z k n pc' lv st (T, q_s N i j u, L, G)) : q_R Γ m rm Z k n pc lv (.int (nI v) :: .int (nI j) :: .ref a :: st) (T, N, L, G) := by
  subst hp
  have e : (nI j).toNatClampNeg = j := nI_clamp (by omega)
  intro p ee s mi args below meth c H locs ls C hP hD hS hl
  refine va_bast C.1 C.2.1 C.2.2.2.2.2.2.2.1.1 hP hD hS i 1 (q_wd_get (Γ := Γ) (h := (T, N, L, G)) hT) rfl (vp_in_nI hj (by omega)) hd ?_
  rw [e, hu, q_wd_set (h := (T, N, L, G)) (h' := (T, q_s N i j u, L, G)) hT rfl ?_ (fun x hx => ⟨q_s_ne hx, rfl, rfl⟩)]
  · exact fun H1 locs1 hP1 hD1 hS1 => kk p ee s mi args below meth c H1 locs1 ls C hP1 hD1 hS1 hl
  · show Sum.inl (_, len, Sum.inl _) = Sum.inl (_, len, Sum.inl _)
    congr 4
    funext x
    show upd (fun j => nI (N i j)) j (nI u) x = nI (q_s N i j u i x)
    rw [q_s_row]
    simp only [upd]
    split <;> rfl
theorem q_zast (pc' : Nat) (hp : pc + 1 = pc') {j a len v : Nat} (i : Nat) (hT : T[i]? = some (.inl (2, len), a)) (hj : j < len) (hlen : len < 2147483648) (u : Nat) (hu : vp_nar .boolean (nI v) = nI u) (hd : decode m.2.2.1 pc = .ok (.bastore, 1)) (kk : q_R Γ m rm Z k n pc' lv st (T, q_s N i j u, L, G)) : q_R Γ m rm Z k n pc lv (.int (nI v) :: .int (nI j) :: .ref a :: st) (T, N, L, G) := by
  subst hp
  have e : (nI j).toNatClampNeg = j := nI_clamp (by omega)
  intro p ee s mi args below meth c H locs ls C hP hD hS hl
  refine va_zast C.1 C.2.1 C.2.2.2.2.2.2.2.1.1 hP hD hS i 2 (q_wd_get (Γ := Γ) (h := (T, N, L, G)) hT) rfl (vp_in_nI hj (by omega)) hd ?_
  rw [e, hu, q_wd_set (h := (T, N, L, G)) (h' := (T, q_s N i j u, L, G)) hT rfl ?_ (fun x hx => ⟨q_s_ne hx, rfl, rfl⟩)]
  · exact fun H1 locs1 hP1 hD1 hS1 => kk p ee s mi args below meth c H1 locs1 ls C hP1 hD1 hS1 hl
  · show Sum.inl (_, len, Sum.inl _) = Sum.inl (_, len, Sum.inl _)
    congr 4
    funext x
    show upd (fun j => nI (N i j)) j (nI u) x = nI (q_s N i j u i x)
    rw [q_s_row]
    simp only [upd]
    split <;> rfl
theorem q_last (pc' : Nat) (hp : pc + 1 = pc') {j a len : Nat} {v : Int} (i : Nat) (hT : T[i]? = some (.inl (3, len), a)) (hj : j < len) (hlen : len < 2147483648) (hd : decode m.2.2.1 pc = .ok (.lastore, 1)) (kk : q_R Γ m rm Z k n pc' lv st (T, N, q_s L i j v, G)) : q_R Γ m rm Z k n pc lv (.long (lZ v) :: .int (nI j) :: .ref a :: st) (T, N, L, G) := by
  subst hp
  have e : (nI j).toNatClampNeg = j := nI_clamp (by omega)
  intro p ee s mi args below meth c H locs ls C hP hD hS hl
  refine va_last C.1 C.2.1 C.2.2.2.2.2.2.2.1.1 hP hD hS i 3 (q_wd_get (Γ := Γ) (h := (T, N, L, G)) hT) rfl (vp_in_nI hj (by omega)) hd ?_
  rw [e, q_wd_set (h := (T, N, L, G)) (h' := (T, N, q_s L i j v, G)) hT rfl ?_ (fun x hx => ⟨rfl, q_s_ne hx, rfl⟩)]
  · exact fun H1 locs1 hP1 hD1 hS1 => kk p ee s mi args below meth c H1 locs1 ls C hP1 hD1 hS1 hl
  · show Sum.inl (_, len, Sum.inr (Sum.inl _)) = Sum.inl (_, len, Sum.inr (Sum.inl _))
    congr 5
    funext x
    show vp_updL (fun j => lZ (L i j)) j (lZ v) x = lZ (q_s L i j v i x)
    rw [q_s_row]
    simp only [vp_updL]
    split <;> rfl
theorem q_alen (pc' : Nat) (hp : pc + 1 = pc') {t a len : Nat} (i : Nat) (ht : t < 6) (hT : T[i]? = some (.inl (t, len), a)) (hd : decode m.2.2.1 pc = .ok (.arraylength, 1)) (kk : q_R Γ m rm Z k n pc' lv (.int (nI len) :: st) (T, N, L, G)) : q_R Γ m rm Z k n pc lv (.ref a :: st) (T, N, L, G) := by
  subst hp
  intro p ee s mi args below meth c H locs ls C hP hD hS hl
  have kk' := kk p ee s mi args below meth c H locs ls C hP hD hS hl
  have hw := q_wd_get (Γ := Γ) (h := (T, N, L, G)) hT
  rcases (show t = 0 ∨ t = 1 ∨ t = 2 ∨ t = 3 ∨ t = 4 ∨ t = 5 by omega) with rfl | rfl | rfl | rfl | rfl | rfl
  · exact va_alen C.1 C.2.1 C.2.2.2.2.2.2.2.1.1 hP i 0 hw (ty := .int) rfl rfl hd kk'
  · exact va_alen C.1 C.2.1 C.2.2.2.2.2.2.2.1.1 hP i 1 hw (ty := .byte) rfl rfl hd kk'
  · exact va_alen C.1 C.2.1 C.2.2.2.2.2.2.2.1.1 hP i 2 hw (ty := .boolean) rfl rfl hd kk'
  · exact va_alen C.1 C.2.1 C.2.2.2.2.2.2.2.1.1 hP i 3 hw (ty := .long) rfl rfl hd kk'
  · exact va_alen C.1 C.2.1 C.2.2.2.2.2.2.2.1.1 hP i 4 hw (ty := .object "GuessCalled$Moment") rfl rfl hd kk'
  · exact va_alen C.1 C.2.1 C.2.2.2.2.2.2.2.1.1 hP i 5 hw (ty := .object "GuessCalled$Sheet") rfl rfl hd kk'
/-- System.arraycopy of ints -/
theorem q_copy (pc' : Nat) (hp : pc + 3 = pc') {idx a0 a1 n0 n1 sp dp c : Nat} (i0 i1 : Nat) (hT0 : T[i0]? = some (.inl (0, n0), a0)) (hT1 : T[i1]? = some (.inl (0, n1), a1)) (h0 : sp + c ≤ n0) (h1 : dp + c ≤ n1) (hn0 : n0 < 2147483648) (hn1 : n1 < 2147483648) (hlink : Cond.methodLink m.1 idx arraycopyName ∈ q_gt) (hnat : Cond.native arraycopyName ∈ q_gt) (hstat : Cond.static arraycopyName ∈ q_gt) (hini : Cond.initialized "java/lang/System" ∈ q_gt) (hfr : 1 ≤ rm.frames) (hlo : (st.map fun v => v.category).sum + (nativeFrameWords "java/lang/System" "arraycopy" 5 + 11) ≤ rm.locals) (hd : decode m.2.2.1 pc = .ok (.invokestatic idx, 3))
    (kk : q_R Γ m rm Z k n pc' lv st (T, q_r N i1 (va_cpy (N i0) (N i1) sp dp c), L, G)) : q_R Γ m rm Z k n pc lv (.int (nI c) :: .int (nI dp) :: .ref a1 :: .int (nI sp) :: .ref a0 :: st) (T, N, L, G) := by
  subst hp
  have e1 : (nI sp).toNatClampNeg = sp := nI_clamp (by omega)
  have e2 : (nI dp).toNatClampNeg = dp := nI_clamp (by omega)
  have e3 : (nI c).toNatClampNeg = c := nI_clamp (by omega)
  intro p ee s mi args below meth cd H locs ls C hP hD hS hl
  have hb := C.2.2.2.2.2.2.1
  refine va_copyi C.1 C.2.1 (C.2.2.1.trans hl.1.symm) C.2.2.2.2.2.1 (hb _ hlink) (hb _ hnat) (hb _ hstat) (hb _ hini) C.2.2.2.2.2.2.2.1.1 hP hD hS i0 i1 0 0 (q_wd_get (Γ := Γ) (h := (T, N, L, G)) hT0) (q_wd_get (Γ := Γ) (h := (T, N, L, G)) hT1) (ty := .int) rfl rfl rfl (nI_pos (by omega)) (nI_pos (by omega)) (nI_pos (by omega)) (by rw [e1, e3]; exact h0) (by rw [e2, e3]; exact h1) (fun _ _ => rfl) hfr hlo hd ?_
  rw [e1, e2, e3, q_wd_set (h := (T, N, L, G)) (h' := (T, q_r N i1 (va_cpy (N i0) (N i1) sp dp c), L, G)) hT1 rfl ?_ (fun x hx => ⟨q_r_ne hx, rfl, rfl⟩)]
  · exact fun H1 locs1 hP1 hD1 hS1 => kk p ee s mi args below meth cd H1 locs1 ls C hP1 hD1 hS1 hl
  · show Sum.inl (_, n1, Sum.inl _) = Sum.inl (_, n1, Sum.inl _)
    congr 4
    funext x
    show va_cpy (fun j => nI (N i0 j)) (fun j => nI (N i1 j)) sp dp c x = nI (q_r N i1 (va_cpy (N i0) (N i1) sp dp c) i1 x)
    rw [q_r_at]
    simp only [va_cpy]
    split <;> rfl
end
section
variable {Γ : q_G} {m : q_M} {rm : Room} {Z : q_Zt} {k n pc : Nat} {lv : List (Nat × Value)} {st : List Value} {h : q_H} {Q : Option Value → q_H → Prop}
-- ends
theorem q_iret {v : Nat} (hr : m.2.2.2.2 = some .int) (hd : decode m.2.2.1 pc = .ok (.ireturn, 1)) (hq : Q (some (.int (nI v))) h) : q_R Γ m rm (q_Z Γ Q k n) k n pc lv [.int (nI v)] h :=
  fun p e s mi args below meth c H locs ls C hP hD hS hl => W.iret C.1 C.2.1 (C.2.2.2.1.trans hr) (fun t ht hw => ⟨_, h, rfl, hq, by rw [ht]; exact hP, hD, hS.F ht⟩) (fun q hq => hS.2.2 q hq) hd (hlocks := C.2.2.2.2.1)
theorem q_zret {v : Nat} {ty : FieldType} (hr : m.2.2.2.2 = some ty) (hn : narrow ty (.int (nI v)) = .int (nI v)) (hd : decode m.2.2.1 pc = .ok (.ireturn, 1)) (hq : Q (some (.int (nI v))) h) : q_R Γ m rm (q_Z Γ Q k n) k n pc lv [.int (nI v)] h :=
  fun p e s mi args below meth c H locs ls C hP hD hS hl => W.zret C.1 C.2.1 (C.2.2.2.1.trans hr) hn (fun t ht hw => ⟨_, h, rfl, hq, by rw [ht]; exact hP, hD, hS.F ht⟩) (fun q hq => hS.2.2 q hq) hd (hlocks := C.2.2.2.2.1)
theorem q_nb (b : Bool) : narrow .boolean (.int (nI b.toNat)) = .int (nI b.toNat) := by cases b <;> decide
theorem q_n0 : narrow .boolean (.int (nI 0)) = .int (nI 0) := by decide
theorem q_n1 : narrow .boolean (.int (nI 1)) = .int (nI 1) := by decide
theorem q_lret {v : Int} (hr : m.2.2.2.2 = some .long) (hd : decode m.2.2.1 pc = .ok (.lreturn, 1)) (hq : Q (some (.long (lZ v))) h) : q_R Γ m rm (q_Z Γ Q k n) k n pc lv [.long (lZ v)] h :=
  fun p e s mi args below meth c H locs ls C hP hD hS hl => W.lret C.1 C.2.1 (C.2.2.2.1.trans hr) (fun t ht hw => ⟨_, h, rfl, hq, by rw [ht]; exact hP, hD, hS.F ht⟩) (fun q hq => hS.2.2 q hq) hd (hlocks := C.2.2.2.2.1)
theorem q_vret (hr : m.2.2.2.2 = none) (hd : decode m.2.2.1 pc = .ok (.return_, 1)) (hq : Q none h) : q_R Γ m rm (q_Z Γ Q k n) k n pc lv [] h :=
  fun p e s mi args below meth c H locs ls C hP hD hS hl => W.vret C.1 C.2.1 (C.2.2.2.1.trans hr) (fun t ht hw => ⟨_, h, rfl, hq, by rw [ht]; exact hP, hD, hS.F ht⟩) (fun q hq => hS.2.2 q hq) hd (hlocks := C.2.2.2.2.1)
/-- a contract out of a walk of the body -/
theorem q_con {d mc ms : Nat} {av : List Value} {l : List (Nat × Value)} (hy : plainName m.2.1.cls = true) (ho : m.2.1.cls = m.1) (hlv : lv_args 0 av = l) (hsz : (lg_sl av).length ≤ m.2.2.2.1) (body : q_R Γ m (q_room d mc ms) (q_Z Γ Q mc ms) 0 0 0 l [] h) : q_Con Γ m d mc ms av h Q := by
  refine Met.ofW (cc := m.2.2.1) (maxL := m.2.2.2.1) (ret := m.2.2.2.2) hy rfl ?_
  intro p e s mi args below meth c s₁ B hml hv
  obtain ⟨rfl, hP, hD, hU⟩ := hv
  have hts := atoms_spec (ws := Cond.code m.2.1 m.2.2.1 m.2.2.2.1 m.2.2.2.2 :: q_gt) B.pre
  have hown : s.vm.findClass m.2.1.cls = some mi.cls := findClass_of_methodNamed B.named
  have hC : q_C Γ m p s mi av.toArray meth c := ⟨B.exec, B.bytes, hml, B.returns, B.notSynchronized, by rw [← ho]; exact hown, fun w hw => hts w (List.mem_cons_of_mem _ hw), hU, (name_of_methodNamed B.named B.method).1⟩
  have hl := lv_entry av (n := m.2.2.2.1) hsz
  rw [hlv] at hl
  rw [lg_entry_eq]
  exact body p e s mi av.toArray below meth c s.heap [] _ hC hP hD va_S.rf hl
-- calls
def q_MLk (own : String) (idx : Nat) (m2 : q_M) (nA : Nat) : Prop := (Cond.methodLink own idx m2.2.1 ∈ q_gt ∨ ∃ host, Cond.methodLinkNest own idx m2.2.1 host ∈ q_nt) ∧ Cond.initialized m2.2.1.cls ∈ q_gt ∧ Cond.code m2.2.1 m2.2.2.1 m2.2.2.2.1 m2.2.2.2.2 ∈ q_gt ∧ m2.2.1.cls ≠ "java/lang/invoke/MethodHandle" ∧ m2.2.1.cls ≠ "java/lang/invoke/VarHandle" ∧ (parseMethodDescriptor m2.2.1.desc).map (fun d => d.parameters.length) = some nA
def q_MLs (own : String) (idx : Nat) (m2 : q_M) (nA : Nat) : Prop := q_MLk own idx m2 nA ∧ Cond.static m2.2.1 ∈ q_gt
def q_MLv (own : String) (idx : Nat) (m2 : q_M) (nA : Nat) : Prop := q_MLk own idx m2 nA ∧ Cond.instanceMethod m2.2.1 ∈ q_gt ∧ Cond.selects m2.2.1.cls m2.2.1 m2.2.1 ∈ q_gt
def q_MLi (own : String) (idx : Nat) (m2 : q_M) (nA : Nat) : Prop := q_MLk own idx m2 nA ∧ Cond.instanceMethod m2.2.1 ∈ q_gt ∧ m2.2.1.name = "<init>" ∧ m2.2.2.2.2 = none
theorem q_goodIn {w : Cond} (hw : w ∈ q_gt) : GoodIn q_gt (w :: q_gt) := fun x hx => by
  rcases List.mem_cons.mp hx with rfl | hx
  · exact ⟨hw, good_of_word (q_good hw)⟩
  · exact ⟨hx, good_of_word (q_good hx)⟩
theorem q_blind {av : List Value} {h : q_H} : FrameBlind (va_Pc av (q_W Γ h)) := fun a U g mk q => ⟨q.1, q.2.1, q.2.2.1, q.2.2.2.calling g mk a⟩
def q_fits (rm : Room) (k n d2 mc ms nL : Nat) : Bool := (d2 + 1).ble rm.frames && (8 + (nL + 11) + 36 * d2).ble rm.locals && (k + mc).ble rm.cells && (n + ms).ble rm.slots
theorem q_fits_spec {d2 mc ms nL : Nat} (hf : q_fits rm k n d2 mc ms nL = true) : (d2 + 1 ≤ rm.frames ∧ 8 + (nL + 11) + 36 * d2 ≤ rm.locals) ∧ k + mc ≤ rm.cells ∧ n + ms ≤ rm.slots := by
  simp only [q_fits, Bool.and_eq_true] at hf
  exact ⟨⟨Nat.le_of_ble_eq_true hf.1.1.1, Nat.le_of_ble_eq_true hf.1.1.2⟩, Nat.le_of_ble_eq_true hf.1.2, Nat.le_of_ble_eq_true hf.2⟩
/-- the goal behind a call -/
theorem q_after {mc ms : Nat} {st0 rest : List Value} {a : Array Value} {Q' : Option Value → q_H → Prop} (hr : ∀ (p : Program) (e : Env) (s : State) (mi : MethodId) (args : Array Value) (below : List Frame) (meth : Method) (c : Code) (H : Heap) (locs : List Loc) (ls : Array Slot), q_C Γ m p s mi args meth c → va_P Γ.2.2.1 vwCl (q_wd Γ h) H → va_D (q_A Γ) (q_wd Γ h) → va_S (q_A Γ) s.heap H locs → lv_has ls m.2.2.2.1 lv → va_Run p Γ.1 e rm s mi args below meth c H locs k n mc ms (F0 mi pc ls st0) rest (q_QQ Γ Q' a) (q_A Γ))
    (kk : ∀ v h', Q' v h' → q_R Γ m rm Z (k + mc) (n + ms) (pc + 3) lv (v.toList ++ rest) h') : q_R Γ m rm Z k n pc lv st0 h := by
  intro p e s mi args below meth c H locs ls C hP hD hS hl T hT X
  obtain ⟨v, st₀, t, T', L, h0, X', hL, e1, e2, ⟨v', h', hv, hq, hP1, hD1, hz, hk⟩, st⟩ := hr p e s mi args below meth c H locs ls C hP hD hS hl T hT X
  cases hv
  rw [h0] at hz hk
  have hS1 : va_S (q_A Γ) s.heap T'.heap (locs ++ L) := ⟨Nat.le_trans hS.1 (by rw [e1]; exact hz), fun q h1 h2 => by rw [e1, hk q (Nat.lt_of_lt_of_le h1 hS.1) h2]; exact hS.2.1 q h1 h2, fun q hq => by
      rcases List.mem_append.mp hq with h | h
      · exact hS.2.2 q h
      · exact hL q h⟩
  obtain ⟨t2, a1, b1⟩ := kk v h' hq p e s mi args below meth c T'.heap (locs ++ L) ls C (by rw [e1]; exact hP1) hD1 hS1 hl T' rfl X'
  exact ⟨t2, st t2 a1, b1⟩
theorem q_callV {m2 : q_M} {d2 mc ms nA idx b ci : Nat} {As rest st0 : List Value} {Q' : Option Value → q_H → Prop} (M : q_MLv m.1 idx m2 nA) (hc : q_Con Γ m2 d2 mc ms (.ref b :: As) h Q') (hf : q_fits rm k n d2 mc ms m2.2.2.2.1 = true) (i : Nat) (hT : h.1[i]? = some (.inr ci, b)) (hcl : (vwCl[ci]?).map (fun q => q.1) = some m2.2.1.cls) (hn : As.length = nA) (hst : st0 = As.reverse ++ .ref b :: rest) (hr : (rest.map fun v => v.category).sum ≤ 8) (hd : decode m.2.2.1 pc = .ok (.invokevirtual idx, 3)) (kk : ∀ v h', Q' v h' → q_R Γ m rm Z (k + mc) (n + ms) (pc + 3) lv (v.toList ++ rest) h') : q_R Γ m rm Z k n pc lv st0 h := by
  obtain ⟨⟨hlink, hini, hcode, hn1, hn2, hsig⟩, hinst, hsel⟩ := M
  obtain ⟨hR, hcs⟩ := q_fits_spec hf
  refine q_after (a := (Value.ref b :: As).toArray) (fun p e s mi args below meth c H locs ls C hP hD hS hl => ?_) kk
  have hb := C.2.2.2.2.2.2.1
  have fix : CallFix p mi c m.2.2.1 m.2.2.2.1 s args q_gt m.1 := ⟨C.1, C.2.1, C.2.2.1, C.2.2.2.2.2.1, hb⟩
  have hrecv : ∃ cellB : Cell, H[b]? = some cellB ∧ cellB.vm.isStatics = false ∧ s.vm.findClass m2.2.1.cls = some cellB.cls := by
    cases hq : vwCl[ci]? with
    | none => rw [hq] at hcl; cases hcl
    | some q =>
      rw [hq] at hcl
      have : q.1 = m2.2.1.cls := Option.some.inj hcl
      rw [← this]
      exact va_recv C.2.2.2.2.2.2.2.1.1 hP hq (q_wd_get (Γ := Γ) hT)
  have hPre : PreV s H m2.2.1.cls b (va_Pc (.ref b :: As) (q_W Γ h)) As := ⟨q_blind, hrecv, fun U hU hW => ⟨rfl, by rw [hU]; exact hP, hD, C.2.2.2.2.2.2.2.1.later hS hU hW⟩⟩
  rcases hlink with hlink | ⟨host, hlink⟩
  · exact va_runV fix hc ⟨callB_of nA hb (q_goodIn hcode) rfl rfl rfl (hb _ hini) (hb _ hlink) ⟨hn1, hn2, hsig⟩ hR, hb _ hinst, hb _ hsel⟩ hPre rfl hn hl.1 hst (lv_room hr) hd hcs
  · exact va_runVN fix hc ⟨va_cnB nA hb (q_goodIn hcode) rfl rfl rfl (C.2.2.2.2.2.2.2.1.2.1 _ hlink) (hb _ hini) ⟨hn1, hn2, hsig⟩ hR, hb _ hinst, hb _ hsel⟩ hPre rfl hn hl.1 hst (lv_room hr) hd hcs
theorem q_callS {m2 : q_M} {d2 mc ms nA idx : Nat} {As rest st0 : List Value} {Q' : Option Value → q_H → Prop} (M : q_MLs m.1 idx m2 nA) (hc : q_Con Γ m2 d2 mc ms As h Q') (hf : q_fits rm k n d2 mc ms m2.2.2.2.1 = true) (hn : As.length = nA) (hst : st0 = As.reverse ++ rest) (hr : (rest.map fun v => v.category).sum ≤ 8) (hd : decode m.2.2.1 pc = .ok (.invokestatic idx, 3)) (kk : ∀ v h', Q' v h' → q_R Γ m rm Z (k + mc) (n + ms) (pc + 3) lv (v.toList ++ rest) h') : q_R Γ m rm Z k n pc lv st0 h := by
  obtain ⟨⟨hlink, hini, hcode, hn1, hn2, hsig⟩, hstat⟩ := M
  obtain ⟨hR, hcs⟩ := q_fits_spec hf
  refine q_after (a := As.toArray) (fun p e s mi args below meth c H locs ls C hP hD hS hl => ?_) kk
  have hb := C.2.2.2.2.2.2.1
  have fix : CallFix p mi c m.2.2.1 m.2.2.2.1 s args q_gt m.1 := ⟨C.1, C.2.1, C.2.2.1, C.2.2.2.2.2.1, hb⟩
  have hPre : PreS s H (va_Pc As (q_W Γ h)) As := ⟨q_blind, fun U hU hW => ⟨rfl, by rw [hU]; exact hP, hD, C.2.2.2.2.2.2.2.1.later hS hU hW⟩⟩
  rcases hlink with hlink | ⟨host, hlink⟩
  · exact va_runS fix hc ⟨callB_of nA hb (q_goodIn hcode) rfl rfl rfl (hb _ hini) (hb _ hlink) ⟨hn1, hn2, hsig⟩ hR, hb _ hstat⟩ hPre rfl hn hl.1 hst (lv_room hr) hd hcs
  · exact va_runSN fix hc ⟨va_cnB nA hb (q_goodIn hcode) rfl rfl rfl (C.2.2.2.2.2.2.2.1.2.1 _ hlink) (hb _ hini) ⟨hn1, hn2, hsig⟩ hR, hb _ hstat, trivial⟩ hPre rfl hn hl.1 hst (lv_room hr) hd hcs
theorem q_callI {m2 : q_M} {d2 mc ms nA idx b : Nat} {As rest st0 : List Value} {Q' : Option Value → q_H → Prop} (M : q_MLi m.1 idx m2 nA) (hc : q_Con Γ m2 d2 mc ms (.ref b :: As) h Q') (hf : q_fits rm k n d2 mc ms m2.2.2.2.1 = true) (hn : As.length = nA) (hst : st0 = As.reverse ++ .ref b :: rest) (hr : (rest.map fun v => v.category).sum ≤ 8) (hd : decode m.2.2.1 pc = .ok (.invokespecial idx, 3)) (kk : ∀ v h', Q' v h' → q_R Γ m rm Z (k + mc) (n + ms) (pc + 3) lv (v.toList ++ rest) h') : q_R Γ m rm Z k n pc lv st0 h := by
  obtain ⟨⟨hlink, hini, hcode, hn1, hn2, hsig⟩, hinst, hnm, hrt⟩ := M
  obtain ⟨own2, y2, c2, l2, r2⟩ := m2
  have hrt : r2 = none := hrt
  subst hrt
  obtain ⟨hR, hcs⟩ := q_fits_spec hf
  refine q_after (a := (Value.ref b :: As).toArray) (fun p e s mi args below meth c H locs ls C hP hD hS hl => ?_) kk
  have hb := C.2.2.2.2.2.2.1
  have fix : CallFix p mi c m.2.2.1 m.2.2.2.1 s args q_gt m.1 := ⟨C.1, C.2.1, C.2.2.1, C.2.2.2.2.2.1, hb⟩
  have hPre : PreS s H (va_Pc (.ref b :: As) (q_W Γ h)) (.ref b :: As) := ⟨q_blind, fun U hU hW => ⟨rfl, by rw [hU]; exact hP, hD, C.2.2.2.2.2.2.2.1.later hS hU hW⟩⟩
  rcases hlink with hlink | ⟨host, hlink⟩
  · exact va_runI fix hc ⟨callB_of nA hb (q_goodIn hcode) rfl rfl rfl (hb _ hini) (hb _ hlink) ⟨hn1, hn2, hsig⟩ hR, hnm, hb _ hinst⟩ hPre rfl hn hl.1 hst (lv_room hr) hd hcs
  · exact va_runIN fix hc ⟨va_cnB nA hb (q_goodIn hcode) rfl rfl rfl (C.2.2.2.2.2.2.2.1.2.1 _ hlink) (hb _ hini) ⟨hn1, hn2, hsig⟩ hR, hnm, hb _ hinst⟩ hPre rfl hn hl.1 hst (lv_room hr) hd hcs
/-- Object's own constructor -/
theorem q_obj (pc' : Nat) (hp : pc + 3 = pc') {idx a : Nat} (h1 : Cond.methodLink m.1 idx Lib.objectInit ∈ q_gt) (h2 : Cond.instanceMethod Lib.objectInit ∈ q_gt) (h3 : Cond.code Lib.objectInit ⟨#[0xb1]⟩ 1 none ∈ q_gt) (hf : 1 ≤ rm.frames) (hr : (st.map fun v => v.category).sum ≤ 8) (hlo : 20 ≤ rm.locals) (hd : decode m.2.2.1 pc = .ok (.invokespecial idx, 3)) (kk : q_R Γ m rm Z k n pc' lv st h) : q_R Γ m rm Z k n pc lv (.ref a :: st) h := by
  subst hp
  intro p e s mi args below meth c H locs ls C hP hD hS hl
  have hb := C.2.2.2.2.2.2.1
  have hroom := lv_room (m := mi) (pc := pc) (ls := ls) (rest := .ref a :: st) hr
  exact W.objInit C.1 C.2.1 C.2.2.2.2.2.1 (hb _ h1) (hb _ h2) (hb _ h3) rfl (hl.1.trans C.2.2.1.symm) rfl hd hf (by omega) (kk p e s mi args below meth c H locs ls C hP hD hS hl)
end
section
variable {Γ : q_G} {m : q_M} {rm : Room} {Z : q_Zt} {k n pc : Nat} {lv : List (Nat × Value)} {rest : List Value} {h : q_H} {m2 : q_M} {d2 nA idx : Nat}
theorem q_cV0 (pc' : Nat) (hp : pc + 3 = pc') {b ci : Nat} {v : Value} {h' : q_H} (M : q_MLv m.1 idx m2 nA) (hc : q_Con Γ m2 d2 0 0 (.ref b :: []) h (q_is (some v) h')) (hf : q_fits rm k n d2 0 0 m2.2.2.2.1 = true) (i : Nat) (hT : h.1[i]? = some (.inr ci, b)) (hcl : (vwCl[ci]?).map (fun q => q.1) = some m2.2.1.cls) (hn : 0 = nA) (hr : Nat.ble (rest.map (fun v : Value => v.category)).sum 8 = true) (hd : decode m.2.2.1 pc = .ok (.invokevirtual idx, 3)) (kk : q_R Γ m rm Z k n pc' lv (v :: rest) h') : q_R Γ m rm Z k n pc lv (.ref b :: rest) h := by
  subst hp
  exact q_callV (st0 := .ref b :: rest) (As := []) (rest := rest) M hc hf i hT hcl hn rfl (Nat.le_of_ble_eq_true hr) hd (fun v2 h2 q => by obtain ⟨rfl, rfl⟩ := q; exact kk)
theorem q_cV0v (pc' : Nat) (hp : pc + 3 = pc') {b ci : Nat} {h' : q_H} (M : q_MLv m.1 idx m2 nA) (hc : q_Con Γ m2 d2 0 0 (.ref b :: []) h (q_is none h')) (hf : q_fits rm k n d2 0 0 m2.2.2.2.1 = true) (i : Nat) (hT : h.1[i]? = some (.inr ci, b)) (hcl : (vwCl[ci]?).map (fun q => q.1) = some m2.2.1.cls) (hn : 0 = nA) (hr : Nat.ble (rest.map (fun v : Value => v.category)).sum 8 = true) (hd : decode m.2.2.1 pc = .ok (.invokevirtual idx, 3)) (kk : q_R Γ m rm Z k n pc' lv rest h') : q_R Γ m rm Z k n pc lv (.ref b :: rest) h := by
  subst hp
  exact q_callV (st0 := .ref b :: rest) (As := []) (rest := rest) M hc hf i hT hcl hn rfl (Nat.le_of_ble_eq_true hr) hd (fun v2 h2 q => by obtain ⟨rfl, rfl⟩ := q; exact kk)
theorem q_cV0q (pc' : Nat) (hp : pc + 3 = pc') {b ci : Nat} {Q' : Option Value → q_H → Prop} (M : q_MLv m.1 idx m2 nA) (hc : q_Con Γ m2 d2 0 0 (.ref b :: []) h Q') (hf : q_fits rm k n d2 0 0 m2.2.2.2.1 = true) (i : Nat) (hT : h.1[i]? = some (.inr ci, b)) (hcl : (vwCl[ci]?).map (fun q => q.1) = some m2.2.1.cls) (hn : 0 = nA) (hr : Nat.ble (rest.map (fun v : Value => v.category)).sum 8 = true) (hd : decode m.2.2.1 pc = .ok (.invokevirtual idx, 3)) (kk : ∀ v h', Q' v h' → q_R Γ m rm Z k n pc' lv (v.toList ++ rest) h') : q_R Γ m rm Z k n pc lv (.ref b :: rest) h := by
  subst hp
  exact q_callV (st0 := .ref b :: rest) (As := []) (rest := rest) M hc hf i hT hcl hn rfl (Nat.le_of_ble_eq_true hr) hd kk
theorem q_cS0 (pc' : Nat) (hp : pc + 3 = pc') {v : Value} {h' : q_H} (M : q_MLs m.1 idx m2 nA) (hc : q_Con Γ m2 d2 0 0 ([]) h (q_is (some v) h')) (hf : q_fits rm k n d2 0 0 m2.2.2.2.1 = true) (hn : 0 = nA) (hr : Nat.ble (rest.map (fun v : Value => v.category)).sum 8 = true) (hd : decode m.2.2.1 pc = .ok (.invokestatic idx, 3)) (kk : q_R Γ m rm Z k n pc' lv (v :: rest) h') : q_R Γ m rm Z k n pc lv (rest) h := by
  subst hp
  exact q_callS (st0 := rest) (As := []) (rest := rest) M hc hf hn rfl (Nat.le_of_ble_eq_true hr) hd (fun v2 h2 q => by obtain ⟨rfl, rfl⟩ := q; exact kk)
theorem q_cS0v (pc' : Nat) (hp : pc + 3 = pc') {h' : q_H} (M : q_MLs m.1 idx m2 nA) (hc : q_Con Γ m2 d2 0 0 ([]) h (q_is none h')) (hf : q_fits rm k n d2 0 0 m2.2.2.2.1 = true) (hn : 0 = nA) (hr : Nat.ble (rest.map (fun v : Value => v.category)).sum 8 = true) (hd : decode m.2.2.1 pc = .ok (.invokestatic idx, 3)) (kk : q_R Γ m rm Z k n pc' lv rest h') : q_R Γ m rm Z k n pc lv (rest) h := by
  subst hp
  exact q_callS (st0 := rest) (As := []) (rest := rest) M hc hf hn rfl (Nat.le_of_ble_eq_true hr) hd (fun v2 h2 q => by obtain ⟨rfl, rfl⟩ := q; exact kk)
theorem q_cS0q (pc' : Nat) (hp : pc + 3 = pc') {Q' : Option Value → q_H → Prop} (M : q_MLs m.1 idx m2 nA) (hc : q_Con Γ m2 d2 0 0 ([]) h Q') (hf : q_fits rm k n d2 0 0 m2.2.2.2.1 = true) (hn : 0 = nA) (hr : Nat.ble (rest.map (fun v : Value => v.category)).sum 8 = true) (hd : decode m.2.2.1 pc = .ok (.invokestatic idx, 3)) (kk : ∀ v h', Q' v h' → q_R Γ m rm Z k n pc' lv (v.toList ++ rest) h') : q_R Γ m rm Z k n pc lv (rest) h := by
  subst hp
  exact q_callS (st0 := rest) (As := []) (rest := rest) M hc hf hn rfl (Nat.le_of_ble_eq_true hr) hd kk
theorem q_cV1 (pc' : Nat) (hp : pc + 3 = pc') {b ci : Nat} {x1 : Value} {v : Value} {h' : q_H} (M : q_MLv m.1 idx m2 nA) (hc : q_Con Γ m2 d2 0 0 (.ref b :: [x1]) h (q_is (some v) h')) (hf : q_fits rm k n d2 0 0 m2.2.2.2.1 = true) (i : Nat) (hT : h.1[i]? = some (.inr ci, b)) (hcl : (vwCl[ci]?).map (fun q => q.1) = some m2.2.1.cls) (hn : 1 = nA) (hr : Nat.ble (rest.map (fun v : Value => v.category)).sum 8 = true) (hd : decode m.2.2.1 pc = .ok (.invokevirtual idx, 3)) (kk : q_R Γ m rm Z k n pc' lv (v :: rest) h') : q_R Γ m rm Z k n pc lv (x1 :: .ref b :: rest) h := by
  subst hp
  exact q_callV (st0 := x1 :: .ref b :: rest) (As := [x1]) (rest := rest) M hc hf i hT hcl hn rfl (Nat.le_of_ble_eq_true hr) hd (fun v2 h2 q => by obtain ⟨rfl, rfl⟩ := q; exact kk)
theorem q_cV1v (pc' : Nat) (hp : pc + 3 = pc') {b ci : Nat} {x1 : Value} {h' : q_H} (M : q_MLv m.1 idx m2 nA) (hc : q_Con Γ m2 d2 0 0 (.ref b :: [x1]) h (q_is none h')) (hf : q_fits rm k n d2 0 0 m2.2.2.2.1 = true) (i : Nat) (hT : h.1[i]? = some (.inr ci, b)) (hcl : (vwCl[ci]?).map (fun q => q.1) = some m2.2.1.cls) (hn : 1 = nA) (hr : Nat.ble (rest.map (fun v : Value => v.category)).sum 8 = true) (hd : decode m.2.2.1 pc = .ok (.invokevirtual idx, 3)) (kk : q_R Γ m rm Z k n pc' lv rest h') : q_R Γ m rm Z k n pc lv (x1 :: .ref b :: rest) h := by
  subst hp
  exact q_callV (st0 := x1 :: .ref b :: rest) (As := [x1]) (rest := rest) M hc hf i hT hcl hn rfl (Nat.le_of_ble_eq_true hr) hd (fun v2 h2 q => by obtain ⟨rfl, rfl⟩ := q; exact kk)
theorem q_cV1q (pc' : Nat) (hp : pc + 3 = pc') {b ci : Nat} {x1 : Value} {Q' : Option Value → q_H → Prop} (M : q_MLv m.1 idx m2 nA) (hc : q_Con Γ m2 d2 0 0 (.ref b :: [x1]) h Q') (hf : q_fits rm k n d2 0 0 m2.2.2.2.1 = true) (i : Nat) (hT : h.1[i]? = some (.inr ci, b)) (hcl : (vwCl[ci]?).map (fun q => q.1) = some m2.2.1.cls) (hn : 1 = nA) (hr : Nat.ble (rest.map (fun v : Value => v.category)).sum 8 = true) (hd : decode m.2.2.1 pc = .ok (.invokevirtual idx, 3)) (kk : ∀ v h', Q' v h' → q_R Γ m rm Z k n pc' lv (v.toList ++ rest) h') : q_R Γ m rm Z k n pc lv (x1 :: .ref b :: rest) h := by
  subst hp
  exact q_callV (st0 := x1 :: .ref b :: rest) (As := [x1]) (rest := rest) M hc hf i hT hcl hn rfl (Nat.le_of_ble_eq_true hr) hd kk
theorem q_cS1 (pc' : Nat) (hp : pc + 3 = pc') {x1 : Value} {v : Value} {h' : q_H} (M : q_MLs m.1 idx m2 nA) (hc : q_Con Γ m2 d2 0 0 ([x1]) h (q_is (some v) h')) (hf : q_fits rm k n d2 0 0 m2.2.2.2.1 = true) (hn : 1 = nA) (hr : Nat.ble (rest.map (fun v : Value => v.category)).sum 8 = true) (hd : decode m.2.2.1 pc = .ok (.invokestatic idx, 3)) (kk : q_R Γ m rm Z k n pc' lv (v :: rest) h') : q_R Γ m rm Z k n pc lv (x1 :: rest) h := by
  subst hp
  exact q_callS (st0 := x1 :: rest) (As := [x1]) (rest := rest) M hc hf hn rfl (Nat.le_of_ble_eq_true hr) hd (fun v2 h2 q => by obtain ⟨rfl, rfl⟩ := q; exact kk)
theorem q_cS1v (pc' : Nat) (hp : pc + 3 = pc') {x1 : Value} {h' : q_H} (M : q_MLs m.1 idx m2 nA) (hc : q_Con Γ m2 d2 0 0 ([x1]) h (q_is none h')) (hf : q_fits rm k n d2 0 0 m2.2.2.2.1 = true) (hn : 1 = nA) (hr : Nat.ble (rest.map (fun v : Value => v.category)).sum 8 = true) (hd : decode m.2.2.1 pc = .ok (.invokestatic idx, 3)) (kk : q_R Γ m rm Z k n pc' lv rest h') : q_R Γ m rm Z k n pc lv (x1 :: rest) h := by
  subst hp
  exact q_callS (st0 := x1 :: rest) (As := [x1]) (rest := rest) M hc hf hn rfl (Nat.le_of_ble_eq_true hr) hd (fun v2 h2 q => by obtain ⟨rfl, rfl⟩ := q; exact kk)
theorem q_cS1q (pc' : Nat) (hp : pc + 3 = pc') {x1 : Value} {Q' : Option Value → q_H → Prop} (M : q_MLs m.1 idx m2 nA) (hc : q_Con Γ m2 d2 0 0 ([x1]) h Q') (hf : q_fits rm k n d2 0 0 m2.2.2.2.1 = true) (hn : 1 = nA) (hr : Nat.ble (rest.map (fun v : Value => v.category)).sum 8 = true) (hd : decode m.2.2.1 pc = .ok (.invokestatic idx, 3)) (kk : ∀ v h', Q' v h' → q_R Γ m rm Z k n pc' lv (v.toList ++ rest) h') : q_R Γ m rm Z k n pc lv (x1 :: rest) h := by
  subst hp
  exact q_callS (st0 := x1 :: rest) (As := [x1]) (rest := rest) M hc hf hn rfl (Nat.le_of_ble_eq_true hr) hd kk
theorem q_cV2 (pc' : Nat) (hp : pc + 3 = pc') {b ci : Nat} {x1 x2 : Value} {v : Value} {h' : q_H} (M : q_MLv m.1 idx m2 nA) (hc : q_Con Γ m2 d2 0 0 (.ref b :: [x1, x2]) h (q_is (some v) h')) (hf : q_fits rm k n d2 0 0 m2.2.2.2.1 = true) (i : Nat) (hT : h.1[i]? = some (.inr ci, b)) (hcl : (vwCl[ci]?).map (fun q => q.1) = some m2.2.1.cls) (hn : 2 = nA) (hr : Nat.ble (rest.map (fun v : Value => v.category)).sum 8 = true) (hd : decode m.2.2.1 pc = .ok (.invokevirtual idx, 3)) (kk : q_R Γ m rm Z k n pc' lv (v :: rest) h') : q_R Γ m rm Z k n pc lv (x2 :: x1 :: .ref b :: rest) h := by
  subst hp
  exact q_callV (st0 := x2 :: x1 :: .ref b :: rest) (As := [x1, x2]) (rest := rest) M hc hf i hT hcl hn rfl (Nat.le_of_ble_eq_true hr) hd (fun v2 h2 q => by obtain ⟨rfl, rfl⟩ := q; exact kk)
theorem q_cV2v (pc' : Nat) (hp : pc + 3 = pc') {b ci : Nat} {x1 x2 : Value} {h' : q_H} (M : q_MLv m.1 idx m2 nA) (hc : q_Con Γ m2 d2 0 0 (.ref b :: [x1, x2]) h (q_is none h')) (hf : q_fits rm k n d2 0 0 m2.2.2.2.1 = true) (i : Nat) (hT : h.1[i]? = some (.inr ci, b)) (hcl : (vwCl[ci]?).map (fun q => q.1) = some m2.2.1.cls) (hn : 2 = nA) (hr : Nat.ble (rest.map (fun v : Value => v.category)).sum 8 = true) (hd : decode m.2.2.1 pc = .ok (.invokevirtual idx, 3)) (kk : q_R Γ m rm Z k n pc' lv rest h') : q_R Γ m rm Z k n pc lv (x2 :: x1 :: .ref b :: rest) h := by
  subst hp
  exact q_callV (st0 := x2 :: x1 :: .ref b :: rest) (As := [x1, x2]) (rest := rest) M hc hf i hT hcl hn rfl (Nat.le_of_ble_eq_true hr) hd (fun v2 h2 q => by obtain ⟨rfl, rfl⟩ := q; exact kk)
theorem q_cV2q (pc' : Nat) (hp : pc + 3 = pc') {b ci : Nat} {x1 x2 : Value} {Q' : Option Value → q_H → Prop} (M : q_MLv m.1 idx m2 nA) (hc : q_Con Γ m2 d2 0 0 (.ref b :: [x1, x2]) h Q') (hf : q_fits rm k n d2 0 0 m2.2.2.2.1 = true) (i : Nat) (hT : h.1[i]? = some (.inr ci, b)) (hcl : (vwCl[ci]?).map (fun q => q.1) = some m2.2.1.cls) (hn : 2 = nA) (hr : Nat.ble (rest.map (fun v : Value => v.category)).sum 8 = true) (hd : decode m.2.2.1 pc = .ok (.invokevirtual idx, 3)) (kk : ∀ v h', Q' v h' → q_R Γ m rm Z k n pc' lv (v.toList ++ rest) h') : q_R Γ m rm Z k n pc lv (x2 :: x1 :: .ref b :: rest) h := by
  subst hp
  exact q_callV (st0 := x2 :: x1 :: .ref b :: rest) (As := [x1, x2]) (rest := rest) M hc hf i hT hcl hn rfl (Nat.le_of_ble_eq_true hr) hd kk
theorem q_cS2 (pc' : Nat) (hp : pc + 3 = pc') {x1 x2 : Value} {v : Value} {h' : q_H} (M : q_MLs m.1 idx m2 nA) (hc : q_Con Γ m2 d2 0 0 ([x1, x2]) h (q_is (some v) h')) (hf : q_fits rm k n d2 0 0 m2.2.2.2.1 = true) (hn : 2 = nA) (hr : Nat.ble (rest.map (fun v : Value => v.category)).sum 8 = true) (hd : decode m.2.2.1 pc = .ok (.invokestatic idx, 3)) (kk : q_R Γ m rm Z k n pc' lv (v :: rest) h') : q_R Γ m rm Z k n pc lv (x2 :: x1 :: rest) h := by
  subst hp
  exact q_callS (st0 := x2 :: x1 :: rest) (As := [x1, x2]) (rest := rest) M hc hf hn rfl (Nat.le_of_ble_eq_true hr) hd (fun v2 h2 q => by obtain ⟨rfl, rfl⟩ := q; exact kk)
theorem q_cS2v (pc' : Nat) (hp : pc + 3 = pc') {x1 x2 : Value} {h' : q_H} (M : q_MLs m.1 idx m2 nA) (hc : q_Con Γ m2 d2 0 0 ([x1, x2]) h (q_is none h')) (hf : q_fits rm k n d2 0 0 m2.2.2.2.1 = true) (hn : 2 = nA) (hr : Nat.ble (rest.map (fun v : Value => v.category)).sum 8 = true) (hd : decode m.2.2.1 pc = .ok (.invokestatic idx, 3)) (kk : q_R Γ m rm Z k n pc' lv rest h') : q_R Γ m rm Z k n pc lv (x2 :: x1 :: rest) h := by
  subst hp
  exact q_callS (st0 := x2 :: x1 :: rest) (As := [x1, x2]) (rest := rest) M hc hf hn rfl (Nat.le_of_ble_eq_true hr) hd (fun v2 h2 q => by obtain ⟨rfl, rfl⟩ := q; exact kk)
theorem q_cS2q (pc' : Nat) (hp : pc + 3 = pc') {x1 x2 : Value} {Q' : Option Value → q_H → Prop} (M : q_MLs m.1 idx m2 nA) (hc : q_Con Γ m2 d2 0 0 ([x1, x2]) h Q') (hf : q_fits rm k n d2 0 0 m2.2.2.2.1 = true) (hn : 2 = nA) (hr : Nat.ble (rest.map (fun v : Value => v.category)).sum 8 = true) (hd : decode m.2.2.1 pc = .ok (.invokestatic idx, 3)) (kk : ∀ v h', Q' v h' → q_R Γ m rm Z k n pc' lv (v.toList ++ rest) h') : q_R Γ m rm Z k n pc lv (x2 :: x1 :: rest) h := by
  subst hp
  exact q_callS (st0 := x2 :: x1 :: rest) (As := [x1, x2]) (rest := rest) M hc hf hn rfl (Nat.le_of_ble_eq_true hr) hd kk
theorem q_cV3 (pc' : Nat) (hp : pc + 3 = pc') {b ci : Nat} {x1 x2 x3 : Value} {v : Value} {h' : q_H} (M : q_MLv m.1 idx m2 nA) (hc : q_Con Γ m2 d2 0 0 (.ref b :: [x1, x2, x3]) h (q_is (some v) h')) (hf : q_fits rm k n d2 0 0 m2.2.2.2.1 = true) (i : Nat) (hT : h.1[i]? = some (.inr ci, b)) (hcl : (vwCl[ci]?).map (fun q => q.1) = some m2.2.1.cls) (hn : 3 = nA) (hr : Nat.ble (rest.map (fun v : Value => v.category)).sum 8 = true) (hd : decode m.2.2.1 pc = .ok (.invokevirtual idx, 3)) (kk : q_R Γ m rm Z k n pc' lv (v :: rest) h') : q_R Γ m rm Z k n pc lv (x3 :: x2 :: x1 :: .ref b :: rest) h := by
  subst hp
  exact q_callV (st0 := x3 :: x2 :: x1 :: .ref b :: rest) (As := [x1, x2, x3]) (rest := rest) M hc hf i hT hcl hn rfl (Nat.le_of_ble_eq_true hr) hd (fun v2 h2 q => by obtain ⟨rfl, rfl⟩ := q; exact kk)
theorem q_cV3v (pc' : Nat) (hp : pc + 3 = pc') {b ci : Nat} {x1 x2 x3 : Value} {h' : q_H} (M : q_MLv m.1 idx m2 nA) (hc : q_Con Γ m2 d2 0 0 (.ref b :: [x1, x2, x3]) h (q_is none h')) (hf : q_fits rm k n d2 0 0 m2.2.2.2.1 = true) (i : Nat) (hT : h.1[i]? = some (.inr ci, b)) (hcl : (vwCl[ci]?).map (fun q => q.1) = some m2.2.1.cls) (hn : 3 = nA) (hr : Nat.ble (rest.map (fun v : Value => v.category)).sum 8 = true) (hd : decode m.2.2.1 pc = .ok (.invokevirtual idx, 3)) (kk : q_R Γ m rm Z k n pc' lv rest h') : q_R Γ m rm Z k n pc lv (x3 :: x2 :: x1 :: .ref b :: rest) h := by
  subst hp
  exact q_callV (st0 := x3 :: x2 :: x1 :: .ref b :: rest) (As := [x1, x2, x3]) (rest := rest) M hc hf i hT hcl hn rfl (Nat.le_of_ble_eq_true hr) hd (fun v2 h2 q => by obtain ⟨rfl, rfl⟩ := q; exact kk)
theorem q_cV3q (pc' : Nat) (hp : pc + 3 = pc') {b ci : Nat} {x1 x2 x3 : Value} {Q' : Option Value → q_H → Prop} (M : q_MLv m.1 idx m2 nA) (hc : q_Con Γ m2 d2 0 0 (.ref b :: [x1, x2, x3]) h Q') (hf : q_fits rm k n d2 0 0 m2.2.2.2.1 = true) (i : Nat) (hT : h.1[i]? = some (.inr ci, b)) (hcl : (vwCl[ci]?).map (fun q => q.1) = some m2.2.1.cls) (hn : 3 = nA) (hr : Nat.ble (rest.map (fun v : Value => v.category)).sum 8 = true) (hd : decode m.2.2.1 pc = .ok (.invokevirtual idx, 3)) (kk : ∀ v h', Q' v h' → q_R Γ m rm Z k n pc' lv (v.toList ++ rest) h') : q_R Γ m rm Z k n pc lv (x3 :: x2 :: x1 :: .ref b :: rest) h := by
  subst hp
  exact q_callV (st0 := x3 :: x2 :: x1 :: .ref b :: rest) (As := [x1, x2, x3]) (rest := rest) M hc hf i hT hcl hn rfl (Nat.le_of_ble_eq_true hr) hd kk
theorem q_cS3 (pc' : Nat) (hp : pc + 3 = pc') {x1 x2 x3 : Value} {v : Value} {h' : q_H} (M : q_MLs m.1 idx m2 nA) (hc : q_Con Γ m2 d2 0 0 ([x1, x2, x3]) h (q_is (some v) h')) (hf : q_fits rm k n d2 0 0 m2.2.2.2.1 = true) (hn : 3 = nA) (hr : Nat.ble (rest.map (fun v : Value => v.category)).sum 8 = true) (hd : decode m.2.2.1 pc = .ok (.invokestatic idx, 3)) (kk : q_R Γ m rm Z k n pc' lv (v :: rest) h') : q_R Γ m rm Z k n pc lv (x3 :: x2 :: x1 :: rest) h := by
  subst hp
  exact q_callS (st0 := x3 :: x2 :: x1 :: rest) (As := [x1, x2, x3]) (rest := rest) M hc hf hn rfl (Nat.le_of_ble_eq_true hr) hd (fun v2 h2 q => by obtain ⟨rfl, rfl⟩ := q; exact kk)
theorem q_cS3v (pc' : Nat) (hp : pc + 3 = pc') {x1 x2 x3 : Value} {h' : q_H} (M : q_MLs m.1 idx m2 nA) (hc : q_Con Γ m2 d2 0 0 ([x1, x2, x3]) h (q_is none h')) (hf : q_fits rm k n d2 0 0 m2.2.2.2.1 = true) (hn : 3 = nA) (hr : Nat.ble (rest.map (fun v : Value => v.category)).sum 8 = true) (hd : decode m.2.2.1 pc = .ok (.invokestatic idx, 3)) (kk : q_R Γ m rm Z k n pc' lv rest h') : q_R Γ m rm Z k n pc lv (x3 :: x2 :: x1 :: rest) h := by
  subst hp
  exact q_callS (st0 := x3 :: x2 :: x1 :: rest) (As := [x1, x2, x3]) (rest := rest) M hc hf hn rfl (Nat.le_of_ble_eq_true hr) hd (fun v2 h2 q => by obtain ⟨rfl, rfl⟩ := q; exact kk)
theorem q_cS3q (pc' : Nat) (hp : pc + 3 = pc') {x1 x2 x3 : Value} {Q' : Option Value → q_H → Prop} (M : q_MLs m.1 idx m2 nA) (hc : q_Con Γ m2 d2 0 0 ([x1, x2, x3]) h Q') (hf : q_fits rm k n d2 0 0 m2.2.2.2.1 = true) (hn : 3 = nA) (hr : Nat.ble (rest.map (fun v : Value => v.category)).sum 8 = true) (hd : decode m.2.2.1 pc = .ok (.invokestatic idx, 3)) (kk : ∀ v h', Q' v h' → q_R Γ m rm Z k n pc' lv (v.toList ++ rest) h') : q_R Γ m rm Z k n pc lv (x3 :: x2 :: x1 :: rest) h := by
  subst hp
  exact q_callS (st0 := x3 :: x2 :: x1 :: rest) (As := [x1, x2, x3]) (rest := rest) M hc hf hn rfl (Nat.le_of_ble_eq_true hr) hd kk
theorem q_cV4 (pc' : Nat) (hp : pc + 3 = pc') {b ci : Nat} {x1 x2 x3 x4 : Value} {v : Value} {h' : q_H} (M : q_MLv m.1 idx m2 nA) (hc : q_Con Γ m2 d2 0 0 (.ref b :: [x1, x2, x3, x4]) h (q_is (some v) h')) (hf : q_fits rm k n d2 0 0 m2.2.2.2.1 = true) (i : Nat) (hT : h.1[i]? = some (.inr ci, b)) (hcl : (vwCl[ci]?).map (fun q => q.1) = some m2.2.1.cls) (hn : 4 = nA) (hr : Nat.ble (rest.map (fun v : Value => v.category)).sum 8 = true) (hd : decode m.2.2.1 pc = .ok (.invokevirtual idx, 3)) (kk : q_R Γ m rm Z k n pc' lv (v :: rest) h') : q_R Γ m rm Z k n pc lv (x4 :: x3 :: x2 :: x1 :: .ref b :: rest) h := by
  subst hp
  exact q_callV (st0 := x4 :: x3 :: x2 :: x1 :: .ref b :: rest) (As := [x1, x2, x3, x4]) (rest := rest) M hc hf i hT hcl hn rfl (Nat.le_of_ble_eq_true hr) hd (fun v2 h2 q => by obtain ⟨rfl, rfl⟩ := q; exact kk)
theorem q_cV4v (pc' : Nat) (hp : pc + 3 = pc') {b ci : Nat} {x1 x2 x3 x4 : Value} {h' : q_H} (M : q_MLv m.1 idx m2 nA) (hc : q_Con Γ m2 d2 0 0 (.ref b :: [x1, x2, x3, x4]) h (q_is none h')) (hf : q_fits rm k n d2 0 0 m2.2.2.2.1 = true) (i : Nat) (hT : h.1[i]? = some (.inr ci, b)) (hcl : (vwCl[ci]?).map (fun q => q.1) = some m2.2.1.cls) (hn : 4 = nA) (hr : Nat.ble (rest.map (fun v : Value => v.category)).sum 8 = true) (hd : decode m.2.2.1 pc = .ok (.invokevirtual idx, 3)) (kk : q_R Γ m rm Z k n pc' lv rest h') : q_R Γ m rm Z k n pc lv (x4 :: x3 :: x2 :: x1 :: .ref b :: rest) h := by
  subst hp
  exact q_callV (st0 := x4 :: x3 :: x2 :: x1 :: .ref b :: rest) (As := [x1, x2, x3, x4]) (rest := rest) M hc hf i hT hcl hn rfl (Nat.le_of_ble_eq_true hr) hd (fun v2 h2 q => by obtain ⟨rfl, rfl⟩ := q; exact kk)
theorem q_cV4q (pc' : Nat) (hp : pc + 3 = pc') {b ci : Nat} {x1 x2 x3 x4 : Value} {Q' : Option Value → q_H → Prop} (M : q_MLv m.1 idx m2 nA) (hc : q_Con Γ m2 d2 0 0 (.ref b :: [x1, x2, x3, x4]) h Q') (hf : q_fits rm k n d2 0 0 m2.2.2.2.1 = true) (i : Nat) (hT : h.1[i]? = some (.inr ci, b)) (hcl : (vwCl[ci]?).map (fun q => q.1) = some m2.2.1.cls) (hn : 4 = nA) (hr : Nat.ble (rest.map (fun v : Value => v.category)).sum 8 = true) (hd : decode m.2.2.1 pc = .ok (.invokevirtual idx, 3)) (kk : ∀ v h', Q' v h' → q_R Γ m rm Z k n pc' lv (v.toList ++ rest) h') : q_R Γ m rm Z k n pc lv (x4 :: x3 :: x2 :: x1 :: .ref b :: rest) h := by
  subst hp
  exact q_callV (st0 := x4 :: x3 :: x2 :: x1 :: .ref b :: rest) (As := [x1, x2, x3, x4]) (rest := rest) M hc hf i hT hcl hn rfl (Nat.le_of_ble_eq_true hr) hd kk
theorem q_cS4 (pc' : Nat) (hp : pc + 3 = pc') {x1 x2 x3 x4 : Value} {v : Value} {h' : q_H} (M : q_MLs m.1 idx m2 nA) (hc : q_Con Γ m2 d2 0 0 ([x1, x2, x3, x4]) h (q_is (some v) h')) (hf : q_fits rm k n d2 0 0 m2.2.2.2.1 = true) (hn : 4 = nA) (hr : Nat.ble (rest.map (fun v : Value => v.category)).sum 8 = true) (hd : decode m.2.2.1 pc = .ok (.invokestatic idx, 3)) (kk : q_R Γ m rm Z k n pc' lv (v :: rest) h') : q_R Γ m rm Z k n pc lv (x4 :: x3 :: x2 :: x1 :: rest) h := by
  subst hp
  exact q_callS (st0 := x4 :: x3 :: x2 :: x1 :: rest) (As := [x1, x2, x3, x4]) (rest := rest) M hc hf hn rfl (Nat.le_of_ble_eq_true hr) hd (fun v2 h2 q => by obtain ⟨rfl, rfl⟩ := q; exact kk)
theorem q_cS4v (pc' : Nat) (hp : pc + 3 = pc') {x1 x2 x3 x4 : Value} {h' : q_H} (M : q_MLs m.1 idx m2 nA) (hc : q_Con Γ m2 d2 0 0 ([x1, x2, x3, x4]) h (q_is none h')) (hf : q_fits rm k n d2 0 0 m2.2.2.2.1 = true) (hn : 4 = nA) (hr : Nat.ble (rest.map (fun v : Value => v.category)).sum 8 = true) (hd : decode m.2.2.1 pc = .ok (.invokestatic idx, 3)) (kk : q_R Γ m rm Z k n pc' lv rest h') : q_R Γ m rm Z k n pc lv (x4 :: x3 :: x2 :: x1 :: rest) h := by
  subst hp
  exact q_callS (st0 := x4 :: x3 :: x2 :: x1 :: rest) (As := [x1, x2, x3, x4]) (rest := rest) M hc hf hn rfl (Nat.le_of_ble_eq_true hr) hd (fun v2 h2 q => by obtain ⟨rfl, rfl⟩ := q; exact kk)
theorem q_cS4q (pc' : Nat) (hp : pc + 3 = pc') {x1 x2 x3 x4 : Value} {Q' : Option Value → q_H → Prop} (M : q_MLs m.1 idx m2 nA) (hc : q_Con Γ m2 d2 0 0 ([x1, x2, x3, x4]) h Q') (hf : q_fits rm k n d2 0 0 m2.2.2.2.1 = true) (hn : 4 = nA) (hr : Nat.ble (rest.map (fun v : Value => v.category)).sum 8 = true) (hd : decode m.2.2.1 pc = .ok (.invokestatic idx, 3)) (kk : ∀ v h', Q' v h' → q_R Γ m rm Z k n pc' lv (v.toList ++ rest) h') : q_R Γ m rm Z k n pc lv (x4 :: x3 :: x2 :: x1 :: rest) h := by
  subst hp
  exact q_callS (st0 := x4 :: x3 :: x2 :: x1 :: rest) (As := [x1, x2, x3, x4]) (rest := rest) M hc hf hn rfl (Nat.le_of_ble_eq_true hr) hd kk
theorem q_cV5 (pc' : Nat) (hp : pc + 3 = pc') {b ci : Nat} {x1 x2 x3 x4 x5 : Value} {v : Value} {h' : q_H} (M : q_MLv m.1 idx m2 nA) (hc : q_Con Γ m2 d2 0 0 (.ref b :: [x1, x2, x3, x4, x5]) h (q_is (some v) h')) (hf : q_fits rm k n d2 0 0 m2.2.2.2.1 = true) (i : Nat) (hT : h.1[i]? = some (.inr ci, b)) (hcl : (vwCl[ci]?).map (fun q => q.1) = some m2.2.1.cls) (hn : 5 = nA) (hr : Nat.ble (rest.map (fun v : Value => v.category)).sum 8 = true) (hd : decode m.2.2.1 pc = .ok (.invokevirtual idx, 3)) (kk : q_R Γ m rm Z k n pc' lv (v :: rest) h') : q_R Γ m rm Z k n pc lv (x5 :: x4 :: x3 :: x2 :: x1 :: .ref b :: rest) h := by
  subst hp
  exact q_callV (st0 := x5 :: x4 :: x3 :: x2 :: x1 :: .ref b :: rest) (As := [x1, x2, x3, x4, x5]) (rest := rest) M hc hf i hT hcl hn rfl (Nat.le_of_ble_eq_true hr) hd (fun v2 h2 q => by obtain ⟨rfl, rfl⟩ := q; exact kk)
theorem q_cV5v (pc' : Nat) (hp : pc + 3 = pc') {b ci : Nat} {x1 x2 x3 x4 x5 : Value} {h' : q_H} (M : q_MLv m.1 idx m2 nA) (hc : q_Con Γ m2 d2 0 0 (.ref b :: [x1, x2, x3, x4, x5]) h (q_is none h')) (hf : q_fits rm k n d2 0 0 m2.2.2.2.1 = true) (i : Nat) (hT : h.1[i]? = some (.inr ci, b)) (hcl : (vwCl[ci]?).map (fun q => q.1) = some m2.2.1.cls) (hn : 5 = nA) (hr : Nat.ble (rest.map (fun v : Value => v.category)).sum 8 = true) (hd : decode m.2.2.1 pc = .ok (.invokevirtual idx, 3)) (kk : q_R Γ m rm Z k n pc' lv rest h') : q_R Γ m rm Z k n pc lv (x5 :: x4 :: x3 :: x2 :: x1 :: .ref b :: rest) h := by
  subst hp
  exact q_callV (st0 := x5 :: x4 :: x3 :: x2 :: x1 :: .ref b :: rest) (As := [x1, x2, x3, x4, x5]) (rest := rest) M hc hf i hT hcl hn rfl (Nat.le_of_ble_eq_true hr) hd (fun v2 h2 q => by obtain ⟨rfl, rfl⟩ := q; exact kk)
theorem q_cV5q (pc' : Nat) (hp : pc + 3 = pc') {b ci : Nat} {x1 x2 x3 x4 x5 : Value} {Q' : Option Value → q_H → Prop} (M : q_MLv m.1 idx m2 nA) (hc : q_Con Γ m2 d2 0 0 (.ref b :: [x1, x2, x3, x4, x5]) h Q') (hf : q_fits rm k n d2 0 0 m2.2.2.2.1 = true) (i : Nat) (hT : h.1[i]? = some (.inr ci, b)) (hcl : (vwCl[ci]?).map (fun q => q.1) = some m2.2.1.cls) (hn : 5 = nA) (hr : Nat.ble (rest.map (fun v : Value => v.category)).sum 8 = true) (hd : decode m.2.2.1 pc = .ok (.invokevirtual idx, 3)) (kk : ∀ v h', Q' v h' → q_R Γ m rm Z k n pc' lv (v.toList ++ rest) h') : q_R Γ m rm Z k n pc lv (x5 :: x4 :: x3 :: x2 :: x1 :: .ref b :: rest) h := by
  subst hp
  exact q_callV (st0 := x5 :: x4 :: x3 :: x2 :: x1 :: .ref b :: rest) (As := [x1, x2, x3, x4, x5]) (rest := rest) M hc hf i hT hcl hn rfl (Nat.le_of_ble_eq_true hr) hd kk
theorem q_cS5 (pc' : Nat) (hp : pc + 3 = pc') {x1 x2 x3 x4 x5 : Value} {v : Value} {h' : q_H} (M : q_MLs m.1 idx m2 nA) (hc : q_Con Γ m2 d2 0 0 ([x1, x2, x3, x4, x5]) h (q_is (some v) h')) (hf : q_fits rm k n d2 0 0 m2.2.2.2.1 = true) (hn : 5 = nA) (hr : Nat.ble (rest.map (fun v : Value => v.category)).sum 8 = true) (hd : decode m.2.2.1 pc = .ok (.invokestatic idx, 3)) (kk : q_R Γ m rm Z k n pc' lv (v :: rest) h') : q_R Γ m rm Z k n pc lv (x5 :: x4 :: x3 :: x2 :: x1 :: rest) h := by
  subst hp
  exact q_callS (st0 := x5 :: x4 :: x3 :: x2 :: x1 :: rest) (As := [x1, x2, x3, x4, x5]) (rest := rest) M hc hf hn rfl (Nat.le_of_ble_eq_true hr) hd (fun v2 h2 q => by obtain ⟨rfl, rfl⟩ := q; exact kk)
theorem q_cS5v (pc' : Nat) (hp : pc + 3 = pc') {x1 x2 x3 x4 x5 : Value} {h' : q_H} (M : q_MLs m.1 idx m2 nA) (hc : q_Con Γ m2 d2 0 0 ([x1, x2, x3, x4, x5]) h (q_is none h')) (hf : q_fits rm k n d2 0 0 m2.2.2.2.1 = true) (hn : 5 = nA) (hr : Nat.ble (rest.map (fun v : Value => v.category)).sum 8 = true) (hd : decode m.2.2.1 pc = .ok (.invokestatic idx, 3)) (kk : q_R Γ m rm Z k n pc' lv rest h') : q_R Γ m rm Z k n pc lv (x5 :: x4 :: x3 :: x2 :: x1 :: rest) h := by
  subst hp
  exact q_callS (st0 := x5 :: x4 :: x3 :: x2 :: x1 :: rest) (As := [x1, x2, x3, x4, x5]) (rest := rest) M hc hf hn rfl (Nat.le_of_ble_eq_true hr) hd (fun v2 h2 q => by obtain ⟨rfl, rfl⟩ := q; exact kk)
theorem q_cS5q (pc' : Nat) (hp : pc + 3 = pc') {x1 x2 x3 x4 x5 : Value} {Q' : Option Value → q_H → Prop} (M : q_MLs m.1 idx m2 nA) (hc : q_Con Γ m2 d2 0 0 ([x1, x2, x3, x4, x5]) h Q') (hf : q_fits rm k n d2 0 0 m2.2.2.2.1 = true) (hn : 5 = nA) (hr : Nat.ble (rest.map (fun v : Value => v.category)).sum 8 = true) (hd : decode m.2.2.1 pc = .ok (.invokestatic idx, 3)) (kk : ∀ v h', Q' v h' → q_R Γ m rm Z k n pc' lv (v.toList ++ rest) h') : q_R Γ m rm Z k n pc lv (x5 :: x4 :: x3 :: x2 :: x1 :: rest) h := by
  subst hp
  exact q_callS (st0 := x5 :: x4 :: x3 :: x2 :: x1 :: rest) (As := [x1, x2, x3, x4, x5]) (rest := rest) M hc hf hn rfl (Nat.le_of_ble_eq_true hr) hd kk
theorem q_cV6 (pc' : Nat) (hp : pc + 3 = pc') {b ci : Nat} {x1 x2 x3 x4 x5 x6 : Value} {v : Value} {h' : q_H} (M : q_MLv m.1 idx m2 nA) (hc : q_Con Γ m2 d2 0 0 (.ref b :: [x1, x2, x3, x4, x5, x6]) h (q_is (some v) h')) (hf : q_fits rm k n d2 0 0 m2.2.2.2.1 = true) (i : Nat) (hT : h.1[i]? = some (.inr ci, b)) (hcl : (vwCl[ci]?).map (fun q => q.1) = some m2.2.1.cls) (hn : 6 = nA) (hr : Nat.ble (rest.map (fun v : Value => v.category)).sum 8 = true) (hd : decode m.2.2.1 pc = .ok (.invokevirtual idx, 3)) (kk : q_R Γ m rm Z k n pc' lv (v :: rest) h') : q_R Γ m rm Z k n pc lv (x6 :: x5 :: x4 :: x3 :: x2 :: x1 :: .ref b :: rest) h := by
  subst hp
  exact q_callV (st0 := x6 :: x5 :: x4 :: x3 :: x2 :: x1 :: .ref b :: rest) (As := [x1, x2, x3, x4, x5, x6]) (rest := rest) M hc hf i hT hcl hn rfl (Nat.le_of_ble_eq_true hr) hd (fun v2 h2 q => by obtain ⟨rfl, rfl⟩ := q; exact kk)
theorem q_cV6v (pc' : Nat) (hp : pc + 3 = pc') {b ci : Nat} {x1 x2 x3 x4 x5 x6 : Value} {h' : q_H} (M : q_MLv m.1 idx m2 nA) (hc : q_Con Γ m2 d2 0 0 (.ref b :: [x1, x2, x3, x4, x5, x6]) h (q_is none h')) (hf : q_fits rm k n d2 0 0 m2.2.2.2.1 = true) (i : Nat) (hT : h.1[i]? = some (.inr ci, b)) (hcl : (vwCl[ci]?).map (fun q => q.1) = some m2.2.1.cls) (hn : 6 = nA) (hr : Nat.ble (rest.map (fun v : Value => v.category)).sum 8 = true) (hd : decode m.2.2.1 pc = .ok (.invokevirtual idx, 3)) (kk : q_R Γ m rm Z k n pc' lv rest h') : q_R Γ m rm Z k n pc lv (x6 :: x5 :: x4 :: x3 :: x2 :: x1 :: .ref b :: rest) h := by
  subst hp
  exact q_callV (st0 := x6 :: x5 :: x4 :: x3 :: x2 :: x1 :: .ref b :: rest) (As := [x1, x2, x3, x4, x5, x6]) (rest := rest) M hc hf i hT hcl hn rfl (Nat.le_of_ble_eq_true hr) hd (fun v2 h2 q => by obtain ⟨rfl, rfl⟩ := q; exact kk)
theorem q_cV6q (pc' : Nat) (hp : pc + 3 = pc') {b ci : Nat} {x1 x2 x3 x4 x5 x6 : Value} {Q' : Option Value → q_H → Prop} (M : q_MLv m.1 idx m2 nA) (hc : q_Con Γ m2 d2 0 0 (.ref b :: [x1, x2, x3, x4, x5, x6]) h Q') (hf : q_fits rm k n d2 0 0 m2.2.2.2.1 = true) (i : Nat) (hT : h.1[i]? = some (.inr ci, b)) (hcl : (vwCl[ci]?).map (fun q => q.1) = some m2.2.1.cls) (hn : 6 = nA) (hr : Nat.ble (rest.map (fun v : Value => v.category)).sum 8 = true) (hd : decode m.2.2.1 pc = .ok (.invokevirtual idx, 3)) (kk : ∀ v h', Q' v h' → q_R Γ m rm Z k n pc' lv (v.toList ++ rest) h') : q_R Γ m rm Z k n pc lv (x6 :: x5 :: x4 :: x3 :: x2 :: x1 :: .ref b :: rest) h := by
  subst hp
  exact q_callV (st0 := x6 :: x5 :: x4 :: x3 :: x2 :: x1 :: .ref b :: rest) (As := [x1, x2, x3, x4, x5, x6]) (rest := rest) M hc hf i hT hcl hn rfl (Nat.le_of_ble_eq_true hr) hd kk
theorem q_cS6 (pc' : Nat) (hp : pc + 3 = pc') {x1 x2 x3 x4 x5 x6 : Value} {v : Value} {h' : q_H} (M : q_MLs m.1 idx m2 nA) (hc : q_Con Γ m2 d2 0 0 ([x1, x2, x3, x4, x5, x6]) h (q_is (some v) h')) (hf : q_fits rm k n d2 0 0 m2.2.2.2.1 = true) (hn : 6 = nA) (hr : Nat.ble (rest.map (fun v : Value => v.category)).sum 8 = true) (hd : decode m.2.2.1 pc = .ok (.invokestatic idx, 3)) (kk : q_R Γ m rm Z k n pc' lv (v :: rest) h') : q_R Γ m rm Z k n pc lv (x6 :: x5 :: x4 :: x3 :: x2 :: x1 :: rest) h := by
  subst hp
  exact q_callS (st0 := x6 :: x5 :: x4 :: x3 :: x2 :: x1 :: rest) (As := [x1, x2, x3, x4, x5, x6]) (rest := rest) M hc hf hn rfl (Nat.le_of_ble_eq_true hr) hd (fun v2 h2 q => by obtain ⟨rfl, rfl⟩ := q; exact kk)
theorem q_cS6v (pc' : Nat) (hp : pc + 3 = pc') {x1 x2 x3 x4 x5 x6 : Value} {h' : q_H} (M : q_MLs m.1 idx m2 nA) (hc : q_Con Γ m2 d2 0 0 ([x1, x2, x3, x4, x5, x6]) h (q_is none h')) (hf : q_fits rm k n d2 0 0 m2.2.2.2.1 = true) (hn : 6 = nA) (hr : Nat.ble (rest.map (fun v : Value => v.category)).sum 8 = true) (hd : decode m.2.2.1 pc = .ok (.invokestatic idx, 3)) (kk : q_R Γ m rm Z k n pc' lv rest h') : q_R Γ m rm Z k n pc lv (x6 :: x5 :: x4 :: x3 :: x2 :: x1 :: rest) h := by
  subst hp
  exact q_callS (st0 := x6 :: x5 :: x4 :: x3 :: x2 :: x1 :: rest) (As := [x1, x2, x3, x4, x5, x6]) (rest := rest) M hc hf hn rfl (Nat.le_of_ble_eq_true hr) hd (fun v2 h2 q => by obtain ⟨rfl, rfl⟩ := q; exact kk)
theorem q_cS6q (pc' : Nat) (hp : pc + 3 = pc') {x1 x2 x3 x4 x5 x6 : Value} {Q' : Option Value → q_H → Prop} (M : q_MLs m.1 idx m2 nA) (hc : q_Con Γ m2 d2 0 0 ([x1, x2, x3, x4, x5, x6]) h Q') (hf : q_fits rm k n d2 0 0 m2.2.2.2.1 = true) (hn : 6 = nA) (hr : Nat.ble (rest.map (fun v : Value => v.category)).sum 8 = true) (hd : decode m.2.2.1 pc = .ok (.invokestatic idx, 3)) (kk : ∀ v h', Q' v h' → q_R Γ m rm Z k n pc' lv (v.toList ++ rest) h') : q_R Γ m rm Z k n pc lv (x6 :: x5 :: x4 :: x3 :: x2 :: x1 :: rest) h := by
  subst hp
  exact q_callS (st0 := x6 :: x5 :: x4 :: x3 :: x2 :: x1 :: rest) (As := [x1, x2, x3, x4, x5, x6]) (rest := rest) M hc hf hn rfl (Nat.le_of_ble_eq_true hr) hd kk
end
