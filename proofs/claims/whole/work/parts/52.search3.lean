theorem set1 {Rl : Nat → Nat → Bool} {c s g : Nat} (hc : c ≤ 9) (hs : s < 2 ^ c) : (s &&& (1 * 2 ^ g ^^^ 4294967295)) &&& mk (Rl g) c = prt Rl c s g 1 := by
  rw [show s &&& (1 * 2 ^ g ^^^ 4294967295) = mk s.testBit c &&& (1 * 2 ^ g ^^^ 4294967295) by rw [mk_of_lt hs], mk_clr _ _ (by omega), mk_and]
  refine mk_ext (fun i hi => ?_)
  by_cases e : i = g
  · subst e; simp [aof]
  · by_cases hr : Rl g i = true <;> simp [aof, e, hr]
theorem set0 {Rl : Nat → Nat → Bool} {c s g : Nat} (hc : c ≤ 9) (hs : s < 2 ^ c) : (s &&& (1 * 2 ^ g ^^^ 4294967295)) &&& (mk (Rl g) c ^^^ 4294967295) = prt Rl c s g 0 := by
  rw [show s &&& (1 * 2 ^ g ^^^ 4294967295) = mk s.testBit c &&& (1 * 2 ^ g ^^^ 4294967295) by rw [mk_of_lt hs], mk_clr _ _ (by omega), mk_andN _ _ (by omega)]
  refine mk_ext (fun i hi => ?_)
  by_cases e : i = g
  · subst e; simp [aof]
  · by_cases hr : Rl g i = true <;> simp [aof, e, hr]
/-- what settle() does with its field first -/
def fst6 (N : Nat → Nat → Nat) (q : Nat) (f : Nat → Nat) (i : Nat) : Nat → Nat → Nat := if (amin f 1048576 i).1 < 1048576 then q_s N q 6 (amin f 1048576 i).2 else N
theorem fst6_ne {N : Nat → Nat → Nat} {q a i : Nat} {f : Nat → Nat} (h : a ≠ q) : fst6 N q f i a = N a := by
  unfold fst6; split
  · exact q_s_ne h
  · rfl
theorem fst6_off {N : Nat → Nat → Nat} {q j i : Nat} {f : Nat → Nat} (h : j ≠ 6) : fst6 N q f i q j = N q j := by
  unfold fst6; split
  · exact q_s_off h
  · rfl
