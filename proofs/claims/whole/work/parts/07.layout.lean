/-! THE CELLS behind the two constructors. Class: 0 GuessCalled, 1 tape, 2 reader, 3/18 Names (+1 lengths +2 letters +3 letterSets +4 vowels +5 wrote), 9/24/51/60 Moment (+1 odds +2 pairFirsts +3 pairSeconds +4 guessNames +5 guessAnswers +6 heardPlaces +7 heardLetters +8 heardIs), 33 images, 34 kept, 35 sheets, 36 nearTo, 37 surest, 41 soonest (+1 nearTo +2 odds +3 costs), 45 rows (46 best, 47 parts), 48 guessesByLaw, 49 nearByLaw, 50 pairWanted, 69/71/73/75 Sheet (+1 cells). Model: 77, 78 state, 79 names, 80 wrote, 81 readPage, 82 readNames, 83 readWrote, 84 tape, 85 cuts, 86 letters, 87 nears, 88 few, 89 sums, 90 rowNow, 91 rowBest, 92 isKept, 93 lanes, 94 lengths, 95 cells -/
def LT (ad : Nat → Nat) : List (q_K × Nat) := [(.inr 6, ad 0), (.inl (1, 160), ad 1), (.inr 2, ad 2), (.inr 1, ad 3), (.inl (0, 9), ad 4), (.inl (0, 72), ad 5), (.inl (0, 9), ad 6), (.inl (0, 9), ad 7), (.inl (0, 8), ad 8), (.inr 0, ad 9), (.inl (0, 9), ad 10), (.inl (0, 5), ad 11), (.inl (0, 5), ad 12), (.inl (0, 9), ad 13), (.inl (0, 9), ad 14), (.inl (0, 6), ad 15), (.inl (0, 6), ad 16), (.inl (0, 6), ad 17), (.inr 1, ad 18), (.inl (0, 9), ad 19), (.inl (0, 72), ad 20), (.inl (0, 9), ad 21), (.inl (0, 9), ad 22), (.inl (0, 8), ad 23), (.inr 0, ad 24), (.inl (0, 9), ad 25), (.inl (0, 5), ad 26), (.inl (0, 5), ad 27), (.inl (0, 9), ad 28), (.inl (0, 9), ad 29), (.inl (0, 6), ad 30), (.inl (0, 6), ad 31), (.inl (0, 6), ad 32), (.inl (4, 2), ad 33), (.inl (2, 2), ad 34), (.inl (5, 4), ad 35), (.inl (0, 9), ad 36), (.inr 4, ad 37), (.inl (0, 9), ad 38), (.inl (0, 9), ad 39), (.inl (0, 512), ad 40), (.inr 4, ad 41), (.inl (0, 9), ad 42), (.inl (0, 9), ad 43), (.inl (0, 512), ad 44), (.inr 3, ad 45), (.inl (0, 3), ad 46), (.inl (0, 27), ad 47), (.inl (0, 45), ad 48), (.inl (0, 9), ad 49), (.inl (0, 9), ad 50), (.inr 0, ad 51), (.inl (0, 9), ad 52), (.inl (0, 5), ad 53), (.inl (0, 5), ad 54), (.inl (0, 9), ad 55), (.inl (0, 9), ad 56), (.inl (0, 6), ad 57), (.inl (0, 6), ad 58), (.inl (0, 6), ad 59), (.inr 0, ad 60), (.inl (0, 9), ad 61), (.inl (0, 5), ad 62), (.inl (0, 5), ad 63), (.inl (0, 9), ad 64), (.inl (0, 9), ad 65), (.inl (0, 6), ad 66), (.inl (0, 6), ad 67), (.inl (0, 6), ad 68), (.inr 5, ad 69), (.inl (0, 40), ad 70), (.inr 5, ad 71), (.inl (0, 40), ad 72), (.inr 5, ad 73), (.inl (0, 40), ad 74), (.inr 5, ad 75), (.inl (0, 40), ad 76), (.inr 7, ad 77), (.inl (0, 240), ad 78), (.inl (0, 81), ad 79), (.inl (0, 9), ad 80), (.inl (0, 60), ad 81), (.inl (0, 81), ad 82), (.inl (0, 9), ad 83), (.inl (0, 160), ad 84), (.inl (0, 10), ad 85), (.inl (0, 42), ad 86), (.inl (0, 9), ad 87), (.inl (0, 512), ad 88), (.inl (3, 512), ad 89), (.inl (0, 3), ad 90), (.inl (0, 3), ad 91), (.inl (2, 2), ad 92), (.inl (0, 4), ad 93), (.inl (0, 4), ad 94), (.inl (0, 160), ad 95)]
theorem t_0 {ad : Nat → Nat} : (LT ad)[0]? = some (.inr 6, ad 0) := rfl
theorem t_1 {ad : Nat → Nat} : (LT ad)[1]? = some (.inl (1, 160), ad 1) := rfl
theorem t_2 {ad : Nat → Nat} : (LT ad)[2]? = some (.inr 2, ad 2) := rfl
theorem t_3 {ad : Nat → Nat} : (LT ad)[3]? = some (.inr 1, ad 3) := rfl
theorem t_4 {ad : Nat → Nat} : (LT ad)[4]? = some (.inl (0, 9), ad 4) := rfl
theorem t_5 {ad : Nat → Nat} : (LT ad)[5]? = some (.inl (0, 72), ad 5) := rfl
theorem t_6 {ad : Nat → Nat} : (LT ad)[6]? = some (.inl (0, 9), ad 6) := rfl
theorem t_7 {ad : Nat → Nat} : (LT ad)[7]? = some (.inl (0, 9), ad 7) := rfl
theorem t_8 {ad : Nat → Nat} : (LT ad)[8]? = some (.inl (0, 8), ad 8) := rfl
theorem t_9 {ad : Nat → Nat} : (LT ad)[9]? = some (.inr 0, ad 9) := rfl
theorem t_10 {ad : Nat → Nat} : (LT ad)[10]? = some (.inl (0, 9), ad 10) := rfl
theorem t_11 {ad : Nat → Nat} : (LT ad)[11]? = some (.inl (0, 5), ad 11) := rfl
theorem t_12 {ad : Nat → Nat} : (LT ad)[12]? = some (.inl (0, 5), ad 12) := rfl
theorem t_13 {ad : Nat → Nat} : (LT ad)[13]? = some (.inl (0, 9), ad 13) := rfl
theorem t_14 {ad : Nat → Nat} : (LT ad)[14]? = some (.inl (0, 9), ad 14) := rfl
theorem t_15 {ad : Nat → Nat} : (LT ad)[15]? = some (.inl (0, 6), ad 15) := rfl
theorem t_16 {ad : Nat → Nat} : (LT ad)[16]? = some (.inl (0, 6), ad 16) := rfl
theorem t_17 {ad : Nat → Nat} : (LT ad)[17]? = some (.inl (0, 6), ad 17) := rfl
theorem t_18 {ad : Nat → Nat} : (LT ad)[18]? = some (.inr 1, ad 18) := rfl
theorem t_19 {ad : Nat → Nat} : (LT ad)[19]? = some (.inl (0, 9), ad 19) := rfl
theorem t_20 {ad : Nat → Nat} : (LT ad)[20]? = some (.inl (0, 72), ad 20) := rfl
theorem t_21 {ad : Nat → Nat} : (LT ad)[21]? = some (.inl (0, 9), ad 21) := rfl
theorem t_22 {ad : Nat → Nat} : (LT ad)[22]? = some (.inl (0, 9), ad 22) := rfl
theorem t_23 {ad : Nat → Nat} : (LT ad)[23]? = some (.inl (0, 8), ad 23) := rfl
theorem t_24 {ad : Nat → Nat} : (LT ad)[24]? = some (.inr 0, ad 24) := rfl
theorem t_25 {ad : Nat → Nat} : (LT ad)[25]? = some (.inl (0, 9), ad 25) := rfl
theorem t_26 {ad : Nat → Nat} : (LT ad)[26]? = some (.inl (0, 5), ad 26) := rfl
theorem t_27 {ad : Nat → Nat} : (LT ad)[27]? = some (.inl (0, 5), ad 27) := rfl
theorem t_28 {ad : Nat → Nat} : (LT ad)[28]? = some (.inl (0, 9), ad 28) := rfl
theorem t_29 {ad : Nat → Nat} : (LT ad)[29]? = some (.inl (0, 9), ad 29) := rfl
theorem t_30 {ad : Nat → Nat} : (LT ad)[30]? = some (.inl (0, 6), ad 30) := rfl
theorem t_31 {ad : Nat → Nat} : (LT ad)[31]? = some (.inl (0, 6), ad 31) := rfl
theorem t_32 {ad : Nat → Nat} : (LT ad)[32]? = some (.inl (0, 6), ad 32) := rfl
theorem t_33 {ad : Nat → Nat} : (LT ad)[33]? = some (.inl (4, 2), ad 33) := rfl
theorem t_34 {ad : Nat → Nat} : (LT ad)[34]? = some (.inl (2, 2), ad 34) := rfl
theorem t_35 {ad : Nat → Nat} : (LT ad)[35]? = some (.inl (5, 4), ad 35) := rfl
theorem t_36 {ad : Nat → Nat} : (LT ad)[36]? = some (.inl (0, 9), ad 36) := rfl
theorem t_37 {ad : Nat → Nat} : (LT ad)[37]? = some (.inr 4, ad 37) := rfl
theorem t_38 {ad : Nat → Nat} : (LT ad)[38]? = some (.inl (0, 9), ad 38) := rfl
theorem t_39 {ad : Nat → Nat} : (LT ad)[39]? = some (.inl (0, 9), ad 39) := rfl
theorem t_40 {ad : Nat → Nat} : (LT ad)[40]? = some (.inl (0, 512), ad 40) := rfl
theorem t_41 {ad : Nat → Nat} : (LT ad)[41]? = some (.inr 4, ad 41) := rfl
theorem t_42 {ad : Nat → Nat} : (LT ad)[42]? = some (.inl (0, 9), ad 42) := rfl
theorem t_43 {ad : Nat → Nat} : (LT ad)[43]? = some (.inl (0, 9), ad 43) := rfl
theorem t_44 {ad : Nat → Nat} : (LT ad)[44]? = some (.inl (0, 512), ad 44) := rfl
theorem t_45 {ad : Nat → Nat} : (LT ad)[45]? = some (.inr 3, ad 45) := rfl
theorem t_46 {ad : Nat → Nat} : (LT ad)[46]? = some (.inl (0, 3), ad 46) := rfl
theorem t_47 {ad : Nat → Nat} : (LT ad)[47]? = some (.inl (0, 27), ad 47) := rfl
theorem t_48 {ad : Nat → Nat} : (LT ad)[48]? = some (.inl (0, 45), ad 48) := rfl
theorem t_49 {ad : Nat → Nat} : (LT ad)[49]? = some (.inl (0, 9), ad 49) := rfl
theorem t_50 {ad : Nat → Nat} : (LT ad)[50]? = some (.inl (0, 9), ad 50) := rfl
theorem t_51 {ad : Nat → Nat} : (LT ad)[51]? = some (.inr 0, ad 51) := rfl
theorem t_52 {ad : Nat → Nat} : (LT ad)[52]? = some (.inl (0, 9), ad 52) := rfl
theorem t_53 {ad : Nat → Nat} : (LT ad)[53]? = some (.inl (0, 5), ad 53) := rfl
theorem t_54 {ad : Nat → Nat} : (LT ad)[54]? = some (.inl (0, 5), ad 54) := rfl
theorem t_55 {ad : Nat → Nat} : (LT ad)[55]? = some (.inl (0, 9), ad 55) := rfl
theorem t_56 {ad : Nat → Nat} : (LT ad)[56]? = some (.inl (0, 9), ad 56) := rfl
theorem t_57 {ad : Nat → Nat} : (LT ad)[57]? = some (.inl (0, 6), ad 57) := rfl
theorem t_58 {ad : Nat → Nat} : (LT ad)[58]? = some (.inl (0, 6), ad 58) := rfl
theorem t_59 {ad : Nat → Nat} : (LT ad)[59]? = some (.inl (0, 6), ad 59) := rfl
theorem t_60 {ad : Nat → Nat} : (LT ad)[60]? = some (.inr 0, ad 60) := rfl
theorem t_61 {ad : Nat → Nat} : (LT ad)[61]? = some (.inl (0, 9), ad 61) := rfl
theorem t_62 {ad : Nat → Nat} : (LT ad)[62]? = some (.inl (0, 5), ad 62) := rfl
theorem t_63 {ad : Nat → Nat} : (LT ad)[63]? = some (.inl (0, 5), ad 63) := rfl
theorem t_64 {ad : Nat → Nat} : (LT ad)[64]? = some (.inl (0, 9), ad 64) := rfl
theorem t_65 {ad : Nat → Nat} : (LT ad)[65]? = some (.inl (0, 9), ad 65) := rfl
theorem t_66 {ad : Nat → Nat} : (LT ad)[66]? = some (.inl (0, 6), ad 66) := rfl
theorem t_67 {ad : Nat → Nat} : (LT ad)[67]? = some (.inl (0, 6), ad 67) := rfl
theorem t_68 {ad : Nat → Nat} : (LT ad)[68]? = some (.inl (0, 6), ad 68) := rfl
theorem t_69 {ad : Nat → Nat} : (LT ad)[69]? = some (.inr 5, ad 69) := rfl
theorem t_70 {ad : Nat → Nat} : (LT ad)[70]? = some (.inl (0, 40), ad 70) := rfl
theorem t_71 {ad : Nat → Nat} : (LT ad)[71]? = some (.inr 5, ad 71) := rfl
theorem t_72 {ad : Nat → Nat} : (LT ad)[72]? = some (.inl (0, 40), ad 72) := rfl
theorem t_73 {ad : Nat → Nat} : (LT ad)[73]? = some (.inr 5, ad 73) := rfl
theorem t_74 {ad : Nat → Nat} : (LT ad)[74]? = some (.inl (0, 40), ad 74) := rfl
theorem t_75 {ad : Nat → Nat} : (LT ad)[75]? = some (.inr 5, ad 75) := rfl
theorem t_76 {ad : Nat → Nat} : (LT ad)[76]? = some (.inl (0, 40), ad 76) := rfl
theorem t_77 {ad : Nat → Nat} : (LT ad)[77]? = some (.inr 7, ad 77) := rfl
theorem t_78 {ad : Nat → Nat} : (LT ad)[78]? = some (.inl (0, 240), ad 78) := rfl
theorem t_79 {ad : Nat → Nat} : (LT ad)[79]? = some (.inl (0, 81), ad 79) := rfl
theorem t_80 {ad : Nat → Nat} : (LT ad)[80]? = some (.inl (0, 9), ad 80) := rfl
theorem t_81 {ad : Nat → Nat} : (LT ad)[81]? = some (.inl (0, 60), ad 81) := rfl
theorem t_82 {ad : Nat → Nat} : (LT ad)[82]? = some (.inl (0, 81), ad 82) := rfl
theorem t_83 {ad : Nat → Nat} : (LT ad)[83]? = some (.inl (0, 9), ad 83) := rfl
theorem t_84 {ad : Nat → Nat} : (LT ad)[84]? = some (.inl (0, 160), ad 84) := rfl
theorem t_85 {ad : Nat → Nat} : (LT ad)[85]? = some (.inl (0, 10), ad 85) := rfl
theorem t_86 {ad : Nat → Nat} : (LT ad)[86]? = some (.inl (0, 42), ad 86) := rfl
theorem t_87 {ad : Nat → Nat} : (LT ad)[87]? = some (.inl (0, 9), ad 87) := rfl
theorem t_88 {ad : Nat → Nat} : (LT ad)[88]? = some (.inl (0, 512), ad 88) := rfl
theorem t_89 {ad : Nat → Nat} : (LT ad)[89]? = some (.inl (3, 512), ad 89) := rfl
theorem t_90 {ad : Nat → Nat} : (LT ad)[90]? = some (.inl (0, 3), ad 90) := rfl
theorem t_91 {ad : Nat → Nat} : (LT ad)[91]? = some (.inl (0, 3), ad 91) := rfl
theorem t_92 {ad : Nat → Nat} : (LT ad)[92]? = some (.inl (2, 2), ad 92) := rfl
theorem t_93 {ad : Nat → Nat} : (LT ad)[93]? = some (.inl (0, 4), ad 93) := rfl
theorem t_94 {ad : Nat → Nat} : (LT ad)[94]? = some (.inl (0, 4), ad 94) := rfl
theorem t_95 {ad : Nat → Nat} : (LT ad)[95]? = some (.inl (0, 160), ad 95) := rfl
abbrev isN (q : Nat) : Prop := q = 3 ∨ q = 18
theorem tN0 {ad : Nat → Nat} {q : Nat} (h : isN q) : (LT ad)[q + 0]? = some (.inr 1, ad (q + 0)) := by rcases h with rfl | rfl <;> rfl
theorem tN1 {ad : Nat → Nat} {q : Nat} (h : isN q) : (LT ad)[q + 1]? = some (.inl (0, 9), ad (q + 1)) := by rcases h with rfl | rfl <;> rfl
theorem tN2 {ad : Nat → Nat} {q : Nat} (h : isN q) : (LT ad)[q + 2]? = some (.inl (0, 72), ad (q + 2)) := by rcases h with rfl | rfl <;> rfl
theorem tN3 {ad : Nat → Nat} {q : Nat} (h : isN q) : (LT ad)[q + 3]? = some (.inl (0, 9), ad (q + 3)) := by rcases h with rfl | rfl <;> rfl
theorem tN4 {ad : Nat → Nat} {q : Nat} (h : isN q) : (LT ad)[q + 4]? = some (.inl (0, 9), ad (q + 4)) := by rcases h with rfl | rfl <;> rfl
theorem tN5 {ad : Nat → Nat} {q : Nat} (h : isN q) : (LT ad)[q + 5]? = some (.inl (0, 8), ad (q + 5)) := by rcases h with rfl | rfl <;> rfl
theorem tN {ad : Nat → Nat} {q : Nat} (h : isN q) : (LT ad)[q]? = some (.inr 1, ad q) := by rcases h with rfl | rfl <;> rfl
abbrev isM (q : Nat) : Prop := q = 9 ∨ q = 24 ∨ q = 51 ∨ q = 60
theorem tM0 {ad : Nat → Nat} {q : Nat} (h : isM q) : (LT ad)[q + 0]? = some (.inr 0, ad (q + 0)) := by rcases h with rfl | rfl | rfl | rfl <;> rfl
theorem tM1 {ad : Nat → Nat} {q : Nat} (h : isM q) : (LT ad)[q + 1]? = some (.inl (0, 9), ad (q + 1)) := by rcases h with rfl | rfl | rfl | rfl <;> rfl
theorem tM2 {ad : Nat → Nat} {q : Nat} (h : isM q) : (LT ad)[q + 2]? = some (.inl (0, 5), ad (q + 2)) := by rcases h with rfl | rfl | rfl | rfl <;> rfl
theorem tM3 {ad : Nat → Nat} {q : Nat} (h : isM q) : (LT ad)[q + 3]? = some (.inl (0, 5), ad (q + 3)) := by rcases h with rfl | rfl | rfl | rfl <;> rfl
theorem tM4 {ad : Nat → Nat} {q : Nat} (h : isM q) : (LT ad)[q + 4]? = some (.inl (0, 9), ad (q + 4)) := by rcases h with rfl | rfl | rfl | rfl <;> rfl
theorem tM5 {ad : Nat → Nat} {q : Nat} (h : isM q) : (LT ad)[q + 5]? = some (.inl (0, 9), ad (q + 5)) := by rcases h with rfl | rfl | rfl | rfl <;> rfl
theorem tM6 {ad : Nat → Nat} {q : Nat} (h : isM q) : (LT ad)[q + 6]? = some (.inl (0, 6), ad (q + 6)) := by rcases h with rfl | rfl | rfl | rfl <;> rfl
theorem tM7 {ad : Nat → Nat} {q : Nat} (h : isM q) : (LT ad)[q + 7]? = some (.inl (0, 6), ad (q + 7)) := by rcases h with rfl | rfl | rfl | rfl <;> rfl
theorem tM8 {ad : Nat → Nat} {q : Nat} (h : isM q) : (LT ad)[q + 8]? = some (.inl (0, 6), ad (q + 8)) := by rcases h with rfl | rfl | rfl | rfl <;> rfl
theorem tM {ad : Nat → Nat} {q : Nat} (h : isM q) : (LT ad)[q]? = some (.inr 0, ad q) := by rcases h with rfl | rfl | rfl | rfl <;> rfl
abbrev isS (q : Nat) : Prop := q = 37 ∨ q = 41
theorem tS0 {ad : Nat → Nat} {q : Nat} (h : isS q) : (LT ad)[q + 0]? = some (.inr 4, ad (q + 0)) := by rcases h with rfl | rfl <;> rfl
theorem tS1 {ad : Nat → Nat} {q : Nat} (h : isS q) : (LT ad)[q + 1]? = some (.inl (0, 9), ad (q + 1)) := by rcases h with rfl | rfl <;> rfl
theorem tS2 {ad : Nat → Nat} {q : Nat} (h : isS q) : (LT ad)[q + 2]? = some (.inl (0, 9), ad (q + 2)) := by rcases h with rfl | rfl <;> rfl
theorem tS3 {ad : Nat → Nat} {q : Nat} (h : isS q) : (LT ad)[q + 3]? = some (.inl (0, 512), ad (q + 3)) := by rcases h with rfl | rfl <;> rfl
theorem tS {ad : Nat → Nat} {q : Nat} (h : isS q) : (LT ad)[q]? = some (.inr 4, ad q) := by rcases h with rfl | rfl <;> rfl
abbrev isH (q : Nat) : Prop := q = 69 ∨ q = 71 ∨ q = 73 ∨ q = 75
theorem tH0 {ad : Nat → Nat} {q : Nat} (h : isH q) : (LT ad)[q + 0]? = some (.inr 5, ad (q + 0)) := by rcases h with rfl | rfl | rfl | rfl <;> rfl
theorem tH1 {ad : Nat → Nat} {q : Nat} (h : isH q) : (LT ad)[q + 1]? = some (.inl (0, 40), ad (q + 1)) := by rcases h with rfl | rfl | rfl | rfl <;> rfl
theorem tH {ad : Nat → Nat} {q : Nat} (h : isH q) : (LT ad)[q]? = some (.inr 5, ad q) := by rcases h with rfl | rfl | rfl | rfl <;> rfl
def GFl : List (Nat × Nat × Nat) := [(0, 0, 1), (0, 4, 2), (0, 9, 33), (0, 10, 34), (0, 11, 35), (0, 12, 36), (0, 13, 37), (0, 14, 41), (0, 15, 45), (0, 16, 48), (0, 17, 49), (0, 19, 50), (3, 1, 4), (3, 2, 5), (3, 3, 6), (3, 4, 7), (3, 6, 8), (18, 1, 19), (18, 2, 20), (18, 3, 21), (18, 4, 22), (18, 6, 23), (9, 0, 10), (9, 4, 11), (9, 5, 12), (9, 7, 13), (9, 8, 14), (9, 10, 15), (9, 11, 16), (9, 12, 17), (24, 0, 25), (24, 4, 26), (24, 5, 27), (24, 7, 28), (24, 8, 29), (24, 10, 30), (24, 11, 31), (24, 12, 32), (51, 0, 52), (51, 4, 53), (51, 5, 54), (51, 7, 55), (51, 8, 56), (51, 10, 57), (51, 11, 58), (51, 12, 59), (60, 0, 61), (60, 4, 62), (60, 5, 63), (60, 7, 64), (60, 8, 65), (60, 10, 66), (60, 11, 67), (60, 12, 68), (33, 0, 51), (33, 1, 60), (35, 0, 69), (35, 1, 71), (35, 2, 73), (35, 3, 75), (37, 1, 38), (37, 2, 39), (37, 3, 40), (41, 1, 42), (41, 2, 43), (41, 3, 44), (45, 0, 46), (45, 1, 47), (69, 2, 70), (71, 2, 72), (73, 2, 74), (75, 2, 76), (77, 0, 78), (77, 1, 79), (77, 3, 80), (77, 4, 81), (77, 5, 82), (77, 7, 83), (77, 9, 84), (77, 18, 85), (77, 19, 86), (77, 20, 87), (77, 21, 88), (77, 22, 89), (77, 23, 90), (77, 24, 91), (77, 25, 92), (77, 26, 93), (77, 27, 94), (77, 28, 95)]
def GF (ad : Nat → Nat) (G : Nat → Nat → Option Nat) : Prop := ∀ p ∈ GFl, G p.1 p.2.1 = some (ad p.2.2)
theorem g_0_0 {ad : Nat → Nat} {G : Nat → Nat → Option Nat} (h : GF ad G) : G 0 0 = some (ad 1) := h (0, 0, 1) (by decide)
theorem g_0_4 {ad : Nat → Nat} {G : Nat → Nat → Option Nat} (h : GF ad G) : G 0 4 = some (ad 2) := h (0, 4, 2) (by decide)
theorem g_0_9 {ad : Nat → Nat} {G : Nat → Nat → Option Nat} (h : GF ad G) : G 0 9 = some (ad 33) := h (0, 9, 33) (by decide)
theorem g_0_10 {ad : Nat → Nat} {G : Nat → Nat → Option Nat} (h : GF ad G) : G 0 10 = some (ad 34) := h (0, 10, 34) (by decide)
theorem g_0_11 {ad : Nat → Nat} {G : Nat → Nat → Option Nat} (h : GF ad G) : G 0 11 = some (ad 35) := h (0, 11, 35) (by decide)
theorem g_0_12 {ad : Nat → Nat} {G : Nat → Nat → Option Nat} (h : GF ad G) : G 0 12 = some (ad 36) := h (0, 12, 36) (by decide)
theorem g_0_13 {ad : Nat → Nat} {G : Nat → Nat → Option Nat} (h : GF ad G) : G 0 13 = some (ad 37) := h (0, 13, 37) (by decide)
theorem g_0_14 {ad : Nat → Nat} {G : Nat → Nat → Option Nat} (h : GF ad G) : G 0 14 = some (ad 41) := h (0, 14, 41) (by decide)
theorem g_0_15 {ad : Nat → Nat} {G : Nat → Nat → Option Nat} (h : GF ad G) : G 0 15 = some (ad 45) := h (0, 15, 45) (by decide)
theorem g_0_16 {ad : Nat → Nat} {G : Nat → Nat → Option Nat} (h : GF ad G) : G 0 16 = some (ad 48) := h (0, 16, 48) (by decide)
theorem g_0_17 {ad : Nat → Nat} {G : Nat → Nat → Option Nat} (h : GF ad G) : G 0 17 = some (ad 49) := h (0, 17, 49) (by decide)
theorem g_0_19 {ad : Nat → Nat} {G : Nat → Nat → Option Nat} (h : GF ad G) : G 0 19 = some (ad 50) := h (0, 19, 50) (by decide)
theorem g_3_1 {ad : Nat → Nat} {G : Nat → Nat → Option Nat} (h : GF ad G) : G 3 1 = some (ad 4) := h (3, 1, 4) (by decide)
theorem g_3_2 {ad : Nat → Nat} {G : Nat → Nat → Option Nat} (h : GF ad G) : G 3 2 = some (ad 5) := h (3, 2, 5) (by decide)
theorem g_3_3 {ad : Nat → Nat} {G : Nat → Nat → Option Nat} (h : GF ad G) : G 3 3 = some (ad 6) := h (3, 3, 6) (by decide)
theorem g_3_4 {ad : Nat → Nat} {G : Nat → Nat → Option Nat} (h : GF ad G) : G 3 4 = some (ad 7) := h (3, 4, 7) (by decide)
theorem g_3_6 {ad : Nat → Nat} {G : Nat → Nat → Option Nat} (h : GF ad G) : G 3 6 = some (ad 8) := h (3, 6, 8) (by decide)
theorem g_18_1 {ad : Nat → Nat} {G : Nat → Nat → Option Nat} (h : GF ad G) : G 18 1 = some (ad 19) := h (18, 1, 19) (by decide)
theorem g_18_2 {ad : Nat → Nat} {G : Nat → Nat → Option Nat} (h : GF ad G) : G 18 2 = some (ad 20) := h (18, 2, 20) (by decide)
theorem g_18_3 {ad : Nat → Nat} {G : Nat → Nat → Option Nat} (h : GF ad G) : G 18 3 = some (ad 21) := h (18, 3, 21) (by decide)
theorem g_18_4 {ad : Nat → Nat} {G : Nat → Nat → Option Nat} (h : GF ad G) : G 18 4 = some (ad 22) := h (18, 4, 22) (by decide)
theorem g_18_6 {ad : Nat → Nat} {G : Nat → Nat → Option Nat} (h : GF ad G) : G 18 6 = some (ad 23) := h (18, 6, 23) (by decide)
theorem g_9_0 {ad : Nat → Nat} {G : Nat → Nat → Option Nat} (h : GF ad G) : G 9 0 = some (ad 10) := h (9, 0, 10) (by decide)
theorem g_9_4 {ad : Nat → Nat} {G : Nat → Nat → Option Nat} (h : GF ad G) : G 9 4 = some (ad 11) := h (9, 4, 11) (by decide)
theorem g_9_5 {ad : Nat → Nat} {G : Nat → Nat → Option Nat} (h : GF ad G) : G 9 5 = some (ad 12) := h (9, 5, 12) (by decide)
theorem g_9_7 {ad : Nat → Nat} {G : Nat → Nat → Option Nat} (h : GF ad G) : G 9 7 = some (ad 13) := h (9, 7, 13) (by decide)
theorem g_9_8 {ad : Nat → Nat} {G : Nat → Nat → Option Nat} (h : GF ad G) : G 9 8 = some (ad 14) := h (9, 8, 14) (by decide)
theorem g_9_10 {ad : Nat → Nat} {G : Nat → Nat → Option Nat} (h : GF ad G) : G 9 10 = some (ad 15) := h (9, 10, 15) (by decide)
theorem g_9_11 {ad : Nat → Nat} {G : Nat → Nat → Option Nat} (h : GF ad G) : G 9 11 = some (ad 16) := h (9, 11, 16) (by decide)
theorem g_9_12 {ad : Nat → Nat} {G : Nat → Nat → Option Nat} (h : GF ad G) : G 9 12 = some (ad 17) := h (9, 12, 17) (by decide)
theorem g_24_0 {ad : Nat → Nat} {G : Nat → Nat → Option Nat} (h : GF ad G) : G 24 0 = some (ad 25) := h (24, 0, 25) (by decide)
theorem g_24_4 {ad : Nat → Nat} {G : Nat → Nat → Option Nat} (h : GF ad G) : G 24 4 = some (ad 26) := h (24, 4, 26) (by decide)
theorem g_24_5 {ad : Nat → Nat} {G : Nat → Nat → Option Nat} (h : GF ad G) : G 24 5 = some (ad 27) := h (24, 5, 27) (by decide)
theorem g_24_7 {ad : Nat → Nat} {G : Nat → Nat → Option Nat} (h : GF ad G) : G 24 7 = some (ad 28) := h (24, 7, 28) (by decide)
theorem g_24_8 {ad : Nat → Nat} {G : Nat → Nat → Option Nat} (h : GF ad G) : G 24 8 = some (ad 29) := h (24, 8, 29) (by decide)
theorem g_24_10 {ad : Nat → Nat} {G : Nat → Nat → Option Nat} (h : GF ad G) : G 24 10 = some (ad 30) := h (24, 10, 30) (by decide)
theorem g_24_11 {ad : Nat → Nat} {G : Nat → Nat → Option Nat} (h : GF ad G) : G 24 11 = some (ad 31) := h (24, 11, 31) (by decide)
theorem g_24_12 {ad : Nat → Nat} {G : Nat → Nat → Option Nat} (h : GF ad G) : G 24 12 = some (ad 32) := h (24, 12, 32) (by decide)
theorem g_51_0 {ad : Nat → Nat} {G : Nat → Nat → Option Nat} (h : GF ad G) : G 51 0 = some (ad 52) := h (51, 0, 52) (by decide)
theorem g_51_4 {ad : Nat → Nat} {G : Nat → Nat → Option Nat} (h : GF ad G) : G 51 4 = some (ad 53) := h (51, 4, 53) (by decide)
theorem g_51_5 {ad : Nat → Nat} {G : Nat → Nat → Option Nat} (h : GF ad G) : G 51 5 = some (ad 54) := h (51, 5, 54) (by decide)
theorem g_51_7 {ad : Nat → Nat} {G : Nat → Nat → Option Nat} (h : GF ad G) : G 51 7 = some (ad 55) := h (51, 7, 55) (by decide)
theorem g_51_8 {ad : Nat → Nat} {G : Nat → Nat → Option Nat} (h : GF ad G) : G 51 8 = some (ad 56) := h (51, 8, 56) (by decide)
theorem g_51_10 {ad : Nat → Nat} {G : Nat → Nat → Option Nat} (h : GF ad G) : G 51 10 = some (ad 57) := h (51, 10, 57) (by decide)
theorem g_51_11 {ad : Nat → Nat} {G : Nat → Nat → Option Nat} (h : GF ad G) : G 51 11 = some (ad 58) := h (51, 11, 58) (by decide)
theorem g_51_12 {ad : Nat → Nat} {G : Nat → Nat → Option Nat} (h : GF ad G) : G 51 12 = some (ad 59) := h (51, 12, 59) (by decide)
theorem g_60_0 {ad : Nat → Nat} {G : Nat → Nat → Option Nat} (h : GF ad G) : G 60 0 = some (ad 61) := h (60, 0, 61) (by decide)
theorem g_60_4 {ad : Nat → Nat} {G : Nat → Nat → Option Nat} (h : GF ad G) : G 60 4 = some (ad 62) := h (60, 4, 62) (by decide)
theorem g_60_5 {ad : Nat → Nat} {G : Nat → Nat → Option Nat} (h : GF ad G) : G 60 5 = some (ad 63) := h (60, 5, 63) (by decide)
theorem g_60_7 {ad : Nat → Nat} {G : Nat → Nat → Option Nat} (h : GF ad G) : G 60 7 = some (ad 64) := h (60, 7, 64) (by decide)
theorem g_60_8 {ad : Nat → Nat} {G : Nat → Nat → Option Nat} (h : GF ad G) : G 60 8 = some (ad 65) := h (60, 8, 65) (by decide)
theorem g_60_10 {ad : Nat → Nat} {G : Nat → Nat → Option Nat} (h : GF ad G) : G 60 10 = some (ad 66) := h (60, 10, 66) (by decide)
theorem g_60_11 {ad : Nat → Nat} {G : Nat → Nat → Option Nat} (h : GF ad G) : G 60 11 = some (ad 67) := h (60, 11, 67) (by decide)
theorem g_60_12 {ad : Nat → Nat} {G : Nat → Nat → Option Nat} (h : GF ad G) : G 60 12 = some (ad 68) := h (60, 12, 68) (by decide)
theorem g_33_0 {ad : Nat → Nat} {G : Nat → Nat → Option Nat} (h : GF ad G) : G 33 0 = some (ad 51) := h (33, 0, 51) (by decide)
theorem g_33_1 {ad : Nat → Nat} {G : Nat → Nat → Option Nat} (h : GF ad G) : G 33 1 = some (ad 60) := h (33, 1, 60) (by decide)
theorem g_35_0 {ad : Nat → Nat} {G : Nat → Nat → Option Nat} (h : GF ad G) : G 35 0 = some (ad 69) := h (35, 0, 69) (by decide)
theorem g_35_1 {ad : Nat → Nat} {G : Nat → Nat → Option Nat} (h : GF ad G) : G 35 1 = some (ad 71) := h (35, 1, 71) (by decide)
theorem g_35_2 {ad : Nat → Nat} {G : Nat → Nat → Option Nat} (h : GF ad G) : G 35 2 = some (ad 73) := h (35, 2, 73) (by decide)
theorem g_35_3 {ad : Nat → Nat} {G : Nat → Nat → Option Nat} (h : GF ad G) : G 35 3 = some (ad 75) := h (35, 3, 75) (by decide)
theorem g_37_1 {ad : Nat → Nat} {G : Nat → Nat → Option Nat} (h : GF ad G) : G 37 1 = some (ad 38) := h (37, 1, 38) (by decide)
theorem g_37_2 {ad : Nat → Nat} {G : Nat → Nat → Option Nat} (h : GF ad G) : G 37 2 = some (ad 39) := h (37, 2, 39) (by decide)
theorem g_37_3 {ad : Nat → Nat} {G : Nat → Nat → Option Nat} (h : GF ad G) : G 37 3 = some (ad 40) := h (37, 3, 40) (by decide)
theorem g_41_1 {ad : Nat → Nat} {G : Nat → Nat → Option Nat} (h : GF ad G) : G 41 1 = some (ad 42) := h (41, 1, 42) (by decide)
theorem g_41_2 {ad : Nat → Nat} {G : Nat → Nat → Option Nat} (h : GF ad G) : G 41 2 = some (ad 43) := h (41, 2, 43) (by decide)
theorem g_41_3 {ad : Nat → Nat} {G : Nat → Nat → Option Nat} (h : GF ad G) : G 41 3 = some (ad 44) := h (41, 3, 44) (by decide)
theorem g_45_0 {ad : Nat → Nat} {G : Nat → Nat → Option Nat} (h : GF ad G) : G 45 0 = some (ad 46) := h (45, 0, 46) (by decide)
theorem g_45_1 {ad : Nat → Nat} {G : Nat → Nat → Option Nat} (h : GF ad G) : G 45 1 = some (ad 47) := h (45, 1, 47) (by decide)
theorem g_69_2 {ad : Nat → Nat} {G : Nat → Nat → Option Nat} (h : GF ad G) : G 69 2 = some (ad 70) := h (69, 2, 70) (by decide)
theorem g_71_2 {ad : Nat → Nat} {G : Nat → Nat → Option Nat} (h : GF ad G) : G 71 2 = some (ad 72) := h (71, 2, 72) (by decide)
theorem g_73_2 {ad : Nat → Nat} {G : Nat → Nat → Option Nat} (h : GF ad G) : G 73 2 = some (ad 74) := h (73, 2, 74) (by decide)
theorem g_75_2 {ad : Nat → Nat} {G : Nat → Nat → Option Nat} (h : GF ad G) : G 75 2 = some (ad 76) := h (75, 2, 76) (by decide)
theorem g_77_0 {ad : Nat → Nat} {G : Nat → Nat → Option Nat} (h : GF ad G) : G 77 0 = some (ad 78) := h (77, 0, 78) (by decide)
theorem g_77_1 {ad : Nat → Nat} {G : Nat → Nat → Option Nat} (h : GF ad G) : G 77 1 = some (ad 79) := h (77, 1, 79) (by decide)
theorem g_77_3 {ad : Nat → Nat} {G : Nat → Nat → Option Nat} (h : GF ad G) : G 77 3 = some (ad 80) := h (77, 3, 80) (by decide)
theorem g_77_4 {ad : Nat → Nat} {G : Nat → Nat → Option Nat} (h : GF ad G) : G 77 4 = some (ad 81) := h (77, 4, 81) (by decide)
theorem g_77_5 {ad : Nat → Nat} {G : Nat → Nat → Option Nat} (h : GF ad G) : G 77 5 = some (ad 82) := h (77, 5, 82) (by decide)
theorem g_77_7 {ad : Nat → Nat} {G : Nat → Nat → Option Nat} (h : GF ad G) : G 77 7 = some (ad 83) := h (77, 7, 83) (by decide)
theorem g_77_9 {ad : Nat → Nat} {G : Nat → Nat → Option Nat} (h : GF ad G) : G 77 9 = some (ad 84) := h (77, 9, 84) (by decide)
theorem g_77_18 {ad : Nat → Nat} {G : Nat → Nat → Option Nat} (h : GF ad G) : G 77 18 = some (ad 85) := h (77, 18, 85) (by decide)
theorem g_77_19 {ad : Nat → Nat} {G : Nat → Nat → Option Nat} (h : GF ad G) : G 77 19 = some (ad 86) := h (77, 19, 86) (by decide)
theorem g_77_20 {ad : Nat → Nat} {G : Nat → Nat → Option Nat} (h : GF ad G) : G 77 20 = some (ad 87) := h (77, 20, 87) (by decide)
theorem g_77_21 {ad : Nat → Nat} {G : Nat → Nat → Option Nat} (h : GF ad G) : G 77 21 = some (ad 88) := h (77, 21, 88) (by decide)
theorem g_77_22 {ad : Nat → Nat} {G : Nat → Nat → Option Nat} (h : GF ad G) : G 77 22 = some (ad 89) := h (77, 22, 89) (by decide)
theorem g_77_23 {ad : Nat → Nat} {G : Nat → Nat → Option Nat} (h : GF ad G) : G 77 23 = some (ad 90) := h (77, 23, 90) (by decide)
theorem g_77_24 {ad : Nat → Nat} {G : Nat → Nat → Option Nat} (h : GF ad G) : G 77 24 = some (ad 91) := h (77, 24, 91) (by decide)
theorem g_77_25 {ad : Nat → Nat} {G : Nat → Nat → Option Nat} (h : GF ad G) : G 77 25 = some (ad 92) := h (77, 25, 92) (by decide)
theorem g_77_26 {ad : Nat → Nat} {G : Nat → Nat → Option Nat} (h : GF ad G) : G 77 26 = some (ad 93) := h (77, 26, 93) (by decide)
theorem g_77_27 {ad : Nat → Nat} {G : Nat → Nat → Option Nat} (h : GF ad G) : G 77 27 = some (ad 94) := h (77, 27, 94) (by decide)
theorem g_77_28 {ad : Nat → Nat} {G : Nat → Nat → Option Nat} (h : GF ad G) : G 77 28 = some (ad 95) := h (77, 28, 95) (by decide)
theorem gN_1 {ad : Nat → Nat} {G : Nat → Nat → Option Nat} {q : Nat} (hq : isN q) (h : GF ad G) : G q 1 = some (ad (q + 1)) := by
  rcases hq with rfl | rfl
  · exact g_3_1 h
  · exact g_18_1 h
theorem gN_2 {ad : Nat → Nat} {G : Nat → Nat → Option Nat} {q : Nat} (hq : isN q) (h : GF ad G) : G q 2 = some (ad (q + 2)) := by
  rcases hq with rfl | rfl
  · exact g_3_2 h
  · exact g_18_2 h
theorem gN_3 {ad : Nat → Nat} {G : Nat → Nat → Option Nat} {q : Nat} (hq : isN q) (h : GF ad G) : G q 3 = some (ad (q + 3)) := by
  rcases hq with rfl | rfl
  · exact g_3_3 h
  · exact g_18_3 h
theorem gN_4 {ad : Nat → Nat} {G : Nat → Nat → Option Nat} {q : Nat} (hq : isN q) (h : GF ad G) : G q 4 = some (ad (q + 4)) := by
  rcases hq with rfl | rfl
  · exact g_3_4 h
  · exact g_18_4 h
theorem gN_6 {ad : Nat → Nat} {G : Nat → Nat → Option Nat} {q : Nat} (hq : isN q) (h : GF ad G) : G q 6 = some (ad (q + 5)) := by
  rcases hq with rfl | rfl
  · exact g_3_6 h
  · exact g_18_6 h
theorem gM_0 {ad : Nat → Nat} {G : Nat → Nat → Option Nat} {q : Nat} (hq : isM q) (h : GF ad G) : G q 0 = some (ad (q + 1)) := by
  rcases hq with rfl | rfl | rfl | rfl
  · exact g_9_0 h
  · exact g_24_0 h
  · exact g_51_0 h
  · exact g_60_0 h
theorem gM_4 {ad : Nat → Nat} {G : Nat → Nat → Option Nat} {q : Nat} (hq : isM q) (h : GF ad G) : G q 4 = some (ad (q + 2)) := by
  rcases hq with rfl | rfl | rfl | rfl
  · exact g_9_4 h
  · exact g_24_4 h
  · exact g_51_4 h
  · exact g_60_4 h
theorem gM_5 {ad : Nat → Nat} {G : Nat → Nat → Option Nat} {q : Nat} (hq : isM q) (h : GF ad G) : G q 5 = some (ad (q + 3)) := by
  rcases hq with rfl | rfl | rfl | rfl
  · exact g_9_5 h
  · exact g_24_5 h
  · exact g_51_5 h
  · exact g_60_5 h
theorem gM_7 {ad : Nat → Nat} {G : Nat → Nat → Option Nat} {q : Nat} (hq : isM q) (h : GF ad G) : G q 7 = some (ad (q + 4)) := by
  rcases hq with rfl | rfl | rfl | rfl
  · exact g_9_7 h
  · exact g_24_7 h
  · exact g_51_7 h
  · exact g_60_7 h
theorem gM_8 {ad : Nat → Nat} {G : Nat → Nat → Option Nat} {q : Nat} (hq : isM q) (h : GF ad G) : G q 8 = some (ad (q + 5)) := by
  rcases hq with rfl | rfl | rfl | rfl
  · exact g_9_8 h
  · exact g_24_8 h
  · exact g_51_8 h
  · exact g_60_8 h
theorem gM_10 {ad : Nat → Nat} {G : Nat → Nat → Option Nat} {q : Nat} (hq : isM q) (h : GF ad G) : G q 10 = some (ad (q + 6)) := by
  rcases hq with rfl | rfl | rfl | rfl
  · exact g_9_10 h
  · exact g_24_10 h
  · exact g_51_10 h
  · exact g_60_10 h
theorem gM_11 {ad : Nat → Nat} {G : Nat → Nat → Option Nat} {q : Nat} (hq : isM q) (h : GF ad G) : G q 11 = some (ad (q + 7)) := by
  rcases hq with rfl | rfl | rfl | rfl
  · exact g_9_11 h
  · exact g_24_11 h
  · exact g_51_11 h
  · exact g_60_11 h
theorem gM_12 {ad : Nat → Nat} {G : Nat → Nat → Option Nat} {q : Nat} (hq : isM q) (h : GF ad G) : G q 12 = some (ad (q + 8)) := by
  rcases hq with rfl | rfl | rfl | rfl
  · exact g_9_12 h
  · exact g_24_12 h
  · exact g_51_12 h
  · exact g_60_12 h
theorem gS_1 {ad : Nat → Nat} {G : Nat → Nat → Option Nat} {q : Nat} (hq : isS q) (h : GF ad G) : G q 1 = some (ad (q + 1)) := by
  rcases hq with rfl | rfl
  · exact g_37_1 h
  · exact g_41_1 h
theorem gS_2 {ad : Nat → Nat} {G : Nat → Nat → Option Nat} {q : Nat} (hq : isS q) (h : GF ad G) : G q 2 = some (ad (q + 2)) := by
  rcases hq with rfl | rfl
  · exact g_37_2 h
  · exact g_41_2 h
theorem gS_3 {ad : Nat → Nat} {G : Nat → Nat → Option Nat} {q : Nat} (hq : isS q) (h : GF ad G) : G q 3 = some (ad (q + 3)) := by
  rcases hq with rfl | rfl
  · exact g_37_3 h
  · exact g_41_3 h
theorem gH_2 {ad : Nat → Nat} {G : Nat → Nat → Option Nat} {q : Nat} (hq : isH q) (h : GF ad G) : G q 2 = some (ad (q + 1)) := by
  rcases hq with rfl | rfl | rfl | rfl
  · exact g_69_2 h
  · exact g_71_2 h
  · exact g_73_2 h
  · exact g_75_2 h
