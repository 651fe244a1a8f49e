theorem dX6_takeDraft_33 : decode cX6_takeDraft 33 = .ok (.putfield 37, 3) := by decide +kernel
theorem dX6_takeDraft_36 : decode cX6_takeDraft 36 = .ok (.aload_n 0, 1) := by decide +kernel
theorem dX6_takeDraft_37 : decode cX6_takeDraft 37 = .ok (.getfield 44, 3) := by decide +kernel
theorem dX6_takeDraft_40 : decode cX6_takeDraft 40 = .ok (.iconst 0, 1) := by decide +kernel
theorem dX6_takeDraft_41 : decode cX6_takeDraft 41 = .ok (.iconst 0, 1) := by decide +kernel
theorem dX6_takeDraft_42 : decode cX6_takeDraft 42 = .ok (.bastore, 1) := by decide +kernel
theorem dX6_takeDraft_43 : decode cX6_takeDraft 43 = .ok (.aload_n 0, 1) := by decide +kernel
theorem dX6_takeDraft_44 : decode cX6_takeDraft 44 = .ok (.getfield 44, 3) := by decide +kernel
theorem dX6_takeDraft_47 : decode cX6_takeDraft 47 = .ok (.iconst 1, 1) := by decide +kernel
theorem dX6_takeDraft_48 : decode cX6_takeDraft 48 = .ok (.iconst 0, 1) := by decide +kernel
theorem dX6_takeDraft_49 : decode cX6_takeDraft 49 = .ok (.bastore, 1) := by decide +kernel
theorem dX6_takeDraft_50 : decode cX6_takeDraft 50 = .ok (.aload_n 0, 1) := by decide +kernel
theorem dX6_takeDraft_51 : decode cX6_takeDraft 51 = .ok (.iconst 0, 1) := by decide +kernel
theorem dX6_takeDraft_52 : decode cX6_takeDraft 52 = .ok (.putfield 296, 3) := by decide +kernel
theorem dX6_takeDraft_55 : decode cX6_takeDraft 55 = .ok (.aload_n 0, 1) := by decide +kernel
theorem dX6_takeDraft_56 : decode cX6_takeDraft 56 = .ok (.invokevirtual 156, 3) := by decide +kernel
theorem dX6_takeDraft_59 : decode cX6_takeDraft 59 = .ok (.return_, 1) := by decide +kernel
theorem dX6_applyLaw_0 : decode cX6_applyLaw 0 = .ok (.aload_n 0, 1) := by decide +kernel
theorem dX6_applyLaw_1 : decode cX6_applyLaw 1 = .ok (.getfield 23, 3) := by decide +kernel
theorem dX6_applyLaw_4 : decode cX6_applyLaw 4 = .ok (.aload_n 0, 1) := by decide +kernel
theorem dX6_applyLaw_5 : decode cX6_applyLaw 5 = .ok (.getfield 30, 3) := by decide +kernel
theorem dX6_applyLaw_8 : decode cX6_applyLaw 8 = .ok (.getfield 118, 3) := by decide +kernel
theorem dX6_applyLaw_11 : decode cX6_applyLaw 11 = .ok (.aload_n 0, 1) := by decide +kernel
theorem dX6_applyLaw_12 : decode cX6_applyLaw 12 = .ok (.getfield 30, 3) := by decide +kernel
theorem dX6_applyLaw_15 : decode cX6_applyLaw 15 = .ok (.getfield 121, 3) := by decide +kernel
theorem dX6_applyLaw_18 : decode cX6_applyLaw 18 = .ok (.aload_n 0, 1) := by decide +kernel
theorem dX6_applyLaw_19 : decode cX6_applyLaw 19 = .ok (.getfield 54, 3) := by decide +kernel
theorem dX6_applyLaw_22 : decode cX6_applyLaw 22 = .ok (.invokevirtual 300, 3) := by decide +kernel
theorem dX6_applyLaw_25 : decode cX6_applyLaw 25 = .ok (.return_, 1) := by decide +kernel
theorem dX6_answeredSo_0 : decode cX6_answeredSo 0 = .ok (.iconst 1, 1) := by decide +kernel
theorem dX6_answeredSo_1 : decode cX6_answeredSo 1 = .ok (.iload_n 1, 1) := by decide +kernel
theorem dX6_answeredSo_2 : decode cX6_answeredSo 2 = .ok (.ishl, 1) := by decide +kernel
theorem dX6_answeredSo_3 : decode cX6_answeredSo 3 = .ok (.istore_n 3, 1) := by decide +kernel
theorem dX6_answeredSo_4 : decode cX6_answeredSo 4 = .ok (.iload_n 2, 1) := by decide +kernel
theorem dX6_answeredSo_5 : decode cX6_answeredSo 5 = .ok (.iconst 2, 1) := by decide +kernel
theorem dX6_answeredSo_6 : decode cX6_answeredSo 6 = .ok (.if_icmp .ne 5, 3) := by decide +kernel
theorem dX6_answeredSo_9 : decode cX6_answeredSo 9 = .ok (.iload_n 3, 1) := by decide +kernel
theorem dX6_answeredSo_10 : decode cX6_answeredSo 10 = .ok (.ireturn, 1) := by decide +kernel
theorem dX6_answeredSo_11 : decode cX6_answeredSo 11 = .ok (.iload_n 2, 1) := by decide +kernel
theorem dX6_answeredSo_12 : decode cX6_answeredSo 12 = .ok (.iconst 1, 1) := by decide +kernel
theorem dX6_answeredSo_13 : decode cX6_answeredSo 13 = .ok (.if_icmp .ne 12, 3) := by decide +kernel
theorem dX6_answeredSo_16 : decode cX6_answeredSo 16 = .ok (.aload_n 0, 1) := by decide +kernel
theorem dX6_answeredSo_17 : decode cX6_answeredSo 17 = .ok (.getfield 54, 3) := by decide +kernel
theorem dX6_answeredSo_20 : decode cX6_answeredSo 20 = .ok (.iload_n 1, 1) := by decide +kernel
theorem dX6_answeredSo_21 : decode cX6_answeredSo 21 = .ok (.iaload, 1) := by decide +kernel
theorem dX6_answeredSo_22 : decode cX6_answeredSo 22 = .ok (.goto 11, 3) := by decide +kernel
theorem dX6_answeredSo_25 : decode cX6_answeredSo 25 = .ok (.aload_n 0, 1) := by decide +kernel
theorem dX6_answeredSo_26 : decode cX6_answeredSo 26 = .ok (.getfield 54, 3) := by decide +kernel
theorem dX6_answeredSo_29 : decode cX6_answeredSo 29 = .ok (.iload_n 1, 1) := by decide +kernel
theorem dX6_answeredSo_30 : decode cX6_answeredSo 30 = .ok (.iaload, 1) := by decide +kernel
theorem dX6_answeredSo_31 : decode cX6_answeredSo 31 = .ok (.iconst (-1), 1) := by decide +kernel
theorem dX6_answeredSo_32 : decode cX6_answeredSo 32 = .ok (.ixor, 1) := by decide +kernel
theorem dX6_answeredSo_33 : decode cX6_answeredSo 33 = .ok (.istore 4, 2) := by decide +kernel
theorem dX6_answeredSo_35 : decode cX6_answeredSo 35 = .ok (.iload 4, 2) := by decide +kernel
theorem dX6_answeredSo_37 : decode cX6_answeredSo 37 = .ok (.iload_n 3, 1) := by decide +kernel
theorem dX6_answeredSo_38 : decode cX6_answeredSo 38 = .ok (.iconst (-1), 1) := by decide +kernel
theorem dX6_answeredSo_39 : decode cX6_answeredSo 39 = .ok (.ixor, 1) := by decide +kernel
theorem dX6_answeredSo_40 : decode cX6_answeredSo 40 = .ok (.iand, 1) := by decide +kernel
theorem dX6_answeredSo_41 : decode cX6_answeredSo 41 = .ok (.aload_n 0, 1) := by decide +kernel
theorem dX6_answeredSo_42 : decode cX6_answeredSo 42 = .ok (.invokevirtual 287, 3) := by decide +kernel
theorem dX6_answeredSo_45 : decode cX6_answeredSo 45 = .ok (.iand, 1) := by decide +kernel
theorem dX6_answeredSo_46 : decode cX6_answeredSo 46 = .ok (.ireturn, 1) := by decide +kernel
theorem dX6_possible_0 : decode cX6_possible 0 = .ok (.aload_n 0, 1) := by decide +kernel
theorem dX6_possible_1 : decode cX6_possible 1 = .ok (.invokevirtual 199, 3) := by decide +kernel
theorem dX6_possible_4 : decode cX6_possible 4 = .ok (.istore_n 1, 1) := by decide +kernel
theorem dX6_possible_5 : decode cX6_possible 5 = .ok (.iconst 0, 1) := by decide +kernel
theorem dX6_possible_6 : decode cX6_possible 6 = .ok (.istore_n 2, 1) := by decide +kernel
theorem dX6_possible_7 : decode cX6_possible 7 = .ok (.iload_n 2, 1) := by decide +kernel
theorem dX6_possible_8 : decode cX6_possible 8 = .ok (.aload_n 0, 1) := by decide +kernel
theorem dX6_possible_9 : decode cX6_possible 9 = .ok (.getfield 30, 3) := by decide +kernel
theorem dX6_possible_12 : decode cX6_possible 12 = .ok (.getfield 170, 3) := by decide +kernel
theorem dX6_possible_15 : decode cX6_possible 15 = .ok (.if_icmp .ge 34, 3) := by decide +kernel
theorem dX6_possible_18 : decode cX6_possible 18 = .ok (.iload_n 1, 1) := by decide +kernel
theorem dX6_possible_19 : decode cX6_possible 19 = .ok (.aload_n 0, 1) := by decide +kernel
theorem dX6_possible_20 : decode cX6_possible 20 = .ok (.aload_n 0, 1) := by decide +kernel
theorem dX6_possible_21 : decode cX6_possible 21 = .ok (.getfield 30, 3) := by decide +kernel
theorem dX6_possible_24 : decode cX6_possible 24 = .ok (.getfield 202, 3) := by decide +kernel
theorem dX6_possible_27 : decode cX6_possible 27 = .ok (.iload_n 2, 1) := by decide +kernel
theorem dX6_possible_28 : decode cX6_possible 28 = .ok (.iaload, 1) := by decide +kernel
theorem dX6_possible_29 : decode cX6_possible 29 = .ok (.aload_n 0, 1) := by decide +kernel
theorem dX6_possible_30 : decode cX6_possible 30 = .ok (.getfield 30, 3) := by decide +kernel
theorem dX6_possible_33 : decode cX6_possible 33 = .ok (.getfield 205, 3) := by decide +kernel
theorem dX6_possible_36 : decode cX6_possible 36 = .ok (.iload_n 2, 1) := by decide +kernel
theorem dX6_possible_37 : decode cX6_possible 37 = .ok (.iaload, 1) := by decide +kernel
theorem dX6_possible_38 : decode cX6_possible 38 = .ok (.invokevirtual 208, 3) := by decide +kernel
theorem dX6_possible_41 : decode cX6_possible 41 = .ok (.iand, 1) := by decide +kernel
theorem dX6_possible_42 : decode cX6_possible 42 = .ok (.istore_n 1, 1) := by decide +kernel
theorem dX6_possible_43 : decode cX6_possible 43 = .ok (.iinc 2 1, 3) := by decide +kernel
theorem dX6_possible_46 : decode cX6_possible 46 = .ok (.goto (-39), 3) := by decide +kernel
theorem dX6_possible_49 : decode cX6_possible 49 = .ok (.iload_n 1, 1) := by decide +kernel
theorem dX6_possible_50 : decode cX6_possible 50 = .ok (.ireturn, 1) := by decide +kernel
theorem dX6_possibleByHeard_0 : decode cX6_possibleByHeard 0 = .ok (.aload_n 0, 1) := by decide +kernel
theorem dX6_possibleByHeard_1 : decode cX6_possibleByHeard 1 = .ok (.invokevirtual 287, 3) := by decide +kernel
theorem dX6_possibleByHeard_4 : decode cX6_possibleByHeard 4 = .ok (.istore_n 1, 1) := by decide +kernel
theorem dX6_possibleByHeard_5 : decode cX6_possibleByHeard 5 = .ok (.iconst 0, 1) := by decide +kernel
theorem dX6_possibleByHeard_6 : decode cX6_possibleByHeard 6 = .ok (.istore_n 2, 1) := by decide +kernel
theorem dX6_possibleByHeard_7 : decode cX6_possibleByHeard 7 = .ok (.iload_n 2, 1) := by decide +kernel
theorem dX6_possibleByHeard_8 : decode cX6_possibleByHeard 8 = .ok (.aload_n 0, 1) := by decide +kernel
theorem dX6_possibleByHeard_9 : decode cX6_possibleByHeard 9 = .ok (.getfield 30, 3) := by decide +kernel
theorem dX6_possibleByHeard_12 : decode cX6_possibleByHeard 12 = .ok (.getfield 176, 3) := by decide +kernel
theorem dX6_possibleByHeard_15 : decode cX6_possibleByHeard 15 = .ok (.if_icmp .ge 58, 3) := by decide +kernel
theorem dX6_possibleByHeard_18 : decode cX6_possibleByHeard 18 = .ok (.aload_n 0, 1) := by decide +kernel
theorem dX6_possibleByHeard_19 : decode cX6_possibleByHeard 19 = .ok (.getfield 23, 3) := by decide +kernel
theorem dX6_possibleByHeard_22 : decode cX6_possibleByHeard 22 = .ok (.aload_n 0, 1) := by decide +kernel
theorem dX6_possibleByHeard_23 : decode cX6_possibleByHeard 23 = .ok (.getfield 30, 3) := by decide +kernel
theorem dX6_possibleByHeard_26 : decode cX6_possibleByHeard 26 = .ok (.getfield 304, 3) := by decide +kernel
theorem dX6_possibleByHeard_29 : decode cX6_possibleByHeard 29 = .ok (.iload_n 2, 1) := by decide +kernel
theorem dX6_possibleByHeard_30 : decode cX6_possibleByHeard 30 = .ok (.iaload, 1) := by decide +kernel
theorem dX6_possibleByHeard_31 : decode cX6_possibleByHeard 31 = .ok (.aload_n 0, 1) := by decide +kernel
theorem dX6_possibleByHeard_32 : decode cX6_possibleByHeard 32 = .ok (.getfield 30, 3) := by decide +kernel
theorem dX6_possibleByHeard_35 : decode cX6_possibleByHeard 35 = .ok (.getfield 307, 3) := by decide +kernel
theorem dX6_possibleByHeard_38 : decode cX6_possibleByHeard 38 = .ok (.iload_n 2, 1) := by decide +kernel
theorem dX6_possibleByHeard_39 : decode cX6_possibleByHeard 39 = .ok (.iaload, 1) := by decide +kernel
theorem dX6_possibleByHeard_40 : decode cX6_possibleByHeard 40 = .ok (.invokevirtual 310, 3) := by decide +kernel
theorem dX6_possibleByHeard_43 : decode cX6_possibleByHeard 43 = .ok (.istore_n 3, 1) := by decide +kernel
theorem dX6_possibleByHeard_44 : decode cX6_possibleByHeard 44 = .ok (.iload_n 1, 1) := by decide +kernel
theorem dX6_possibleByHeard_45 : decode cX6_possibleByHeard 45 = .ok (.aload_n 0, 1) := by decide +kernel
theorem dX6_possibleByHeard_46 : decode cX6_possibleByHeard 46 = .ok (.getfield 30, 3) := by decide +kernel
theorem dX6_possibleByHeard_49 : decode cX6_possibleByHeard 49 = .ok (.getfield 313, 3) := by decide +kernel
theorem dX6_possibleByHeard_52 : decode cX6_possibleByHeard 52 = .ok (.iload_n 2, 1) := by decide +kernel
theorem dX6_possibleByHeard_53 : decode cX6_possibleByHeard 53 = .ok (.iaload, 1) := by decide +kernel
theorem dX6_possibleByHeard_54 : decode cX6_possibleByHeard 54 = .ok (.iconst 1, 1) := by decide +kernel
theorem dX6_possibleByHeard_55 : decode cX6_possibleByHeard 55 = .ok (.if_icmp .ne 7, 3) := by decide +kernel
theorem dX6_possibleByHeard_58 : decode cX6_possibleByHeard 58 = .ok (.iload_n 3, 1) := by decide +kernel
theorem dX6_possibleByHeard_59 : decode cX6_possibleByHeard 59 = .ok (.goto 6, 3) := by decide +kernel
theorem dX6_possibleByHeard_62 : decode cX6_possibleByHeard 62 = .ok (.iload_n 3, 1) := by decide +kernel
theorem dX6_possibleByHeard_63 : decode cX6_possibleByHeard 63 = .ok (.iconst (-1), 1) := by decide +kernel
theorem dX6_possibleByHeard_64 : decode cX6_possibleByHeard 64 = .ok (.ixor, 1) := by decide +kernel
theorem dX6_possibleByHeard_65 : decode cX6_possibleByHeard 65 = .ok (.iand, 1) := by decide +kernel
theorem dX6_possibleByHeard_66 : decode cX6_possibleByHeard 66 = .ok (.istore_n 1, 1) := by decide +kernel
theorem dX6_possibleByHeard_67 : decode cX6_possibleByHeard 67 = .ok (.iinc 2 1, 3) := by decide +kernel
theorem dX6_possibleByHeard_70 : decode cX6_possibleByHeard 70 = .ok (.goto (-63), 3) := by decide +kernel
theorem dX6_possibleByHeard_73 : decode cX6_possibleByHeard 73 = .ok (.iload_n 1, 1) := by decide +kernel
theorem dX6_possibleByHeard_74 : decode cX6_possibleByHeard 74 = .ok (.ireturn, 1) := by decide +kernel
theorem dX6_oddsOf_0 : decode cX6_oddsOf 0 = .ok (.iconst 0, 1) := by decide +kernel
theorem dX6_oddsOf_1 : decode cX6_oddsOf 1 = .ok (.istore_n 2, 1) := by decide +kernel
theorem dX6_oddsOf_2 : decode cX6_oddsOf 2 = .ok (.iconst 0, 1) := by decide +kernel
theorem dX6_oddsOf_3 : decode cX6_oddsOf 3 = .ok (.istore_n 3, 1) := by decide +kernel
theorem dX6_oddsOf_4 : decode cX6_oddsOf 4 = .ok (.iload_n 3, 1) := by decide +kernel
theorem dX6_oddsOf_5 : decode cX6_oddsOf 5 = .ok (.aload_n 0, 1) := by decide +kernel
theorem dX6_oddsOf_6 : decode cX6_oddsOf 6 = .ok (.getfield 23, 3) := by decide +kernel
theorem dX6_oddsOf_9 : decode cX6_oddsOf 9 = .ok (.getfield 115, 3) := by decide +kernel
theorem dX6_oddsOf_12 : decode cX6_oddsOf 12 = .ok (.if_icmp .ge 29, 3) := by decide +kernel
theorem dX6_oddsOf_15 : decode cX6_oddsOf 15 = .ok (.iload_n 1, 1) := by decide +kernel
theorem dX6_oddsOf_16 : decode cX6_oddsOf 16 = .ok (.iload_n 3, 1) := by decide +kernel
theorem dX6_oddsOf_17 : decode cX6_oddsOf 17 = .ok (.invokestatic 166, 3) := by decide +kernel
theorem dX6_oddsOf_20 : decode cX6_oddsOf 20 = .ok (.ifCond .eq 15, 3) := by decide +kernel
theorem dX6_oddsOf_23 : decode cX6_oddsOf 23 = .ok (.iload_n 2, 1) := by decide +kernel
theorem dX6_oddsOf_24 : decode cX6_oddsOf 24 = .ok (.aload_n 0, 1) := by decide +kernel
theorem dX6_oddsOf_25 : decode cX6_oddsOf 25 = .ok (.getfield 30, 3) := by decide +kernel
theorem dX6_oddsOf_28 : decode cX6_oddsOf 28 = .ok (.getfield 134, 3) := by decide +kernel
theorem dX6_oddsOf_31 : decode cX6_oddsOf 31 = .ok (.iload_n 3, 1) := by decide +kernel
theorem dX6_oddsOf_32 : decode cX6_oddsOf 32 = .ok (.iaload, 1) := by decide +kernel
theorem dX6_oddsOf_33 : decode cX6_oddsOf 33 = .ok (.iadd, 1) := by decide +kernel
theorem dX6_oddsOf_34 : decode cX6_oddsOf 34 = .ok (.istore_n 2, 1) := by decide +kernel
theorem dX6_oddsOf_35 : decode cX6_oddsOf 35 = .ok (.iinc 3 1, 3) := by decide +kernel
theorem dX6_oddsOf_38 : decode cX6_oddsOf 38 = .ok (.goto (-34), 3) := by decide +kernel
theorem dX6_oddsOf_41 : decode cX6_oddsOf 41 = .ok (.iload_n 2, 1) := by decide +kernel
theorem dX6_oddsOf_42 : decode cX6_oddsOf 42 = .ok (.ireturn, 1) := by decide +kernel
theorem dX6_weighLaws_0 : decode cX6_weighLaws 0 = .ok (.aload_n 0, 1) := by decide +kernel
theorem dX6_weighLaws_1 : decode cX6_weighLaws 1 = .ok (.getfield 296, 3) := by decide +kernel
theorem dX6_weighLaws_4 : decode cX6_weighLaws 4 = .ok (.ifCond .eq 4, 3) := by decide +kernel
theorem dX6_weighLaws_7 : decode cX6_weighLaws 7 = .ok (.return_, 1) := by decide +kernel
theorem dX6_weighLaws_8 : decode cX6_weighLaws 8 = .ok (.iconst 0, 1) := by decide +kernel
theorem dX6_weighLaws_9 : decode cX6_weighLaws 9 = .ok (.istore_n 1, 1) := by decide +kernel
theorem dX6_weighLaws_10 : decode cX6_weighLaws 10 = .ok (.iload_n 1, 1) := by decide +kernel
theorem dX6_weighLaws_11 : decode cX6_weighLaws 11 = .ok (.bipush 45, 2) := by decide +kernel
theorem dX6_weighLaws_13 : decode cX6_weighLaws 13 = .ok (.if_icmp .ge 63, 3) := by decide +kernel
theorem dX6_weighLaws_16 : decode cX6_weighLaws 16 = .ok (.aload_n 0, 1) := by decide +kernel
theorem dX6_weighLaws_17 : decode cX6_weighLaws 17 = .ok (.getfield 23, 3) := by decide +kernel
theorem dX6_weighLaws_20 : decode cX6_weighLaws 20 = .ok (.iload_n 1, 1) := by decide +kernel
theorem dX6_weighLaws_21 : decode cX6_weighLaws 21 = .ok (.bipush 9, 2) := by decide +kernel
theorem dX6_weighLaws_23 : decode cX6_weighLaws 23 = .ok (.idiv, 1) := by decide +kernel
theorem dX6_weighLaws_24 : decode cX6_weighLaws 24 = .ok (.iload_n 1, 1) := by decide +kernel
theorem dX6_weighLaws_25 : decode cX6_weighLaws 25 = .ok (.bipush 9, 2) := by decide +kernel
theorem dX6_weighLaws_27 : decode cX6_weighLaws 27 = .ok (.irem, 1) := by decide +kernel
theorem dX6_weighLaws_28 : decode cX6_weighLaws 28 = .ok (.aload_n 0, 1) := by decide +kernel
theorem dX6_weighLaws_29 : decode cX6_weighLaws 29 = .ok (.getfield 80, 3) := by decide +kernel
theorem dX6_weighLaws_32 : decode cX6_weighLaws 32 = .ok (.invokevirtual 300, 3) := by decide +kernel
theorem dX6_weighLaws_35 : decode cX6_weighLaws 35 = .ok (.aload_n 0, 1) := by decide +kernel
theorem dX6_weighLaws_36 : decode cX6_weighLaws 36 = .ok (.getfield 77, 3) := by decide +kernel
theorem dX6_weighLaws_39 : decode cX6_weighLaws 39 = .ok (.iload_n 1, 1) := by decide +kernel
theorem dX6_weighLaws_40 : decode cX6_weighLaws 40 = .ok (.aload_n 0, 1) := by decide +kernel
theorem dX6_weighLaws_41 : decode cX6_weighLaws 41 = .ok (.getfield 63, 3) := by decide +kernel
theorem dX6_weighLaws_44 : decode cX6_weighLaws 44 = .ok (.aload_n 0, 1) := by decide +kernel
theorem dX6_weighLaws_45 : decode cX6_weighLaws 45 = .ok (.getfield 80, 3) := by decide +kernel
theorem dX6_weighLaws_48 : decode cX6_weighLaws 48 = .ok (.aload_n 0, 1) := by decide +kernel
theorem dX6_weighLaws_49 : decode cX6_weighLaws 49 = .ok (.getfield 30, 3) := by decide +kernel
theorem dX6_weighLaws_52 : decode cX6_weighLaws 52 = .ok (.getfield 134, 3) := by decide +kernel
theorem dX6_weighLaws_55 : decode cX6_weighLaws 55 = .ok (.aload_n 0, 1) := by decide +kernel
theorem dX6_weighLaws_56 : decode cX6_weighLaws 56 = .ok (.getfield 23, 3) := by decide +kernel
theorem dX6_weighLaws_59 : decode cX6_weighLaws 59 = .ok (.getfield 115, 3) := by decide +kernel
theorem dX6_weighLaws_62 : decode cX6_weighLaws 62 = .ok (.aload_n 0, 1) := by decide +kernel
theorem dX6_weighLaws_63 : decode cX6_weighLaws 63 = .ok (.invokevirtual 287, 3) := by decide +kernel
theorem dX6_weighLaws_66 : decode cX6_weighLaws 66 = .ok (.invokevirtual 221, 3) := by decide +kernel
theorem dX6_weighLaws_69 : decode cX6_weighLaws 69 = .ok (.iastore, 1) := by decide +kernel
theorem dX6_weighLaws_70 : decode cX6_weighLaws 70 = .ok (.iinc 1 1, 3) := by decide +kernel
theorem dX6_weighLaws_73 : decode cX6_weighLaws 73 = .ok (.goto (-63), 3) := by decide +kernel
theorem dX6_weighLaws_76 : decode cX6_weighLaws 76 = .ok (.aload_n 0, 1) := by decide +kernel
theorem dX6_weighLaws_77 : decode cX6_weighLaws 77 = .ok (.iconst 1, 1) := by decide +kernel
theorem dX6_weighLaws_78 : decode cX6_weighLaws 78 = .ok (.putfield 296, 3) := by decide +kernel
theorem dX6_weighLaws_81 : decode cX6_weighLaws 81 = .ok (.return_, 1) := by decide +kernel
theorem dX6_onlyTheirOwnGuessParts_0 : decode cX6_onlyTheirOwnGuessParts 0 = .ok (.iconst 0, 1) := by decide +kernel
theorem dX6_onlyTheirOwnGuessParts_1 : decode cX6_onlyTheirOwnGuessParts 1 = .ok (.istore_n 3, 1) := by decide +kernel
theorem dX6_onlyTheirOwnGuessParts_2 : decode cX6_onlyTheirOwnGuessParts 2 = .ok (.iload_n 3, 1) := by decide +kernel
theorem dX6_onlyTheirOwnGuessParts_3 : decode cX6_onlyTheirOwnGuessParts 3 = .ok (.aload_n 0, 1) := by decide +kernel
theorem dX6_onlyTheirOwnGuessParts_4 : decode cX6_onlyTheirOwnGuessParts 4 = .ok (.getfield 23, 3) := by decide +kernel
theorem dX6_onlyTheirOwnGuessParts_7 : decode cX6_onlyTheirOwnGuessParts 7 = .ok (.getfield 115, 3) := by decide +kernel
theorem dX6_onlyTheirOwnGuessParts_10 : decode cX6_onlyTheirOwnGuessParts 10 = .ok (.if_icmp .ge 44, 3) := by decide +kernel
theorem dX6_onlyTheirOwnGuessParts_13 : decode cX6_onlyTheirOwnGuessParts 13 = .ok (.iload_n 3, 1) := by decide +kernel
theorem dX6_onlyTheirOwnGuessParts_14 : decode cX6_onlyTheirOwnGuessParts 14 = .ok (.iload_n 1, 1) := by decide +kernel
theorem dX6_onlyTheirOwnGuessParts_15 : decode cX6_onlyTheirOwnGuessParts 15 = .ok (.if_icmp .eq 33, 3) := by decide +kernel
theorem dX6_onlyTheirOwnGuessParts_18 : decode cX6_onlyTheirOwnGuessParts 18 = .ok (.iload_n 3, 1) := by decide +kernel
theorem dX6_onlyTheirOwnGuessParts_19 : decode cX6_onlyTheirOwnGuessParts 19 = .ok (.iload_n 2, 1) := by decide +kernel
theorem dX6_onlyTheirOwnGuessParts_20 : decode cX6_onlyTheirOwnGuessParts 20 = .ok (.if_icmp .eq 28, 3) := by decide +kernel
theorem dX6_onlyTheirOwnGuessParts_23 : decode cX6_onlyTheirOwnGuessParts 23 = .ok (.aload_n 0, 1) := by decide +kernel
theorem dX6_onlyTheirOwnGuessParts_24 : decode cX6_onlyTheirOwnGuessParts 24 = .ok (.getfield 54, 3) := by decide +kernel
theorem dX6_onlyTheirOwnGuessParts_27 : decode cX6_onlyTheirOwnGuessParts 27 = .ok (.iload_n 3, 1) := by decide +kernel
theorem dX6_onlyTheirOwnGuessParts_28 : decode cX6_onlyTheirOwnGuessParts 28 = .ok (.iaload, 1) := by decide +kernel
theorem dX6_onlyTheirOwnGuessParts_29 : decode cX6_onlyTheirOwnGuessParts 29 = .ok (.iload_n 1, 1) := by decide +kernel
theorem dX6_onlyTheirOwnGuessParts_30 : decode cX6_onlyTheirOwnGuessParts 30 = .ok (.invokestatic 166, 3) := by decide +kernel
theorem dX6_onlyTheirOwnGuessParts_33 : decode cX6_onlyTheirOwnGuessParts 33 = .ok (.aload_n 0, 1) := by decide +kernel
theorem dX6_onlyTheirOwnGuessParts_34 : decode cX6_onlyTheirOwnGuessParts 34 = .ok (.getfield 54, 3) := by decide +kernel
theorem dX6_onlyTheirOwnGuessParts_37 : decode cX6_onlyTheirOwnGuessParts 37 = .ok (.iload_n 3, 1) := by decide +kernel
theorem dX6_onlyTheirOwnGuessParts_38 : decode cX6_onlyTheirOwnGuessParts 38 = .ok (.iaload, 1) := by decide +kernel
theorem dX6_onlyTheirOwnGuessParts_39 : decode cX6_onlyTheirOwnGuessParts 39 = .ok (.iload_n 2, 1) := by decide +kernel
theorem dX6_onlyTheirOwnGuessParts_40 : decode cX6_onlyTheirOwnGuessParts 40 = .ok (.invokestatic 166, 3) := by decide +kernel
theorem dX6_onlyTheirOwnGuessParts_43 : decode cX6_onlyTheirOwnGuessParts 43 = .ok (.if_icmp .eq 5, 3) := by decide +kernel
theorem dX6_onlyTheirOwnGuessParts_46 : decode cX6_onlyTheirOwnGuessParts 46 = .ok (.iconst 0, 1) := by decide +kernel
theorem dX6_onlyTheirOwnGuessParts_47 : decode cX6_onlyTheirOwnGuessParts 47 = .ok (.ireturn, 1) := by decide +kernel
theorem dX6_onlyTheirOwnGuessParts_48 : decode cX6_onlyTheirOwnGuessParts 48 = .ok (.iinc 3 1, 3) := by decide +kernel
theorem dX6_onlyTheirOwnGuessParts_51 : decode cX6_onlyTheirOwnGuessParts 51 = .ok (.goto (-49), 3) := by decide +kernel
theorem dX6_onlyTheirOwnGuessParts_54 : decode cX6_onlyTheirOwnGuessParts 54 = .ok (.iconst 1, 1) := by decide +kernel
theorem dX6_onlyTheirOwnGuessParts_55 : decode cX6_onlyTheirOwnGuessParts 55 = .ok (.ireturn, 1) := by decide +kernel
theorem dX6_takenForOneAnother_0 : decode cX6_takenForOneAnother 0 = .ok (.iconst 0, 1) := by decide +kernel
theorem dX6_takenForOneAnother_1 : decode cX6_takenForOneAnother 1 = .ok (.istore_n 3, 1) := by decide +kernel
theorem dX6_takenForOneAnother_2 : decode cX6_takenForOneAnother 2 = .ok (.iload_n 3, 1) := by decide +kernel
theorem dX6_takenForOneAnother_3 : decode cX6_takenForOneAnother 3 = .ok (.aload_n 0, 1) := by decide +kernel
theorem dX6_takenForOneAnother_4 : decode cX6_takenForOneAnother 4 = .ok (.getfield 30, 3) := by decide +kernel
theorem dX6_takenForOneAnother_7 : decode cX6_takenForOneAnother 7 = .ok (.getfield 124, 3) := by decide +kernel
theorem dX6_takenForOneAnother_10 : decode cX6_takenForOneAnother 10 = .ok (.if_icmp .ge 57, 3) := by decide +kernel
theorem dX6_takenForOneAnother_13 : decode cX6_takenForOneAnother 13 = .ok (.aload_n 0, 1) := by decide +kernel
theorem dX6_takenForOneAnother_14 : decode cX6_takenForOneAnother 14 = .ok (.getfield 30, 3) := by decide +kernel
theorem dX6_takenForOneAnother_17 : decode cX6_takenForOneAnother 17 = .ok (.getfield 147, 3) := by decide +kernel
theorem dX6_takenForOneAnother_20 : decode cX6_takenForOneAnother 20 = .ok (.iload_n 3, 1) := by decide +kernel
theorem dX6_takenForOneAnother_21 : decode cX6_takenForOneAnother 21 = .ok (.iaload, 1) := by decide +kernel
theorem dX6_takenForOneAnother_22 : decode cX6_takenForOneAnother 22 = .ok (.istore 4, 2) := by decide +kernel
theorem dX6_takenForOneAnother_24 : decode cX6_takenForOneAnother 24 = .ok (.aload_n 0, 1) := by decide +kernel
theorem dX6_takenForOneAnother_25 : decode cX6_takenForOneAnother 25 = .ok (.getfield 30, 3) := by decide +kernel
theorem dX6_takenForOneAnother_28 : decode cX6_takenForOneAnother 28 = .ok (.getfield 150, 3) := by decide +kernel
theorem dX6_takenForOneAnother_31 : decode cX6_takenForOneAnother 31 = .ok (.iload_n 3, 1) := by decide +kernel
theorem dX6_takenForOneAnother_32 : decode cX6_takenForOneAnother 32 = .ok (.iaload, 1) := by decide +kernel
theorem dX6_takenForOneAnother_33 : decode cX6_takenForOneAnother 33 = .ok (.istore 5, 2) := by decide +kernel
theorem dX6_takenForOneAnother_35 : decode cX6_takenForOneAnother 35 = .ok (.iload 4, 2) := by decide +kernel
theorem dX6_takenForOneAnother_37 : decode cX6_takenForOneAnother 37 = .ok (.iload_n 1, 1) := by decide +kernel
theorem dX6_takenForOneAnother_38 : decode cX6_takenForOneAnother 38 = .ok (.if_icmp .ne 9, 3) := by decide +kernel
theorem dX6_takenForOneAnother_41 : decode cX6_takenForOneAnother 41 = .ok (.iload 5, 2) := by decide +kernel
theorem dX6_takenForOneAnother_43 : decode cX6_takenForOneAnother 43 = .ok (.iload_n 2, 1) := by decide +kernel
theorem dX6_takenForOneAnother_44 : decode cX6_takenForOneAnother 44 = .ok (.if_icmp .eq 15, 3) := by decide +kernel
theorem dX6_takenForOneAnother_47 : decode cX6_takenForOneAnother 47 = .ok (.iload 4, 2) := by decide +kernel
theorem dX6_takenForOneAnother_49 : decode cX6_takenForOneAnother 49 = .ok (.iload_n 2, 1) := by decide +kernel
theorem dX6_takenForOneAnother_50 : decode cX6_takenForOneAnother 50 = .ok (.if_icmp .ne 11, 3) := by decide +kernel
theorem dX6_takenForOneAnother_53 : decode cX6_takenForOneAnother 53 = .ok (.iload 5, 2) := by decide +kernel
theorem dX6_takenForOneAnother_55 : decode cX6_takenForOneAnother 55 = .ok (.iload_n 1, 1) := by decide +kernel
theorem dX6_takenForOneAnother_56 : decode cX6_takenForOneAnother 56 = .ok (.if_icmp .ne 5, 3) := by decide +kernel
theorem dX6_takenForOneAnother_59 : decode cX6_takenForOneAnother 59 = .ok (.iconst 1, 1) := by decide +kernel
theorem dX6_takenForOneAnother_60 : decode cX6_takenForOneAnother 60 = .ok (.ireturn, 1) := by decide +kernel
theorem dX6_takenForOneAnother_61 : decode cX6_takenForOneAnother 61 = .ok (.iinc 3 1, 3) := by decide +kernel
theorem dX6_takenForOneAnother_64 : decode cX6_takenForOneAnother 64 = .ok (.goto (-62), 3) := by decide +kernel
theorem dX6_takenForOneAnother_67 : decode cX6_takenForOneAnother 67 = .ok (.iconst 0, 1) := by decide +kernel
theorem dX6_takenForOneAnother_68 : decode cX6_takenForOneAnother 68 = .ok (.ireturn, 1) := by decide +kernel
theorem dX6_wantedPair_0 : decode cX6_wantedPair 0 = .ok (.aload_n 0, 1) := by decide +kernel
theorem dX6_wantedPair_1 : decode cX6_wantedPair 1 = .ok (.getfield 23, 3) := by decide +kernel
theorem dX6_wantedPair_4 : decode cX6_wantedPair 4 = .ok (.getfield 137, 3) := by decide +kernel
theorem dX6_wantedPair_7 : decode cX6_wantedPair 7 = .ok (.iload_n 1, 1) := by decide +kernel
theorem dX6_wantedPair_8 : decode cX6_wantedPair 8 = .ok (.iaload, 1) := by decide +kernel
theorem dX6_wantedPair_9 : decode cX6_wantedPair 9 = .ok (.aload_n 0, 1) := by decide +kernel
theorem dX6_wantedPair_10 : decode cX6_wantedPair 10 = .ok (.getfield 23, 3) := by decide +kernel
theorem dX6_wantedPair_13 : decode cX6_wantedPair 13 = .ok (.getfield 127, 3) := by decide +kernel
theorem dX6_wantedPair_16 : decode cX6_wantedPair 16 = .ok (.if_icmp .eq 5, 3) := by decide +kernel
theorem dX6_wantedPair_19 : decode cX6_wantedPair 19 = .ok (.iconst (-1), 1) := by decide +kernel
theorem dX6_wantedPair_20 : decode cX6_wantedPair 20 = .ok (.ireturn, 1) := by decide +kernel
theorem dX6_wantedPair_21 : decode cX6_wantedPair 21 = .ok (.iconst 0, 1) := by decide +kernel
theorem dX6_wantedPair_22 : decode cX6_wantedPair 22 = .ok (.istore_n 2, 1) := by decide +kernel
theorem dX6_wantedPair_23 : decode cX6_wantedPair 23 = .ok (.iconst 0, 1) := by decide +kernel
theorem dX6_wantedPair_24 : decode cX6_wantedPair 24 = .ok (.istore_n 3, 1) := by decide +kernel
theorem dX6_wantedPair_25 : decode cX6_wantedPair 25 = .ok (.iload_n 3, 1) := by decide +kernel
theorem dX6_wantedPair_26 : decode cX6_wantedPair 26 = .ok (.aload_n 0, 1) := by decide +kernel
theorem dX6_wantedPair_27 : decode cX6_wantedPair 27 = .ok (.getfield 23, 3) := by decide +kernel
theorem dX6_wantedPair_30 : decode cX6_wantedPair 30 = .ok (.getfield 127, 3) := by decide +kernel
theorem dX6_wantedPair_33 : decode cX6_wantedPair 33 = .ok (.if_icmp .ge 83, 3) := by decide +kernel
theorem dX6_wantedPair_36 : decode cX6_wantedPair 36 = .ok (.aload_n 0, 1) := by decide +kernel
theorem dX6_wantedPair_37 : decode cX6_wantedPair 37 = .ok (.getfield 23, 3) := by decide +kernel
theorem dX6_wantedPair_40 : decode cX6_wantedPair 40 = .ok (.iload_n 1, 1) := by decide +kernel
theorem dX6_wantedPair_41 : decode cX6_wantedPair 41 = .ok (.iload_n 3, 1) := by decide +kernel
theorem dX6_wantedPair_42 : decode cX6_wantedPair 42 = .ok (.invokevirtual 140, 3) := by decide +kernel
theorem dX6_wantedPair_45 : decode cX6_wantedPair 45 = .ok (.istore 4, 2) := by decide +kernel
theorem dX6_wantedPair_47 : decode cX6_wantedPair 47 = .ok (.aload_n 0, 1) := by decide +kernel
theorem dX6_wantedPair_48 : decode cX6_wantedPair 48 = .ok (.getfield 23, 3) := by decide +kernel
theorem dX6_wantedPair_51 : decode cX6_wantedPair 51 = .ok (.getfield 144, 3) := by decide +kernel
theorem dX6_wantedPair_54 : decode cX6_wantedPair 54 = .ok (.iload_n 3, 1) := by decide +kernel
theorem dX6_wantedPair_55 : decode cX6_wantedPair 55 = .ok (.iaload, 1) := by decide +kernel
theorem dX6_wantedPair_56 : decode cX6_wantedPair 56 = .ok (.istore 5, 2) := by decide +kernel
theorem dX6_wantedPair_58 : decode cX6_wantedPair 58 = .ok (.iload 4, 2) := by decide +kernel
theorem dX6_wantedPair_60 : decode cX6_wantedPair 60 = .ok (.iload 5, 2) := by decide +kernel
theorem dX6_wantedPair_62 : decode cX6_wantedPair 62 = .ok (.if_icmp .eq 48, 3) := by decide +kernel
theorem dX6_wantedPair_65 : decode cX6_wantedPair 65 = .ok (.aload_n 0, 1) := by decide +kernel
theorem dX6_wantedPair_66 : decode cX6_wantedPair 66 = .ok (.iload 4, 2) := by decide +kernel
theorem dX6_wantedPair_68 : decode cX6_wantedPair 68 = .ok (.iload 5, 2) := by decide +kernel
theorem dX6_wantedPair_70 : decode cX6_wantedPair 70 = .ok (.invokevirtual 316, 3) := by decide +kernel
theorem dX6_wantedPair_73 : decode cX6_wantedPair 73 = .ok (.ifCond .ne 37, 3) := by decide +kernel
theorem dX6_wantedPair_76 : decode cX6_wantedPair 76 = .ok (.iload 4, 2) := by decide +kernel
theorem dX6_wantedPair_78 : decode cX6_wantedPair 78 = .ok (.iload 5, 2) := by decide +kernel
theorem dX6_wantedPair_80 : decode cX6_wantedPair 80 = .ok (.invokestatic 319, 3) := by decide +kernel
theorem dX6_wantedPair_83 : decode cX6_wantedPair 83 = .ok (.iload 4, 2) := by decide +kernel
theorem dX6_wantedPair_85 : decode cX6_wantedPair 85 = .ok (.iload 5, 2) := by decide +kernel
theorem dX6_wantedPair_87 : decode cX6_wantedPair 87 = .ok (.invokestatic 216, 3) := by decide +kernel
theorem dX6_wantedPair_90 : decode cX6_wantedPair 90 = .ok (.invokestatic 153, 3) := by decide +kernel
theorem dX6_wantedPair_93 : decode cX6_wantedPair 93 = .ok (.istore 6, 2) := by decide +kernel
theorem dX6_wantedPair_95 : decode cX6_wantedPair 95 = .ok (.iload_n 2, 1) := by decide +kernel
theorem dX6_wantedPair_96 : decode cX6_wantedPair 96 = .ok (.ifCond .eq 11, 3) := by decide +kernel
theorem dX6_wantedPair_99 : decode cX6_wantedPair 99 = .ok (.iload_n 2, 1) := by decide +kernel
theorem dX6_wantedPair_100 : decode cX6_wantedPair 100 = .ok (.iload 6, 2) := by decide +kernel
theorem dX6_wantedPair_102 : decode cX6_wantedPair 102 = .ok (.if_icmp .eq 5, 3) := by decide +kernel
theorem dX6_wantedPair_105 : decode cX6_wantedPair 105 = .ok (.iconst (-1), 1) := by decide +kernel
theorem dX6_wantedPair_106 : decode cX6_wantedPair 106 = .ok (.ireturn, 1) := by decide +kernel
theorem dX6_wantedPair_107 : decode cX6_wantedPair 107 = .ok (.iload 6, 2) := by decide +kernel
theorem dX6_wantedPair_109 : decode cX6_wantedPair 109 = .ok (.istore_n 2, 1) := by decide +kernel
theorem dX6_wantedPair_110 : decode cX6_wantedPair 110 = .ok (.iinc 3 1, 3) := by decide +kernel
theorem dX6_wantedPair_113 : decode cX6_wantedPair 113 = .ok (.goto (-88), 3) := by decide +kernel
theorem dX6_wantedPair_116 : decode cX6_wantedPair 116 = .ok (.iload_n 2, 1) := by decide +kernel
theorem dX6_wantedPair_117 : decode cX6_wantedPair 117 = .ok (.ireturn, 1) := by decide +kernel
theorem dX6_namesThatWant_0 : decode cX6_namesThatWant 0 = .ok (.iconst 0, 1) := by decide +kernel
theorem dX6_namesThatWant_1 : decode cX6_namesThatWant 1 = .ok (.istore_n 2, 1) := by decide +kernel
theorem dX6_namesThatWant_2 : decode cX6_namesThatWant 2 = .ok (.iconst 0, 1) := by decide +kernel
theorem dX6_namesThatWant_3 : decode cX6_namesThatWant 3 = .ok (.istore_n 3, 1) := by decide +kernel
theorem dX6_namesThatWant_4 : decode cX6_namesThatWant 4 = .ok (.iload_n 3, 1) := by decide +kernel
theorem dX6_namesThatWant_5 : decode cX6_namesThatWant 5 = .ok (.aload_n 0, 1) := by decide +kernel
theorem dX6_namesThatWant_6 : decode cX6_namesThatWant 6 = .ok (.getfield 23, 3) := by decide +kernel
theorem dX6_namesThatWant_9 : decode cX6_namesThatWant 9 = .ok (.getfield 115, 3) := by decide +kernel
theorem dX6_namesThatWant_12 : decode cX6_namesThatWant 12 = .ok (.if_icmp .ge 22, 3) := by decide +kernel
theorem dX6_namesThatWant_15 : decode cX6_namesThatWant 15 = .ok (.aload_n 0, 1) := by decide +kernel
theorem dX6_namesThatWant_16 : decode cX6_namesThatWant 16 = .ok (.getfield 83, 3) := by decide +kernel
theorem dX6_namesThatWant_19 : decode cX6_namesThatWant 19 = .ok (.iload_n 3, 1) := by decide +kernel
theorem dX6_namesThatWant_20 : decode cX6_namesThatWant 20 = .ok (.iaload, 1) := by decide +kernel
theorem dX6_namesThatWant_21 : decode cX6_namesThatWant 21 = .ok (.iload_n 1, 1) := by decide +kernel
theorem dX6_namesThatWant_22 : decode cX6_namesThatWant 22 = .ok (.if_icmp .ne 6, 3) := by decide +kernel
theorem dX6_namesThatWant_25 : decode cX6_namesThatWant 25 = .ok (.iinc 2 1, 3) := by decide +kernel
theorem dX6_namesThatWant_28 : decode cX6_namesThatWant 28 = .ok (.iinc 3 1, 3) := by decide +kernel
theorem dX6_namesThatWant_31 : decode cX6_namesThatWant 31 = .ok (.goto (-27), 3) := by decide +kernel
theorem dX6_namesThatWant_34 : decode cX6_namesThatWant 34 = .ok (.iload_n 2, 1) := by decide +kernel
theorem dX6_namesThatWant_35 : decode cX6_namesThatWant 35 = .ok (.ireturn, 1) := by decide +kernel
theorem dX7_init_0 : decode cX7_init 0 = .ok (.aload_n 0, 1) := by decide +kernel
theorem dX7_init_1 : decode cX7_init 1 = .ok (.invokespecial 1, 3) := by decide +kernel
theorem dX7_init_4 : decode cX7_init 4 = .ok (.aload_n 0, 1) := by decide +kernel
theorem dX7_init_5 : decode cX7_init 5 = .ok (.sipush 240, 3) := by decide +kernel
theorem dX7_init_8 : decode cX7_init 8 = .ok (.newarray .int, 2) := by decide +kernel
theorem dX7_init_10 : decode cX7_init 10 = .ok (.putfield 7, 3) := by decide +kernel
theorem dX7_init_13 : decode cX7_init 13 = .ok (.aload_n 0, 1) := by decide +kernel
theorem dX7_init_14 : decode cX7_init 14 = .ok (.bipush 81, 2) := by decide +kernel
theorem dX7_init_16 : decode cX7_init 16 = .ok (.newarray .int, 2) := by decide +kernel
theorem dX7_init_18 : decode cX7_init 18 = .ok (.putfield 13, 3) := by decide +kernel
theorem dX7_init_21 : decode cX7_init 21 = .ok (.aload_n 0, 1) := by decide +kernel
theorem dX7_init_22 : decode cX7_init 22 = .ok (.bipush 9, 2) := by decide +kernel
theorem dX7_init_24 : decode cX7_init 24 = .ok (.newarray .int, 2) := by decide +kernel
theorem dX7_init_26 : decode cX7_init 26 = .ok (.putfield 16, 3) := by decide +kernel
theorem dX7_init_29 : decode cX7_init 29 = .ok (.aload_n 0, 1) := by decide +kernel
theorem dX7_init_30 : decode cX7_init 30 = .ok (.bipush 60, 2) := by decide +kernel
theorem dX7_init_32 : decode cX7_init 32 = .ok (.newarray .int, 2) := by decide +kernel
theorem dX7_init_34 : decode cX7_init 34 = .ok (.putfield 19, 3) := by decide +kernel
theorem dX7_init_37 : decode cX7_init 37 = .ok (.aload_n 0, 1) := by decide +kernel
theorem dX7_init_38 : decode cX7_init 38 = .ok (.bipush 81, 2) := by decide +kernel
theorem dX7_init_40 : decode cX7_init 40 = .ok (.newarray .int, 2) := by decide +kernel
theorem dX7_init_42 : decode cX7_init 42 = .ok (.putfield 22, 3) := by decide +kernel
theorem dX7_init_45 : decode cX7_init 45 = .ok (.aload_n 0, 1) := by decide +kernel
theorem dX7_init_46 : decode cX7_init 46 = .ok (.bipush 9, 2) := by decide +kernel
theorem dX7_init_48 : decode cX7_init 48 = .ok (.newarray .int, 2) := by decide +kernel
theorem dX7_init_50 : decode cX7_init 50 = .ok (.putfield 25, 3) := by decide +kernel
theorem dX7_init_53 : decode cX7_init 53 = .ok (.aload_n 0, 1) := by decide +kernel
theorem dX7_init_54 : decode cX7_init 54 = .ok (.sipush 160, 3) := by decide +kernel
theorem dX7_init_57 : decode cX7_init 57 = .ok (.newarray .int, 2) := by decide +kernel
theorem dX7_init_59 : decode cX7_init 59 = .ok (.putfield 28, 3) := by decide +kernel
theorem dX7_init_62 : decode cX7_init 62 = .ok (.aload_n 0, 1) := by decide +kernel
theorem dX7_init_63 : decode cX7_init 63 = .ok (.bipush 10, 2) := by decide +kernel
theorem dX7_init_65 : decode cX7_init 65 = .ok (.newarray .int, 2) := by decide +kernel
theorem dX7_init_67 : decode cX7_init 67 = .ok (.dup, 1) := by decide +kernel
theorem dX7_init_68 : decode cX7_init 68 = .ok (.iconst 0, 1) := by decide +kernel
theorem dX7_init_69 : decode cX7_init 69 = .ok (.iconst 0, 1) := by decide +kernel
theorem dX7_init_70 : decode cX7_init 70 = .ok (.iastore, 1) := by decide +kernel
theorem dX7_init_71 : decode cX7_init 71 = .ok (.dup, 1) := by decide +kernel
theorem dX7_init_72 : decode cX7_init 72 = .ok (.iconst 1, 1) := by decide +kernel
theorem dX7_init_73 : decode cX7_init 73 = .ok (.iconst 4, 1) := by decide +kernel
theorem dX7_init_74 : decode cX7_init 74 = .ok (.iastore, 1) := by decide +kernel
theorem dX7_init_75 : decode cX7_init 75 = .ok (.dup, 1) := by decide +kernel
theorem dX7_init_76 : decode cX7_init 76 = .ok (.iconst 2, 1) := by decide +kernel
theorem dX7_init_77 : decode cX7_init 77 = .ok (.bipush 8, 2) := by decide +kernel
theorem dX7_init_79 : decode cX7_init 79 = .ok (.iastore, 1) := by decide +kernel
theorem dX7_init_80 : decode cX7_init 80 = .ok (.dup, 1) := by decide +kernel
theorem dX7_init_81 : decode cX7_init 81 = .ok (.iconst 3, 1) := by decide +kernel
theorem dX7_init_82 : decode cX7_init 82 = .ok (.bipush 12, 2) := by decide +kernel
theorem dX7_init_84 : decode cX7_init 84 = .ok (.iastore, 1) := by decide +kernel
theorem dX7_init_85 : decode cX7_init 85 = .ok (.dup, 1) := by decide +kernel
theorem dX7_init_86 : decode cX7_init 86 = .ok (.iconst 4, 1) := by decide +kernel
theorem dX7_init_87 : decode cX7_init 87 = .ok (.bipush 16, 2) := by decide +kernel
theorem dX7_init_89 : decode cX7_init 89 = .ok (.iastore, 1) := by decide +kernel
theorem dX7_init_90 : decode cX7_init 90 = .ok (.dup, 1) := by decide +kernel
theorem dX7_init_91 : decode cX7_init 91 = .ok (.iconst 5, 1) := by decide +kernel
theorem dX7_init_92 : decode cX7_init 92 = .ok (.bipush 23, 2) := by decide +kernel
theorem dX7_init_94 : decode cX7_init 94 = .ok (.iastore, 1) := by decide +kernel
theorem dX7_init_95 : decode cX7_init 95 = .ok (.dup, 1) := by decide +kernel
theorem dX7_init_96 : decode cX7_init 96 = .ok (.bipush 6, 2) := by decide +kernel
theorem dX7_init_98 : decode cX7_init 98 = .ok (.bipush 28, 2) := by decide +kernel
theorem dX7_init_100 : decode cX7_init 100 = .ok (.iastore, 1) := by decide +kernel
theorem dX7_init_101 : decode cX7_init 101 = .ok (.dup, 1) := by decide +kernel
theorem dX7_init_102 : decode cX7_init 102 = .ok (.bipush 7, 2) := by decide +kernel
theorem dX7_init_104 : decode cX7_init 104 = .ok (.bipush 32, 2) := by decide +kernel
theorem dX7_init_106 : decode cX7_init 106 = .ok (.iastore, 1) := by decide +kernel
theorem dX7_init_107 : decode cX7_init 107 = .ok (.dup, 1) := by decide +kernel
theorem dX7_init_108 : decode cX7_init 108 = .ok (.bipush 8, 2) := by decide +kernel
theorem dX7_init_110 : decode cX7_init 110 = .ok (.bipush 37, 2) := by decide +kernel
theorem dX7_init_112 : decode cX7_init 112 = .ok (.iastore, 1) := by decide +kernel
theorem dX7_init_113 : decode cX7_init 113 = .ok (.dup, 1) := by decide +kernel
theorem dX7_init_114 : decode cX7_init 114 = .ok (.bipush 9, 2) := by decide +kernel
theorem dX7_init_116 : decode cX7_init 116 = .ok (.bipush 42, 2) := by decide +kernel
theorem dX7_init_118 : decode cX7_init 118 = .ok (.iastore, 1) := by decide +kernel
theorem dX7_init_119 : decode cX7_init 119 = .ok (.putfield 31, 3) := by decide +kernel
theorem dX7_init_122 : decode cX7_init 122 = .ok (.aload_n 0, 1) := by decide +kernel
theorem dX7_init_123 : decode cX7_init 123 = .ok (.bipush 42, 2) := by decide +kernel
theorem dX7_init_125 : decode cX7_init 125 = .ok (.newarray .int, 2) := by decide +kernel
theorem dX7_init_127 : decode cX7_init 127 = .ok (.dup, 1) := by decide +kernel
theorem dX7_init_128 : decode cX7_init 128 = .ok (.iconst 0, 1) := by decide +kernel
theorem dX7_init_129 : decode cX7_init 129 = .ok (.bipush 110, 2) := by decide +kernel
theorem dX7_init_131 : decode cX7_init 131 = .ok (.iastore, 1) := by decide +kernel
theorem dX7_init_132 : decode cX7_init 132 = .ok (.dup, 1) := by decide +kernel
theorem dX7_init_133 : decode cX7_init 133 = .ok (.iconst 1, 1) := by decide +kernel
theorem dX7_init_134 : decode cX7_init 134 = .ok (.bipush 97, 2) := by decide +kernel
theorem dX7_init_136 : decode cX7_init 136 = .ok (.iastore, 1) := by decide +kernel
theorem dX7_init_137 : decode cX7_init 137 = .ok (.dup, 1) := by decide +kernel
theorem dX7_init_138 : decode cX7_init 138 = .ok (.iconst 2, 1) := by decide +kernel
theorem dX7_init_139 : decode cX7_init 139 = .ok (.bipush 109, 2) := by decide +kernel
theorem dX7_init_141 : decode cX7_init 141 = .ok (.iastore, 1) := by decide +kernel
theorem dX7_init_142 : decode cX7_init 142 = .ok (.dup, 1) := by decide +kernel
theorem dX7_init_143 : decode cX7_init 143 = .ok (.iconst 3, 1) := by decide +kernel
theorem dX7_init_144 : decode cX7_init 144 = .ok (.bipush 101, 2) := by decide +kernel
theorem dX7_init_146 : decode cX7_init 146 = .ok (.iastore, 1) := by decide +kernel
theorem dX7_init_147 : decode cX7_init 147 = .ok (.dup, 1) := by decide +kernel
theorem dX7_init_148 : decode cX7_init 148 = .ok (.iconst 4, 1) := by decide +kernel
theorem dX7_init_149 : decode cX7_init 149 = .ok (.bipush 110, 2) := by decide +kernel
theorem dX7_init_151 : decode cX7_init 151 = .ok (.iastore, 1) := by decide +kernel
theorem dX7_init_152 : decode cX7_init 152 = .ok (.dup, 1) := by decide +kernel
theorem dX7_init_153 : decode cX7_init 153 = .ok (.iconst 5, 1) := by decide +kernel
theorem dX7_init_154 : decode cX7_init 154 = .ok (.bipush 101, 2) := by decide +kernel
theorem dX7_init_156 : decode cX7_init 156 = .ok (.iastore, 1) := by decide +kernel
theorem dX7_init_157 : decode cX7_init 157 = .ok (.dup, 1) := by decide +kernel
theorem dX7_init_158 : decode cX7_init 158 = .ok (.bipush 6, 2) := by decide +kernel
theorem dX7_init_160 : decode cX7_init 160 = .ok (.bipush 97, 2) := by decide +kernel
theorem dX7_init_162 : decode cX7_init 162 = .ok (.iastore, 1) := by decide +kernel
theorem dX7_init_163 : decode cX7_init 163 = .ok (.dup, 1) := by decide +kernel
theorem dX7_init_164 : decode cX7_init 164 = .ok (.bipush 7, 2) := by decide +kernel
theorem dX7_init_166 : decode cX7_init 166 = .ok (.bipush 114, 2) := by decide +kernel
theorem dX7_init_168 : decode cX7_init 168 = .ok (.iastore, 1) := by decide +kernel
theorem dX7_init_169 : decode cX7_init 169 = .ok (.dup, 1) := by decide +kernel
theorem dX7_init_170 : decode cX7_init 170 = .ok (.bipush 8, 2) := by decide +kernel
theorem dX7_init_172 : decode cX7_init 172 = .ok (.bipush 112, 2) := by decide +kernel
theorem dX7_init_174 : decode cX7_init 174 = .ok (.iastore, 1) := by decide +kernel
theorem dX7_init_175 : decode cX7_init 175 = .ok (.dup, 1) := by decide +kernel
theorem dX7_init_176 : decode cX7_init 176 = .ok (.bipush 9, 2) := by decide +kernel
theorem dX7_init_178 : decode cX7_init 178 = .ok (.bipush 97, 2) := by decide +kernel
theorem dX7_init_180 : decode cX7_init 180 = .ok (.iastore, 1) := by decide +kernel
theorem dX7_init_181 : decode cX7_init 181 = .ok (.dup, 1) := by decide +kernel
theorem dX7_init_182 : decode cX7_init 182 = .ok (.bipush 10, 2) := by decide +kernel
theorem dX7_init_184 : decode cX7_init 184 = .ok (.bipush 105, 2) := by decide +kernel
theorem dX7_init_186 : decode cX7_init 186 = .ok (.iastore, 1) := by decide +kernel
theorem dX7_init_187 : decode cX7_init 187 = .ok (.dup, 1) := by decide +kernel
theorem dX7_init_188 : decode cX7_init 188 = .ok (.bipush 11, 2) := by decide +kernel
theorem dX7_init_190 : decode cX7_init 190 = .ok (.bipush 114, 2) := by decide +kernel
theorem dX7_init_192 : decode cX7_init 192 = .ok (.iastore, 1) := by decide +kernel
theorem dX7_init_193 : decode cX7_init 193 = .ok (.dup, 1) := by decide +kernel
theorem dX7_init_194 : decode cX7_init 194 = .ok (.bipush 12, 2) := by decide +kernel
theorem dX7_init_196 : decode cX7_init 196 = .ok (.bipush 109, 2) := by decide +kernel
theorem dX7_init_198 : decode cX7_init 198 = .ok (.iastore, 1) := by decide +kernel
theorem dX7_init_199 : decode cX7_init 199 = .ok (.dup, 1) := by decide +kernel
theorem dX7_init_200 : decode cX7_init 200 = .ok (.bipush 13, 2) := by decide +kernel
theorem dX7_init_202 : decode cX7_init 202 = .ok (.bipush 97, 2) := by decide +kernel
theorem dX7_init_204 : decode cX7_init 204 = .ok (.iastore, 1) := by decide +kernel
theorem dX7_init_205 : decode cX7_init 205 = .ok (.dup, 1) := by decide +kernel
theorem dX7_init_206 : decode cX7_init 206 = .ok (.bipush 14, 2) := by decide +kernel
theorem dX7_init_208 : decode cX7_init 208 = .ok (.bipush 105, 2) := by decide +kernel
theorem dX7_init_210 : decode cX7_init 210 = .ok (.iastore, 1) := by decide +kernel
theorem dX7_init_211 : decode cX7_init 211 = .ok (.dup, 1) := by decide +kernel
theorem dX7_init_212 : decode cX7_init 212 = .ok (.bipush 15, 2) := by decide +kernel
theorem dX7_init_214 : decode cX7_init 214 = .ok (.bipush 100, 2) := by decide +kernel
theorem dX7_init_216 : decode cX7_init 216 = .ok (.iastore, 1) := by decide +kernel
theorem dX7_init_217 : decode cX7_init 217 = .ok (.dup, 1) := by decide +kernel
theorem dX7_init_218 : decode cX7_init 218 = .ok (.bipush 16, 2) := by decide +kernel
theorem dX7_init_220 : decode cX7_init 220 = .ok (.bipush 108, 2) := by decide +kernel
theorem dX7_init_222 : decode cX7_init 222 = .ok (.iastore, 1) := by decide +kernel
theorem dX7_init_223 : decode cX7_init 223 = .ok (.dup, 1) := by decide +kernel
theorem dX7_init_224 : decode cX7_init 224 = .ok (.bipush 17, 2) := by decide +kernel
theorem dX7_init_226 : decode cX7_init 226 = .ok (.bipush 101, 2) := by decide +kernel
theorem dX7_init_228 : decode cX7_init 228 = .ok (.iastore, 1) := by decide +kernel
theorem dX7_init_229 : decode cX7_init 229 = .ok (.dup, 1) := by decide +kernel
theorem dX7_init_230 : decode cX7_init 230 = .ok (.bipush 18, 2) := by decide +kernel
theorem dX7_init_232 : decode cX7_init 232 = .ok (.bipush 116, 2) := by decide +kernel
theorem dX7_init_234 : decode cX7_init 234 = .ok (.iastore, 1) := by decide +kernel
theorem dX7_init_235 : decode cX7_init 235 = .ok (.dup, 1) := by decide +kernel
theorem dX7_init_236 : decode cX7_init 236 = .ok (.bipush 19, 2) := by decide +kernel
theorem dX7_init_238 : decode cX7_init 238 = .ok (.bipush 116, 2) := by decide +kernel
theorem dX7_init_240 : decode cX7_init 240 = .ok (.iastore, 1) := by decide +kernel
theorem dX7_init_241 : decode cX7_init 241 = .ok (.dup, 1) := by decide +kernel
theorem dX7_init_242 : decode cX7_init 242 = .ok (.bipush 20, 2) := by decide +kernel
theorem dX7_init_244 : decode cX7_init 244 = .ok (.bipush 101, 2) := by decide +kernel
theorem dX7_init_246 : decode cX7_init 246 = .ok (.iastore, 1) := by decide +kernel
theorem dX7_init_247 : decode cX7_init 247 = .ok (.dup, 1) := by decide +kernel
theorem dX7_init_248 : decode cX7_init 248 = .ok (.bipush 21, 2) := by decide +kernel
theorem dX7_init_250 : decode cX7_init 250 = .ok (.bipush 114, 2) := by decide +kernel
theorem dX7_init_252 : decode cX7_init 252 = .ok (.iastore, 1) := by decide +kernel
theorem dX7_init_253 : decode cX7_init 253 = .ok (.dup, 1) := by decide +kernel
theorem dX7_init_254 : decode cX7_init 254 = .ok (.bipush 22, 2) := by decide +kernel
theorem dX7_init_256 : decode cX7_init 256 = .ok (.bipush 115, 2) := by decide +kernel
theorem dX7_init_258 : decode cX7_init 258 = .ok (.iastore, 1) := by decide +kernel
theorem dX7_init_259 : decode cX7_init 259 = .ok (.dup, 1) := by decide +kernel
theorem dX7_init_260 : decode cX7_init 260 = .ok (.bipush 23, 2) := by decide +kernel
theorem dX7_init_262 : decode cX7_init 262 = .ok (.bipush 115, 2) := by decide +kernel
theorem dX7_init_264 : decode cX7_init 264 = .ok (.iastore, 1) := by decide +kernel
theorem dX7_init_265 : decode cX7_init 265 = .ok (.dup, 1) := by decide +kernel
theorem dX7_init_266 : decode cX7_init 266 = .ok (.bipush 24, 2) := by decide +kernel
theorem dX7_init_268 : decode cX7_init 268 = .ok (.bipush 116, 2) := by decide +kernel
theorem dX7_init_270 : decode cX7_init 270 = .ok (.iastore, 1) := by decide +kernel
theorem dX7_init_271 : decode cX7_init 271 = .ok (.dup, 1) := by decide +kernel
theorem dX7_init_272 : decode cX7_init 272 = .ok (.bipush 25, 2) := by decide +kernel
theorem dX7_init_274 : decode cX7_init 274 = .ok (.bipush 97, 2) := by decide +kernel
theorem dX7_init_276 : decode cX7_init 276 = .ok (.iastore, 1) := by decide +kernel
theorem dX7_init_277 : decode cX7_init 277 = .ok (.dup, 1) := by decide +kernel
theorem dX7_init_278 : decode cX7_init 278 = .ok (.bipush 26, 2) := by decide +kernel
theorem dX7_init_280 : decode cX7_init 280 = .ok (.bipush 114, 2) := by decide +kernel
theorem dX7_init_282 : decode cX7_init 282 = .ok (.iastore, 1) := by decide +kernel
theorem dX7_init_283 : decode cX7_init 283 = .ok (.dup, 1) := by decide +kernel
theorem dX7_init_284 : decode cX7_init 284 = .ok (.bipush 27, 2) := by decide +kernel
theorem dX7_init_286 : decode cX7_init 286 = .ok (.bipush 116, 2) := by decide +kernel
theorem dX7_init_288 : decode cX7_init 288 = .ok (.iastore, 1) := by decide +kernel
theorem dX7_init_289 : decode cX7_init 289 = .ok (.dup, 1) := by decide +kernel
theorem dX7_init_290 : decode cX7_init 290 = .ok (.bipush 28, 2) := by decide +kernel
theorem dX7_init_292 : decode cX7_init 292 = .ok (.bipush 108, 2) := by decide +kernel
theorem dX7_init_294 : decode cX7_init 294 = .ok (.iastore, 1) := by decide +kernel
theorem dX7_init_295 : decode cX7_init 295 = .ok (.dup, 1) := by decide +kernel
theorem dX7_init_296 : decode cX7_init 296 = .ok (.bipush 29, 2) := by decide +kernel
theorem dX7_init_298 : decode cX7_init 298 = .ok (.bipush 111, 2) := by decide +kernel
theorem dX7_init_300 : decode cX7_init 300 = .ok (.iastore, 1) := by decide +kernel
theorem dX7_init_301 : decode cX7_init 301 = .ok (.dup, 1) := by decide +kernel
theorem dX7_init_302 : decode cX7_init 302 = .ok (.bipush 30, 2) := by decide +kernel
theorem dX7_init_304 : decode cX7_init 304 = .ok (.bipush 110, 2) := by decide +kernel
theorem dX7_init_306 : decode cX7_init 306 = .ok (.iastore, 1) := by decide +kernel
theorem dX7_init_307 : decode cX7_init 307 = .ok (.dup, 1) := by decide +kernel
theorem dX7_init_308 : decode cX7_init 308 = .ok (.bipush 31, 2) := by decide +kernel
theorem dX7_init_310 : decode cX7_init 310 = .ok (.bipush 103, 2) := by decide +kernel
theorem dX7_init_312 : decode cX7_init 312 = .ok (.iastore, 1) := by decide +kernel
theorem dX7_init_313 : decode cX7_init 313 = .ok (.dup, 1) := by decide +kernel
theorem dX7_init_314 : decode cX7_init 314 = .ok (.bipush 32, 2) := by decide +kernel
theorem dX7_init_316 : decode cX7_init 316 = .ok (.bipush 115, 2) := by decide +kernel
theorem dX7_init_318 : decode cX7_init 318 = .ok (.iastore, 1) := by decide +kernel
theorem dX7_init_319 : decode cX7_init 319 = .ok (.dup, 1) := by decide +kernel
theorem dX7_init_320 : decode cX7_init 320 = .ok (.bipush 33, 2) := by decide +kernel
theorem dX7_init_322 : decode cX7_init 322 = .ok (.bipush 104, 2) := by decide +kernel
theorem dX7_init_324 : decode cX7_init 324 = .ok (.iastore, 1) := by decide +kernel
theorem dX7_init_325 : decode cX7_init 325 = .ok (.dup, 1) := by decide +kernel
theorem dX7_init_326 : decode cX7_init 326 = .ok (.bipush 34, 2) := by decide +kernel
theorem dX7_init_328 : decode cX7_init 328 = .ok (.bipush 97, 2) := by decide +kernel
theorem dX7_init_330 : decode cX7_init 330 = .ok (.iastore, 1) := by decide +kernel
theorem dX7_init_331 : decode cX7_init 331 = .ok (.dup, 1) := by decide +kernel
theorem dX7_init_332 : decode cX7_init 332 = .ok (.bipush 35, 2) := by decide +kernel
theorem dX7_init_334 : decode cX7_init 334 = .ok (.bipush 114, 2) := by decide +kernel
theorem dX7_init_336 : decode cX7_init 336 = .ok (.iastore, 1) := by decide +kernel
theorem dX7_init_337 : decode cX7_init 337 = .ok (.dup, 1) := by decide +kernel
theorem dX7_init_338 : decode cX7_init 338 = .ok (.bipush 36, 2) := by decide +kernel
theorem dX7_init_340 : decode cX7_init 340 = .ok (.bipush 101, 2) := by decide +kernel
theorem dX7_init_342 : decode cX7_init 342 = .ok (.iastore, 1) := by decide +kernel
theorem dX7_init_343 : decode cX7_init 343 = .ok (.dup, 1) := by decide +kernel
theorem dX7_init_344 : decode cX7_init 344 = .ok (.bipush 37, 2) := by decide +kernel
theorem dX7_init_346 : decode cX7_init 346 = .ok (.bipush 115, 2) := by decide +kernel
theorem dX7_init_348 : decode cX7_init 348 = .ok (.iastore, 1) := by decide +kernel
theorem dX7_init_349 : decode cX7_init 349 = .ok (.dup, 1) := by decide +kernel
theorem dX7_init_350 : decode cX7_init 350 = .ok (.bipush 38, 2) := by decide +kernel
theorem dX7_init_352 : decode cX7_init 352 = .ok (.bipush 111, 2) := by decide +kernel
theorem dX7_init_354 : decode cX7_init 354 = .ok (.iastore, 1) := by decide +kernel
theorem dX7_init_355 : decode cX7_init 355 = .ok (.dup, 1) := by decide +kernel
theorem dX7_init_356 : decode cX7_init 356 = .ok (.bipush 39, 2) := by decide +kernel
theorem dX7_init_358 : decode cX7_init 358 = .ok (.bipush 117, 2) := by decide +kernel
theorem dX7_init_360 : decode cX7_init 360 = .ok (.iastore, 1) := by decide +kernel
theorem dX7_init_361 : decode cX7_init 361 = .ok (.dup, 1) := by decide +kernel
theorem dX7_init_362 : decode cX7_init 362 = .ok (.bipush 40, 2) := by decide +kernel
theorem dX7_init_364 : decode cX7_init 364 = .ok (.bipush 110, 2) := by decide +kernel
theorem dX7_init_366 : decode cX7_init 366 = .ok (.iastore, 1) := by decide +kernel
theorem dX7_init_367 : decode cX7_init 367 = .ok (.dup, 1) := by decide +kernel
theorem dX7_init_368 : decode cX7_init 368 = .ok (.bipush 41, 2) := by decide +kernel
theorem dX7_init_370 : decode cX7_init 370 = .ok (.bipush 100, 2) := by decide +kernel
theorem dX7_init_372 : decode cX7_init 372 = .ok (.iastore, 1) := by decide +kernel
theorem dX7_init_373 : decode cX7_init 373 = .ok (.putfield 34, 3) := by decide +kernel
theorem dX7_init_376 : decode cX7_init 376 = .ok (.aload_n 0, 1) := by decide +kernel
theorem dX7_init_377 : decode cX7_init 377 = .ok (.bipush 9, 2) := by decide +kernel
theorem dX7_init_379 : decode cX7_init 379 = .ok (.newarray .int, 2) := by decide +kernel
theorem dX7_init_381 : decode cX7_init 381 = .ok (.putfield 37, 3) := by decide +kernel
theorem dX7_init_384 : decode cX7_init 384 = .ok (.aload_n 0, 1) := by decide +kernel
theorem dX7_init_385 : decode cX7_init 385 = .ok (.sipush 512, 3) := by decide +kernel
theorem dX7_init_388 : decode cX7_init 388 = .ok (.newarray .int, 2) := by decide +kernel
theorem dX7_init_390 : decode cX7_init 390 = .ok (.putfield 40, 3) := by decide +kernel
theorem dX7_init_393 : decode cX7_init 393 = .ok (.aload_n 0, 1) := by decide +kernel
theorem dX7_init_394 : decode cX7_init 394 = .ok (.sipush 512, 3) := by decide +kernel
theorem dX7_init_397 : decode cX7_init 397 = .ok (.newarray .long, 2) := by decide +kernel
theorem dX7_init_399 : decode cX7_init 399 = .ok (.putfield 43, 3) := by decide +kernel
theorem dX7_init_402 : decode cX7_init 402 = .ok (.aload_n 0, 1) := by decide +kernel
theorem dX7_init_403 : decode cX7_init 403 = .ok (.iconst 3, 1) := by decide +kernel
theorem dX7_init_404 : decode cX7_init 404 = .ok (.newarray .int, 2) := by decide +kernel
theorem dX7_init_406 : decode cX7_init 406 = .ok (.putfield 47, 3) := by decide +kernel
theorem dX7_init_409 : decode cX7_init 409 = .ok (.aload_n 0, 1) := by decide +kernel
theorem dX7_init_410 : decode cX7_init 410 = .ok (.iconst 3, 1) := by decide +kernel
theorem dX7_init_411 : decode cX7_init 411 = .ok (.newarray .int, 2) := by decide +kernel
theorem dX7_init_413 : decode cX7_init 413 = .ok (.putfield 50, 3) := by decide +kernel
theorem dX7_init_416 : decode cX7_init 416 = .ok (.aload_n 0, 1) := by decide +kernel
theorem dX7_init_417 : decode cX7_init 417 = .ok (.iconst 2, 1) := by decide +kernel
theorem dX7_init_418 : decode cX7_init 418 = .ok (.newarray .boolean, 2) := by decide +kernel
theorem dX7_init_420 : decode cX7_init 420 = .ok (.putfield 53, 3) := by decide +kernel
theorem dX7_init_423 : decode cX7_init 423 = .ok (.aload_n 0, 1) := by decide +kernel
theorem dX7_init_424 : decode cX7_init 424 = .ok (.iconst 4, 1) := by decide +kernel
theorem dX7_init_425 : decode cX7_init 425 = .ok (.newarray .int, 2) := by decide +kernel
theorem dX7_init_427 : decode cX7_init 427 = .ok (.dup, 1) := by decide +kernel
theorem dX7_init_428 : decode cX7_init 428 = .ok (.iconst 0, 1) := by decide +kernel
theorem dX7_init_429 : decode cX7_init 429 = .ok (.bipush (-4), 2) := by decide +kernel
theorem dX7_init_431 : decode cX7_init 431 = .ok (.iastore, 1) := by decide +kernel
theorem dX7_init_432 : decode cX7_init 432 = .ok (.dup, 1) := by decide +kernel
theorem dX7_init_433 : decode cX7_init 433 = .ok (.iconst 1, 1) := by decide +kernel
theorem dX7_init_434 : decode cX7_init 434 = .ok (.bipush (-4), 2) := by decide +kernel
theorem dX7_init_436 : decode cX7_init 436 = .ok (.iastore, 1) := by decide +kernel
theorem dX7_init_437 : decode cX7_init 437 = .ok (.dup, 1) := by decide +kernel
theorem dX7_init_438 : decode cX7_init 438 = .ok (.iconst 2, 1) := by decide +kernel
theorem dX7_init_439 : decode cX7_init 439 = .ok (.bipush (-4), 2) := by decide +kernel
theorem dX7_init_441 : decode cX7_init 441 = .ok (.iastore, 1) := by decide +kernel
theorem dX7_init_442 : decode cX7_init 442 = .ok (.dup, 1) := by decide +kernel
theorem dX7_init_443 : decode cX7_init 443 = .ok (.iconst 3, 1) := by decide +kernel
theorem dX7_init_444 : decode cX7_init 444 = .ok (.bipush (-4), 2) := by decide +kernel
theorem dX7_init_446 : decode cX7_init 446 = .ok (.iastore, 1) := by decide +kernel
theorem dX7_init_447 : decode cX7_init 447 = .ok (.putfield 57, 3) := by decide +kernel
theorem dX7_init_450 : decode cX7_init 450 = .ok (.aload_n 0, 1) := by decide +kernel
theorem dX7_init_451 : decode cX7_init 451 = .ok (.iconst 4, 1) := by decide +kernel
theorem dX7_init_452 : decode cX7_init 452 = .ok (.newarray .int, 2) := by decide +kernel
theorem dX7_init_454 : decode cX7_init 454 = .ok (.putfield 60, 3) := by decide +kernel
theorem dX7_init_457 : decode cX7_init 457 = .ok (.aload_n 0, 1) := by decide +kernel
theorem dX7_init_458 : decode cX7_init 458 = .ok (.sipush 160, 3) := by decide +kernel
theorem dX7_init_461 : decode cX7_init 461 = .ok (.newarray .int, 2) := by decide +kernel
theorem dX7_init_463 : decode cX7_init 463 = .ok (.putfield 63, 3) := by decide +kernel
theorem dX7_init_466 : decode cX7_init 466 = .ok (.return_, 1) := by decide +kernel
theorem dX7_in_0 : decode cX7_in 0 = .ok (.lload_n 0, 1) := by decide +kernel
theorem dX7_in_1 : decode cX7_in 1 = .ok (.lload_n 2, 1) := by decide +kernel
theorem dX7_in_2 : decode cX7_in 2 = .ok (.lcmp, 1) := by decide +kernel
theorem dX7_in_3 : decode cX7_in 3 = .ok (.ifCond .lt 14, 3) := by decide +kernel
theorem dX7_in_6 : decode cX7_in 6 = .ok (.lload_n 0, 1) := by decide +kernel
theorem dX7_in_7 : decode cX7_in 7 = .ok (.lload 4, 2) := by decide +kernel
theorem dX7_in_9 : decode cX7_in 9 = .ok (.lcmp, 1) := by decide +kernel
theorem dX7_in_10 : decode cX7_in 10 = .ok (.ifCond .gt 7, 3) := by decide +kernel
theorem dX7_in_13 : decode cX7_in 13 = .ok (.iconst 1, 1) := by decide +kernel
theorem dX7_in_14 : decode cX7_in 14 = .ok (.goto 4, 3) := by decide +kernel
theorem dX7_in_17 : decode cX7_in 17 = .ok (.iconst 0, 1) := by decide +kernel
theorem dX7_in_18 : decode cX7_in 18 = .ok (.ireturn, 1) := by decide +kernel
theorem dX7_feed_0 : decode cX7_feed 0 = .ok (.iload_n 1, 1) := by decide +kernel
theorem dX7_feed_1 : decode cX7_feed 1 = .ok (.i2l, 1) := by decide +kernel
theorem dX7_feed_2 : decode cX7_feed 2 = .ok (.lconst 0, 1) := by decide +kernel
theorem dX7_feed_3 : decode cX7_feed 3 = .ok (.ldc2_w 66, 3) := by decide +kernel
theorem dX7_feed_6 : decode cX7_feed 6 = .ok (.invokestatic 68, 3) := by decide +kernel
theorem dX7_feed_9 : decode cX7_feed 9 = .ok (.ifCond .ne 5, 3) := by decide +kernel
theorem dX7_feed_12 : decode cX7_feed 12 = .ok (.iconst (-1), 1) := by decide +kernel
theorem dX7_feed_13 : decode cX7_feed 13 = .ok (.ireturn, 1) := by decide +kernel
theorem dX7_feed_14 : decode cX7_feed 14 = .ok (.aload_n 0, 1) := by decide +kernel
theorem dX7_feed_15 : decode cX7_feed 15 = .ok (.getfield 72, 3) := by decide +kernel
theorem dX7_feed_18 : decode cX7_feed 18 = .ok (.sipush 160, 3) := by decide +kernel
theorem dX7_feed_21 : decode cX7_feed 21 = .ok (.if_icmp .ne 6, 3) := by decide +kernel
theorem dX7_feed_24 : decode cX7_feed 24 = .ok (.bipush (-3), 2) := by decide +kernel
theorem dX7_feed_26 : decode cX7_feed 26 = .ok (.ireturn, 1) := by decide +kernel
theorem dX7_feed_27 : decode cX7_feed 27 = .ok (.aload_n 0, 1) := by decide +kernel
theorem dX7_feed_28 : decode cX7_feed 28 = .ok (.getfield 28, 3) := by decide +kernel
theorem dX7_feed_31 : decode cX7_feed 31 = .ok (.aload_n 0, 1) := by decide +kernel
theorem dX7_feed_32 : decode cX7_feed 32 = .ok (.getfield 72, 3) := by decide +kernel
theorem dX7_feed_35 : decode cX7_feed 35 = .ok (.iload_n 1, 1) := by decide +kernel
theorem dX7_feed_36 : decode cX7_feed 36 = .ok (.iastore, 1) := by decide +kernel
theorem dX7_feed_37 : decode cX7_feed 37 = .ok (.aload_n 0, 1) := by decide +kernel
theorem dX7_feed_38 : decode cX7_feed 38 = .ok (.dup, 1) := by decide +kernel
theorem dX7_feed_39 : decode cX7_feed 39 = .ok (.getfield 72, 3) := by decide +kernel
theorem dX7_feed_42 : decode cX7_feed 42 = .ok (.iconst 1, 1) := by decide +kernel
theorem dX7_feed_43 : decode cX7_feed 43 = .ok (.iadd, 1) := by decide +kernel
theorem dX7_feed_44 : decode cX7_feed 44 = .ok (.putfield 72, 3) := by decide +kernel
theorem dX7_feed_47 : decode cX7_feed 47 = .ok (.aload_n 0, 1) := by decide +kernel
theorem dX7_feed_48 : decode cX7_feed 48 = .ok (.getfield 72, 3) := by decide +kernel
theorem dX7_feed_51 : decode cX7_feed 51 = .ok (.ireturn, 1) := by decide +kernel
theorem dX7_end_0 : decode cX7_end 0 = .ok (.iload_n 1, 1) := by decide +kernel
theorem dX7_end_1 : decode cX7_end 1 = .ok (.i2l, 1) := by decide +kernel
theorem dX7_end_2 : decode cX7_end 2 = .ok (.lconst 0, 1) := by decide +kernel
theorem dX7_end_3 : decode cX7_end 3 = .ok (.aload_n 0, 1) := by decide +kernel
theorem dX7_end_4 : decode cX7_end 4 = .ok (.getfield 72, 3) := by decide +kernel
theorem dX7_end_7 : decode cX7_end 7 = .ok (.i2l, 1) := by decide +kernel
theorem dX7_end_8 : decode cX7_end 8 = .ok (.invokestatic 68, 3) := by decide +kernel
theorem dX7_end_11 : decode cX7_end 11 = .ok (.ifCond .ne 5, 3) := by decide +kernel
theorem dX7_end_14 : decode cX7_end 14 = .ok (.iconst (-1), 1) := by decide +kernel
theorem dX7_end_15 : decode cX7_end 15 = .ok (.ireturn, 1) := by decide +kernel
theorem dX7_end_16 : decode cX7_end 16 = .ok (.aload_n 0, 1) := by decide +kernel
theorem dX7_end_17 : decode cX7_end 17 = .ok (.getfield 72, 3) := by decide +kernel
theorem dX7_end_20 : decode cX7_end 20 = .ok (.istore_n 2, 1) := by decide +kernel
theorem dX7_end_21 : decode cX7_end 21 = .ok (.aload_n 0, 1) := by decide +kernel
theorem dX7_end_22 : decode cX7_end 22 = .ok (.iload_n 1, 1) := by decide +kernel
theorem dX7_end_23 : decode cX7_end 23 = .ok (.putfield 72, 3) := by decide +kernel
theorem dX7_end_26 : decode cX7_end 26 = .ok (.iload_n 2, 1) := by decide +kernel
theorem dX7_end_27 : decode cX7_end 27 = .ok (.ireturn, 1) := by decide +kernel
theorem dX7_byteAt_0 : decode cX7_byteAt 0 = .ok (.iload_n 1, 1) := by decide +kernel
theorem dX7_byteAt_1 : decode cX7_byteAt 1 = .ok (.aload_n 0, 1) := by decide +kernel
theorem dX7_byteAt_2 : decode cX7_byteAt 2 = .ok (.getfield 72, 3) := by decide +kernel
theorem dX7_byteAt_5 : decode cX7_byteAt 5 = .ok (.if_icmp .ge 12, 3) := by decide +kernel
theorem dX7_byteAt_8 : decode cX7_byteAt 8 = .ok (.aload_n 0, 1) := by decide +kernel
theorem dX7_byteAt_9 : decode cX7_byteAt 9 = .ok (.getfield 28, 3) := by decide +kernel
theorem dX7_byteAt_12 : decode cX7_byteAt 12 = .ok (.iload_n 1, 1) := by decide +kernel
theorem dX7_byteAt_13 : decode cX7_byteAt 13 = .ok (.iaload, 1) := by decide +kernel
theorem dX7_byteAt_14 : decode cX7_byteAt 14 = .ok (.goto 5, 3) := by decide +kernel
theorem dX7_byteAt_17 : decode cX7_byteAt 17 = .ok (.bipush (-4), 2) := by decide +kernel
theorem dX7_byteAt_19 : decode cX7_byteAt 19 = .ok (.ireturn, 1) := by decide +kernel
theorem dX7_fails_0 : decode cX7_fails 0 = .ok (.aload_n 0, 1) := by decide +kernel
theorem dX7_fails_1 : decode cX7_fails 1 = .ok (.getfield 76, 3) := by decide +kernel
theorem dX7_fails_4 : decode cX7_fails 4 = .ok (.ifCond .ne 16, 3) := by decide +kernel
theorem dX7_fails_7 : decode cX7_fails 7 = .ok (.aload_n 0, 1) := by decide +kernel
theorem dX7_fails_8 : decode cX7_fails 8 = .ok (.iload_n 1, 1) := by decide +kernel
theorem dX7_fails_9 : decode cX7_fails 9 = .ok (.putfield 76, 3) := by decide +kernel
theorem dX7_fails_12 : decode cX7_fails 12 = .ok (.aload_n 0, 1) := by decide +kernel
theorem dX7_fails_13 : decode cX7_fails 13 = .ok (.aload_n 0, 1) := by decide +kernel
theorem dX7_fails_14 : decode cX7_fails 14 = .ok (.getfield 79, 3) := by decide +kernel
theorem dX7_fails_17 : decode cX7_fails 17 = .ok (.putfield 82, 3) := by decide +kernel
theorem dX7_fails_20 : decode cX7_fails 20 = .ok (.return_, 1) := by decide +kernel
theorem dX7_wordHere_0 : decode cX7_wordHere 0 = .ok (.iconst 0, 1) := by decide +kernel
theorem dX7_wordHere_1 : decode cX7_wordHere 1 = .ok (.istore_n 1, 1) := by decide +kernel
theorem dX7_wordHere_2 : decode cX7_wordHere 2 = .ok (.iload_n 1, 1) := by decide +kernel
theorem dX7_wordHere_3 : decode cX7_wordHere 3 = .ok (.bipush 9, 2) := by decide +kernel
theorem dX7_wordHere_5 : decode cX7_wordHere 5 = .ok (.if_icmp .ge 113, 3) := by decide +kernel
theorem dX7_wordHere_8 : decode cX7_wordHere 8 = .ok (.aload_n 0, 1) := by decide +kernel
theorem dX7_wordHere_9 : decode cX7_wordHere 9 = .ok (.getfield 85, 3) := by decide +kernel
theorem dX7_wordHere_12 : decode cX7_wordHere 12 = .ok (.iconst 1, 1) := by decide +kernel
theorem dX7_wordHere_13 : decode cX7_wordHere 13 = .ok (.if_icmp .ne 105, 3) := by decide +kernel
theorem dX7_wordHere_16 : decode cX7_wordHere 16 = .ok (.aload_n 0, 1) := by decide +kernel
theorem dX7_wordHere_17 : decode cX7_wordHere 17 = .ok (.getfield 88, 3) := by decide +kernel
theorem dX7_wordHere_20 : decode cX7_wordHere 20 = .ok (.aload_n 0, 1) := by decide +kernel
theorem dX7_wordHere_21 : decode cX7_wordHere 21 = .ok (.getfield 79, 3) := by decide +kernel
theorem dX7_wordHere_24 : decode cX7_wordHere 24 = .ok (.isub, 1) := by decide +kernel
theorem dX7_wordHere_25 : decode cX7_wordHere 25 = .ok (.aload_n 0, 1) := by decide +kernel
theorem dX7_wordHere_26 : decode cX7_wordHere 26 = .ok (.getfield 31, 3) := by decide +kernel
theorem dX7_wordHere_29 : decode cX7_wordHere 29 = .ok (.iload_n 1, 1) := by decide +kernel
theorem dX7_wordHere_30 : decode cX7_wordHere 30 = .ok (.iconst 1, 1) := by decide +kernel
theorem dX7_wordHere_31 : decode cX7_wordHere 31 = .ok (.iadd, 1) := by decide +kernel
theorem dX7_wordHere_32 : decode cX7_wordHere 32 = .ok (.iaload, 1) := by decide +kernel
theorem dX7_wordHere_33 : decode cX7_wordHere 33 = .ok (.aload_n 0, 1) := by decide +kernel
theorem dX7_wordHere_34 : decode cX7_wordHere 34 = .ok (.getfield 31, 3) := by decide +kernel
theorem dX7_wordHere_37 : decode cX7_wordHere 37 = .ok (.iload_n 1, 1) := by decide +kernel
theorem dX7_wordHere_38 : decode cX7_wordHere 38 = .ok (.iaload, 1) := by decide +kernel
theorem dX7_wordHere_39 : decode cX7_wordHere 39 = .ok (.isub, 1) := by decide +kernel
theorem dX7_wordHere_40 : decode cX7_wordHere 40 = .ok (.if_icmp .ne 7, 3) := by decide +kernel
theorem dX7_wordHere_43 : decode cX7_wordHere 43 = .ok (.iconst 1, 1) := by decide +kernel
theorem dX7_wordHere_44 : decode cX7_wordHere 44 = .ok (.goto 4, 3) := by decide +kernel
theorem dX7_wordHere_47 : decode cX7_wordHere 47 = .ok (.iconst 0, 1) := by decide +kernel
theorem dX7_wordHere_48 : decode cX7_wordHere 48 = .ok (.istore_n 2, 1) := by decide +kernel
theorem dX7_wordHere_49 : decode cX7_wordHere 49 = .ok (.iconst 0, 1) := by decide +kernel
theorem dX7_wordHere_50 : decode cX7_wordHere 50 = .ok (.istore_n 3, 1) := by decide +kernel
theorem dX7_wordHere_51 : decode cX7_wordHere 51 = .ok (.iload_n 2, 1) := by decide +kernel
theorem dX7_wordHere_52 : decode cX7_wordHere 52 = .ok (.ifCond .eq 54, 3) := by decide +kernel
theorem dX7_wordHere_55 : decode cX7_wordHere 55 = .ok (.iload_n 3, 1) := by decide +kernel
theorem dX7_wordHere_56 : decode cX7_wordHere 56 = .ok (.aload_n 0, 1) := by decide +kernel
theorem dX7_wordHere_57 : decode cX7_wordHere 57 = .ok (.getfield 88, 3) := by decide +kernel
theorem dX7_wordHere_60 : decode cX7_wordHere 60 = .ok (.aload_n 0, 1) := by decide +kernel
theorem dX7_wordHere_61 : decode cX7_wordHere 61 = .ok (.getfield 79, 3) := by decide +kernel
theorem dX7_wordHere_64 : decode cX7_wordHere 64 = .ok (.isub, 1) := by decide +kernel
theorem dX7_wordHere_65 : decode cX7_wordHere 65 = .ok (.if_icmp .ge 41, 3) := by decide +kernel
theorem dX7_wordHere_68 : decode cX7_wordHere 68 = .ok (.aload_n 0, 1) := by decide +kernel
theorem dX7_wordHere_69 : decode cX7_wordHere 69 = .ok (.aload_n 0, 1) := by decide +kernel
theorem dX7_wordHere_70 : decode cX7_wordHere 70 = .ok (.getfield 79, 3) := by decide +kernel
theorem dX7_wordHere_73 : decode cX7_wordHere 73 = .ok (.iload_n 3, 1) := by decide +kernel
theorem dX7_wordHere_74 : decode cX7_wordHere 74 = .ok (.iadd, 1) := by decide +kernel
theorem dX7_wordHere_75 : decode cX7_wordHere 75 = .ok (.invokevirtual 91, 3) := by decide +kernel
theorem dX7_wordHere_78 : decode cX7_wordHere 78 = .ok (.aload_n 0, 1) := by decide +kernel
theorem dX7_wordHere_79 : decode cX7_wordHere 79 = .ok (.getfield 34, 3) := by decide +kernel
theorem dX7_wordHere_82 : decode cX7_wordHere 82 = .ok (.aload_n 0, 1) := by decide +kernel
theorem dX7_wordHere_83 : decode cX7_wordHere 83 = .ok (.getfield 31, 3) := by decide +kernel
theorem dX7_wordHere_86 : decode cX7_wordHere 86 = .ok (.iload_n 1, 1) := by decide +kernel
theorem dX7_wordHere_87 : decode cX7_wordHere 87 = .ok (.iaload, 1) := by decide +kernel
theorem dX7_wordHere_88 : decode cX7_wordHere 88 = .ok (.iload_n 3, 1) := by decide +kernel
theorem dX7_wordHere_89 : decode cX7_wordHere 89 = .ok (.iadd, 1) := by decide +kernel
theorem dX7_wordHere_90 : decode cX7_wordHere 90 = .ok (.iaload, 1) := by decide +kernel
theorem dX7_wordHere_91 : decode cX7_wordHere 91 = .ok (.if_icmp .ne 7, 3) := by decide +kernel
theorem dX7_wordHere_94 : decode cX7_wordHere 94 = .ok (.iconst 1, 1) := by decide +kernel
theorem dX7_wordHere_95 : decode cX7_wordHere 95 = .ok (.goto 4, 3) := by decide +kernel
theorem dX7_wordHere_98 : decode cX7_wordHere 98 = .ok (.iconst 0, 1) := by decide +kernel
theorem dX7_wordHere_99 : decode cX7_wordHere 99 = .ok (.istore_n 2, 1) := by decide +kernel
theorem dX7_wordHere_100 : decode cX7_wordHere 100 = .ok (.iinc 3 1, 3) := by decide +kernel
theorem dX7_wordHere_103 : decode cX7_wordHere 103 = .ok (.goto (-52), 3) := by decide +kernel
theorem dX7_wordHere_106 : decode cX7_wordHere 106 = .ok (.iload_n 2, 1) := by decide +kernel
theorem dX7_wordHere_107 : decode cX7_wordHere 107 = .ok (.ifCond .eq 5, 3) := by decide +kernel
theorem dX7_wordHere_110 : decode cX7_wordHere 110 = .ok (.iload_n 1, 1) := by decide +kernel
theorem dX7_wordHere_111 : decode cX7_wordHere 111 = .ok (.ireturn, 1) := by decide +kernel
theorem dX7_wordHere_112 : decode cX7_wordHere 112 = .ok (.iinc 1 1, 3) := by decide +kernel
theorem dX7_wordHere_115 : decode cX7_wordHere 115 = .ok (.goto (-113), 3) := by decide +kernel
theorem dX7_wordHere_118 : decode cX7_wordHere 118 = .ok (.bipush (-4), 2) := by decide +kernel
theorem dX7_wordHere_120 : decode cX7_wordHere 120 = .ok (.ireturn, 1) := by decide +kernel
theorem dX7_step_0 : decode cX7_step 0 = .ok (.aload_n 0, 1) := by decide +kernel
theorem dX7_step_1 : decode cX7_step 1 = .ok (.getfield 76, 3) := by decide +kernel
theorem dX7_step_4 : decode cX7_step 4 = .ok (.ifCond .le 4, 3) := by decide +kernel
theorem dX7_step_7 : decode cX7_step 7 = .ok (.return_, 1) := by decide +kernel
theorem dX7_step_8 : decode cX7_step 8 = .ok (.aload_n 0, 1) := by decide +kernel
theorem dX7_step_9 : decode cX7_step 9 = .ok (.aload_n 0, 1) := by decide +kernel
theorem dX7_step_10 : decode cX7_step 10 = .ok (.getfield 88, 3) := by decide +kernel
theorem dX7_step_13 : decode cX7_step 13 = .ok (.invokevirtual 91, 3) := by decide +kernel
theorem dX7_step_16 : decode cX7_step 16 = .ok (.bipush 32, 2) := by decide +kernel
theorem dX7_step_18 : decode cX7_step 18 = .ok (.if_icmp .ne 16, 3) := by decide +kernel
theorem dX7_step_21 : decode cX7_step 21 = .ok (.aload_n 0, 1) := by decide +kernel
theorem dX7_step_22 : decode cX7_step 22 = .ok (.dup, 1) := by decide +kernel
theorem dX7_step_23 : decode cX7_step 23 = .ok (.getfield 88, 3) := by decide +kernel
theorem dX7_step_26 : decode cX7_step 26 = .ok (.iconst 1, 1) := by decide +kernel
theorem dX7_step_27 : decode cX7_step 27 = .ok (.iadd, 1) := by decide +kernel
theorem dX7_step_28 : decode cX7_step 28 = .ok (.putfield 88, 3) := by decide +kernel
theorem dX7_step_31 : decode cX7_step 31 = .ok (.goto (-23), 3) := by decide +kernel
theorem dX7_step_34 : decode cX7_step 34 = .ok (.aload_n 0, 1) := by decide +kernel
theorem dX7_step_35 : decode cX7_step 35 = .ok (.aload_n 0, 1) := by decide +kernel
theorem dX7_step_36 : decode cX7_step 36 = .ok (.getfield 88, 3) := by decide +kernel
theorem dX7_step_39 : decode cX7_step 39 = .ok (.putfield 79, 3) := by decide +kernel
theorem dX7_step_42 : decode cX7_step 42 = .ok (.aload_n 0, 1) := by decide +kernel
theorem dX7_step_43 : decode cX7_step 43 = .ok (.aload_n 0, 1) := by decide +kernel
theorem dX7_step_44 : decode cX7_step 44 = .ok (.getfield 88, 3) := by decide +kernel
theorem dX7_step_47 : decode cX7_step 47 = .ok (.invokevirtual 91, 3) := by decide +kernel
theorem dX7_step_50 : decode cX7_step 50 = .ok (.istore_n 1, 1) := by decide +kernel
theorem dX7_step_51 : decode cX7_step 51 = .ok (.aload_n 0, 1) := by decide +kernel
theorem dX7_step_52 : decode cX7_step 52 = .ok (.iconst 0, 1) := by decide +kernel
theorem dX7_step_53 : decode cX7_step 53 = .ok (.putfield 95, 3) := by decide +kernel
theorem dX7_step_56 : decode cX7_step 56 = .ok (.iload_n 1, 1) := by decide +kernel
theorem dX7_step_57 : decode cX7_step 57 = .ok (.bipush (-4), 2) := by decide +kernel
theorem dX7_step_59 : decode cX7_step 59 = .ok (.if_icmp .ne 11, 3) := by decide +kernel
theorem dX7_step_62 : decode cX7_step 62 = .ok (.aload_n 0, 1) := by decide +kernel
theorem dX7_step_63 : decode cX7_step 63 = .ok (.iconst 0, 1) := by decide +kernel
theorem dX7_step_64 : decode cX7_step 64 = .ok (.putfield 85, 3) := by decide +kernel
theorem dX7_step_67 : decode cX7_step 67 = .ok (.goto 202, 3) := by decide +kernel
theorem dX7_step_70 : decode cX7_step 70 = .ok (.iload_n 1, 1) := by decide +kernel
theorem dX7_step_71 : decode cX7_step 71 = .ok (.i2l, 1) := by decide +kernel
theorem dX7_step_72 : decode cX7_step 72 = .ok (.ldc2_w 98, 3) := by decide +kernel
theorem dX7_step_75 : decode cX7_step 75 = .ok (.ldc2_w 100, 3) := by decide +kernel
theorem dX7_step_78 : decode cX7_step 78 = .ok (.invokestatic 68, 3) := by decide +kernel
theorem dX7_step_81 : decode cX7_step 81 = .ok (.ifCond .eq 45, 3) := by decide +kernel
theorem dX7_step_84 : decode cX7_step 84 = .ok (.aload_n 0, 1) := by decide +kernel
theorem dX7_step_85 : decode cX7_step 85 = .ok (.aload_n 0, 1) := by decide +kernel
theorem dX7_step_86 : decode cX7_step 86 = .ok (.getfield 88, 3) := by decide +kernel
theorem dX7_step_89 : decode cX7_step 89 = .ok (.invokevirtual 91, 3) := by decide +kernel
theorem dX7_step_92 : decode cX7_step 92 = .ok (.i2l, 1) := by decide +kernel
theorem dX7_step_93 : decode cX7_step 93 = .ok (.ldc2_w 98, 3) := by decide +kernel
theorem dX7_step_96 : decode cX7_step 96 = .ok (.ldc2_w 100, 3) := by decide +kernel
theorem dX7_step_99 : decode cX7_step 99 = .ok (.invokestatic 68, 3) := by decide +kernel
theorem dX7_step_102 : decode cX7_step 102 = .ok (.ifCond .eq 16, 3) := by decide +kernel
theorem dX7_step_105 : decode cX7_step 105 = .ok (.aload_n 0, 1) := by decide +kernel
theorem dX7_step_106 : decode cX7_step 106 = .ok (.dup, 1) := by decide +kernel
theorem dX7_step_107 : decode cX7_step 107 = .ok (.getfield 88, 3) := by decide +kernel
theorem dX7_step_110 : decode cX7_step 110 = .ok (.iconst 1, 1) := by decide +kernel
theorem dX7_step_111 : decode cX7_step 111 = .ok (.iadd, 1) := by decide +kernel
theorem dX7_step_112 : decode cX7_step 112 = .ok (.putfield 88, 3) := by decide +kernel
theorem dX7_step_115 : decode cX7_step 115 = .ok (.goto (-31), 3) := by decide +kernel
theorem dX7_step_118 : decode cX7_step 118 = .ok (.aload_n 0, 1) := by decide +kernel
theorem dX7_step_119 : decode cX7_step 119 = .ok (.iconst 1, 1) := by decide +kernel
theorem dX7_step_120 : decode cX7_step 120 = .ok (.putfield 85, 3) := by decide +kernel
theorem dX7_step_123 : decode cX7_step 123 = .ok (.goto 146, 3) := by decide +kernel
theorem dX7_step_126 : decode cX7_step 126 = .ok (.iload_n 1, 1) := by decide +kernel
theorem dX7_step_127 : decode cX7_step 127 = .ok (.i2l, 1) := by decide +kernel
theorem dX7_step_128 : decode cX7_step 128 = .ok (.ldc2_w 102, 3) := by decide +kernel
theorem dX7_step_131 : decode cX7_step 131 = .ok (.ldc2_w 104, 3) := by decide +kernel
theorem dX7_step_134 : decode cX7_step 134 = .ok (.invokestatic 68, 3) := by decide +kernel
theorem dX7_step_137 : decode cX7_step 137 = .ok (.ifCond .eq 106, 3) := by decide +kernel
theorem dX7_step_140 : decode cX7_step 140 = .ok (.aload_n 0, 1) := by decide +kernel
theorem dX7_step_141 : decode cX7_step 141 = .ok (.aload_n 0, 1) := by decide +kernel
theorem dX7_step_142 : decode cX7_step 142 = .ok (.getfield 88, 3) := by decide +kernel
theorem dX7_step_145 : decode cX7_step 145 = .ok (.invokevirtual 91, 3) := by decide +kernel
theorem dX7_step_148 : decode cX7_step 148 = .ok (.i2l, 1) := by decide +kernel
theorem dX7_step_149 : decode cX7_step 149 = .ok (.ldc2_w 102, 3) := by decide +kernel
theorem dX7_step_152 : decode cX7_step 152 = .ok (.ldc2_w 104, 3) := by decide +kernel
theorem dX7_step_155 : decode cX7_step 155 = .ok (.invokestatic 68, 3) := by decide +kernel
theorem dX7_step_158 : decode cX7_step 158 = .ok (.ifCond .eq 59, 3) := by decide +kernel
theorem dX7_step_161 : decode cX7_step 161 = .ok (.aload_n 0, 1) := by decide +kernel
theorem dX7_step_162 : decode cX7_step 162 = .ok (.aload_n 0, 1) := by decide +kernel
theorem dX7_step_163 : decode cX7_step 163 = .ok (.getfield 88, 3) := by decide +kernel
theorem dX7_step_166 : decode cX7_step 166 = .ok (.aload_n 0, 1) := by decide +kernel
theorem dX7_step_167 : decode cX7_step 167 = .ok (.getfield 79, 3) := by decide +kernel
theorem dX7_step_170 : decode cX7_step 170 = .ok (.isub, 1) := by decide +kernel
theorem dX7_step_171 : decode cX7_step 171 = .ok (.iconst 2, 1) := by decide +kernel
theorem dX7_step_172 : decode cX7_step 172 = .ok (.if_icmp .ge 25, 3) := by decide +kernel
theorem dX7_step_175 : decode cX7_step 175 = .ok (.bipush 10, 2) := by decide +kernel
theorem dX7_step_177 : decode cX7_step 177 = .ok (.aload_n 0, 1) := by decide +kernel
theorem dX7_step_178 : decode cX7_step 178 = .ok (.getfield 95, 3) := by decide +kernel
theorem dX7_step_181 : decode cX7_step 181 = .ok (.imul, 1) := by decide +kernel
theorem dX7_step_182 : decode cX7_step 182 = .ok (.aload_n 0, 1) := by decide +kernel
theorem dX7_step_183 : decode cX7_step 183 = .ok (.aload_n 0, 1) := by decide +kernel
theorem dX7_step_184 : decode cX7_step 184 = .ok (.getfield 88, 3) := by decide +kernel
theorem dX7_step_187 : decode cX7_step 187 = .ok (.invokevirtual 91, 3) := by decide +kernel
theorem dX7_step_190 : decode cX7_step 190 = .ok (.iadd, 1) := by decide +kernel
theorem dX7_step_191 : decode cX7_step 191 = .ok (.bipush 48, 2) := by decide +kernel
theorem dX7_step_193 : decode cX7_step 193 = .ok (.isub, 1) := by decide +kernel
theorem dX7_step_194 : decode cX7_step 194 = .ok (.goto 7, 3) := by decide +kernel
theorem dX7_step_197 : decode cX7_step 197 = .ok (.aload_n 0, 1) := by decide +kernel
theorem dX7_step_198 : decode cX7_step 198 = .ok (.getfield 95, 3) := by decide +kernel
theorem dX7_step_201 : decode cX7_step 201 = .ok (.putfield 95, 3) := by decide +kernel
theorem dX7_step_204 : decode cX7_step 204 = .ok (.aload_n 0, 1) := by decide +kernel
theorem dX7_step_205 : decode cX7_step 205 = .ok (.dup, 1) := by decide +kernel
theorem dX7_step_206 : decode cX7_step 206 = .ok (.getfield 88, 3) := by decide +kernel
theorem dX7_step_209 : decode cX7_step 209 = .ok (.iconst 1, 1) := by decide +kernel
theorem dX7_step_210 : decode cX7_step 210 = .ok (.iadd, 1) := by decide +kernel
theorem dX7_step_211 : decode cX7_step 211 = .ok (.putfield 88, 3) := by decide +kernel
theorem dX7_step_214 : decode cX7_step 214 = .ok (.goto (-74), 3) := by decide +kernel
theorem dX7_step_217 : decode cX7_step 217 = .ok (.aload_n 0, 1) := by decide +kernel
theorem dX7_step_218 : decode cX7_step 218 = .ok (.iconst 2, 1) := by decide +kernel
theorem dX7_step_219 : decode cX7_step 219 = .ok (.putfield 85, 3) := by decide +kernel
theorem dX7_step_222 : decode cX7_step 222 = .ok (.aload_n 0, 1) := by decide +kernel
theorem dX7_step_223 : decode cX7_step 223 = .ok (.getfield 88, 3) := by decide +kernel
theorem dX7_step_226 : decode cX7_step 226 = .ok (.aload_n 0, 1) := by decide +kernel
theorem dX7_step_227 : decode cX7_step 227 = .ok (.getfield 79, 3) := by decide +kernel
theorem dX7_step_230 : decode cX7_step 230 = .ok (.isub, 1) := by decide +kernel
theorem dX7_step_231 : decode cX7_step 231 = .ok (.iconst 2, 1) := by decide +kernel
theorem dX7_step_232 : decode cX7_step 232 = .ok (.if_icmp .le 37, 3) := by decide +kernel
theorem dX7_step_235 : decode cX7_step 235 = .ok (.aload_n 0, 1) := by decide +kernel
theorem dX7_step_236 : decode cX7_step 236 = .ok (.iconst 1, 1) := by decide +kernel
theorem dX7_step_237 : decode cX7_step 237 = .ok (.invokevirtual 106, 3) := by decide +kernel
theorem dX7_step_240 : decode cX7_step 240 = .ok (.goto 29, 3) := by decide +kernel
theorem dX7_step_243 : decode cX7_step 243 = .ok (.aload_n 0, 1) := by decide +kernel
theorem dX7_step_244 : decode cX7_step 244 = .ok (.iconst 3, 1) := by decide +kernel
theorem dX7_step_245 : decode cX7_step 245 = .ok (.putfield 85, 3) := by decide +kernel
theorem dX7_step_248 : decode cX7_step 248 = .ok (.aload_n 0, 1) := by decide +kernel
theorem dX7_step_249 : decode cX7_step 249 = .ok (.dup, 1) := by decide +kernel
theorem dX7_step_250 : decode cX7_step 250 = .ok (.getfield 88, 3) := by decide +kernel
theorem dX7_step_253 : decode cX7_step 253 = .ok (.iconst 1, 1) := by decide +kernel
theorem dX7_step_254 : decode cX7_step 254 = .ok (.iadd, 1) := by decide +kernel
theorem dX7_step_255 : decode cX7_step 255 = .ok (.putfield 88, 3) := by decide +kernel
theorem dX7_step_258 : decode cX7_step 258 = .ok (.iload_n 1, 1) := by decide +kernel
theorem dX7_step_259 : decode cX7_step 259 = .ok (.bipush 59, 2) := by decide +kernel
theorem dX7_step_261 : decode cX7_step 261 = .ok (.if_icmp .eq 8, 3) := by decide +kernel
theorem dX7_step_264 : decode cX7_step 264 = .ok (.aload_n 0, 1) := by decide +kernel
theorem dX7_step_265 : decode cX7_step 265 = .ok (.iconst 1, 1) := by decide +kernel
theorem dX7_step_266 : decode cX7_step 266 = .ok (.invokevirtual 106, 3) := by decide +kernel
theorem dX7_step_269 : decode cX7_step 269 = .ok (.return_, 1) := by decide +kernel
theorem dX7_number_0 : decode cX7_number 0 = .ok (.aload_n 0, 1) := by decide +kernel
theorem dX7_number_1 : decode cX7_number 1 = .ok (.getfield 76, 3) := by decide +kernel
theorem dX7_number_4 : decode cX7_number 4 = .ok (.ifCond .ne 16, 3) := by decide +kernel
theorem dX7_number_7 : decode cX7_number 7 = .ok (.aload_n 0, 1) := by decide +kernel
theorem dX7_number_8 : decode cX7_number 8 = .ok (.getfield 85, 3) := by decide +kernel
theorem dX7_number_11 : decode cX7_number 11 = .ok (.iconst 2, 1) := by decide +kernel
theorem dX7_number_12 : decode cX7_number 12 = .ok (.if_icmp .eq 8, 3) := by decide +kernel
theorem dX7_number_15 : decode cX7_number 15 = .ok (.aload_n 0, 1) := by decide +kernel
theorem dX7_number_16 : decode cX7_number 16 = .ok (.iconst 2, 1) := by decide +kernel
theorem dX7_number_17 : decode cX7_number 17 = .ok (.invokevirtual 106, 3) := by decide +kernel
theorem dX7_number_20 : decode cX7_number 20 = .ok (.aload_n 0, 1) := by decide +kernel
theorem dX7_number_21 : decode cX7_number 21 = .ok (.getfield 76, 3) := by decide +kernel
theorem dX7_number_24 : decode cX7_number 24 = .ok (.ifCond .ne 23, 3) := by decide +kernel
theorem dX7_number_27 : decode cX7_number 27 = .ok (.aload_n 0, 1) := by decide +kernel
theorem dX7_number_28 : decode cX7_number 28 = .ok (.getfield 95, 3) := by decide +kernel
theorem dX7_number_31 : decode cX7_number 31 = .ok (.i2l, 1) := by decide +kernel
theorem dX7_number_32 : decode cX7_number 32 = .ok (.iload_n 1, 1) := by decide +kernel
theorem dX7_number_33 : decode cX7_number 33 = .ok (.i2l, 1) := by decide +kernel
theorem dX7_number_34 : decode cX7_number 34 = .ok (.iload_n 2, 1) := by decide +kernel
theorem dX7_number_35 : decode cX7_number 35 = .ok (.i2l, 1) := by decide +kernel
theorem dX7_number_36 : decode cX7_number 36 = .ok (.invokestatic 68, 3) := by decide +kernel
theorem dX7_number_39 : decode cX7_number 39 = .ok (.ifCond .ne 8, 3) := by decide +kernel
theorem dX7_number_42 : decode cX7_number 42 = .ok (.aload_n 0, 1) := by decide +kernel
theorem dX7_number_43 : decode cX7_number 43 = .ok (.iconst 3, 1) := by decide +kernel
theorem dX7_number_44 : decode cX7_number 44 = .ok (.invokevirtual 106, 3) := by decide +kernel
theorem dX7_number_47 : decode cX7_number 47 = .ok (.aload_n 0, 1) := by decide +kernel
theorem dX7_number_48 : decode cX7_number 48 = .ok (.getfield 76, 3) := by decide +kernel
theorem dX7_number_51 : decode cX7_number 51 = .ok (.ifCond .ne 10, 3) := by decide +kernel
theorem dX7_number_54 : decode cX7_number 54 = .ok (.aload_n 0, 1) := by decide +kernel
theorem dX7_number_55 : decode cX7_number 55 = .ok (.getfield 95, 3) := by decide +kernel
theorem dX7_number_58 : decode cX7_number 58 = .ok (.goto 4, 3) := by decide +kernel
theorem dX7_number_61 : decode cX7_number 61 = .ok (.iload_n 1, 1) := by decide +kernel
theorem dX7_number_62 : decode cX7_number 62 = .ok (.istore_n 3, 1) := by decide +kernel
theorem dX7_number_63 : decode cX7_number 63 = .ok (.aload_n 0, 1) := by decide +kernel
theorem dX7_number_64 : decode cX7_number 64 = .ok (.invokevirtual 110, 3) := by decide +kernel
theorem dX7_number_67 : decode cX7_number 67 = .ok (.iload_n 3, 1) := by decide +kernel
theorem dX7_number_68 : decode cX7_number 68 = .ok (.ireturn, 1) := by decide +kernel
theorem dX7_wordOf_0 : decode cX7_wordOf 0 = .ok (.aload_n 0, 1) := by decide +kernel
theorem dX7_wordOf_1 : decode cX7_wordOf 1 = .ok (.getfield 76, 3) := by decide +kernel
theorem dX7_wordOf_4 : decode cX7_wordOf 4 = .ok (.ifCond .ne 16, 3) := by decide +kernel
theorem dX7_wordOf_7 : decode cX7_wordOf 7 = .ok (.aload_n 0, 1) := by decide +kernel
theorem dX7_wordOf_8 : decode cX7_wordOf 8 = .ok (.getfield 85, 3) := by decide +kernel
theorem dX7_wordOf_11 : decode cX7_wordOf 11 = .ok (.iconst 1, 1) := by decide +kernel
theorem dX7_wordOf_12 : decode cX7_wordOf 12 = .ok (.if_icmp .eq 8, 3) := by decide +kernel
theorem dX7_wordOf_15 : decode cX7_wordOf 15 = .ok (.aload_n 0, 1) := by decide +kernel
theorem dX7_wordOf_16 : decode cX7_wordOf 16 = .ok (.iconst 2, 1) := by decide +kernel
theorem dX7_wordOf_17 : decode cX7_wordOf 17 = .ok (.invokevirtual 106, 3) := by decide +kernel
theorem dX7_wordOf_20 : decode cX7_wordOf 20 = .ok (.aload_n 0, 1) := by decide +kernel
theorem dX7_wordOf_21 : decode cX7_wordOf 21 = .ok (.getfield 76, 3) := by decide +kernel
theorem dX7_wordOf_24 : decode cX7_wordOf 24 = .ok (.ifCond .ne 21, 3) := by decide +kernel
theorem dX7_wordOf_27 : decode cX7_wordOf 27 = .ok (.aload_n 0, 1) := by decide +kernel
theorem dX7_wordOf_28 : decode cX7_wordOf 28 = .ok (.getfield 88, 3) := by decide +kernel
theorem dX7_wordOf_31 : decode cX7_wordOf 31 = .ok (.aload_n 0, 1) := by decide +kernel
theorem dX7_wordOf_32 : decode cX7_wordOf 32 = .ok (.getfield 79, 3) := by decide +kernel
theorem dX7_wordOf_35 : decode cX7_wordOf 35 = .ok (.isub, 1) := by decide +kernel
theorem dX7_wordOf_36 : decode cX7_wordOf 36 = .ok (.iload_n 1, 1) := by decide +kernel
theorem dX7_wordOf_37 : decode cX7_wordOf 37 = .ok (.if_icmp .le 8, 3) := by decide +kernel
theorem dX7_wordOf_40 : decode cX7_wordOf 40 = .ok (.aload_n 0, 1) := by decide +kernel
theorem dX7_wordOf_41 : decode cX7_wordOf 41 = .ok (.iconst 3, 1) := by decide +kernel
theorem dX7_wordOf_42 : decode cX7_wordOf 42 = .ok (.invokevirtual 106, 3) := by decide +kernel
theorem dX7_wordOf_45 : decode cX7_wordOf 45 = .ok (.return_, 1) := by decide +kernel
theorem dX7_writes_0 : decode cX7_writes 0 = .ok (.aload_n 0, 1) := by decide +kernel
theorem dX7_writes_1 : decode cX7_writes 1 = .ok (.getfield 76, 3) := by decide +kernel
theorem dX7_writes_4 : decode cX7_writes 4 = .ok (.ifCond .le 4, 3) := by decide +kernel
theorem dX7_writes_7 : decode cX7_writes 7 = .ok (.return_, 1) := by decide +kernel
theorem dX7_writes_8 : decode cX7_writes 8 = .ok (.aload_n 1, 1) := by decide +kernel
theorem dX7_writes_9 : decode cX7_writes 9 = .ok (.iload_n 2, 1) := by decide +kernel
theorem dX7_writes_10 : decode cX7_writes 10 = .ok (.aload_n 0, 1) := by decide +kernel
theorem dX7_writes_11 : decode cX7_writes 11 = .ok (.getfield 88, 3) := by decide +kernel
theorem dX7_writes_14 : decode cX7_writes 14 = .ok (.aload_n 0, 1) := by decide +kernel
theorem dX7_writes_15 : decode cX7_writes 15 = .ok (.getfield 79, 3) := by decide +kernel
theorem dX7_writes_18 : decode cX7_writes 18 = .ok (.isub, 1) := by decide +kernel
theorem dX7_writes_19 : decode cX7_writes 19 = .ok (.iastore, 1) := by decide +kernel
theorem dX7_writes_20 : decode cX7_writes 20 = .ok (.iconst 0, 1) := by decide +kernel
theorem dX7_writes_21 : decode cX7_writes 21 = .ok (.istore_n 3, 1) := by decide +kernel
theorem dX7_writes_22 : decode cX7_writes 22 = .ok (.iload_n 3, 1) := by decide +kernel
theorem dX7_writes_23 : decode cX7_writes 23 = .ok (.aload_n 0, 1) := by decide +kernel
theorem dX7_writes_24 : decode cX7_writes 24 = .ok (.getfield 88, 3) := by decide +kernel
theorem dX7_writes_27 : decode cX7_writes 27 = .ok (.aload_n 0, 1) := by decide +kernel
theorem dX7_writes_28 : decode cX7_writes 28 = .ok (.getfield 79, 3) := by decide +kernel
theorem dX7_writes_31 : decode cX7_writes 31 = .ok (.isub, 1) := by decide +kernel
theorem dX7_writes_32 : decode cX7_writes 32 = .ok (.if_icmp .ge 29, 3) := by decide +kernel
theorem dX7_writes_35 : decode cX7_writes 35 = .ok (.aload_n 1, 1) := by decide +kernel
theorem dX7_writes_36 : decode cX7_writes 36 = .ok (.iload_n 2, 1) := by decide +kernel
theorem dX7_writes_37 : decode cX7_writes 37 = .ok (.iconst 1, 1) := by decide +kernel
theorem dX7_writes_38 : decode cX7_writes 38 = .ok (.iadd, 1) := by decide +kernel
theorem dX7_writes_39 : decode cX7_writes 39 = .ok (.iload_n 3, 1) := by decide +kernel
theorem dX7_writes_40 : decode cX7_writes 40 = .ok (.iadd, 1) := by decide +kernel
theorem dX7_writes_41 : decode cX7_writes 41 = .ok (.aload_n 0, 1) := by decide +kernel
theorem dX7_writes_42 : decode cX7_writes 42 = .ok (.aload_n 0, 1) := by decide +kernel
theorem dX7_writes_43 : decode cX7_writes 43 = .ok (.getfield 79, 3) := by decide +kernel
theorem dX7_writes_46 : decode cX7_writes 46 = .ok (.iload_n 3, 1) := by decide +kernel
theorem dX7_writes_47 : decode cX7_writes 47 = .ok (.iadd, 1) := by decide +kernel
theorem dX7_writes_48 : decode cX7_writes 48 = .ok (.invokevirtual 91, 3) := by decide +kernel
theorem dX7_writes_51 : decode cX7_writes 51 = .ok (.bipush 97, 2) := by decide +kernel
theorem dX7_writes_53 : decode cX7_writes 53 = .ok (.isub, 1) := by decide +kernel
theorem dX7_writes_54 : decode cX7_writes 54 = .ok (.iastore, 1) := by decide +kernel
theorem dX7_writes_55 : decode cX7_writes 55 = .ok (.iinc 3 1, 3) := by decide +kernel
theorem dX7_writes_58 : decode cX7_writes 58 = .ok (.goto (-36), 3) := by decide +kernel
theorem dX7_writes_61 : decode cX7_writes 61 = .ok (.return_, 1) := by decide +kernel
theorem dX7_isTold_0 : decode cX7_isTold 0 = .ok (.aload_n 0, 1) := by decide +kernel
theorem dX7_isTold_1 : decode cX7_isTold 1 = .ok (.getfield 22, 3) := by decide +kernel
theorem dX7_isTold_4 : decode cX7_isTold 4 = .ok (.bipush 9, 2) := by decide +kernel
theorem dX7_isTold_6 : decode cX7_isTold 6 = .ok (.iload_n 1, 1) := by decide +kernel
theorem dX7_isTold_7 : decode cX7_isTold 7 = .ok (.imul, 1) := by decide +kernel
theorem dX7_isTold_8 : decode cX7_isTold 8 = .ok (.iaload, 1) := by decide +kernel
theorem dX7_isTold_9 : decode cX7_isTold 9 = .ok (.aload_n 0, 1) := by decide +kernel
theorem dX7_isTold_10 : decode cX7_isTold 10 = .ok (.getfield 88, 3) := by decide +kernel
theorem dX7_isTold_13 : decode cX7_isTold 13 = .ok (.aload_n 0, 1) := by decide +kernel
theorem dX7_isTold_14 : decode cX7_isTold 14 = .ok (.getfield 79, 3) := by decide +kernel
theorem dX7_isTold_17 : decode cX7_isTold 17 = .ok (.isub, 1) := by decide +kernel
theorem dX7_isTold_18 : decode cX7_isTold 18 = .ok (.if_icmp .ne 7, 3) := by decide +kernel
theorem dX7_isTold_21 : decode cX7_isTold 21 = .ok (.iconst 1, 1) := by decide +kernel
theorem dX7_isTold_22 : decode cX7_isTold 22 = .ok (.goto 4, 3) := by decide +kernel
theorem dX7_isTold_25 : decode cX7_isTold 25 = .ok (.iconst 0, 1) := by decide +kernel
theorem dX7_isTold_26 : decode cX7_isTold 26 = .ok (.istore_n 2, 1) := by decide +kernel
theorem dX7_isTold_27 : decode cX7_isTold 27 = .ok (.iconst 0, 1) := by decide +kernel
theorem dX7_isTold_28 : decode cX7_isTold 28 = .ok (.istore_n 3, 1) := by decide +kernel
theorem dX7_isTold_29 : decode cX7_isTold 29 = .ok (.iload_n 3, 1) := by decide +kernel
theorem dX7_isTold_30 : decode cX7_isTold 30 = .ok (.aload_n 0, 1) := by decide +kernel
theorem dX7_isTold_31 : decode cX7_isTold 31 = .ok (.getfield 88, 3) := by decide +kernel
theorem dX7_isTold_34 : decode cX7_isTold 34 = .ok (.aload_n 0, 1) := by decide +kernel
theorem dX7_isTold_35 : decode cX7_isTold 35 = .ok (.getfield 79, 3) := by decide +kernel
theorem dX7_isTold_38 : decode cX7_isTold 38 = .ok (.isub, 1) := by decide +kernel
theorem dX7_isTold_39 : decode cX7_isTold 39 = .ok (.if_icmp .ge 48, 3) := by decide +kernel
theorem dX7_isTold_42 : decode cX7_isTold 42 = .ok (.iload_n 2, 1) := by decide +kernel
theorem dX7_isTold_43 : decode cX7_isTold 43 = .ok (.ifCond .eq 44, 3) := by decide +kernel
theorem dX7_isTold_46 : decode cX7_isTold 46 = .ok (.aload_n 0, 1) := by decide +kernel
theorem dX7_isTold_47 : decode cX7_isTold 47 = .ok (.getfield 22, 3) := by decide +kernel
theorem dX7_isTold_50 : decode cX7_isTold 50 = .ok (.bipush 9, 2) := by decide +kernel
theorem dX7_isTold_52 : decode cX7_isTold 52 = .ok (.iload_n 1, 1) := by decide +kernel
theorem dX7_isTold_53 : decode cX7_isTold 53 = .ok (.imul, 1) := by decide +kernel
theorem dX7_isTold_54 : decode cX7_isTold 54 = .ok (.iconst 1, 1) := by decide +kernel
theorem dX7_isTold_55 : decode cX7_isTold 55 = .ok (.iadd, 1) := by decide +kernel
theorem dX7_isTold_56 : decode cX7_isTold 56 = .ok (.iload_n 3, 1) := by decide +kernel
theorem dX7_isTold_57 : decode cX7_isTold 57 = .ok (.iadd, 1) := by decide +kernel
theorem dX7_isTold_58 : decode cX7_isTold 58 = .ok (.iaload, 1) := by decide +kernel
theorem dX7_isTold_59 : decode cX7_isTold 59 = .ok (.aload_n 0, 1) := by decide +kernel
theorem dX7_isTold_60 : decode cX7_isTold 60 = .ok (.aload_n 0, 1) := by decide +kernel
theorem dX7_isTold_61 : decode cX7_isTold 61 = .ok (.getfield 79, 3) := by decide +kernel
theorem dX7_isTold_64 : decode cX7_isTold 64 = .ok (.iload_n 3, 1) := by decide +kernel
theorem dX7_isTold_65 : decode cX7_isTold 65 = .ok (.iadd, 1) := by decide +kernel
theorem dX7_isTold_66 : decode cX7_isTold 66 = .ok (.invokevirtual 91, 3) := by decide +kernel
theorem dX7_isTold_69 : decode cX7_isTold 69 = .ok (.bipush 97, 2) := by decide +kernel
theorem dX7_isTold_71 : decode cX7_isTold 71 = .ok (.isub, 1) := by decide +kernel
theorem dX7_isTold_72 : decode cX7_isTold 72 = .ok (.if_icmp .ne 7, 3) := by decide +kernel
theorem dX7_isTold_75 : decode cX7_isTold 75 = .ok (.iconst 1, 1) := by decide +kernel
theorem dX7_isTold_76 : decode cX7_isTold 76 = .ok (.goto 4, 3) := by decide +kernel
theorem dX7_isTold_79 : decode cX7_isTold 79 = .ok (.iconst 0, 1) := by decide +kernel
theorem dX7_isTold_80 : decode cX7_isTold 80 = .ok (.istore_n 2, 1) := by decide +kernel
theorem dX7_isTold_81 : decode cX7_isTold 81 = .ok (.iinc 3 1, 3) := by decide +kernel
theorem dX7_isTold_84 : decode cX7_isTold 84 = .ok (.goto (-55), 3) := by decide +kernel
theorem dX7_isTold_87 : decode cX7_isTold 87 = .ok (.iload_n 2, 1) := by decide +kernel
theorem dX7_isTold_88 : decode cX7_isTold 88 = .ok (.ireturn, 1) := by decide +kernel
theorem dX7_readName_0 : decode cX7_readName 0 = .ok (.aload_n 0, 1) := by decide +kernel
theorem dX7_readName_1 : decode cX7_readName 1 = .ok (.bipush 8, 2) := by decide +kernel
theorem dX7_readName_3 : decode cX7_readName 3 = .ok (.invokevirtual 113, 3) := by decide +kernel
theorem dX7_readName_6 : decode cX7_readName 6 = .ok (.iconst 0, 1) := by decide +kernel
theorem dX7_readName_7 : decode cX7_readName 7 = .ok (.istore_n 1, 1) := by decide +kernel
theorem dX7_readName_8 : decode cX7_readName 8 = .ok (.iload_n 1, 1) := by decide +kernel
theorem dX7_readName_9 : decode cX7_readName 9 = .ok (.aload_n 0, 1) := by decide +kernel
theorem dX7_readName_10 : decode cX7_readName 10 = .ok (.getfield 116, 3) := by decide +kernel
theorem dX7_readName_13 : decode cX7_readName 13 = .ok (.if_icmp .ge 29, 3) := by decide +kernel
theorem dX7_readName_16 : decode cX7_readName 16 = .ok (.aload_n 0, 1) := by decide +kernel
theorem dX7_readName_17 : decode cX7_readName 17 = .ok (.getfield 76, 3) := by decide +kernel
theorem dX7_readName_20 : decode cX7_readName 20 = .ok (.ifCond .ne 22, 3) := by decide +kernel
theorem dX7_readName_23 : decode cX7_readName 23 = .ok (.aload_n 0, 1) := by decide +kernel
theorem dX7_readName_24 : decode cX7_readName 24 = .ok (.iload_n 1, 1) := by decide +kernel
theorem dX7_readName_25 : decode cX7_readName 25 = .ok (.invokevirtual 119, 3) := by decide +kernel
theorem dX7_readName_28 : decode cX7_readName 28 = .ok (.ifCond .eq 8, 3) := by decide +kernel
theorem dX7_readName_31 : decode cX7_readName 31 = .ok (.aload_n 0, 1) := by decide +kernel
theorem dX7_readName_32 : decode cX7_readName 32 = .ok (.iconst 4, 1) := by decide +kernel
theorem dX7_readName_33 : decode cX7_readName 33 = .ok (.invokevirtual 106, 3) := by decide +kernel
theorem dX7_readName_36 : decode cX7_readName 36 = .ok (.iinc 1 1, 3) := by decide +kernel
theorem dX7_readName_39 : decode cX7_readName 39 = .ok (.goto (-31), 3) := by decide +kernel
theorem dX7_readName_42 : decode cX7_readName 42 = .ok (.aload_n 0, 1) := by decide +kernel
theorem dX7_readName_43 : decode cX7_readName 43 = .ok (.aload_n 0, 1) := by decide +kernel
theorem dX7_readName_44 : decode cX7_readName 44 = .ok (.getfield 22, 3) := by decide +kernel
theorem dX7_readName_47 : decode cX7_readName 47 = .ok (.bipush 9, 2) := by decide +kernel
theorem dX7_readName_49 : decode cX7_readName 49 = .ok (.aload_n 0, 1) := by decide +kernel
theorem dX7_readName_50 : decode cX7_readName 50 = .ok (.getfield 116, 3) := by decide +kernel
theorem dX7_readName_53 : decode cX7_readName 53 = .ok (.imul, 1) := by decide +kernel
theorem dX7_readName_54 : decode cX7_readName 54 = .ok (.invokevirtual 123, 3) := by decide +kernel
theorem dX7_readName_57 : decode cX7_readName 57 = .ok (.aload_n 0, 1) := by decide +kernel
theorem dX7_readName_58 : decode cX7_readName 58 = .ok (.invokevirtual 110, 3) := by decide +kernel
theorem dX7_readName_61 : decode cX7_readName 61 = .ok (.aload_n 0, 1) := by decide +kernel
theorem dX7_readName_62 : decode cX7_readName 62 = .ok (.getfield 19, 3) := by decide +kernel
theorem dX7_readName_65 : decode cX7_readName 65 = .ok (.aload_n 0, 1) := by decide +kernel
theorem dX7_readName_66 : decode cX7_readName 66 = .ok (.getfield 116, 3) := by decide +kernel
theorem dX7_readName_69 : decode cX7_readName 69 = .ok (.aload_n 0, 1) := by decide +kernel
theorem dX7_readName_70 : decode cX7_readName 70 = .ok (.iconst 1, 1) := by decide +kernel
theorem dX7_readName_71 : decode cX7_readName 71 = .ok (.bipush 9, 2) := by decide +kernel
theorem dX7_readName_73 : decode cX7_readName 73 = .ok (.invokevirtual 127, 3) := by decide +kernel
theorem dX7_readName_76 : decode cX7_readName 76 = .ok (.iastore, 1) := by decide +kernel
theorem dX7_readName_77 : decode cX7_readName 77 = .ok (.aload_n 0, 1) := by decide +kernel
theorem dX7_readName_78 : decode cX7_readName 78 = .ok (.dup, 1) := by decide +kernel
theorem dX7_readName_79 : decode cX7_readName 79 = .ok (.getfield 116, 3) := by decide +kernel
theorem dX7_readName_82 : decode cX7_readName 82 = .ok (.iconst 1, 1) := by decide +kernel
theorem dX7_readName_83 : decode cX7_readName 83 = .ok (.iadd, 1) := by decide +kernel
theorem dX7_readName_84 : decode cX7_readName 84 = .ok (.putfield 116, 3) := by decide +kernel
theorem dX7_readName_87 : decode cX7_readName 87 = .ok (.return_, 1) := by decide +kernel
theorem dX7_readPair_0 : decode cX7_readPair 0 = .ok (.bipush 11, 2) := by decide +kernel
theorem dX7_readPair_2 : decode cX7_readPair 2 = .ok (.iconst 2, 1) := by decide +kernel
theorem dX7_readPair_3 : decode cX7_readPair 3 = .ok (.aload_n 0, 1) := by decide +kernel
theorem dX7_readPair_4 : decode cX7_readPair 4 = .ok (.getfield 19, 3) := by decide +kernel
theorem dX7_readPair_7 : decode cX7_readPair 7 = .ok (.bipush 21, 2) := by decide +kernel
theorem dX7_readPair_9 : decode cX7_readPair 9 = .ok (.iaload, 1) := by decide +kernel
theorem dX7_readPair_10 : decode cX7_readPair 10 = .ok (.imul, 1) := by decide +kernel
theorem dX7_readPair_11 : decode cX7_readPair 11 = .ok (.iadd, 1) := by decide +kernel
theorem dX7_readPair_12 : decode cX7_readPair 12 = .ok (.istore_n 1, 1) := by decide +kernel
theorem dX7_readPair_13 : decode cX7_readPair 13 = .ok (.aload_n 0, 1) := by decide +kernel
theorem dX7_readPair_14 : decode cX7_readPair 14 = .ok (.iconst 1, 1) := by decide +kernel
theorem dX7_readPair_15 : decode cX7_readPair 15 = .ok (.invokevirtual 113, 3) := by decide +kernel
theorem dX7_readPair_18 : decode cX7_readPair 18 = .ok (.aload_n 0, 1) := by decide +kernel
theorem dX7_readPair_19 : decode cX7_readPair 19 = .ok (.getfield 19, 3) := by decide +kernel
theorem dX7_readPair_22 : decode cX7_readPair 22 = .ok (.iload_n 1, 1) := by decide +kernel
theorem dX7_readPair_23 : decode cX7_readPair 23 = .ok (.aload_n 0, 1) := by decide +kernel
theorem dX7_readPair_24 : decode cX7_readPair 24 = .ok (.getfield 76, 3) := by decide +kernel
theorem dX7_readPair_27 : decode cX7_readPair 27 = .ok (.ifCond .ne 17, 3) := by decide +kernel
theorem dX7_readPair_30 : decode cX7_readPair 30 = .ok (.aload_n 0, 1) := by decide +kernel
theorem dX7_readPair_31 : decode cX7_readPair 31 = .ok (.aload_n 0, 1) := by decide +kernel
theorem dX7_readPair_32 : decode cX7_readPair 32 = .ok (.getfield 79, 3) := by decide +kernel
theorem dX7_readPair_35 : decode cX7_readPair 35 = .ok (.invokevirtual 91, 3) := by decide +kernel
theorem dX7_readPair_38 : decode cX7_readPair 38 = .ok (.bipush 97, 2) := by decide +kernel
theorem dX7_readPair_40 : decode cX7_readPair 40 = .ok (.isub, 1) := by decide +kernel
theorem dX7_readPair_41 : decode cX7_readPair 41 = .ok (.goto 4, 3) := by decide +kernel
theorem dX7_readPair_44 : decode cX7_readPair 44 = .ok (.iconst 0, 1) := by decide +kernel
theorem dX7_readPair_45 : decode cX7_readPair 45 = .ok (.iastore, 1) := by decide +kernel
theorem dX7_readPair_46 : decode cX7_readPair 46 = .ok (.aload_n 0, 1) := by decide +kernel
theorem dX7_readPair_47 : decode cX7_readPair 47 = .ok (.invokevirtual 110, 3) := by decide +kernel
theorem dX7_readPair_50 : decode cX7_readPair 50 = .ok (.aload_n 0, 1) := by decide +kernel
theorem dX7_readPair_51 : decode cX7_readPair 51 = .ok (.iconst 1, 1) := by decide +kernel
theorem dX7_readPair_52 : decode cX7_readPair 52 = .ok (.invokevirtual 113, 3) := by decide +kernel
theorem dX7_readPair_55 : decode cX7_readPair 55 = .ok (.aload_n 0, 1) := by decide +kernel
theorem dX7_readPair_56 : decode cX7_readPair 56 = .ok (.getfield 19, 3) := by decide +kernel
theorem dX7_readPair_59 : decode cX7_readPair 59 = .ok (.iload_n 1, 1) := by decide +kernel
theorem dX7_readPair_60 : decode cX7_readPair 60 = .ok (.iconst 1, 1) := by decide +kernel
theorem dX7_readPair_61 : decode cX7_readPair 61 = .ok (.iadd, 1) := by decide +kernel
theorem dX7_readPair_62 : decode cX7_readPair 62 = .ok (.aload_n 0, 1) := by decide +kernel
theorem dX7_readPair_63 : decode cX7_readPair 63 = .ok (.getfield 76, 3) := by decide +kernel
theorem dX7_readPair_66 : decode cX7_readPair 66 = .ok (.ifCond .ne 17, 3) := by decide +kernel
theorem dX7_readPair_69 : decode cX7_readPair 69 = .ok (.aload_n 0, 1) := by decide +kernel
theorem dX7_readPair_70 : decode cX7_readPair 70 = .ok (.aload_n 0, 1) := by decide +kernel
theorem dX7_readPair_71 : decode cX7_readPair 71 = .ok (.getfield 79, 3) := by decide +kernel
theorem dX7_readPair_74 : decode cX7_readPair 74 = .ok (.invokevirtual 91, 3) := by decide +kernel
theorem dX7_readPair_77 : decode cX7_readPair 77 = .ok (.bipush 97, 2) := by decide +kernel
theorem dX7_readPair_79 : decode cX7_readPair 79 = .ok (.isub, 1) := by decide +kernel
theorem dX7_readPair_80 : decode cX7_readPair 80 = .ok (.goto 4, 3) := by decide +kernel
theorem dX7_readPair_83 : decode cX7_readPair 83 = .ok (.iconst 1, 1) := by decide +kernel
theorem dX7_readPair_84 : decode cX7_readPair 84 = .ok (.iastore, 1) := by decide +kernel
theorem dX7_readPair_85 : decode cX7_readPair 85 = .ok (.aload_n 0, 1) := by decide +kernel
theorem dX7_readPair_86 : decode cX7_readPair 86 = .ok (.getfield 76, 3) := by decide +kernel
theorem dX7_readPair_89 : decode cX7_readPair 89 = .ok (.ifCond .ne 25, 3) := by decide +kernel
theorem dX7_readPair_92 : decode cX7_readPair 92 = .ok (.aload_n 0, 1) := by decide +kernel
theorem dX7_readPair_93 : decode cX7_readPair 93 = .ok (.getfield 19, 3) := by decide +kernel
theorem dX7_readPair_96 : decode cX7_readPair 96 = .ok (.iload_n 1, 1) := by decide +kernel
theorem dX7_readPair_97 : decode cX7_readPair 97 = .ok (.iaload, 1) := by decide +kernel
theorem dX7_readPair_98 : decode cX7_readPair 98 = .ok (.aload_n 0, 1) := by decide +kernel
theorem dX7_readPair_99 : decode cX7_readPair 99 = .ok (.getfield 19, 3) := by decide +kernel
theorem dX7_readPair_102 : decode cX7_readPair 102 = .ok (.iload_n 1, 1) := by decide +kernel
theorem dX7_readPair_103 : decode cX7_readPair 103 = .ok (.iconst 1, 1) := by decide +kernel
theorem dX7_readPair_104 : decode cX7_readPair 104 = .ok (.iadd, 1) := by decide +kernel
theorem dX7_readPair_105 : decode cX7_readPair 105 = .ok (.iaload, 1) := by decide +kernel
theorem dX7_readPair_106 : decode cX7_readPair 106 = .ok (.if_icmp .ne 8, 3) := by decide +kernel
theorem dX7_readPair_109 : decode cX7_readPair 109 = .ok (.aload_n 0, 1) := by decide +kernel
theorem dX7_readPair_110 : decode cX7_readPair 110 = .ok (.iconst 4, 1) := by decide +kernel
theorem dX7_readPair_111 : decode cX7_readPair 111 = .ok (.invokevirtual 106, 3) := by decide +kernel
theorem dX7_readPair_114 : decode cX7_readPair 114 = .ok (.aload_n 0, 1) := by decide +kernel
theorem dX7_readPair_115 : decode cX7_readPair 115 = .ok (.invokevirtual 110, 3) := by decide +kernel
theorem dX7_readPair_118 : decode cX7_readPair 118 = .ok (.aload_n 0, 1) := by decide +kernel
theorem dX7_readPair_119 : decode cX7_readPair 119 = .ok (.getfield 19, 3) := by decide +kernel
theorem dX7_readPair_122 : decode cX7_readPair 122 = .ok (.bipush 21, 2) := by decide +kernel
theorem dX7_readPair_124 : decode cX7_readPair 124 = .ok (.dup2, 1) := by decide +kernel
theorem dX7_readPair_125 : decode cX7_readPair 125 = .ok (.iaload, 1) := by decide +kernel
theorem dX7_readPair_126 : decode cX7_readPair 126 = .ok (.iconst 1, 1) := by decide +kernel
theorem dX7_readPair_127 : decode cX7_readPair 127 = .ok (.iadd, 1) := by decide +kernel
theorem dX7_readPair_128 : decode cX7_readPair 128 = .ok (.iastore, 1) := by decide +kernel
theorem dX7_readPair_129 : decode cX7_readPair 129 = .ok (.return_, 1) := by decide +kernel
theorem dX7_readLaw_0 : decode cX7_readLaw 0 = .ok (.aload_n 0, 1) := by decide +kernel
theorem dX7_readLaw_1 : decode cX7_readLaw 1 = .ok (.invokevirtual 131, 3) := by decide +kernel
theorem dX7_readLaw_4 : decode cX7_readLaw 4 = .ok (.iconst 4, 1) := by decide +kernel
theorem dX7_readLaw_5 : decode cX7_readLaw 5 = .ok (.isub, 1) := by decide +kernel
theorem dX7_readLaw_6 : decode cX7_readLaw 6 = .ok (.istore_n 1, 1) := by decide +kernel
theorem dX7_readLaw_7 : decode cX7_readLaw 7 = .ok (.aload_n 0, 1) := by decide +kernel
theorem dX7_readLaw_8 : decode cX7_readLaw 8 = .ok (.getfield 76, 3) := by decide +kernel
theorem dX7_readLaw_11 : decode cX7_readLaw 11 = .ok (.ifCond .ne 12, 3) := by decide +kernel
theorem dX7_readLaw_14 : decode cX7_readLaw 14 = .ok (.iload_n 1, 1) := by decide +kernel
theorem dX7_readLaw_15 : decode cX7_readLaw 15 = .ok (.ifCond .ge 8, 3) := by decide +kernel
theorem dX7_readLaw_18 : decode cX7_readLaw 18 = .ok (.aload_n 0, 1) := by decide +kernel
theorem dX7_readLaw_19 : decode cX7_readLaw 19 = .ok (.iconst 2, 1) := by decide +kernel
theorem dX7_readLaw_20 : decode cX7_readLaw 20 = .ok (.invokevirtual 106, 3) := by decide +kernel
theorem dX7_readLaw_23 : decode cX7_readLaw 23 = .ok (.aload_n 0, 1) := by decide +kernel
theorem dX7_readLaw_24 : decode cX7_readLaw 24 = .ok (.getfield 19, 3) := by decide +kernel
theorem dX7_readLaw_27 : decode cX7_readLaw 27 = .ok (.bipush 9, 2) := by decide +kernel
theorem dX7_readLaw_29 : decode cX7_readLaw 29 = .ok (.iload_n 1, 1) := by decide +kernel
theorem dX7_readLaw_30 : decode cX7_readLaw 30 = .ok (.iastore, 1) := by decide +kernel
theorem dX7_readLaw_31 : decode cX7_readLaw 31 = .ok (.aload_n 0, 1) := by decide +kernel
theorem dX7_readLaw_32 : decode cX7_readLaw 32 = .ok (.invokevirtual 110, 3) := by decide +kernel
theorem dX7_readLaw_35 : decode cX7_readLaw 35 = .ok (.aload_n 0, 1) := by decide +kernel
theorem dX7_readLaw_36 : decode cX7_readLaw 36 = .ok (.getfield 19, 3) := by decide +kernel
theorem dX7_readLaw_39 : decode cX7_readLaw 39 = .ok (.bipush 10, 2) := by decide +kernel
theorem dX7_readLaw_41 : decode cX7_readLaw 41 = .ok (.aload_n 0, 1) := by decide +kernel
theorem dX7_readLaw_42 : decode cX7_readLaw 42 = .ok (.iconst 0, 1) := by decide +kernel
theorem dX7_readLaw_43 : decode cX7_readLaw 43 = .ok (.bipush 8, 2) := by decide +kernel
theorem dX7_readLaw_45 : decode cX7_readLaw 45 = .ok (.invokevirtual 127, 3) := by decide +kernel
theorem dX7_readLaw_48 : decode cX7_readLaw 48 = .ok (.iastore, 1) := by decide +kernel
theorem dX7_readLaw_49 : decode cX7_readLaw 49 = .ok (.return_, 1) := by decide +kernel
theorem dX7_readLine_0 : decode cX7_readLine 0 = .ok (.aload_n 0, 1) := by decide +kernel
theorem dX7_readLine_1 : decode cX7_readLine 1 = .ok (.invokevirtual 131, 3) := by decide +kernel
theorem dX7_readLine_4 : decode cX7_readLine 4 = .ok (.istore_n 1, 1) := by decide +kernel
theorem dX7_readLine_5 : decode cX7_readLine 5 = .ok (.iload_n 1, 1) := by decide +kernel
theorem dX7_readLine_6 : decode cX7_readLine 6 = .ok (.i2l, 1) := by decide +kernel
theorem dX7_readLine_7 : decode cX7_readLine 7 = .ok (.lconst 0, 1) := by decide +kernel
theorem dX7_readLine_8 : decode cX7_readLine 8 = .ok (.ldc2_w 135, 3) := by decide +kernel
theorem dX7_readLine_11 : decode cX7_readLine 11 = .ok (.invokestatic 68, 3) := by decide +kernel
theorem dX7_readLine_14 : decode cX7_readLine 14 = .ok (.ifCond .ne 9, 3) := by decide +kernel
theorem dX7_readLine_17 : decode cX7_readLine 17 = .ok (.aload_n 0, 1) := by decide +kernel
theorem dX7_readLine_18 : decode cX7_readLine 18 = .ok (.iconst 2, 1) := by decide +kernel
theorem dX7_readLine_19 : decode cX7_readLine 19 = .ok (.invokevirtual 106, 3) := by decide +kernel
theorem dX7_readLine_22 : decode cX7_readLine 22 = .ok (.return_, 1) := by decide +kernel
theorem dX7_readLine_23 : decode cX7_readLine 23 = .ok (.iload_n 1, 1) := by decide +kernel
theorem dX7_readLine_24 : decode cX7_readLine 24 = .ok (.ifCond .ne 12, 3) := by decide +kernel
theorem dX7_readLine_27 : decode cX7_readLine 27 = .ok (.aload_n 0, 1) := by decide +kernel
theorem dX7_readLine_28 : decode cX7_readLine 28 = .ok (.getfield 116, 3) := by decide +kernel
theorem dX7_readLine_31 : decode cX7_readLine 31 = .ok (.bipush 9, 2) := by decide +kernel
theorem dX7_readLine_33 : decode cX7_readLine 33 = .ok (.if_icmp .eq 19, 3) := by decide +kernel
theorem dX7_readLine_36 : decode cX7_readLine 36 = .ok (.iload_n 1, 1) := by decide +kernel
theorem dX7_readLine_37 : decode cX7_readLine 37 = .ok (.iconst 2, 1) := by decide +kernel
theorem dX7_readLine_38 : decode cX7_readLine 38 = .ok (.if_icmp .ne 19, 3) := by decide +kernel
theorem dX7_readLine_41 : decode cX7_readLine 41 = .ok (.aload_n 0, 1) := by decide +kernel
theorem dX7_readLine_42 : decode cX7_readLine 42 = .ok (.getfield 19, 3) := by decide +kernel
theorem dX7_readLine_45 : decode cX7_readLine 45 = .ok (.bipush 21, 2) := by decide +kernel
theorem dX7_readLine_47 : decode cX7_readLine 47 = .ok (.iaload, 1) := by decide +kernel
theorem dX7_readLine_48 : decode cX7_readLine 48 = .ok (.iconst 5, 1) := by decide +kernel
theorem dX7_readLine_49 : decode cX7_readLine 49 = .ok (.if_icmp .ne 8, 3) := by decide +kernel
theorem dX7_readLine_52 : decode cX7_readLine 52 = .ok (.aload_n 0, 1) := by decide +kernel
theorem dX7_readLine_53 : decode cX7_readLine 53 = .ok (.iconst 5, 1) := by decide +kernel
theorem dX7_readLine_54 : decode cX7_readLine 54 = .ok (.invokevirtual 106, 3) := by decide +kernel
theorem dX7_readLine_57 : decode cX7_readLine 57 = .ok (.iload_n 1, 1) := by decide +kernel
theorem dX7_readLine_58 : decode cX7_readLine 58 = .ok (.iconst 1, 1) := by decide +kernel
theorem dX7_readLine_59 : decode cX7_readLine 59 = .ok (.if_icmp .eq 8, 3) := by decide +kernel
theorem dX7_readLine_62 : decode cX7_readLine 62 = .ok (.iload_n 1, 1) := by decide +kernel
theorem dX7_readLine_63 : decode cX7_readLine 63 = .ok (.iconst 3, 1) := by decide +kernel
theorem dX7_readLine_64 : decode cX7_readLine 64 = .ok (.if_icmp .ne 20, 3) := by decide +kernel
theorem dX7_readLine_67 : decode cX7_readLine 67 = .ok (.aload_n 0, 1) := by decide +kernel
theorem dX7_readLine_68 : decode cX7_readLine 68 = .ok (.getfield 137, 3) := by decide +kernel
theorem dX7_readLine_71 : decode cX7_readLine 71 = .ok (.iload_n 1, 1) := by decide +kernel
theorem dX7_readLine_72 : decode cX7_readLine 72 = .ok (.ishr, 1) := by decide +kernel
theorem dX7_readLine_73 : decode cX7_readLine 73 = .ok (.iconst 1, 1) := by decide +kernel
theorem dX7_readLine_74 : decode cX7_readLine 74 = .ok (.iand, 1) := by decide +kernel
theorem dX7_readLine_75 : decode cX7_readLine 75 = .ok (.iconst 1, 1) := by decide +kernel
theorem dX7_readLine_76 : decode cX7_readLine 76 = .ok (.if_icmp .ne 8, 3) := by decide +kernel
theorem dX7_readLine_79 : decode cX7_readLine 79 = .ok (.aload_n 0, 1) := by decide +kernel
theorem dX7_readLine_80 : decode cX7_readLine 80 = .ok (.iconst 4, 1) := by decide +kernel
theorem dX7_readLine_81 : decode cX7_readLine 81 = .ok (.invokevirtual 106, 3) := by decide +kernel
theorem dX7_readLine_84 : decode cX7_readLine 84 = .ok (.aload_n 0, 1) := by decide +kernel
theorem dX7_readLine_85 : decode cX7_readLine 85 = .ok (.dup, 1) := by decide +kernel
theorem dX7_readLine_86 : decode cX7_readLine 86 = .ok (.getfield 137, 3) := by decide +kernel
theorem dX7_readLine_89 : decode cX7_readLine 89 = .ok (.iconst 1, 1) := by decide +kernel
theorem dX7_readLine_90 : decode cX7_readLine 90 = .ok (.iload_n 1, 1) := by decide +kernel
theorem dX7_readLine_91 : decode cX7_readLine 91 = .ok (.ishl, 1) := by decide +kernel
theorem dX7_readLine_92 : decode cX7_readLine 92 = .ok (.ior, 1) := by decide +kernel
theorem dX7_readLine_93 : decode cX7_readLine 93 = .ok (.putfield 137, 3) := by decide +kernel
theorem dX7_readLine_96 : decode cX7_readLine 96 = .ok (.aload_n 0, 1) := by decide +kernel
theorem dX7_readLine_97 : decode cX7_readLine 97 = .ok (.invokevirtual 110, 3) := by decide +kernel
theorem dX7_readLine_100 : decode cX7_readLine 100 = .ok (.aload_n 0, 1) := by decide +kernel
theorem dX7_readLine_101 : decode cX7_readLine 101 = .ok (.getfield 76, 3) := by decide +kernel
theorem dX7_readLine_104 : decode cX7_readLine 104 = .ok (.ifCond .le 4, 3) := by decide +kernel
theorem dX7_readLine_107 : decode cX7_readLine 107 = .ok (.return_, 1) := by decide +kernel
theorem dX7_readLine_108 : decode cX7_readLine 108 = .ok (.iload_n 1, 1) := by decide +kernel
theorem dX7_readLine_109 : decode cX7_readLine 109 = .ok (.ifCond .ne 10, 3) := by decide +kernel
theorem dX7_readLine_112 : decode cX7_readLine 112 = .ok (.aload_n 0, 1) := by decide +kernel
theorem dX7_readLine_113 : decode cX7_readLine 113 = .ok (.invokevirtual 140, 3) := by decide +kernel
theorem dX7_readLine_116 : decode cX7_readLine 116 = .ok (.goto 46, 3) := by decide +kernel
theorem dX7_readLine_119 : decode cX7_readLine 119 = .ok (.iload_n 1, 1) := by decide +kernel
theorem dX7_readLine_120 : decode cX7_readLine 120 = .ok (.iconst 2, 1) := by decide +kernel
theorem dX7_readLine_121 : decode cX7_readLine 121 = .ok (.if_icmp .ne 10, 3) := by decide +kernel
theorem dX7_readLine_124 : decode cX7_readLine 124 = .ok (.aload_n 0, 1) := by decide +kernel
theorem dX7_readLine_125 : decode cX7_readLine 125 = .ok (.invokevirtual 143, 3) := by decide +kernel
theorem dX7_readLine_128 : decode cX7_readLine 128 = .ok (.goto 34, 3) := by decide +kernel
theorem dX7_readLine_131 : decode cX7_readLine 131 = .ok (.iload_n 1, 1) := by decide +kernel
theorem dX7_readLine_132 : decode cX7_readLine 132 = .ok (.iconst 1, 1) := by decide +kernel
theorem dX7_readLine_133 : decode cX7_readLine 133 = .ok (.if_icmp .ne 10, 3) := by decide +kernel
theorem dX7_readLine_136 : decode cX7_readLine 136 = .ok (.aload_n 0, 1) := by decide +kernel
theorem dX7_readLine_137 : decode cX7_readLine 137 = .ok (.invokevirtual 146, 3) := by decide +kernel
theorem dX7_readLine_140 : decode cX7_readLine 140 = .ok (.goto 22, 3) := by decide +kernel
theorem dX7_readLine_143 : decode cX7_readLine 143 = .ok (.aload_n 0, 1) := by decide +kernel
theorem dX7_readLine_144 : decode cX7_readLine 144 = .ok (.bipush 8, 2) := by decide +kernel
theorem dX7_readLine_146 : decode cX7_readLine 146 = .ok (.invokevirtual 113, 3) := by decide +kernel
theorem dX7_readLine_149 : decode cX7_readLine 149 = .ok (.aload_n 0, 1) := by decide +kernel
theorem dX7_readLine_150 : decode cX7_readLine 150 = .ok (.aload_n 0, 1) := by decide +kernel
theorem dX7_readLine_151 : decode cX7_readLine 151 = .ok (.getfield 25, 3) := by decide +kernel
theorem dX7_readLine_154 : decode cX7_readLine 154 = .ok (.iconst 0, 1) := by decide +kernel
theorem dX7_readLine_155 : decode cX7_readLine 155 = .ok (.invokevirtual 123, 3) := by decide +kernel
theorem dX7_readLine_158 : decode cX7_readLine 158 = .ok (.aload_n 0, 1) := by decide +kernel
theorem dX7_readLine_159 : decode cX7_readLine 159 = .ok (.invokevirtual 110, 3) := by decide +kernel
theorem dX7_readLine_162 : decode cX7_readLine 162 = .ok (.aload_n 0, 1) := by decide +kernel
theorem dX7_readLine_163 : decode cX7_readLine 163 = .ok (.getfield 76, 3) := by decide +kernel
theorem dX7_readLine_166 : decode cX7_readLine 166 = .ok (.ifCond .ne 16, 3) := by decide +kernel
theorem dX7_readLine_169 : decode cX7_readLine 169 = .ok (.aload_n 0, 1) := by decide +kernel
theorem dX7_readLine_170 : decode cX7_readLine 170 = .ok (.getfield 85, 3) := by decide +kernel
theorem dX7_readLine_173 : decode cX7_readLine 173 = .ok (.iconst 3, 1) := by decide +kernel
theorem dX7_readLine_174 : decode cX7_readLine 174 = .ok (.if_icmp .eq 8, 3) := by decide +kernel
theorem dX7_readLine_177 : decode cX7_readLine 177 = .ok (.aload_n 0, 1) := by decide +kernel
theorem dX7_readLine_178 : decode cX7_readLine 178 = .ok (.iconst 2, 1) := by decide +kernel
theorem dX7_readLine_179 : decode cX7_readLine 179 = .ok (.invokevirtual 106, 3) := by decide +kernel
theorem dX7_readLine_182 : decode cX7_readLine 182 = .ok (.aload_n 0, 1) := by decide +kernel
theorem dX7_readLine_183 : decode cX7_readLine 183 = .ok (.invokevirtual 110, 3) := by decide +kernel
theorem dX7_readLine_186 : decode cX7_readLine 186 = .ok (.return_, 1) := by decide +kernel
theorem dX7_text_0 : decode cX7_text 0 = .ok (.aload_n 0, 1) := by decide +kernel
theorem dX7_text_1 : decode cX7_text 1 = .ok (.iconst 0, 1) := by decide +kernel
theorem dX7_text_2 : decode cX7_text 2 = .ok (.putfield 76, 3) := by decide +kernel
theorem dX7_text_5 : decode cX7_text 5 = .ok (.aload_n 0, 1) := by decide +kernel
theorem dX7_text_6 : decode cX7_text 6 = .ok (.iconst 0, 1) := by decide +kernel
theorem dX7_text_7 : decode cX7_text 7 = .ok (.putfield 88, 3) := by decide +kernel
theorem dX7_text_10 : decode cX7_text 10 = .ok (.aload_n 0, 1) := by decide +kernel
theorem dX7_text_11 : decode cX7_text 11 = .ok (.iconst 0, 1) := by decide +kernel
theorem dX7_text_12 : decode cX7_text 12 = .ok (.putfield 116, 3) := by decide +kernel
theorem dX7_text_15 : decode cX7_text 15 = .ok (.aload_n 0, 1) := by decide +kernel
theorem dX7_text_16 : decode cX7_text 16 = .ok (.iconst 0, 1) := by decide +kernel
theorem dX7_text_17 : decode cX7_text 17 = .ok (.putfield 137, 3) := by decide +kernel
theorem dX7_text_20 : decode cX7_text 20 = .ok (.iconst 0, 1) := by decide +kernel
theorem dX7_text_21 : decode cX7_text 21 = .ok (.istore_n 1, 1) := by decide +kernel
theorem dX7_text_22 : decode cX7_text 22 = .ok (.aload_n 0, 1) := by decide +kernel
theorem dX7_text_23 : decode cX7_text 23 = .ok (.getfield 25, 3) := by decide +kernel
theorem dX7_text_26 : decode cX7_text 26 = .ok (.iconst 0, 1) := by decide +kernel
theorem dX7_text_27 : decode cX7_text 27 = .ok (.iconst 0, 1) := by decide +kernel
theorem dX7_text_28 : decode cX7_text 28 = .ok (.iastore, 1) := by decide +kernel
theorem dX7_text_29 : decode cX7_text 29 = .ok (.iconst 0, 1) := by decide +kernel
theorem dX7_text_30 : decode cX7_text 30 = .ok (.istore_n 2, 1) := by decide +kernel
theorem dX7_text_31 : decode cX7_text 31 = .ok (.iload_n 2, 1) := by decide +kernel
theorem dX7_text_32 : decode cX7_text 32 = .ok (.bipush 60, 2) := by decide +kernel
theorem dX7_text_34 : decode cX7_text 34 = .ok (.if_icmp .ge 16, 3) := by decide +kernel
theorem dX7_text_37 : decode cX7_text 37 = .ok (.aload_n 0, 1) := by decide +kernel
theorem dX7_text_38 : decode cX7_text 38 = .ok (.getfield 19, 3) := by decide +kernel
theorem dX7_text_41 : decode cX7_text 41 = .ok (.iload_n 2, 1) := by decide +kernel
theorem dX7_text_42 : decode cX7_text 42 = .ok (.iconst 0, 1) := by decide +kernel
theorem dX7_text_43 : decode cX7_text 43 = .ok (.iastore, 1) := by decide +kernel
theorem dX7_text_44 : decode cX7_text 44 = .ok (.iinc 2 1, 3) := by decide +kernel
theorem dX7_text_47 : decode cX7_text 47 = .ok (.goto (-16), 3) := by decide +kernel
theorem dX7_text_50 : decode cX7_text 50 = .ok (.aload_n 0, 1) := by decide +kernel
theorem dX7_text_51 : decode cX7_text 51 = .ok (.invokevirtual 110, 3) := by decide +kernel
theorem dX7_text_54 : decode cX7_text 54 = .ok (.aload_n 0, 1) := by decide +kernel
theorem dX7_text_55 : decode cX7_text 55 = .ok (.getfield 76, 3) := by decide +kernel
theorem dX7_text_58 : decode cX7_text 58 = .ok (.ifCond .ne 20, 3) := by decide +kernel
theorem dX7_text_61 : decode cX7_text 61 = .ok (.aload_n 0, 1) := by decide +kernel
theorem dX7_text_62 : decode cX7_text 62 = .ok (.getfield 85, 3) := by decide +kernel
theorem dX7_text_65 : decode cX7_text 65 = .ok (.ifCond .eq 13, 3) := by decide +kernel
theorem dX7_text_68 : decode cX7_text 68 = .ok (.aload_n 0, 1) := by decide +kernel
theorem dX7_text_69 : decode cX7_text 69 = .ok (.invokevirtual 149, 3) := by decide +kernel
theorem dX7_text_72 : decode cX7_text 72 = .ok (.iinc 1 1, 3) := by decide +kernel
theorem dX7_text_75 : decode cX7_text 75 = .ok (.goto (-21), 3) := by decide +kernel
theorem dX7_text_78 : decode cX7_text 78 = .ok (.aload_n 0, 1) := by decide +kernel
theorem dX7_text_79 : decode cX7_text 79 = .ok (.iconst 0, 1) := by decide +kernel
theorem dX7_text_80 : decode cX7_text 80 = .ok (.putfield 72, 3) := by decide +kernel
theorem dX7_text_83 : decode cX7_text 83 = .ok (.aload_n 0, 1) := by decide +kernel
theorem dX7_text_84 : decode cX7_text 84 = .ok (.aload_n 0, 1) := by decide +kernel
theorem dX7_text_85 : decode cX7_text 85 = .ok (.getfield 76, 3) := by decide +kernel
theorem dX7_text_88 : decode cX7_text 88 = .ok (.putfield 152, 3) := by decide +kernel
theorem dX7_text_91 : decode cX7_text 91 = .ok (.aload_n 0, 1) := by decide +kernel
