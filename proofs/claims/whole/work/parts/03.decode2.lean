theorem dX6_feed_30 : decode cX6_feed 30 = .ok (.getfield 91, 3) := by decide +kernel
theorem dX6_feed_33 : decode cX6_feed 33 = .ok (.iload_n 1, 1) := by decide +kernel
theorem dX6_feed_34 : decode cX6_feed 34 = .ok (.i2b, 1) := by decide +kernel
theorem dX6_feed_35 : decode cX6_feed 35 = .ok (.bastore, 1) := by decide +kernel
theorem dX6_feed_36 : decode cX6_feed 36 = .ok (.aload_n 0, 1) := by decide +kernel
theorem dX6_feed_37 : decode cX6_feed 37 = .ok (.dup, 1) := by decide +kernel
theorem dX6_feed_38 : decode cX6_feed 38 = .ok (.getfield 91, 3) := by decide +kernel
theorem dX6_feed_41 : decode cX6_feed 41 = .ok (.iconst 1, 1) := by decide +kernel
theorem dX6_feed_42 : decode cX6_feed 42 = .ok (.iadd, 1) := by decide +kernel
theorem dX6_feed_43 : decode cX6_feed 43 = .ok (.putfield 91, 3) := by decide +kernel
theorem dX6_feed_46 : decode cX6_feed 46 = .ok (.aload_n 0, 1) := by decide +kernel
theorem dX6_feed_47 : decode cX6_feed 47 = .ok (.getfield 91, 3) := by decide +kernel
theorem dX6_feed_50 : decode cX6_feed 50 = .ok (.ireturn, 1) := by decide +kernel
theorem dX6_end_0 : decode cX6_end 0 = .ok (.iload_n 1, 1) := by decide +kernel
theorem dX6_end_1 : decode cX6_end 1 = .ok (.iconst 0, 1) := by decide +kernel
theorem dX6_end_2 : decode cX6_end 2 = .ok (.aload_n 0, 1) := by decide +kernel
theorem dX6_end_3 : decode cX6_end 3 = .ok (.getfield 91, 3) := by decide +kernel
theorem dX6_end_6 : decode cX6_end 6 = .ok (.invokestatic 87, 3) := by decide +kernel
theorem dX6_end_9 : decode cX6_end 9 = .ok (.ifCond .ne 5, 3) := by decide +kernel
theorem dX6_end_12 : decode cX6_end 12 = .ok (.iconst (-1), 1) := by decide +kernel
theorem dX6_end_13 : decode cX6_end 13 = .ok (.ireturn, 1) := by decide +kernel
theorem dX6_end_14 : decode cX6_end 14 = .ok (.aload_n 0, 1) := by decide +kernel
theorem dX6_end_15 : decode cX6_end 15 = .ok (.getfield 91, 3) := by decide +kernel
theorem dX6_end_18 : decode cX6_end 18 = .ok (.istore_n 2, 1) := by decide +kernel
theorem dX6_end_19 : decode cX6_end 19 = .ok (.aload_n 0, 1) := by decide +kernel
theorem dX6_end_20 : decode cX6_end 20 = .ok (.iload_n 1, 1) := by decide +kernel
theorem dX6_end_21 : decode cX6_end 21 = .ok (.putfield 91, 3) := by decide +kernel
theorem dX6_end_24 : decode cX6_end 24 = .ok (.iload_n 2, 1) := by decide +kernel
theorem dX6_end_25 : decode cX6_end 25 = .ok (.ireturn, 1) := by decide +kernel
theorem dX6_text_0 : decode cX6_text 0 = .ok (.aload_n 0, 1) := by decide +kernel
theorem dX6_text_1 : decode cX6_text 1 = .ok (.getfield 34, 3) := by decide +kernel
theorem dX6_text_4 : decode cX6_text 4 = .ok (.invokevirtual 95, 3) := by decide +kernel
theorem dX6_text_7 : decode cX6_text 7 = .ok (.aload_n 0, 1) := by decide +kernel
theorem dX6_text_8 : decode cX6_text 8 = .ok (.getfield 37, 3) := by decide +kernel
theorem dX6_text_11 : decode cX6_text 11 = .ok (.invokevirtual 98, 3) := by decide +kernel
theorem dX6_text_14 : decode cX6_text 14 = .ok (.aload_n 0, 1) := by decide +kernel
theorem dX6_text_15 : decode cX6_text 15 = .ok (.getfield 16, 3) := by decide +kernel
theorem dX6_text_18 : decode cX6_text 18 = .ok (.aload_n 0, 1) := by decide +kernel
theorem dX6_text_19 : decode cX6_text 19 = .ok (.getfield 9, 3) := by decide +kernel
theorem dX6_text_22 : decode cX6_text 22 = .ok (.aload_n 0, 1) := by decide +kernel
theorem dX6_text_23 : decode cX6_text 23 = .ok (.getfield 91, 3) := by decide +kernel
theorem dX6_text_26 : decode cX6_text 26 = .ok (.aload_n 0, 1) := by decide +kernel
theorem dX6_text_27 : decode cX6_text 27 = .ok (.getfield 34, 3) := by decide +kernel
theorem dX6_text_30 : decode cX6_text 30 = .ok (.aload_n 0, 1) := by decide +kernel
theorem dX6_text_31 : decode cX6_text 31 = .ok (.getfield 37, 3) := by decide +kernel
theorem dX6_text_34 : decode cX6_text 34 = .ok (.invokevirtual 99, 3) := by decide +kernel
theorem dX6_text_37 : decode cX6_text 37 = .ok (.istore_n 1, 1) := by decide +kernel
theorem dX6_text_38 : decode cX6_text 38 = .ok (.aload_n 0, 1) := by decide +kernel
theorem dX6_text_39 : decode cX6_text 39 = .ok (.iconst 0, 1) := by decide +kernel
theorem dX6_text_40 : decode cX6_text 40 = .ok (.putfield 91, 3) := by decide +kernel
theorem dX6_text_43 : decode cX6_text 43 = .ok (.aload_n 0, 1) := by decide +kernel
theorem dX6_text_44 : decode cX6_text 44 = .ok (.aload_n 0, 1) := by decide +kernel
theorem dX6_text_45 : decode cX6_text 45 = .ok (.getfield 16, 3) := by decide +kernel
theorem dX6_text_48 : decode cX6_text 48 = .ok (.getfield 103, 3) := by decide +kernel
theorem dX6_text_51 : decode cX6_text 51 = .ok (.putfield 106, 3) := by decide +kernel
theorem dX6_text_54 : decode cX6_text 54 = .ok (.aload_n 0, 1) := by decide +kernel
theorem dX6_text_55 : decode cX6_text 55 = .ok (.getfield 106, 3) := by decide +kernel
theorem dX6_text_58 : decode cX6_text 58 = .ok (.ifCond .eq 14, 3) := by decide +kernel
theorem dX6_text_61 : decode cX6_text 61 = .ok (.bipush (-10), 2) := by decide +kernel
theorem dX6_text_63 : decode cX6_text 63 = .ok (.aload_n 0, 1) := by decide +kernel
theorem dX6_text_64 : decode cX6_text 64 = .ok (.getfield 16, 3) := by decide +kernel
theorem dX6_text_67 : decode cX6_text 67 = .ok (.getfield 109, 3) := by decide +kernel
theorem dX6_text_70 : decode cX6_text 70 = .ok (.isub, 1) := by decide +kernel
theorem dX6_text_71 : decode cX6_text 71 = .ok (.ireturn, 1) := by decide +kernel
theorem dX6_text_72 : decode cX6_text 72 = .ok (.aload_n 0, 1) := by decide +kernel
theorem dX6_text_73 : decode cX6_text 73 = .ok (.invokevirtual 112, 3) := by decide +kernel
theorem dX6_text_76 : decode cX6_text 76 = .ok (.iload_n 1, 1) := by decide +kernel
theorem dX6_text_77 : decode cX6_text 77 = .ok (.ireturn, 1) := by decide +kernel
theorem dX6_fault_0 : decode cX6_fault 0 = .ok (.aload_n 0, 1) := by decide +kernel
theorem dX6_fault_1 : decode cX6_fault 1 = .ok (.getfield 106, 3) := by decide +kernel
theorem dX6_fault_4 : decode cX6_fault 4 = .ok (.ireturn, 1) := by decide +kernel
theorem dX6_rule_0 : decode cX6_rule 0 = .ok (.iload_n 1, 1) := by decide +kernel
theorem dX6_rule_1 : decode cX6_rule 1 = .ok (.tableswitch 75 0 4 #[35, 43, 51, 59, 67], 35) := by decide +kernel
theorem dX6_rule_36 : decode cX6_rule 36 = .ok (.aload_n 0, 1) := by decide +kernel
theorem dX6_rule_37 : decode cX6_rule 37 = .ok (.getfield 23, 3) := by decide +kernel
theorem dX6_rule_40 : decode cX6_rule 40 = .ok (.getfield 115, 3) := by decide +kernel
theorem dX6_rule_43 : decode cX6_rule 43 = .ok (.ireturn, 1) := by decide +kernel
theorem dX6_rule_44 : decode cX6_rule 44 = .ok (.aload_n 0, 1) := by decide +kernel
theorem dX6_rule_45 : decode cX6_rule 45 = .ok (.getfield 30, 3) := by decide +kernel
theorem dX6_rule_48 : decode cX6_rule 48 = .ok (.getfield 118, 3) := by decide +kernel
theorem dX6_rule_51 : decode cX6_rule 51 = .ok (.ireturn, 1) := by decide +kernel
theorem dX6_rule_52 : decode cX6_rule 52 = .ok (.aload_n 0, 1) := by decide +kernel
theorem dX6_rule_53 : decode cX6_rule 53 = .ok (.getfield 30, 3) := by decide +kernel
theorem dX6_rule_56 : decode cX6_rule 56 = .ok (.getfield 121, 3) := by decide +kernel
theorem dX6_rule_59 : decode cX6_rule 59 = .ok (.ireturn, 1) := by decide +kernel
theorem dX6_rule_60 : decode cX6_rule 60 = .ok (.aload_n 0, 1) := by decide +kernel
theorem dX6_rule_61 : decode cX6_rule 61 = .ok (.getfield 30, 3) := by decide +kernel
theorem dX6_rule_64 : decode cX6_rule 64 = .ok (.getfield 124, 3) := by decide +kernel
theorem dX6_rule_67 : decode cX6_rule 67 = .ok (.ireturn, 1) := by decide +kernel
theorem dX6_rule_68 : decode cX6_rule 68 = .ok (.aload_n 0, 1) := by decide +kernel
theorem dX6_rule_69 : decode cX6_rule 69 = .ok (.getfield 23, 3) := by decide +kernel
theorem dX6_rule_72 : decode cX6_rule 72 = .ok (.getfield 127, 3) := by decide +kernel
theorem dX6_rule_75 : decode cX6_rule 75 = .ok (.ireturn, 1) := by decide +kernel
theorem dX6_rule_76 : decode cX6_rule 76 = .ok (.iconst (-1), 1) := by decide +kernel
theorem dX6_rule_77 : decode cX6_rule 77 = .ok (.ireturn, 1) := by decide +kernel
theorem dX6_name_0 : decode cX6_name 0 = .ok (.aload_n 0, 1) := by decide +kernel
theorem dX6_name_1 : decode cX6_name 1 = .ok (.iload_n 1, 1) := by decide +kernel
theorem dX6_name_2 : decode cX6_name 2 = .ok (.invokevirtual 130, 3) := by decide +kernel
theorem dX6_name_5 : decode cX6_name 5 = .ok (.ifCond .ne 5, 3) := by decide +kernel
theorem dX6_name_8 : decode cX6_name 8 = .ok (.iconst (-1), 1) := by decide +kernel
theorem dX6_name_9 : decode cX6_name 9 = .ok (.ireturn, 1) := by decide +kernel
theorem dX6_name_10 : decode cX6_name 10 = .ok (.iload_n 2, 1) := by decide +kernel
theorem dX6_name_11 : decode cX6_name 11 = .ok (.ifCond .ne 13, 3) := by decide +kernel
theorem dX6_name_14 : decode cX6_name 14 = .ok (.aload_n 0, 1) := by decide +kernel
theorem dX6_name_15 : decode cX6_name 15 = .ok (.getfield 30, 3) := by decide +kernel
theorem dX6_name_18 : decode cX6_name 18 = .ok (.getfield 134, 3) := by decide +kernel
theorem dX6_name_21 : decode cX6_name 21 = .ok (.iload_n 1, 1) := by decide +kernel
theorem dX6_name_22 : decode cX6_name 22 = .ok (.iaload, 1) := by decide +kernel
theorem dX6_name_23 : decode cX6_name 23 = .ok (.ireturn, 1) := by decide +kernel
theorem dX6_name_24 : decode cX6_name 24 = .ok (.iload_n 2, 1) := by decide +kernel
theorem dX6_name_25 : decode cX6_name 25 = .ok (.iconst 1, 1) := by decide +kernel
theorem dX6_name_26 : decode cX6_name 26 = .ok (.if_icmp .ne 13, 3) := by decide +kernel
theorem dX6_name_29 : decode cX6_name 29 = .ok (.aload_n 0, 1) := by decide +kernel
theorem dX6_name_30 : decode cX6_name 30 = .ok (.getfield 23, 3) := by decide +kernel
theorem dX6_name_33 : decode cX6_name 33 = .ok (.getfield 137, 3) := by decide +kernel
theorem dX6_name_36 : decode cX6_name 36 = .ok (.iload_n 1, 1) := by decide +kernel
theorem dX6_name_37 : decode cX6_name 37 = .ok (.iaload, 1) := by decide +kernel
theorem dX6_name_38 : decode cX6_name 38 = .ok (.ireturn, 1) := by decide +kernel
theorem dX6_name_39 : decode cX6_name 39 = .ok (.iload_n 2, 1) := by decide +kernel
theorem dX6_name_40 : decode cX6_name 40 = .ok (.bipush 10, 2) := by decide +kernel
theorem dX6_name_42 : decode cX6_name 42 = .ok (.bipush 10, 2) := by decide +kernel
theorem dX6_name_44 : decode cX6_name 44 = .ok (.aload_n 0, 1) := by decide +kernel
theorem dX6_name_45 : decode cX6_name 45 = .ok (.getfield 23, 3) := by decide +kernel
theorem dX6_name_48 : decode cX6_name 48 = .ok (.getfield 137, 3) := by decide +kernel
theorem dX6_name_51 : decode cX6_name 51 = .ok (.iload_n 1, 1) := by decide +kernel
theorem dX6_name_52 : decode cX6_name 52 = .ok (.iaload, 1) := by decide +kernel
theorem dX6_name_53 : decode cX6_name 53 = .ok (.iadd, 1) := by decide +kernel
theorem dX6_name_54 : decode cX6_name 54 = .ok (.iconst 1, 1) := by decide +kernel
theorem dX6_name_55 : decode cX6_name 55 = .ok (.isub, 1) := by decide +kernel
theorem dX6_name_56 : decode cX6_name 56 = .ok (.invokestatic 87, 3) := by decide +kernel
theorem dX6_name_59 : decode cX6_name 59 = .ok (.ifCond .ne 5, 3) := by decide +kernel
theorem dX6_name_62 : decode cX6_name 62 = .ok (.iconst (-1), 1) := by decide +kernel
theorem dX6_name_63 : decode cX6_name 63 = .ok (.ireturn, 1) := by decide +kernel
theorem dX6_name_64 : decode cX6_name 64 = .ok (.aload_n 0, 1) := by decide +kernel
theorem dX6_name_65 : decode cX6_name 65 = .ok (.getfield 23, 3) := by decide +kernel
theorem dX6_name_68 : decode cX6_name 68 = .ok (.iload_n 1, 1) := by decide +kernel
theorem dX6_name_69 : decode cX6_name 69 = .ok (.iload_n 2, 1) := by decide +kernel
theorem dX6_name_70 : decode cX6_name 70 = .ok (.bipush 10, 2) := by decide +kernel
theorem dX6_name_72 : decode cX6_name 72 = .ok (.isub, 1) := by decide +kernel
theorem dX6_name_73 : decode cX6_name 73 = .ok (.invokevirtual 140, 3) := by decide +kernel
theorem dX6_name_76 : decode cX6_name 76 = .ok (.ireturn, 1) := by decide +kernel
theorem dX6_wrote_0 : decode cX6_wrote 0 = .ok (.iload_n 1, 1) := by decide +kernel
theorem dX6_wrote_1 : decode cX6_wrote 1 = .ok (.iconst 0, 1) := by decide +kernel
theorem dX6_wrote_2 : decode cX6_wrote 2 = .ok (.aload_n 0, 1) := by decide +kernel
theorem dX6_wrote_3 : decode cX6_wrote 3 = .ok (.getfield 23, 3) := by decide +kernel
theorem dX6_wrote_6 : decode cX6_wrote 6 = .ok (.getfield 127, 3) := by decide +kernel
theorem dX6_wrote_9 : decode cX6_wrote 9 = .ok (.iconst 1, 1) := by decide +kernel
theorem dX6_wrote_10 : decode cX6_wrote 10 = .ok (.isub, 1) := by decide +kernel
theorem dX6_wrote_11 : decode cX6_wrote 11 = .ok (.invokestatic 87, 3) := by decide +kernel
theorem dX6_wrote_14 : decode cX6_wrote 14 = .ok (.ifCond .eq 15, 3) := by decide +kernel
theorem dX6_wrote_17 : decode cX6_wrote 17 = .ok (.aload_n 0, 1) := by decide +kernel
theorem dX6_wrote_18 : decode cX6_wrote 18 = .ok (.getfield 23, 3) := by decide +kernel
theorem dX6_wrote_21 : decode cX6_wrote 21 = .ok (.getfield 144, 3) := by decide +kernel
theorem dX6_wrote_24 : decode cX6_wrote 24 = .ok (.iload_n 1, 1) := by decide +kernel
theorem dX6_wrote_25 : decode cX6_wrote 25 = .ok (.iaload, 1) := by decide +kernel
theorem dX6_wrote_26 : decode cX6_wrote 26 = .ok (.goto 4, 3) := by decide +kernel
theorem dX6_wrote_29 : decode cX6_wrote 29 = .ok (.iconst (-1), 1) := by decide +kernel
theorem dX6_wrote_30 : decode cX6_wrote 30 = .ok (.ireturn, 1) := by decide +kernel
theorem dX6_pair_0 : decode cX6_pair 0 = .ok (.iload_n 1, 1) := by decide +kernel
theorem dX6_pair_1 : decode cX6_pair 1 = .ok (.iconst 0, 1) := by decide +kernel
theorem dX6_pair_2 : decode cX6_pair 2 = .ok (.aload_n 0, 1) := by decide +kernel
theorem dX6_pair_3 : decode cX6_pair 3 = .ok (.getfield 30, 3) := by decide +kernel
theorem dX6_pair_6 : decode cX6_pair 6 = .ok (.getfield 124, 3) := by decide +kernel
theorem dX6_pair_9 : decode cX6_pair 9 = .ok (.iconst 1, 1) := by decide +kernel
theorem dX6_pair_10 : decode cX6_pair 10 = .ok (.isub, 1) := by decide +kernel
theorem dX6_pair_11 : decode cX6_pair 11 = .ok (.invokestatic 87, 3) := by decide +kernel
theorem dX6_pair_14 : decode cX6_pair 14 = .ok (.ifCond .eq 27, 3) := by decide +kernel
theorem dX6_pair_17 : decode cX6_pair 17 = .ok (.aload_n 0, 1) := by decide +kernel
theorem dX6_pair_18 : decode cX6_pair 18 = .ok (.getfield 30, 3) := by decide +kernel
theorem dX6_pair_21 : decode cX6_pair 21 = .ok (.getfield 147, 3) := by decide +kernel
theorem dX6_pair_24 : decode cX6_pair 24 = .ok (.iload_n 1, 1) := by decide +kernel
theorem dX6_pair_25 : decode cX6_pair 25 = .ok (.iaload, 1) := by decide +kernel
theorem dX6_pair_26 : decode cX6_pair 26 = .ok (.aload_n 0, 1) := by decide +kernel
theorem dX6_pair_27 : decode cX6_pair 27 = .ok (.getfield 30, 3) := by decide +kernel
theorem dX6_pair_30 : decode cX6_pair 30 = .ok (.getfield 150, 3) := by decide +kernel
theorem dX6_pair_33 : decode cX6_pair 33 = .ok (.iload_n 1, 1) := by decide +kernel
theorem dX6_pair_34 : decode cX6_pair 34 = .ok (.iaload, 1) := by decide +kernel
theorem dX6_pair_35 : decode cX6_pair 35 = .ok (.invokestatic 153, 3) := by decide +kernel
theorem dX6_pair_38 : decode cX6_pair 38 = .ok (.goto 4, 3) := by decide +kernel
theorem dX6_pair_41 : decode cX6_pair 41 = .ok (.iconst (-1), 1) := by decide +kernel
theorem dX6_pair_42 : decode cX6_pair 42 = .ok (.ireturn, 1) := by decide +kernel
theorem dX6_odd_0 : decode cX6_odd 0 = .ok (.aload_n 0, 1) := by decide +kernel
theorem dX6_odd_1 : decode cX6_odd 1 = .ok (.iload_n 1, 1) := by decide +kernel
theorem dX6_odd_2 : decode cX6_odd 2 = .ok (.invokevirtual 130, 3) := by decide +kernel
theorem dX6_odd_5 : decode cX6_odd 5 = .ok (.ifCond .eq 13, 3) := by decide +kernel
theorem dX6_odd_8 : decode cX6_odd 8 = .ok (.iload_n 2, 1) := by decide +kernel
theorem dX6_odd_9 : decode cX6_odd 9 = .ok (.iconst 1, 1) := by decide +kernel
theorem dX6_odd_10 : decode cX6_odd 10 = .ok (.bipush 9, 2) := by decide +kernel
theorem dX6_odd_12 : decode cX6_odd 12 = .ok (.invokestatic 87, 3) := by decide +kernel
theorem dX6_odd_15 : decode cX6_odd 15 = .ok (.ifCond .ne 5, 3) := by decide +kernel
theorem dX6_odd_18 : decode cX6_odd 18 = .ok (.iconst (-1), 1) := by decide +kernel
theorem dX6_odd_19 : decode cX6_odd 19 = .ok (.ireturn, 1) := by decide +kernel
theorem dX6_odd_20 : decode cX6_odd 20 = .ok (.aload_n 0, 1) := by decide +kernel
theorem dX6_odd_21 : decode cX6_odd 21 = .ok (.getfield 30, 3) := by decide +kernel
theorem dX6_odd_24 : decode cX6_odd 24 = .ok (.getfield 134, 3) := by decide +kernel
theorem dX6_odd_27 : decode cX6_odd 27 = .ok (.iload_n 1, 1) := by decide +kernel
theorem dX6_odd_28 : decode cX6_odd 28 = .ok (.iaload, 1) := by decide +kernel
theorem dX6_odd_29 : decode cX6_odd 29 = .ok (.istore_n 3, 1) := by decide +kernel
theorem dX6_odd_30 : decode cX6_odd 30 = .ok (.aload_n 0, 1) := by decide +kernel
theorem dX6_odd_31 : decode cX6_odd 31 = .ok (.getfield 30, 3) := by decide +kernel
theorem dX6_odd_34 : decode cX6_odd 34 = .ok (.getfield 134, 3) := by decide +kernel
theorem dX6_odd_37 : decode cX6_odd 37 = .ok (.iload_n 1, 1) := by decide +kernel
theorem dX6_odd_38 : decode cX6_odd 38 = .ok (.iload_n 2, 1) := by decide +kernel
theorem dX6_odd_39 : decode cX6_odd 39 = .ok (.iastore, 1) := by decide +kernel
theorem dX6_odd_40 : decode cX6_odd 40 = .ok (.iload_n 3, 1) := by decide +kernel
theorem dX6_odd_41 : decode cX6_odd 41 = .ok (.ireturn, 1) := by decide +kernel
theorem dX6_law_0 : decode cX6_law 0 = .ok (.iload_n 1, 1) := by decide +kernel
theorem dX6_law_1 : decode cX6_law 1 = .ok (.iconst 0, 1) := by decide +kernel
theorem dX6_law_2 : decode cX6_law 2 = .ok (.iconst 4, 1) := by decide +kernel
theorem dX6_law_3 : decode cX6_law 3 = .ok (.invokestatic 87, 3) := by decide +kernel
theorem dX6_law_6 : decode cX6_law 6 = .ok (.ifCond .eq 13, 3) := by decide +kernel
theorem dX6_law_9 : decode cX6_law 9 = .ok (.iload_n 2, 1) := by decide +kernel
theorem dX6_law_10 : decode cX6_law 10 = .ok (.iconst 0, 1) := by decide +kernel
theorem dX6_law_11 : decode cX6_law 11 = .ok (.bipush 8, 2) := by decide +kernel
theorem dX6_law_13 : decode cX6_law 13 = .ok (.invokestatic 87, 3) := by decide +kernel
theorem dX6_law_16 : decode cX6_law 16 = .ok (.ifCond .ne 5, 3) := by decide +kernel
theorem dX6_law_19 : decode cX6_law 19 = .ok (.iconst (-1), 1) := by decide +kernel
theorem dX6_law_20 : decode cX6_law 20 = .ok (.ireturn, 1) := by decide +kernel
theorem dX6_law_21 : decode cX6_law 21 = .ok (.aload_n 0, 1) := by decide +kernel
theorem dX6_law_22 : decode cX6_law 22 = .ok (.getfield 30, 3) := by decide +kernel
theorem dX6_law_25 : decode cX6_law 25 = .ok (.getfield 118, 3) := by decide +kernel
theorem dX6_law_28 : decode cX6_law 28 = .ok (.istore_n 3, 1) := by decide +kernel
theorem dX6_law_29 : decode cX6_law 29 = .ok (.aload_n 0, 1) := by decide +kernel
theorem dX6_law_30 : decode cX6_law 30 = .ok (.getfield 30, 3) := by decide +kernel
theorem dX6_law_33 : decode cX6_law 33 = .ok (.iload_n 1, 1) := by decide +kernel
theorem dX6_law_34 : decode cX6_law 34 = .ok (.putfield 118, 3) := by decide +kernel
theorem dX6_law_37 : decode cX6_law 37 = .ok (.aload_n 0, 1) := by decide +kernel
theorem dX6_law_38 : decode cX6_law 38 = .ok (.getfield 30, 3) := by decide +kernel
theorem dX6_law_41 : decode cX6_law 41 = .ok (.iload_n 2, 1) := by decide +kernel
theorem dX6_law_42 : decode cX6_law 42 = .ok (.putfield 121, 3) := by decide +kernel
theorem dX6_law_45 : decode cX6_law 45 = .ok (.aload_n 0, 1) := by decide +kernel
theorem dX6_law_46 : decode cX6_law 46 = .ok (.invokevirtual 156, 3) := by decide +kernel
theorem dX6_law_49 : decode cX6_law 49 = .ok (.iload_n 3, 1) := by decide +kernel
theorem dX6_law_50 : decode cX6_law 50 = .ok (.ireturn, 1) := by decide +kernel
theorem dX6_mix_0 : decode cX6_mix 0 = .ok (.iload_n 1, 1) := by decide +kernel
theorem dX6_mix_1 : decode cX6_mix 1 = .ok (.invokestatic 159, 3) := by decide +kernel
theorem dX6_mix_4 : decode cX6_mix 4 = .ok (.ifCond .eq 15, 3) := by decide +kernel
theorem dX6_mix_7 : decode cX6_mix 7 = .ok (.iload_n 2, 1) := by decide +kernel
theorem dX6_mix_8 : decode cX6_mix 8 = .ok (.invokestatic 159, 3) := by decide +kernel
theorem dX6_mix_11 : decode cX6_mix 11 = .ok (.ifCond .eq 8, 3) := by decide +kernel
theorem dX6_mix_14 : decode cX6_mix 14 = .ok (.iload_n 1, 1) := by decide +kernel
theorem dX6_mix_15 : decode cX6_mix 15 = .ok (.iload_n 2, 1) := by decide +kernel
theorem dX6_mix_16 : decode cX6_mix 16 = .ok (.if_icmp .ne 5, 3) := by decide +kernel
theorem dX6_mix_19 : decode cX6_mix 19 = .ok (.iconst (-1), 1) := by decide +kernel
theorem dX6_mix_20 : decode cX6_mix 20 = .ok (.ireturn, 1) := by decide +kernel
theorem dX6_mix_21 : decode cX6_mix 21 = .ok (.aload_n 0, 1) := by decide +kernel
theorem dX6_mix_22 : decode cX6_mix 22 = .ok (.getfield 30, 3) := by decide +kernel
theorem dX6_mix_25 : decode cX6_mix 25 = .ok (.getfield 124, 3) := by decide +kernel
theorem dX6_mix_28 : decode cX6_mix 28 = .ok (.iconst 5, 1) := by decide +kernel
theorem dX6_mix_29 : decode cX6_mix 29 = .ok (.if_icmp .lt 6, 3) := by decide +kernel
theorem dX6_mix_32 : decode cX6_mix 32 = .ok (.bipush (-3), 2) := by decide +kernel
theorem dX6_mix_34 : decode cX6_mix 34 = .ok (.ireturn, 1) := by decide +kernel
theorem dX6_mix_35 : decode cX6_mix 35 = .ok (.aload_n 0, 1) := by decide +kernel
theorem dX6_mix_36 : decode cX6_mix 36 = .ok (.getfield 30, 3) := by decide +kernel
theorem dX6_mix_39 : decode cX6_mix 39 = .ok (.iload_n 1, 1) := by decide +kernel
theorem dX6_mix_40 : decode cX6_mix 40 = .ok (.iload_n 2, 1) := by decide +kernel
theorem dX6_mix_41 : decode cX6_mix 41 = .ok (.invokevirtual 162, 3) := by decide +kernel
theorem dX6_mix_44 : decode cX6_mix 44 = .ok (.aload_n 0, 1) := by decide +kernel
theorem dX6_mix_45 : decode cX6_mix 45 = .ok (.getfield 30, 3) := by decide +kernel
theorem dX6_mix_48 : decode cX6_mix 48 = .ok (.getfield 124, 3) := by decide +kernel
theorem dX6_mix_51 : decode cX6_mix 51 = .ok (.ireturn, 1) := by decide +kernel
theorem dX6_part_0 : decode cX6_part 0 = .ok (.iload_n 1, 1) := by decide +kernel
theorem dX6_part_1 : decode cX6_part 1 = .ok (.iconst 0, 1) := by decide +kernel
theorem dX6_part_2 : decode cX6_part 2 = .ok (.aload_n 0, 1) := by decide +kernel
theorem dX6_part_3 : decode cX6_part 3 = .ok (.getfield 30, 3) := by decide +kernel
theorem dX6_part_6 : decode cX6_part 6 = .ok (.getfield 124, 3) := by decide +kernel
theorem dX6_part_9 : decode cX6_part 9 = .ok (.invokestatic 87, 3) := by decide +kernel
theorem dX6_part_12 : decode cX6_part 12 = .ok (.ifCond .ne 5, 3) := by decide +kernel
theorem dX6_part_15 : decode cX6_part 15 = .ok (.iconst (-1), 1) := by decide +kernel
theorem dX6_part_16 : decode cX6_part 16 = .ok (.ireturn, 1) := by decide +kernel
theorem dX6_part_17 : decode cX6_part 17 = .ok (.aload_n 0, 1) := by decide +kernel
theorem dX6_part_18 : decode cX6_part 18 = .ok (.getfield 30, 3) := by decide +kernel
theorem dX6_part_21 : decode cX6_part 21 = .ok (.getfield 124, 3) := by decide +kernel
theorem dX6_part_24 : decode cX6_part 24 = .ok (.istore_n 2, 1) := by decide +kernel
theorem dX6_part_25 : decode cX6_part 25 = .ok (.aload_n 0, 1) := by decide +kernel
theorem dX6_part_26 : decode cX6_part 26 = .ok (.getfield 30, 3) := by decide +kernel
theorem dX6_part_29 : decode cX6_part 29 = .ok (.iload_n 1, 1) := by decide +kernel
theorem dX6_part_30 : decode cX6_part 30 = .ok (.putfield 124, 3) := by decide +kernel
theorem dX6_part_33 : decode cX6_part 33 = .ok (.iload_n 2, 1) := by decide +kernel
theorem dX6_part_34 : decode cX6_part 34 = .ok (.ireturn, 1) := by decide +kernel
theorem dX6_near_0 : decode cX6_near 0 = .ok (.aload_n 0, 1) := by decide +kernel
theorem dX6_near_1 : decode cX6_near 1 = .ok (.iload_n 1, 1) := by decide +kernel
theorem dX6_near_2 : decode cX6_near 2 = .ok (.invokevirtual 130, 3) := by decide +kernel
theorem dX6_near_5 : decode cX6_near 5 = .ok (.ifCond .eq 11, 3) := by decide +kernel
theorem dX6_near_8 : decode cX6_near 8 = .ok (.aload_n 0, 1) := by decide +kernel
theorem dX6_near_9 : decode cX6_near 9 = .ok (.iload_n 2, 1) := by decide +kernel
theorem dX6_near_10 : decode cX6_near 10 = .ok (.invokevirtual 130, 3) := by decide +kernel
theorem dX6_near_13 : decode cX6_near 13 = .ok (.ifCond .ne 5, 3) := by decide +kernel
theorem dX6_near_16 : decode cX6_near 16 = .ok (.iconst (-1), 1) := by decide +kernel
theorem dX6_near_17 : decode cX6_near 17 = .ok (.ireturn, 1) := by decide +kernel
theorem dX6_near_18 : decode cX6_near 18 = .ok (.aload_n 0, 1) := by decide +kernel
theorem dX6_near_19 : decode cX6_near 19 = .ok (.getfield 54, 3) := by decide +kernel
theorem dX6_near_22 : decode cX6_near 22 = .ok (.iload_n 1, 1) := by decide +kernel
theorem dX6_near_23 : decode cX6_near 23 = .ok (.iaload, 1) := by decide +kernel
theorem dX6_near_24 : decode cX6_near 24 = .ok (.iload_n 2, 1) := by decide +kernel
theorem dX6_near_25 : decode cX6_near 25 = .ok (.invokestatic 166, 3) := by decide +kernel
theorem dX6_near_28 : decode cX6_near 28 = .ok (.ifCond .eq 7, 3) := by decide +kernel
theorem dX6_near_31 : decode cX6_near 31 = .ok (.iconst 1, 1) := by decide +kernel
theorem dX6_near_32 : decode cX6_near 32 = .ok (.goto 4, 3) := by decide +kernel
theorem dX6_near_35 : decode cX6_near 35 = .ok (.iconst 0, 1) := by decide +kernel
theorem dX6_near_36 : decode cX6_near 36 = .ok (.ireturn, 1) := by decide +kernel
theorem dX6_guess_0 : decode cX6_guess 0 = .ok (.aload_n 0, 1) := by decide +kernel
theorem dX6_guess_1 : decode cX6_guess 1 = .ok (.iload_n 1, 1) := by decide +kernel
theorem dX6_guess_2 : decode cX6_guess 2 = .ok (.invokevirtual 130, 3) := by decide +kernel
theorem dX6_guess_5 : decode cX6_guess 5 = .ok (.ifCond .eq 12, 3) := by decide +kernel
theorem dX6_guess_8 : decode cX6_guess 8 = .ok (.iload_n 2, 1) := by decide +kernel
theorem dX6_guess_9 : decode cX6_guess 9 = .ok (.iconst 0, 1) := by decide +kernel
theorem dX6_guess_10 : decode cX6_guess 10 = .ok (.iconst 2, 1) := by decide +kernel
theorem dX6_guess_11 : decode cX6_guess 11 = .ok (.invokestatic 87, 3) := by decide +kernel
theorem dX6_guess_14 : decode cX6_guess 14 = .ok (.ifCond .ne 5, 3) := by decide +kernel
theorem dX6_guess_17 : decode cX6_guess 17 = .ok (.iconst (-1), 1) := by decide +kernel
theorem dX6_guess_18 : decode cX6_guess 18 = .ok (.ireturn, 1) := by decide +kernel
theorem dX6_guess_19 : decode cX6_guess 19 = .ok (.aload_n 0, 1) := by decide +kernel
theorem dX6_guess_20 : decode cX6_guess 20 = .ok (.getfield 30, 3) := by decide +kernel
theorem dX6_guess_23 : decode cX6_guess 23 = .ok (.getfield 170, 3) := by decide +kernel
theorem dX6_guess_26 : decode cX6_guess 26 = .ok (.bipush 9, 2) := by decide +kernel
theorem dX6_guess_28 : decode cX6_guess 28 = .ok (.if_icmp .lt 6, 3) := by decide +kernel
theorem dX6_guess_31 : decode cX6_guess 31 = .ok (.bipush (-3), 2) := by decide +kernel
theorem dX6_guess_33 : decode cX6_guess 33 = .ok (.ireturn, 1) := by decide +kernel
theorem dX6_guess_34 : decode cX6_guess 34 = .ok (.aload_n 0, 1) := by decide +kernel
theorem dX6_guess_35 : decode cX6_guess 35 = .ok (.getfield 30, 3) := by decide +kernel
theorem dX6_guess_38 : decode cX6_guess 38 = .ok (.iload_n 1, 1) := by decide +kernel
theorem dX6_guess_39 : decode cX6_guess 39 = .ok (.iload_n 2, 1) := by decide +kernel
theorem dX6_guess_40 : decode cX6_guess 40 = .ok (.invokevirtual 173, 3) := by decide +kernel
theorem dX6_guess_43 : decode cX6_guess 43 = .ok (.aload_n 0, 1) := by decide +kernel
theorem dX6_guess_44 : decode cX6_guess 44 = .ok (.getfield 30, 3) := by decide +kernel
theorem dX6_guess_47 : decode cX6_guess 47 = .ok (.getfield 170, 3) := by decide +kernel
theorem dX6_guess_50 : decode cX6_guess 50 = .ok (.ireturn, 1) := by decide +kernel
theorem dX6_undo_0 : decode cX6_undo 0 = .ok (.iload_n 1, 1) := by decide +kernel
theorem dX6_undo_1 : decode cX6_undo 1 = .ok (.iconst 0, 1) := by decide +kernel
theorem dX6_undo_2 : decode cX6_undo 2 = .ok (.aload_n 0, 1) := by decide +kernel
theorem dX6_undo_3 : decode cX6_undo 3 = .ok (.getfield 30, 3) := by decide +kernel
theorem dX6_undo_6 : decode cX6_undo 6 = .ok (.getfield 170, 3) := by decide +kernel
theorem dX6_undo_9 : decode cX6_undo 9 = .ok (.invokestatic 87, 3) := by decide +kernel
theorem dX6_undo_12 : decode cX6_undo 12 = .ok (.ifCond .ne 5, 3) := by decide +kernel
theorem dX6_undo_15 : decode cX6_undo 15 = .ok (.iconst (-1), 1) := by decide +kernel
theorem dX6_undo_16 : decode cX6_undo 16 = .ok (.ireturn, 1) := by decide +kernel
theorem dX6_undo_17 : decode cX6_undo 17 = .ok (.aload_n 0, 1) := by decide +kernel
theorem dX6_undo_18 : decode cX6_undo 18 = .ok (.getfield 30, 3) := by decide +kernel
theorem dX6_undo_21 : decode cX6_undo 21 = .ok (.getfield 170, 3) := by decide +kernel
theorem dX6_undo_24 : decode cX6_undo 24 = .ok (.istore_n 2, 1) := by decide +kernel
theorem dX6_undo_25 : decode cX6_undo 25 = .ok (.aload_n 0, 1) := by decide +kernel
theorem dX6_undo_26 : decode cX6_undo 26 = .ok (.getfield 30, 3) := by decide +kernel
theorem dX6_undo_29 : decode cX6_undo 29 = .ok (.iload_n 1, 1) := by decide +kernel
theorem dX6_undo_30 : decode cX6_undo 30 = .ok (.putfield 170, 3) := by decide +kernel
theorem dX6_undo_33 : decode cX6_undo 33 = .ok (.iload_n 2, 1) := by decide +kernel
theorem dX6_undo_34 : decode cX6_undo 34 = .ok (.ireturn, 1) := by decide +kernel
theorem dX6_hear_0 : decode cX6_hear 0 = .ok (.iload_n 1, 1) := by decide +kernel
theorem dX6_hear_1 : decode cX6_hear 1 = .ok (.iconst 0, 1) := by decide +kernel
theorem dX6_hear_2 : decode cX6_hear 2 = .ok (.bipush 7, 2) := by decide +kernel
theorem dX6_hear_4 : decode cX6_hear 4 = .ok (.invokestatic 87, 3) := by decide +kernel
theorem dX6_hear_7 : decode cX6_hear 7 = .ok (.ifCond .eq 10, 3) := by decide +kernel
theorem dX6_hear_10 : decode cX6_hear 10 = .ok (.iload_n 2, 1) := by decide +kernel
theorem dX6_hear_11 : decode cX6_hear 11 = .ok (.invokestatic 159, 3) := by decide +kernel
theorem dX6_hear_14 : decode cX6_hear 14 = .ok (.ifCond .ne 5, 3) := by decide +kernel
theorem dX6_hear_17 : decode cX6_hear 17 = .ok (.iconst (-1), 1) := by decide +kernel
theorem dX6_hear_18 : decode cX6_hear 18 = .ok (.ireturn, 1) := by decide +kernel
theorem dX6_hear_19 : decode cX6_hear 19 = .ok (.aload_n 0, 1) := by decide +kernel
theorem dX6_hear_20 : decode cX6_hear 20 = .ok (.getfield 30, 3) := by decide +kernel
theorem dX6_hear_23 : decode cX6_hear 23 = .ok (.getfield 176, 3) := by decide +kernel
theorem dX6_hear_26 : decode cX6_hear 26 = .ok (.bipush 6, 2) := by decide +kernel
theorem dX6_hear_28 : decode cX6_hear 28 = .ok (.if_icmp .lt 6, 3) := by decide +kernel
theorem dX6_hear_31 : decode cX6_hear 31 = .ok (.bipush (-3), 2) := by decide +kernel
theorem dX6_hear_33 : decode cX6_hear 33 = .ok (.ireturn, 1) := by decide +kernel
theorem dX6_hear_34 : decode cX6_hear 34 = .ok (.aload_n 0, 1) := by decide +kernel
theorem dX6_hear_35 : decode cX6_hear 35 = .ok (.getfield 30, 3) := by decide +kernel
theorem dX6_hear_38 : decode cX6_hear 38 = .ok (.iload_n 1, 1) := by decide +kernel
theorem dX6_hear_39 : decode cX6_hear 39 = .ok (.iload_n 2, 1) := by decide +kernel
theorem dX6_hear_40 : decode cX6_hear 40 = .ok (.iload_n 3, 1) := by decide +kernel
theorem dX6_hear_41 : decode cX6_hear 41 = .ok (.invokevirtual 179, 3) := by decide +kernel
theorem dX6_hear_44 : decode cX6_hear 44 = .ok (.aload_n 0, 1) := by decide +kernel
theorem dX6_hear_45 : decode cX6_hear 45 = .ok (.getfield 30, 3) := by decide +kernel
theorem dX6_hear_48 : decode cX6_hear 48 = .ok (.getfield 176, 3) := by decide +kernel
theorem dX6_hear_51 : decode cX6_hear 51 = .ok (.ireturn, 1) := by decide +kernel
theorem dX6_forget_0 : decode cX6_forget 0 = .ok (.iload_n 1, 1) := by decide +kernel
theorem dX6_forget_1 : decode cX6_forget 1 = .ok (.iconst 0, 1) := by decide +kernel
theorem dX6_forget_2 : decode cX6_forget 2 = .ok (.aload_n 0, 1) := by decide +kernel
theorem dX6_forget_3 : decode cX6_forget 3 = .ok (.getfield 30, 3) := by decide +kernel
theorem dX6_forget_6 : decode cX6_forget 6 = .ok (.getfield 176, 3) := by decide +kernel
theorem dX6_forget_9 : decode cX6_forget 9 = .ok (.invokestatic 87, 3) := by decide +kernel
theorem dX6_forget_12 : decode cX6_forget 12 = .ok (.ifCond .ne 5, 3) := by decide +kernel
theorem dX6_forget_15 : decode cX6_forget 15 = .ok (.iconst (-1), 1) := by decide +kernel
theorem dX6_forget_16 : decode cX6_forget 16 = .ok (.ireturn, 1) := by decide +kernel
theorem dX6_forget_17 : decode cX6_forget 17 = .ok (.aload_n 0, 1) := by decide +kernel
theorem dX6_forget_18 : decode cX6_forget 18 = .ok (.getfield 30, 3) := by decide +kernel
theorem dX6_forget_21 : decode cX6_forget 21 = .ok (.getfield 176, 3) := by decide +kernel
theorem dX6_forget_24 : decode cX6_forget 24 = .ok (.istore_n 2, 1) := by decide +kernel
theorem dX6_forget_25 : decode cX6_forget 25 = .ok (.aload_n 0, 1) := by decide +kernel
theorem dX6_forget_26 : decode cX6_forget 26 = .ok (.getfield 30, 3) := by decide +kernel
theorem dX6_forget_29 : decode cX6_forget 29 = .ok (.iload_n 1, 1) := by decide +kernel
theorem dX6_forget_30 : decode cX6_forget 30 = .ok (.putfield 176, 3) := by decide +kernel
theorem dX6_forget_33 : decode cX6_forget 33 = .ok (.iload_n 2, 1) := by decide +kernel
theorem dX6_forget_34 : decode cX6_forget 34 = .ok (.ireturn, 1) := by decide +kernel
theorem dX6_can_0 : decode cX6_can 0 = .ok (.aload_n 0, 1) := by decide +kernel
theorem dX6_can_1 : decode cX6_can 1 = .ok (.invokevirtual 183, 3) := by decide +kernel
theorem dX6_can_4 : decode cX6_can 4 = .ok (.ireturn, 1) := by decide +kernel
theorem dX6_likely_0 : decode cX6_likely 0 = .ok (.aload_n 0, 1) := by decide +kernel
theorem dX6_likely_1 : decode cX6_likely 1 = .ok (.iload_n 1, 1) := by decide +kernel
theorem dX6_likely_2 : decode cX6_likely 2 = .ok (.invokevirtual 130, 3) := by decide +kernel
theorem dX6_likely_5 : decode cX6_likely 5 = .ok (.ifCond .eq 12, 3) := by decide +kernel
theorem dX6_likely_8 : decode cX6_likely 8 = .ok (.iload_n 2, 1) := by decide +kernel
theorem dX6_likely_9 : decode cX6_likely 9 = .ok (.iconst 0, 1) := by decide +kernel
theorem dX6_likely_10 : decode cX6_likely 10 = .ok (.iconst 1, 1) := by decide +kernel
theorem dX6_likely_11 : decode cX6_likely 11 = .ok (.invokestatic 87, 3) := by decide +kernel
theorem dX6_likely_14 : decode cX6_likely 14 = .ok (.ifCond .ne 7, 3) := by decide +kernel
theorem dX6_likely_17 : decode cX6_likely 17 = .ok (.ldc2_w 187, 3) := by decide +kernel
theorem dX6_likely_20 : decode cX6_likely 20 = .ok (.lreturn, 1) := by decide +kernel
theorem dX6_likely_21 : decode cX6_likely 21 = .ok (.aload_n 0, 1) := by decide +kernel
theorem dX6_likely_22 : decode cX6_likely 22 = .ok (.invokevirtual 183, 3) := by decide +kernel
theorem dX6_likely_25 : decode cX6_likely 25 = .ok (.istore_n 3, 1) := by decide +kernel
theorem dX6_likely_26 : decode cX6_likely 26 = .ok (.iload_n 3, 1) := by decide +kernel
theorem dX6_likely_27 : decode cX6_likely 27 = .ok (.ifCond .ne 7, 3) := by decide +kernel
theorem dX6_likely_30 : decode cX6_likely 30 = .ok (.ldc2_w 189, 3) := by decide +kernel
theorem dX6_likely_33 : decode cX6_likely 33 = .ok (.lreturn, 1) := by decide +kernel
theorem dX6_likely_34 : decode cX6_likely 34 = .ok (.iload_n 3, 1) := by decide +kernel
theorem dX6_likely_35 : decode cX6_likely 35 = .ok (.iload_n 1, 1) := by decide +kernel
theorem dX6_likely_36 : decode cX6_likely 36 = .ok (.invokestatic 166, 3) := by decide +kernel
theorem dX6_likely_39 : decode cX6_likely 39 = .ok (.ifCond .eq 15, 3) := by decide +kernel
theorem dX6_likely_42 : decode cX6_likely 42 = .ok (.aload_n 0, 1) := by decide +kernel
theorem dX6_likely_43 : decode cX6_likely 43 = .ok (.getfield 30, 3) := by decide +kernel
theorem dX6_likely_46 : decode cX6_likely 46 = .ok (.getfield 134, 3) := by decide +kernel
theorem dX6_likely_49 : decode cX6_likely 49 = .ok (.iload_n 1, 1) := by decide +kernel
theorem dX6_likely_50 : decode cX6_likely 50 = .ok (.iaload, 1) := by decide +kernel
theorem dX6_likely_51 : decode cX6_likely 51 = .ok (.goto 4, 3) := by decide +kernel
theorem dX6_likely_54 : decode cX6_likely 54 = .ok (.iconst 0, 1) := by decide +kernel
theorem dX6_likely_55 : decode cX6_likely 55 = .ok (.aload_n 0, 1) := by decide +kernel
theorem dX6_likely_56 : decode cX6_likely 56 = .ok (.iload_n 3, 1) := by decide +kernel
theorem dX6_likely_57 : decode cX6_likely 57 = .ok (.invokevirtual 191, 3) := by decide +kernel
theorem dX6_likely_60 : decode cX6_likely 60 = .ok (.iload_n 2, 1) := by decide +kernel
theorem dX6_likely_61 : decode cX6_likely 61 = .ok (.invokestatic 195, 3) := by decide +kernel
theorem dX6_likely_64 : decode cX6_likely 64 = .ok (.lreturn, 1) := by decide +kernel
theorem dX6_lied_0 : decode cX6_lied 0 = .ok (.aload_n 0, 1) := by decide +kernel
theorem dX6_lied_1 : decode cX6_lied 1 = .ok (.invokevirtual 199, 3) := by decide +kernel
theorem dX6_lied_4 : decode cX6_lied 4 = .ok (.istore_n 1, 1) := by decide +kernel
theorem dX6_lied_5 : decode cX6_lied 5 = .ok (.iconst 0, 1) := by decide +kernel
theorem dX6_lied_6 : decode cX6_lied 6 = .ok (.istore_n 2, 1) := by decide +kernel
theorem dX6_lied_7 : decode cX6_lied 7 = .ok (.iload_n 2, 1) := by decide +kernel
theorem dX6_lied_8 : decode cX6_lied 8 = .ok (.aload_n 0, 1) := by decide +kernel
theorem dX6_lied_9 : decode cX6_lied 9 = .ok (.getfield 30, 3) := by decide +kernel
theorem dX6_lied_12 : decode cX6_lied 12 = .ok (.getfield 170, 3) := by decide +kernel
theorem dX6_lied_15 : decode cX6_lied 15 = .ok (.if_icmp .ge 40, 3) := by decide +kernel
theorem dX6_lied_18 : decode cX6_lied 18 = .ok (.iload_n 1, 1) := by decide +kernel
theorem dX6_lied_19 : decode cX6_lied 19 = .ok (.aload_n 0, 1) := by decide +kernel
theorem dX6_lied_20 : decode cX6_lied 20 = .ok (.aload_n 0, 1) := by decide +kernel
theorem dX6_lied_21 : decode cX6_lied 21 = .ok (.getfield 30, 3) := by decide +kernel
theorem dX6_lied_24 : decode cX6_lied 24 = .ok (.getfield 202, 3) := by decide +kernel
theorem dX6_lied_27 : decode cX6_lied 27 = .ok (.iload_n 2, 1) := by decide +kernel
theorem dX6_lied_28 : decode cX6_lied 28 = .ok (.iaload, 1) := by decide +kernel
theorem dX6_lied_29 : decode cX6_lied 29 = .ok (.aload_n 0, 1) := by decide +kernel
theorem dX6_lied_30 : decode cX6_lied 30 = .ok (.getfield 30, 3) := by decide +kernel
theorem dX6_lied_33 : decode cX6_lied 33 = .ok (.getfield 205, 3) := by decide +kernel
theorem dX6_lied_36 : decode cX6_lied 36 = .ok (.iload_n 2, 1) := by decide +kernel
theorem dX6_lied_37 : decode cX6_lied 37 = .ok (.iaload, 1) := by decide +kernel
theorem dX6_lied_38 : decode cX6_lied 38 = .ok (.invokevirtual 208, 3) := by decide +kernel
theorem dX6_lied_41 : decode cX6_lied 41 = .ok (.iand, 1) := by decide +kernel
theorem dX6_lied_42 : decode cX6_lied 42 = .ok (.istore_n 1, 1) := by decide +kernel
theorem dX6_lied_43 : decode cX6_lied 43 = .ok (.iload_n 1, 1) := by decide +kernel
theorem dX6_lied_44 : decode cX6_lied 44 = .ok (.ifCond .ne 5, 3) := by decide +kernel
theorem dX6_lied_47 : decode cX6_lied 47 = .ok (.iload_n 2, 1) := by decide +kernel
theorem dX6_lied_48 : decode cX6_lied 48 = .ok (.ireturn, 1) := by decide +kernel
theorem dX6_lied_49 : decode cX6_lied 49 = .ok (.iinc 2 1, 3) := by decide +kernel
theorem dX6_lied_52 : decode cX6_lied 52 = .ok (.goto (-45), 3) := by decide +kernel
theorem dX6_lied_55 : decode cX6_lied 55 = .ok (.bipush (-4), 2) := by decide +kernel
theorem dX6_lied_57 : decode cX6_lied 57 = .ok (.ireturn, 1) := by decide +kernel
theorem dX6_next_0 : decode cX6_next 0 = .ok (.iload_n 1, 1) := by decide +kernel
theorem dX6_next_1 : decode cX6_next 1 = .ok (.iconst 0, 1) := by decide +kernel
theorem dX6_next_2 : decode cX6_next 2 = .ok (.iconst 1, 1) := by decide +kernel
theorem dX6_next_3 : decode cX6_next 3 = .ok (.invokestatic 87, 3) := by decide +kernel
theorem dX6_next_6 : decode cX6_next 6 = .ok (.ifCond .ne 5, 3) := by decide +kernel
theorem dX6_next_9 : decode cX6_next 9 = .ok (.iconst (-1), 1) := by decide +kernel
theorem dX6_next_10 : decode cX6_next 10 = .ok (.ireturn, 1) := by decide +kernel
theorem dX6_next_11 : decode cX6_next 11 = .ok (.aload_n 0, 1) := by decide +kernel
theorem dX6_next_12 : decode cX6_next 12 = .ok (.invokevirtual 183, 3) := by decide +kernel
theorem dX6_next_15 : decode cX6_next 15 = .ok (.istore_n 2, 1) := by decide +kernel
theorem dX6_next_16 : decode cX6_next 16 = .ok (.iload_n 2, 1) := by decide +kernel
theorem dX6_next_17 : decode cX6_next 17 = .ok (.ifCond .ne 6, 3) := by decide +kernel
theorem dX6_next_20 : decode cX6_next 20 = .ok (.bipush (-2), 2) := by decide +kernel
theorem dX6_next_22 : decode cX6_next 22 = .ok (.ireturn, 1) := by decide +kernel
theorem dX6_next_23 : decode cX6_next 23 = .ok (.iconst 0, 1) := by decide +kernel
theorem dX6_next_24 : decode cX6_next 24 = .ok (.istore_n 3, 1) := by decide +kernel
theorem dX6_next_25 : decode cX6_next 25 = .ok (.bipush 10, 2) := by decide +kernel
theorem dX6_next_27 : decode cX6_next 27 = .ok (.istore 4, 2) := by decide +kernel
theorem dX6_next_29 : decode cX6_next 29 = .ok (.iconst 0, 1) := by decide +kernel
theorem dX6_next_30 : decode cX6_next 30 = .ok (.istore 5, 2) := by decide +kernel
theorem dX6_next_32 : decode cX6_next 32 = .ok (.iload 5, 2) := by decide +kernel
theorem dX6_next_34 : decode cX6_next 34 = .ok (.aload_n 0, 1) := by decide +kernel
theorem dX6_next_35 : decode cX6_next 35 = .ok (.getfield 23, 3) := by decide +kernel
theorem dX6_next_38 : decode cX6_next 38 = .ok (.getfield 115, 3) := by decide +kernel
theorem dX6_next_41 : decode cX6_next 41 = .ok (.if_icmp .ge 60, 3) := by decide +kernel
theorem dX6_next_44 : decode cX6_next 44 = .ok (.iload_n 2, 1) := by decide +kernel
theorem dX6_next_45 : decode cX6_next 45 = .ok (.aload_n 0, 1) := by decide +kernel
theorem dX6_next_46 : decode cX6_next 46 = .ok (.iload 5, 2) := by decide +kernel
theorem dX6_next_48 : decode cX6_next 48 = .ok (.iconst 0, 1) := by decide +kernel
theorem dX6_next_49 : decode cX6_next 49 = .ok (.invokevirtual 208, 3) := by decide +kernel
theorem dX6_next_52 : decode cX6_next 52 = .ok (.iand, 1) := by decide +kernel
theorem dX6_next_53 : decode cX6_next 53 = .ok (.invokestatic 211, 3) := by decide +kernel
theorem dX6_next_56 : decode cX6_next 56 = .ok (.istore 6, 2) := by decide +kernel
theorem dX6_next_58 : decode cX6_next 58 = .ok (.iload_n 2, 1) := by decide +kernel
theorem dX6_next_59 : decode cX6_next 59 = .ok (.aload_n 0, 1) := by decide +kernel
theorem dX6_next_60 : decode cX6_next 60 = .ok (.iload 5, 2) := by decide +kernel
theorem dX6_next_62 : decode cX6_next 62 = .ok (.iconst 1, 1) := by decide +kernel
theorem dX6_next_63 : decode cX6_next 63 = .ok (.invokevirtual 208, 3) := by decide +kernel
theorem dX6_next_66 : decode cX6_next 66 = .ok (.iand, 1) := by decide +kernel
theorem dX6_next_67 : decode cX6_next 67 = .ok (.invokestatic 211, 3) := by decide +kernel
theorem dX6_next_70 : decode cX6_next 70 = .ok (.istore 7, 2) := by decide +kernel
theorem dX6_next_72 : decode cX6_next 72 = .ok (.iload 6, 2) := by decide +kernel
theorem dX6_next_74 : decode cX6_next 74 = .ok (.iload 7, 2) := by decide +kernel
theorem dX6_next_76 : decode cX6_next 76 = .ok (.invokestatic 216, 3) := by decide +kernel
theorem dX6_next_79 : decode cX6_next 79 = .ok (.istore 8, 2) := by decide +kernel
theorem dX6_next_81 : decode cX6_next 81 = .ok (.iload 8, 2) := by decide +kernel
theorem dX6_next_83 : decode cX6_next 83 = .ok (.iload 4, 2) := by decide +kernel
theorem dX6_next_85 : decode cX6_next 85 = .ok (.if_icmp .ge 10, 3) := by decide +kernel
theorem dX6_next_88 : decode cX6_next 88 = .ok (.iload 8, 2) := by decide +kernel
theorem dX6_next_90 : decode cX6_next 90 = .ok (.istore 4, 2) := by decide +kernel
theorem dX6_next_92 : decode cX6_next 92 = .ok (.iload 5, 2) := by decide +kernel
theorem dX6_next_94 : decode cX6_next 94 = .ok (.istore_n 3, 1) := by decide +kernel
theorem dX6_next_95 : decode cX6_next 95 = .ok (.iinc 5 1, 3) := by decide +kernel
theorem dX6_next_98 : decode cX6_next 98 = .ok (.goto (-66), 3) := by decide +kernel
theorem dX6_next_101 : decode cX6_next 101 = .ok (.iload_n 1, 1) := by decide +kernel
theorem dX6_next_102 : decode cX6_next 102 = .ok (.ifCond .ne 7, 3) := by decide +kernel
theorem dX6_next_105 : decode cX6_next 105 = .ok (.iload_n 3, 1) := by decide +kernel
theorem dX6_next_106 : decode cX6_next 106 = .ok (.goto 5, 3) := by decide +kernel
theorem dX6_next_109 : decode cX6_next 109 = .ok (.iload 4, 2) := by decide +kernel
theorem dX6_next_111 : decode cX6_next 111 = .ok (.ireturn, 1) := by decide +kernel
theorem dX6_sure_0 : decode cX6_sure 0 = .ok (.iload_n 1, 1) := by decide +kernel
theorem dX6_sure_1 : decode cX6_sure 1 = .ok (.iconst 0, 1) := by decide +kernel
theorem dX6_sure_2 : decode cX6_sure 2 = .ok (.iconst 1, 1) := by decide +kernel
theorem dX6_sure_3 : decode cX6_sure 3 = .ok (.invokestatic 87, 3) := by decide +kernel
theorem dX6_sure_6 : decode cX6_sure 6 = .ok (.ifCond .ne 5, 3) := by decide +kernel
theorem dX6_sure_9 : decode cX6_sure 9 = .ok (.iconst (-1), 1) := by decide +kernel
theorem dX6_sure_10 : decode cX6_sure 10 = .ok (.ireturn, 1) := by decide +kernel
theorem dX6_sure_11 : decode cX6_sure 11 = .ok (.aload_n 0, 1) := by decide +kernel
theorem dX6_sure_12 : decode cX6_sure 12 = .ok (.invokevirtual 183, 3) := by decide +kernel
theorem dX6_sure_15 : decode cX6_sure 15 = .ok (.istore_n 2, 1) := by decide +kernel
theorem dX6_sure_16 : decode cX6_sure 16 = .ok (.iload_n 2, 1) := by decide +kernel
theorem dX6_sure_17 : decode cX6_sure 17 = .ok (.ifCond .ne 6, 3) := by decide +kernel
theorem dX6_sure_20 : decode cX6_sure 20 = .ok (.bipush (-2), 2) := by decide +kernel
theorem dX6_sure_22 : decode cX6_sure 22 = .ok (.ireturn, 1) := by decide +kernel
theorem dX6_sure_23 : decode cX6_sure 23 = .ok (.aload_n 0, 1) := by decide +kernel
theorem dX6_sure_24 : decode cX6_sure 24 = .ok (.getfield 63, 3) := by decide +kernel
theorem dX6_sure_27 : decode cX6_sure 27 = .ok (.aload_n 0, 1) := by decide +kernel
theorem dX6_sure_28 : decode cX6_sure 28 = .ok (.getfield 54, 3) := by decide +kernel
theorem dX6_sure_31 : decode cX6_sure 31 = .ok (.aload_n 0, 1) := by decide +kernel
theorem dX6_sure_32 : decode cX6_sure 32 = .ok (.getfield 30, 3) := by decide +kernel
theorem dX6_sure_35 : decode cX6_sure 35 = .ok (.getfield 134, 3) := by decide +kernel
theorem dX6_sure_38 : decode cX6_sure 38 = .ok (.aload_n 0, 1) := by decide +kernel
theorem dX6_sure_39 : decode cX6_sure 39 = .ok (.getfield 23, 3) := by decide +kernel
theorem dX6_sure_42 : decode cX6_sure 42 = .ok (.getfield 115, 3) := by decide +kernel
theorem dX6_sure_45 : decode cX6_sure 45 = .ok (.iload_n 2, 1) := by decide +kernel
theorem dX6_sure_46 : decode cX6_sure 46 = .ok (.invokevirtual 221, 3) := by decide +kernel
theorem dX6_sure_49 : decode cX6_sure 49 = .ok (.istore_n 3, 1) := by decide +kernel
theorem dX6_sure_50 : decode cX6_sure 50 = .ok (.iload_n 1, 1) := by decide +kernel
theorem dX6_sure_51 : decode cX6_sure 51 = .ok (.ifCond .ne 7, 3) := by decide +kernel
theorem dX6_sure_54 : decode cX6_sure 54 = .ok (.iload_n 3, 1) := by decide +kernel
theorem dX6_sure_55 : decode cX6_sure 55 = .ok (.goto 10, 3) := by decide +kernel
theorem dX6_sure_58 : decode cX6_sure 58 = .ok (.aload_n 0, 1) := by decide +kernel
theorem dX6_sure_59 : decode cX6_sure 59 = .ok (.getfield 63, 3) := by decide +kernel
theorem dX6_sure_62 : decode cX6_sure 62 = .ok (.getfield 225, 3) := by decide +kernel
theorem dX6_sure_65 : decode cX6_sure 65 = .ok (.ireturn, 1) := by decide +kernel
theorem dX6_mean_0 : decode cX6_mean 0 = .ok (.iload_n 1, 1) := by decide +kernel
theorem dX6_mean_1 : decode cX6_mean 1 = .ok (.iconst 0, 1) := by decide +kernel
theorem dX6_mean_2 : decode cX6_mean 2 = .ok (.iconst 2, 1) := by decide +kernel
theorem dX6_mean_3 : decode cX6_mean 3 = .ok (.invokestatic 87, 3) := by decide +kernel
theorem dX6_mean_6 : decode cX6_mean 6 = .ok (.ifCond .ne 7, 3) := by decide +kernel
theorem dX6_mean_9 : decode cX6_mean 9 = .ok (.ldc2_w 187, 3) := by decide +kernel
theorem dX6_mean_12 : decode cX6_mean 12 = .ok (.lreturn, 1) := by decide +kernel
theorem dX6_mean_13 : decode cX6_mean 13 = .ok (.aload_n 0, 1) := by decide +kernel
theorem dX6_mean_14 : decode cX6_mean 14 = .ok (.invokevirtual 183, 3) := by decide +kernel
theorem dX6_mean_17 : decode cX6_mean 17 = .ok (.istore_n 2, 1) := by decide +kernel
theorem dX6_mean_18 : decode cX6_mean 18 = .ok (.iload_n 2, 1) := by decide +kernel
theorem dX6_mean_19 : decode cX6_mean 19 = .ok (.ifCond .ne 7, 3) := by decide +kernel
theorem dX6_mean_22 : decode cX6_mean 22 = .ok (.ldc2_w 189, 3) := by decide +kernel
theorem dX6_mean_25 : decode cX6_mean 25 = .ok (.lreturn, 1) := by decide +kernel
theorem dX6_mean_26 : decode cX6_mean 26 = .ok (.aload_n 0, 1) := by decide +kernel
theorem dX6_mean_27 : decode cX6_mean 27 = .ok (.getfield 67, 3) := by decide +kernel
theorem dX6_mean_30 : decode cX6_mean 30 = .ok (.aload_n 0, 1) := by decide +kernel
theorem dX6_mean_31 : decode cX6_mean 31 = .ok (.getfield 54, 3) := by decide +kernel
theorem dX6_mean_34 : decode cX6_mean 34 = .ok (.aload_n 0, 1) := by decide +kernel
theorem dX6_mean_35 : decode cX6_mean 35 = .ok (.getfield 30, 3) := by decide +kernel
theorem dX6_mean_38 : decode cX6_mean 38 = .ok (.getfield 134, 3) := by decide +kernel
theorem dX6_mean_41 : decode cX6_mean 41 = .ok (.aload_n 0, 1) := by decide +kernel
theorem dX6_mean_42 : decode cX6_mean 42 = .ok (.getfield 23, 3) := by decide +kernel
theorem dX6_mean_45 : decode cX6_mean 45 = .ok (.getfield 115, 3) := by decide +kernel
theorem dX6_mean_48 : decode cX6_mean 48 = .ok (.iload_n 2, 1) := by decide +kernel
theorem dX6_mean_49 : decode cX6_mean 49 = .ok (.invokevirtual 221, 3) := by decide +kernel
theorem dX6_mean_52 : decode cX6_mean 52 = .ok (.istore_n 3, 1) := by decide +kernel
theorem dX6_mean_53 : decode cX6_mean 53 = .ok (.iload_n 1, 1) := by decide +kernel
theorem dX6_mean_54 : decode cX6_mean 54 = .ok (.iconst 2, 1) := by decide +kernel
theorem dX6_mean_55 : decode cX6_mean 55 = .ok (.if_icmp .ne 14, 3) := by decide +kernel
theorem dX6_mean_58 : decode cX6_mean 58 = .ok (.aload_n 0, 1) := by decide +kernel
theorem dX6_mean_59 : decode cX6_mean 59 = .ok (.getfield 67, 3) := by decide +kernel
theorem dX6_mean_62 : decode cX6_mean 62 = .ok (.getfield 225, 3) := by decide +kernel
theorem dX6_mean_65 : decode cX6_mean 65 = .ok (.i2l, 1) := by decide +kernel
theorem dX6_mean_66 : decode cX6_mean 66 = .ok (.goto 13, 3) := by decide +kernel
theorem dX6_mean_69 : decode cX6_mean 69 = .ok (.iload_n 3, 1) := by decide +kernel
theorem dX6_mean_70 : decode cX6_mean 70 = .ok (.aload_n 0, 1) := by decide +kernel
theorem dX6_mean_71 : decode cX6_mean 71 = .ok (.iload_n 2, 1) := by decide +kernel
theorem dX6_mean_72 : decode cX6_mean 72 = .ok (.invokevirtual 191, 3) := by decide +kernel
theorem dX6_mean_75 : decode cX6_mean 75 = .ok (.iload_n 1, 1) := by decide +kernel
theorem dX6_mean_76 : decode cX6_mean 76 = .ok (.invokestatic 195, 3) := by decide +kernel
theorem dX6_mean_79 : decode cX6_mean 79 = .ok (.lreturn, 1) := by decide +kernel
theorem dX6_best_0 : decode cX6_best 0 = .ok (.iload_n 1, 1) := by decide +kernel
theorem dX6_best_1 : decode cX6_best 1 = .ok (.iconst 0, 1) := by decide +kernel
theorem dX6_best_2 : decode cX6_best 2 = .ok (.iconst 1, 1) := by decide +kernel
theorem dX6_best_3 : decode cX6_best 3 = .ok (.invokestatic 87, 3) := by decide +kernel
theorem dX6_best_6 : decode cX6_best 6 = .ok (.ifCond .ne 5, 3) := by decide +kernel
theorem dX6_best_9 : decode cX6_best 9 = .ok (.iconst (-1), 1) := by decide +kernel
theorem dX6_best_10 : decode cX6_best 10 = .ok (.ireturn, 1) := by decide +kernel
theorem dX6_best_11 : decode cX6_best 11 = .ok (.aload_n 0, 1) := by decide +kernel
theorem dX6_best_12 : decode cX6_best 12 = .ok (.getfield 23, 3) := by decide +kernel
theorem dX6_best_15 : decode cX6_best 15 = .ok (.getfield 115, 3) := by decide +kernel
theorem dX6_best_18 : decode cX6_best 18 = .ok (.ifCond .ne 6, 3) := by decide +kernel
theorem dX6_best_21 : decode cX6_best 21 = .ok (.bipush (-2), 2) := by decide +kernel
theorem dX6_best_23 : decode cX6_best 23 = .ok (.ireturn, 1) := by decide +kernel
theorem dX6_best_24 : decode cX6_best 24 = .ok (.aload_n 0, 1) := by decide +kernel
theorem dX6_best_25 : decode cX6_best 25 = .ok (.invokevirtual 228, 3) := by decide +kernel
theorem dX6_best_28 : decode cX6_best 28 = .ok (.iconst 0, 1) := by decide +kernel
theorem dX6_best_29 : decode cX6_best 29 = .ok (.istore_n 2, 1) := by decide +kernel
theorem dX6_best_30 : decode cX6_best 30 = .ok (.iconst 1, 1) := by decide +kernel
theorem dX6_best_31 : decode cX6_best 31 = .ok (.istore_n 3, 1) := by decide +kernel
theorem dX6_best_32 : decode cX6_best 32 = .ok (.iload_n 3, 1) := by decide +kernel
theorem dX6_best_33 : decode cX6_best 33 = .ok (.bipush 45, 2) := by decide +kernel
theorem dX6_best_35 : decode cX6_best 35 = .ok (.if_icmp .ge 26, 3) := by decide +kernel
theorem dX6_best_38 : decode cX6_best 38 = .ok (.aload_n 0, 1) := by decide +kernel
theorem dX6_best_39 : decode cX6_best 39 = .ok (.getfield 77, 3) := by decide +kernel
theorem dX6_best_42 : decode cX6_best 42 = .ok (.iload_n 3, 1) := by decide +kernel
theorem dX6_best_43 : decode cX6_best 43 = .ok (.iaload, 1) := by decide +kernel
theorem dX6_best_44 : decode cX6_best 44 = .ok (.aload_n 0, 1) := by decide +kernel
theorem dX6_best_45 : decode cX6_best 45 = .ok (.getfield 77, 3) := by decide +kernel
theorem dX6_best_48 : decode cX6_best 48 = .ok (.iload_n 2, 1) := by decide +kernel
theorem dX6_best_49 : decode cX6_best 49 = .ok (.iaload, 1) := by decide +kernel
theorem dX6_best_50 : decode cX6_best 50 = .ok (.if_icmp .ge 5, 3) := by decide +kernel
theorem dX6_best_53 : decode cX6_best 53 = .ok (.iload_n 3, 1) := by decide +kernel
theorem dX6_best_54 : decode cX6_best 54 = .ok (.istore_n 2, 1) := by decide +kernel
theorem dX6_best_55 : decode cX6_best 55 = .ok (.iinc 3 1, 3) := by decide +kernel
theorem dX6_best_58 : decode cX6_best 58 = .ok (.goto (-26), 3) := by decide +kernel
theorem dX6_best_61 : decode cX6_best 61 = .ok (.iload_n 1, 1) := by decide +kernel
theorem dX6_best_62 : decode cX6_best 62 = .ok (.ifCond .ne 18, 3) := by decide +kernel
theorem dX6_best_65 : decode cX6_best 65 = .ok (.iload_n 2, 1) := by decide +kernel
theorem dX6_best_66 : decode cX6_best 66 = .ok (.bipush 9, 2) := by decide +kernel
theorem dX6_best_68 : decode cX6_best 68 = .ok (.idiv, 1) := by decide +kernel
theorem dX6_best_69 : decode cX6_best 69 = .ok (.bipush 10, 2) := by decide +kernel
theorem dX6_best_71 : decode cX6_best 71 = .ok (.imul, 1) := by decide +kernel
theorem dX6_best_72 : decode cX6_best 72 = .ok (.iload_n 2, 1) := by decide +kernel
theorem dX6_best_73 : decode cX6_best 73 = .ok (.bipush 9, 2) := by decide +kernel
theorem dX6_best_75 : decode cX6_best 75 = .ok (.irem, 1) := by decide +kernel
theorem dX6_best_76 : decode cX6_best 76 = .ok (.iadd, 1) := by decide +kernel
theorem dX6_best_77 : decode cX6_best 77 = .ok (.goto 9, 3) := by decide +kernel
theorem dX6_best_80 : decode cX6_best 80 = .ok (.aload_n 0, 1) := by decide +kernel
theorem dX6_best_81 : decode cX6_best 81 = .ok (.getfield 77, 3) := by decide +kernel
theorem dX6_best_84 : decode cX6_best 84 = .ok (.iload_n 2, 1) := by decide +kernel
theorem dX6_best_85 : decode cX6_best 85 = .ok (.iaload, 1) := by decide +kernel
theorem dX6_best_86 : decode cX6_best 86 = .ok (.ireturn, 1) := by decide +kernel
theorem dX6_laws_0 : decode cX6_laws 0 = .ok (.iload_n 1, 1) := by decide +kernel
theorem dX6_laws_1 : decode cX6_laws 1 = .ok (.iconst 1, 1) := by decide +kernel
theorem dX6_laws_2 : decode cX6_laws 2 = .ok (.bipush 9, 2) := by decide +kernel
theorem dX6_laws_4 : decode cX6_laws 4 = .ok (.invokestatic 87, 3) := by decide +kernel
theorem dX6_laws_7 : decode cX6_laws 7 = .ok (.ifCond .ne 5, 3) := by decide +kernel
theorem dX6_laws_10 : decode cX6_laws 10 = .ok (.iconst (-1), 1) := by decide +kernel
theorem dX6_laws_11 : decode cX6_laws 11 = .ok (.ireturn, 1) := by decide +kernel
theorem dX6_laws_12 : decode cX6_laws 12 = .ok (.aload_n 0, 1) := by decide +kernel
theorem dX6_laws_13 : decode cX6_laws 13 = .ok (.getfield 23, 3) := by decide +kernel
theorem dX6_laws_16 : decode cX6_laws 16 = .ok (.getfield 115, 3) := by decide +kernel
theorem dX6_laws_19 : decode cX6_laws 19 = .ok (.ifCond .ne 6, 3) := by decide +kernel
theorem dX6_laws_22 : decode cX6_laws 22 = .ok (.bipush (-2), 2) := by decide +kernel
theorem dX6_laws_24 : decode cX6_laws 24 = .ok (.ireturn, 1) := by decide +kernel
theorem dX6_laws_25 : decode cX6_laws 25 = .ok (.aload_n 0, 1) := by decide +kernel
theorem dX6_laws_26 : decode cX6_laws 26 = .ok (.invokevirtual 228, 3) := by decide +kernel
theorem dX6_laws_29 : decode cX6_laws 29 = .ok (.iconst 0, 1) := by decide +kernel
theorem dX6_laws_30 : decode cX6_laws 30 = .ok (.istore_n 2, 1) := by decide +kernel
theorem dX6_laws_31 : decode cX6_laws 31 = .ok (.iconst 0, 1) := by decide +kernel
theorem dX6_laws_32 : decode cX6_laws 32 = .ok (.istore_n 3, 1) := by decide +kernel
theorem dX6_laws_33 : decode cX6_laws 33 = .ok (.iload_n 3, 1) := by decide +kernel
theorem dX6_laws_34 : decode cX6_laws 34 = .ok (.bipush 45, 2) := by decide +kernel
theorem dX6_laws_36 : decode cX6_laws 36 = .ok (.if_icmp .ge 22, 3) := by decide +kernel
theorem dX6_laws_39 : decode cX6_laws 39 = .ok (.aload_n 0, 1) := by decide +kernel
theorem dX6_laws_40 : decode cX6_laws 40 = .ok (.getfield 77, 3) := by decide +kernel
theorem dX6_laws_43 : decode cX6_laws 43 = .ok (.iload_n 3, 1) := by decide +kernel
theorem dX6_laws_44 : decode cX6_laws 44 = .ok (.iaload, 1) := by decide +kernel
theorem dX6_laws_45 : decode cX6_laws 45 = .ok (.iload_n 1, 1) := by decide +kernel
theorem dX6_laws_46 : decode cX6_laws 46 = .ok (.if_icmp .gt 6, 3) := by decide +kernel
theorem dX6_laws_49 : decode cX6_laws 49 = .ok (.iinc 2 1, 3) := by decide +kernel
theorem dX6_laws_52 : decode cX6_laws 52 = .ok (.iinc 3 1, 3) := by decide +kernel
theorem dX6_laws_55 : decode cX6_laws 55 = .ok (.goto (-22), 3) := by decide +kernel
theorem dX6_laws_58 : decode cX6_laws 58 = .ok (.iload_n 2, 1) := by decide +kernel
theorem dX6_laws_59 : decode cX6_laws 59 = .ok (.ireturn, 1) := by decide +kernel
theorem dX6_row_0 : decode cX6_row 0 = .ok (.iload_n 1, 1) := by decide +kernel
theorem dX6_row_1 : decode cX6_row 1 = .ok (.iconst 1, 1) := by decide +kernel
theorem dX6_row_2 : decode cX6_row 2 = .ok (.iconst 3, 1) := by decide +kernel
theorem dX6_row_3 : decode cX6_row 3 = .ok (.invokestatic 87, 3) := by decide +kernel
theorem dX6_row_6 : decode cX6_row 6 = .ok (.ifCond .eq 22, 3) := by decide +kernel
theorem dX6_row_9 : decode cX6_row 9 = .ok (.iload_n 2, 1) := by decide +kernel
theorem dX6_row_10 : decode cX6_row 10 = .ok (.ifCond .eq 20, 3) := by decide +kernel
theorem dX6_row_13 : decode cX6_row 13 = .ok (.iload_n 2, 1) := by decide +kernel
theorem dX6_row_14 : decode cX6_row 14 = .ok (.bipush 10, 2) := by decide +kernel
theorem dX6_row_16 : decode cX6_row 16 = .ok (.bipush 10, 2) := by decide +kernel
theorem dX6_row_18 : decode cX6_row 18 = .ok (.iload_n 1, 1) := by decide +kernel
theorem dX6_row_19 : decode cX6_row 19 = .ok (.iadd, 1) := by decide +kernel
theorem dX6_row_20 : decode cX6_row 20 = .ok (.iconst 1, 1) := by decide +kernel
theorem dX6_row_21 : decode cX6_row 21 = .ok (.isub, 1) := by decide +kernel
theorem dX6_row_22 : decode cX6_row 22 = .ok (.invokestatic 87, 3) := by decide +kernel
theorem dX6_row_25 : decode cX6_row 25 = .ok (.ifCond .ne 5, 3) := by decide +kernel
theorem dX6_row_28 : decode cX6_row 28 = .ok (.iconst (-1), 1) := by decide +kernel
theorem dX6_row_29 : decode cX6_row 29 = .ok (.ireturn, 1) := by decide +kernel
theorem dX6_row_30 : decode cX6_row 30 = .ok (.aload_n 0, 1) := by decide +kernel
theorem dX6_row_31 : decode cX6_row 31 = .ok (.invokevirtual 183, 3) := by decide +kernel
theorem dX6_row_34 : decode cX6_row 34 = .ok (.istore_n 3, 1) := by decide +kernel
theorem dX6_row_35 : decode cX6_row 35 = .ok (.iload_n 3, 1) := by decide +kernel
theorem dX6_row_36 : decode cX6_row 36 = .ok (.ifCond .ne 6, 3) := by decide +kernel
theorem dX6_row_39 : decode cX6_row 39 = .ok (.bipush (-2), 2) := by decide +kernel
theorem dX6_row_41 : decode cX6_row 41 = .ok (.ireturn, 1) := by decide +kernel
theorem dX6_row_42 : decode cX6_row 42 = .ok (.aload_n 0, 1) := by decide +kernel
theorem dX6_row_43 : decode cX6_row 43 = .ok (.getfield 73, 3) := by decide +kernel
theorem dX6_row_46 : decode cX6_row 46 = .ok (.aload_n 0, 1) := by decide +kernel
theorem dX6_row_47 : decode cX6_row 47 = .ok (.getfield 54, 3) := by decide +kernel
theorem dX6_row_50 : decode cX6_row 50 = .ok (.aload_n 0, 1) := by decide +kernel
theorem dX6_row_51 : decode cX6_row 51 = .ok (.getfield 23, 3) := by decide +kernel
theorem dX6_row_54 : decode cX6_row 54 = .ok (.getfield 115, 3) := by decide +kernel
theorem dX6_row_57 : decode cX6_row 57 = .ok (.iload_n 3, 1) := by decide +kernel
theorem dX6_row_58 : decode cX6_row 58 = .ok (.iload_n 1, 1) := by decide +kernel
theorem dX6_row_59 : decode cX6_row 59 = .ok (.invokevirtual 231, 3) := by decide +kernel
theorem dX6_row_62 : decode cX6_row 62 = .ok (.iload_n 2, 1) := by decide +kernel
theorem dX6_row_63 : decode cX6_row 63 = .ok (.ifCond .ne 13, 3) := by decide +kernel
theorem dX6_row_66 : decode cX6_row 66 = .ok (.aload_n 0, 1) := by decide +kernel
theorem dX6_row_67 : decode cX6_row 67 = .ok (.getfield 73, 3) := by decide +kernel
theorem dX6_row_70 : decode cX6_row 70 = .ok (.getfield 235, 3) := by decide +kernel
theorem dX6_row_73 : decode cX6_row 73 = .ok (.goto 15, 3) := by decide +kernel
theorem dX6_row_76 : decode cX6_row 76 = .ok (.aload_n 0, 1) := by decide +kernel
theorem dX6_row_77 : decode cX6_row 77 = .ok (.getfield 73, 3) := by decide +kernel
theorem dX6_row_80 : decode cX6_row 80 = .ok (.getfield 238, 3) := by decide +kernel
theorem dX6_row_83 : decode cX6_row 83 = .ok (.iload_n 2, 1) := by decide +kernel
theorem dX6_row_84 : decode cX6_row 84 = .ok (.bipush 10, 2) := by decide +kernel
theorem dX6_row_86 : decode cX6_row 86 = .ok (.isub, 1) := by decide +kernel
theorem dX6_row_87 : decode cX6_row 87 = .ok (.iaload, 1) := by decide +kernel
theorem dX6_row_88 : decode cX6_row 88 = .ok (.ireturn, 1) := by decide +kernel
theorem dX6_twins_0 : decode cX6_twins 0 = .ok (.aload_n 0, 1) := by decide +kernel
theorem dX6_twins_1 : decode cX6_twins 1 = .ok (.invokevirtual 183, 3) := by decide +kernel
theorem dX6_twins_4 : decode cX6_twins 4 = .ok (.istore_n 1, 1) := by decide +kernel
theorem dX6_twins_5 : decode cX6_twins 5 = .ok (.iconst 0, 1) := by decide +kernel
theorem dX6_twins_6 : decode cX6_twins 6 = .ok (.istore_n 2, 1) := by decide +kernel
theorem dX6_twins_7 : decode cX6_twins 7 = .ok (.iconst 0, 1) := by decide +kernel
theorem dX6_twins_8 : decode cX6_twins 8 = .ok (.istore_n 3, 1) := by decide +kernel
theorem dX6_twins_9 : decode cX6_twins 9 = .ok (.iload_n 3, 1) := by decide +kernel
theorem dX6_twins_10 : decode cX6_twins 10 = .ok (.aload_n 0, 1) := by decide +kernel
theorem dX6_twins_11 : decode cX6_twins 11 = .ok (.getfield 23, 3) := by decide +kernel
theorem dX6_twins_14 : decode cX6_twins 14 = .ok (.getfield 115, 3) := by decide +kernel
theorem dX6_twins_17 : decode cX6_twins 17 = .ok (.if_icmp .ge 62, 3) := by decide +kernel
theorem dX6_twins_20 : decode cX6_twins 20 = .ok (.iload_n 3, 1) := by decide +kernel
theorem dX6_twins_21 : decode cX6_twins 21 = .ok (.iconst 1, 1) := by decide +kernel
theorem dX6_twins_22 : decode cX6_twins 22 = .ok (.iadd, 1) := by decide +kernel
theorem dX6_twins_23 : decode cX6_twins 23 = .ok (.istore 4, 2) := by decide +kernel
theorem dX6_twins_25 : decode cX6_twins 25 = .ok (.iload 4, 2) := by decide +kernel
theorem dX6_twins_27 : decode cX6_twins 27 = .ok (.aload_n 0, 1) := by decide +kernel
theorem dX6_twins_28 : decode cX6_twins 28 = .ok (.getfield 23, 3) := by decide +kernel
theorem dX6_twins_31 : decode cX6_twins 31 = .ok (.getfield 115, 3) := by decide +kernel
theorem dX6_twins_34 : decode cX6_twins 34 = .ok (.if_icmp .ge 39, 3) := by decide +kernel
theorem dX6_twins_37 : decode cX6_twins 37 = .ok (.iload_n 1, 1) := by decide +kernel
theorem dX6_twins_38 : decode cX6_twins 38 = .ok (.iload_n 3, 1) := by decide +kernel
theorem dX6_twins_39 : decode cX6_twins 39 = .ok (.invokestatic 166, 3) := by decide +kernel
theorem dX6_twins_42 : decode cX6_twins 42 = .ok (.ifCond .eq 25, 3) := by decide +kernel
theorem dX6_twins_45 : decode cX6_twins 45 = .ok (.iload_n 1, 1) := by decide +kernel
theorem dX6_twins_46 : decode cX6_twins 46 = .ok (.iload 4, 2) := by decide +kernel
theorem dX6_twins_48 : decode cX6_twins 48 = .ok (.invokestatic 166, 3) := by decide +kernel
theorem dX6_twins_51 : decode cX6_twins 51 = .ok (.ifCond .eq 16, 3) := by decide +kernel
theorem dX6_twins_54 : decode cX6_twins 54 = .ok (.aload_n 0, 1) := by decide +kernel
theorem dX6_twins_55 : decode cX6_twins 55 = .ok (.iload_n 3, 1) := by decide +kernel
theorem dX6_twins_56 : decode cX6_twins 56 = .ok (.iload 4, 2) := by decide +kernel
theorem dX6_twins_58 : decode cX6_twins 58 = .ok (.invokevirtual 241, 3) := by decide +kernel
theorem dX6_twins_61 : decode cX6_twins 61 = .ok (.ifCond .eq 6, 3) := by decide +kernel
theorem dX6_twins_64 : decode cX6_twins 64 = .ok (.iinc 2 1, 3) := by decide +kernel
theorem dX6_twins_67 : decode cX6_twins 67 = .ok (.iinc 4 1, 3) := by decide +kernel
theorem dX6_twins_70 : decode cX6_twins 70 = .ok (.goto (-45), 3) := by decide +kernel
theorem dX6_twins_73 : decode cX6_twins 73 = .ok (.iinc 3 1, 3) := by decide +kernel
theorem dX6_twins_76 : decode cX6_twins 76 = .ok (.goto (-67), 3) := by decide +kernel
theorem dX6_twins_79 : decode cX6_twins 79 = .ok (.iload_n 2, 1) := by decide +kernel
theorem dX6_twins_80 : decode cX6_twins 80 = .ok (.ireturn, 1) := by decide +kernel
theorem dX6_meant_0 : decode cX6_meant 0 = .ok (.iconst 0, 1) := by decide +kernel
theorem dX6_meant_1 : decode cX6_meant 1 = .ok (.istore_n 1, 1) := by decide +kernel
theorem dX6_meant_2 : decode cX6_meant 2 = .ok (.iconst 0, 1) := by decide +kernel
theorem dX6_meant_3 : decode cX6_meant 3 = .ok (.istore_n 2, 1) := by decide +kernel
theorem dX6_meant_4 : decode cX6_meant 4 = .ok (.iload_n 2, 1) := by decide +kernel
theorem dX6_meant_5 : decode cX6_meant 5 = .ok (.aload_n 0, 1) := by decide +kernel
theorem dX6_meant_6 : decode cX6_meant 6 = .ok (.getfield 23, 3) := by decide +kernel
theorem dX6_meant_9 : decode cX6_meant 9 = .ok (.getfield 115, 3) := by decide +kernel
theorem dX6_meant_12 : decode cX6_meant 12 = .ok (.if_icmp .ge 23, 3) := by decide +kernel
theorem dX6_meant_15 : decode cX6_meant 15 = .ok (.aload_n 0, 1) := by decide +kernel
theorem dX6_meant_16 : decode cX6_meant 16 = .ok (.iload_n 2, 1) := by decide +kernel
theorem dX6_meant_17 : decode cX6_meant 17 = .ok (.invokevirtual 244, 3) := by decide +kernel
theorem dX6_meant_20 : decode cX6_meant 20 = .ok (.ifCond .ne 9, 3) := by decide +kernel
theorem dX6_meant_23 : decode cX6_meant 23 = .ok (.iload_n 1, 1) := by decide +kernel
theorem dX6_meant_24 : decode cX6_meant 24 = .ok (.iconst 1, 1) := by decide +kernel
theorem dX6_meant_25 : decode cX6_meant 25 = .ok (.iload_n 2, 1) := by decide +kernel
theorem dX6_meant_26 : decode cX6_meant 26 = .ok (.ishl, 1) := by decide +kernel
theorem dX6_meant_27 : decode cX6_meant 27 = .ok (.ior, 1) := by decide +kernel
theorem dX6_meant_28 : decode cX6_meant 28 = .ok (.istore_n 1, 1) := by decide +kernel
theorem dX6_meant_29 : decode cX6_meant 29 = .ok (.iinc 2 1, 3) := by decide +kernel
theorem dX6_meant_32 : decode cX6_meant 32 = .ok (.goto (-28), 3) := by decide +kernel
theorem dX6_meant_35 : decode cX6_meant 35 = .ok (.iload_n 1, 1) := by decide +kernel
theorem dX6_meant_36 : decode cX6_meant 36 = .ok (.ireturn, 1) := by decide +kernel
theorem dX6_slips_0 : decode cX6_slips 0 = .ok (.aload_n 0, 1) := by decide +kernel
theorem dX6_slips_1 : decode cX6_slips 1 = .ok (.iload_n 1, 1) := by decide +kernel
theorem dX6_slips_2 : decode cX6_slips 2 = .ok (.invokevirtual 130, 3) := by decide +kernel
theorem dX6_slips_5 : decode cX6_slips 5 = .ok (.ifCond .ne 5, 3) := by decide +kernel
theorem dX6_slips_8 : decode cX6_slips 8 = .ok (.iconst (-1), 1) := by decide +kernel
theorem dX6_slips_9 : decode cX6_slips 9 = .ok (.ireturn, 1) := by decide +kernel
theorem dX6_slips_10 : decode cX6_slips 10 = .ok (.aload_n 0, 1) := by decide +kernel
theorem dX6_slips_11 : decode cX6_slips 11 = .ok (.iload_n 1, 1) := by decide +kernel
theorem dX6_slips_12 : decode cX6_slips 12 = .ok (.invokevirtual 244, 3) := by decide +kernel
theorem dX6_slips_15 : decode cX6_slips 15 = .ok (.ifCond .eq 6, 3) := by decide +kernel
theorem dX6_slips_18 : decode cX6_slips 18 = .ok (.bipush (-4), 2) := by decide +kernel
theorem dX6_slips_20 : decode cX6_slips 20 = .ok (.ireturn, 1) := by decide +kernel
theorem dX6_slips_21 : decode cX6_slips 21 = .ok (.iconst 0, 1) := by decide +kernel
theorem dX6_slips_22 : decode cX6_slips 22 = .ok (.istore_n 2, 1) := by decide +kernel
theorem dX6_slips_23 : decode cX6_slips 23 = .ok (.iconst 0, 1) := by decide +kernel
theorem dX6_slips_24 : decode cX6_slips 24 = .ok (.istore_n 3, 1) := by decide +kernel
theorem dX6_slips_25 : decode cX6_slips 25 = .ok (.iload_n 3, 1) := by decide +kernel
theorem dX6_slips_26 : decode cX6_slips 26 = .ok (.aload_n 0, 1) := by decide +kernel
theorem dX6_slips_27 : decode cX6_slips 27 = .ok (.getfield 23, 3) := by decide +kernel
theorem dX6_slips_30 : decode cX6_slips 30 = .ok (.getfield 127, 3) := by decide +kernel
theorem dX6_slips_33 : decode cX6_slips 33 = .ok (.if_icmp .ge 33, 3) := by decide +kernel
theorem dX6_slips_36 : decode cX6_slips 36 = .ok (.aload_n 0, 1) := by decide +kernel
theorem dX6_slips_37 : decode cX6_slips 37 = .ok (.getfield 23, 3) := by decide +kernel
theorem dX6_slips_40 : decode cX6_slips 40 = .ok (.iload_n 1, 1) := by decide +kernel
theorem dX6_slips_41 : decode cX6_slips 41 = .ok (.iload_n 3, 1) := by decide +kernel
theorem dX6_slips_42 : decode cX6_slips 42 = .ok (.invokevirtual 140, 3) := by decide +kernel
theorem dX6_slips_45 : decode cX6_slips 45 = .ok (.aload_n 0, 1) := by decide +kernel
theorem dX6_slips_46 : decode cX6_slips 46 = .ok (.getfield 23, 3) := by decide +kernel
theorem dX6_slips_49 : decode cX6_slips 49 = .ok (.getfield 144, 3) := by decide +kernel
theorem dX6_slips_52 : decode cX6_slips 52 = .ok (.iload_n 3, 1) := by decide +kernel
theorem dX6_slips_53 : decode cX6_slips 53 = .ok (.iaload, 1) := by decide +kernel
theorem dX6_slips_54 : decode cX6_slips 54 = .ok (.if_icmp .eq 6, 3) := by decide +kernel
theorem dX6_slips_57 : decode cX6_slips 57 = .ok (.iinc 2 1, 3) := by decide +kernel
theorem dX6_slips_60 : decode cX6_slips 60 = .ok (.iinc 3 1, 3) := by decide +kernel
theorem dX6_slips_63 : decode cX6_slips 63 = .ok (.goto (-38), 3) := by decide +kernel
theorem dX6_slips_66 : decode cX6_slips 66 = .ok (.iload_n 2, 1) := by decide +kernel
theorem dX6_slips_67 : decode cX6_slips 67 = .ok (.ireturn, 1) := by decide +kernel
theorem dX6_more_0 : decode cX6_more 0 = .ok (.iload_n 1, 1) := by decide +kernel
theorem dX6_more_1 : decode cX6_more 1 = .ok (.iconst 0, 1) := by decide +kernel
theorem dX6_more_2 : decode cX6_more 2 = .ok (.iconst 1, 1) := by decide +kernel
theorem dX6_more_3 : decode cX6_more 3 = .ok (.invokestatic 87, 3) := by decide +kernel
theorem dX6_more_6 : decode cX6_more 6 = .ok (.ifCond .ne 5, 3) := by decide +kernel
theorem dX6_more_9 : decode cX6_more 9 = .ok (.iconst (-1), 1) := by decide +kernel
theorem dX6_more_10 : decode cX6_more 10 = .ok (.ireturn, 1) := by decide +kernel
theorem dX6_more_11 : decode cX6_more 11 = .ok (.iconst 0, 1) := by decide +kernel
theorem dX6_more_12 : decode cX6_more 12 = .ok (.istore_n 2, 1) := by decide +kernel
theorem dX6_more_13 : decode cX6_more 13 = .ok (.iconst 0, 1) := by decide +kernel
theorem dX6_more_14 : decode cX6_more 14 = .ok (.istore_n 3, 1) := by decide +kernel
theorem dX6_more_15 : decode cX6_more 15 = .ok (.iload_n 3, 1) := by decide +kernel
theorem dX6_more_16 : decode cX6_more 16 = .ok (.aload_n 0, 1) := by decide +kernel
theorem dX6_more_17 : decode cX6_more 17 = .ok (.getfield 23, 3) := by decide +kernel
theorem dX6_more_20 : decode cX6_more 20 = .ok (.getfield 115, 3) := by decide +kernel
theorem dX6_more_23 : decode cX6_more 23 = .ok (.if_icmp .ge 32, 3) := by decide +kernel
theorem dX6_more_26 : decode cX6_more 26 = .ok (.aload_n 0, 1) := by decide +kernel
theorem dX6_more_27 : decode cX6_more 27 = .ok (.getfield 83, 3) := by decide +kernel
theorem dX6_more_30 : decode cX6_more 30 = .ok (.iload_n 3, 1) := by decide +kernel
theorem dX6_more_31 : decode cX6_more 31 = .ok (.aload_n 0, 1) := by decide +kernel
theorem dX6_more_32 : decode cX6_more 32 = .ok (.iload_n 3, 1) := by decide +kernel
theorem dX6_more_33 : decode cX6_more 33 = .ok (.invokevirtual 244, 3) := by decide +kernel
theorem dX6_more_36 : decode cX6_more 36 = .ok (.iastore, 1) := by decide +kernel
theorem dX6_more_37 : decode cX6_more 37 = .ok (.aload_n 0, 1) := by decide +kernel
theorem dX6_more_38 : decode cX6_more 38 = .ok (.getfield 83, 3) := by decide +kernel
theorem dX6_more_41 : decode cX6_more 41 = .ok (.iload_n 3, 1) := by decide +kernel
theorem dX6_more_42 : decode cX6_more 42 = .ok (.iaload, 1) := by decide +kernel
theorem dX6_more_43 : decode cX6_more 43 = .ok (.ifCond .ne 6, 3) := by decide +kernel
theorem dX6_more_46 : decode cX6_more 46 = .ok (.iinc 2 1, 3) := by decide +kernel
theorem dX6_more_49 : decode cX6_more 49 = .ok (.iinc 3 1, 3) := by decide +kernel
theorem dX6_more_52 : decode cX6_more 52 = .ok (.goto (-37), 3) := by decide +kernel
theorem dX6_more_55 : decode cX6_more 55 = .ok (.iconst 0, 1) := by decide +kernel
theorem dX6_more_56 : decode cX6_more 56 = .ok (.istore_n 3, 1) := by decide +kernel
theorem dX6_more_57 : decode cX6_more 57 = .ok (.iconst 0, 1) := by decide +kernel
theorem dX6_more_58 : decode cX6_more 58 = .ok (.istore 4, 2) := by decide +kernel
theorem dX6_more_60 : decode cX6_more 60 = .ok (.iconst 0, 1) := by decide +kernel
theorem dX6_more_61 : decode cX6_more 61 = .ok (.istore 5, 2) := by decide +kernel
theorem dX6_more_63 : decode cX6_more 63 = .ok (.iload 5, 2) := by decide +kernel
theorem dX6_more_65 : decode cX6_more 65 = .ok (.aload_n 0, 1) := by decide +kernel
theorem dX6_more_66 : decode cX6_more 66 = .ok (.getfield 23, 3) := by decide +kernel
theorem dX6_more_69 : decode cX6_more 69 = .ok (.getfield 115, 3) := by decide +kernel
theorem dX6_more_72 : decode cX6_more 72 = .ok (.if_icmp .ge 66, 3) := by decide +kernel
theorem dX6_more_75 : decode cX6_more 75 = .ok (.aload_n 0, 1) := by decide +kernel
theorem dX6_more_76 : decode cX6_more 76 = .ok (.getfield 83, 3) := by decide +kernel
theorem dX6_more_79 : decode cX6_more 79 = .ok (.iload 5, 2) := by decide +kernel
theorem dX6_more_81 : decode cX6_more 81 = .ok (.iaload, 1) := by decide +kernel
theorem dX6_more_82 : decode cX6_more 82 = .ok (.istore 6, 2) := by decide +kernel
theorem dX6_more_84 : decode cX6_more 84 = .ok (.iload 6, 2) := by decide +kernel
theorem dX6_more_86 : decode cX6_more 86 = .ok (.ifCond .le 12, 3) := by decide +kernel
theorem dX6_more_89 : decode cX6_more 89 = .ok (.aload_n 0, 1) := by decide +kernel
theorem dX6_more_90 : decode cX6_more 90 = .ok (.iload 6, 2) := by decide +kernel
theorem dX6_more_92 : decode cX6_more 92 = .ok (.invokevirtual 247, 3) := by decide +kernel
theorem dX6_more_95 : decode cX6_more 95 = .ok (.goto 4, 3) := by decide +kernel
theorem dX6_more_98 : decode cX6_more 98 = .ok (.iconst 0, 1) := by decide +kernel
theorem dX6_more_99 : decode cX6_more 99 = .ok (.istore 7, 2) := by decide +kernel
theorem dX6_more_101 : decode cX6_more 101 = .ok (.iload 7, 2) := by decide +kernel
theorem dX6_more_103 : decode cX6_more 103 = .ok (.iload_n 3, 1) := by decide +kernel
theorem dX6_more_104 : decode cX6_more 104 = .ok (.if_icmp .gt 21, 3) := by decide +kernel
theorem dX6_more_107 : decode cX6_more 107 = .ok (.iload 7, 2) := by decide +kernel
theorem dX6_more_109 : decode cX6_more 109 = .ok (.iload_n 3, 1) := by decide +kernel
theorem dX6_more_110 : decode cX6_more 110 = .ok (.if_icmp .ne 22, 3) := by decide +kernel
theorem dX6_more_113 : decode cX6_more 113 = .ok (.iload 7, 2) := by decide +kernel
theorem dX6_more_115 : decode cX6_more 115 = .ok (.ifCond .le 17, 3) := by decide +kernel
theorem dX6_more_118 : decode cX6_more 118 = .ok (.iload 6, 2) := by decide +kernel
theorem dX6_more_120 : decode cX6_more 120 = .ok (.iload 4, 2) := by decide +kernel
theorem dX6_more_122 : decode cX6_more 122 = .ok (.if_icmp .ge 10, 3) := by decide +kernel
theorem dX6_more_125 : decode cX6_more 125 = .ok (.iload 7, 2) := by decide +kernel
theorem dX6_more_127 : decode cX6_more 127 = .ok (.istore_n 3, 1) := by decide +kernel
theorem dX6_more_128 : decode cX6_more 128 = .ok (.iload 6, 2) := by decide +kernel
theorem dX6_more_130 : decode cX6_more 130 = .ok (.istore 4, 2) := by decide +kernel
theorem dX6_more_132 : decode cX6_more 132 = .ok (.iinc 5 1, 3) := by decide +kernel
theorem dX6_more_135 : decode cX6_more 135 = .ok (.goto (-72), 3) := by decide +kernel
theorem dX6_more_138 : decode cX6_more 138 = .ok (.iload_n 3, 1) := by decide +kernel
theorem dX6_more_139 : decode cX6_more 139 = .ok (.ifCond .ne 6, 3) := by decide +kernel
theorem dX6_more_142 : decode cX6_more 142 = .ok (.bipush (-4), 2) := by decide +kernel
theorem dX6_more_144 : decode cX6_more 144 = .ok (.ireturn, 1) := by decide +kernel
theorem dX6_more_145 : decode cX6_more 145 = .ok (.iload_n 1, 1) := by decide +kernel
theorem dX6_more_146 : decode cX6_more 146 = .ok (.ifCond .ne 8, 3) := by decide +kernel
theorem dX6_more_149 : decode cX6_more 149 = .ok (.iload 4, 2) := by decide +kernel
theorem dX6_more_151 : decode cX6_more 151 = .ok (.goto 6, 3) := by decide +kernel
theorem dX6_more_154 : decode cX6_more 154 = .ok (.iload_n 2, 1) := by decide +kernel
theorem dX6_more_155 : decode cX6_more 155 = .ok (.iload_n 3, 1) := by decide +kernel
theorem dX6_more_156 : decode cX6_more 156 = .ok (.iadd, 1) := by decide +kernel
theorem dX6_more_157 : decode cX6_more 157 = .ok (.ireturn, 1) := by decide +kernel
theorem dX6_play_0 : decode cX6_play 0 = .ok (.aload_n 0, 1) := by decide +kernel
theorem dX6_play_1 : decode cX6_play 1 = .ok (.iload_n 2, 1) := by decide +kernel
theorem dX6_play_2 : decode cX6_play 2 = .ok (.invokevirtual 130, 3) := by decide +kernel
theorem dX6_play_5 : decode cX6_play 5 = .ok (.ifCond .eq 23, 3) := by decide +kernel
theorem dX6_play_8 : decode cX6_play 8 = .ok (.iload_n 3, 1) := by decide +kernel
theorem dX6_play_9 : decode cX6_play 9 = .ok (.iconst 1, 1) := by decide +kernel
theorem dX6_play_10 : decode cX6_play 10 = .ok (.bipush 60, 2) := by decide +kernel
theorem dX6_play_12 : decode cX6_play 12 = .ok (.invokestatic 87, 3) := by decide +kernel
theorem dX6_play_15 : decode cX6_play 15 = .ok (.ifCond .eq 13, 3) := by decide +kernel
theorem dX6_play_18 : decode cX6_play 18 = .ok (.iload 4, 2) := by decide +kernel
theorem dX6_play_20 : decode cX6_play 20 = .ok (.iconst 0, 1) := by decide +kernel
theorem dX6_play_21 : decode cX6_play 21 = .ok (.iconst 1, 1) := by decide +kernel
theorem dX6_play_22 : decode cX6_play 22 = .ok (.invokestatic 87, 3) := by decide +kernel
theorem dX6_play_25 : decode cX6_play 25 = .ok (.ifCond .ne 5, 3) := by decide +kernel
theorem dX6_play_28 : decode cX6_play 28 = .ok (.iconst (-1), 1) := by decide +kernel
theorem dX6_play_29 : decode cX6_play 29 = .ok (.ireturn, 1) := by decide +kernel
theorem dX6_play_30 : decode cX6_play 30 = .ok (.aload_n 0, 1) := by decide +kernel
theorem dX6_play_31 : decode cX6_play 31 = .ok (.invokevirtual 183, 3) := by decide +kernel
theorem dX6_play_34 : decode cX6_play 34 = .ok (.iconst 1, 1) := by decide +kernel
theorem dX6_play_35 : decode cX6_play 35 = .ok (.iload_n 2, 1) := by decide +kernel
theorem dX6_play_36 : decode cX6_play 36 = .ok (.ishl, 1) := by decide +kernel
theorem dX6_play_37 : decode cX6_play 37 = .ok (.ior, 1) := by decide +kernel
theorem dX6_play_38 : decode cX6_play 38 = .ok (.istore 5, 2) := by decide +kernel
theorem dX6_play_40 : decode cX6_play 40 = .ok (.iconst 0, 1) := by decide +kernel
theorem dX6_play_41 : decode cX6_play 41 = .ok (.istore 6, 2) := by decide +kernel
theorem dX6_play_43 : decode cX6_play 43 = .ok (.iconst 0, 1) := by decide +kernel
theorem dX6_play_44 : decode cX6_play 44 = .ok (.istore 7, 2) := by decide +kernel
theorem dX6_play_46 : decode cX6_play 46 = .ok (.iload 6, 2) := by decide +kernel
theorem dX6_play_48 : decode cX6_play 48 = .ok (.iload_n 3, 1) := by decide +kernel
theorem dX6_play_49 : decode cX6_play 49 = .ok (.if_icmp .ge 75, 3) := by decide +kernel
theorem dX6_play_52 : decode cX6_play 52 = .ok (.iload 7, 2) := by decide +kernel
theorem dX6_play_54 : decode cX6_play 54 = .ok (.ifCond .ne 70, 3) := by decide +kernel
theorem dX6_play_57 : decode cX6_play 57 = .ok (.iload_n 1, 1) := by decide +kernel
theorem dX6_play_58 : decode cX6_play 58 = .ok (.ldc 250, 2) := by decide +kernel
theorem dX6_play_60 : decode cX6_play 60 = .ok (.imul, 1) := by decide +kernel
theorem dX6_play_61 : decode cX6_play 61 = .ok (.sipush 12345, 3) := by decide +kernel
theorem dX6_play_64 : decode cX6_play 64 = .ok (.iadd, 1) := by decide +kernel
theorem dX6_play_65 : decode cX6_play 65 = .ok (.istore_n 1, 1) := by decide +kernel
theorem dX6_play_66 : decode cX6_play 66 = .ok (.iload 5, 2) := by decide +kernel
theorem dX6_play_68 : decode cX6_play 68 = .ok (.iload_n 1, 1) := by decide +kernel
theorem dX6_play_69 : decode cX6_play 69 = .ok (.bipush 16, 2) := by decide +kernel
theorem dX6_play_71 : decode cX6_play 71 = .ok (.iushr, 1) := by decide +kernel
theorem dX6_play_72 : decode cX6_play 72 = .ok (.sipush 32767, 3) := by decide +kernel
theorem dX6_play_75 : decode cX6_play 75 = .ok (.iand, 1) := by decide +kernel
theorem dX6_play_76 : decode cX6_play 76 = .ok (.invokestatic 251, 3) := by decide +kernel
theorem dX6_play_79 : decode cX6_play 79 = .ok (.istore 8, 2) := by decide +kernel
theorem dX6_play_81 : decode cX6_play 81 = .ok (.iinc 6 1, 3) := by decide +kernel
theorem dX6_play_84 : decode cX6_play 84 = .ok (.iload 8, 2) := by decide +kernel
theorem dX6_play_86 : decode cX6_play 86 = .ok (.iload_n 2, 1) := by decide +kernel
theorem dX6_play_87 : decode cX6_play 87 = .ok (.if_icmp .ne 7, 3) := by decide +kernel
theorem dX6_play_90 : decode cX6_play 90 = .ok (.iconst 1, 1) := by decide +kernel
theorem dX6_play_91 : decode cX6_play 91 = .ok (.goto 4, 3) := by decide +kernel
theorem dX6_play_94 : decode cX6_play 94 = .ok (.iconst 0, 1) := by decide +kernel
theorem dX6_play_95 : decode cX6_play 95 = .ok (.istore 7, 2) := by decide +kernel
theorem dX6_play_97 : decode cX6_play 97 = .ok (.iload 5, 2) := by decide +kernel
theorem dX6_play_99 : decode cX6_play 99 = .ok (.aload_n 0, 1) := by decide +kernel
theorem dX6_play_100 : decode cX6_play 100 = .ok (.iload 8, 2) := by decide +kernel
theorem dX6_play_102 : decode cX6_play 102 = .ok (.aload_n 0, 1) := by decide +kernel
theorem dX6_play_103 : decode cX6_play 103 = .ok (.getfield 54, 3) := by decide +kernel
theorem dX6_play_106 : decode cX6_play 106 = .ok (.iload 8, 2) := by decide +kernel
theorem dX6_play_108 : decode cX6_play 108 = .ok (.iaload, 1) := by decide +kernel
theorem dX6_play_109 : decode cX6_play 109 = .ok (.iload 8, 2) := by decide +kernel
theorem dX6_play_111 : decode cX6_play 111 = .ok (.iload_n 2, 1) := by decide +kernel
theorem dX6_play_112 : decode cX6_play 112 = .ok (.invokestatic 254, 3) := by decide +kernel
theorem dX6_play_115 : decode cX6_play 115 = .ok (.invokevirtual 208, 3) := by decide +kernel
theorem dX6_play_118 : decode cX6_play 118 = .ok (.iand, 1) := by decide +kernel
theorem dX6_play_119 : decode cX6_play 119 = .ok (.istore 5, 2) := by decide +kernel
theorem dX6_play_121 : decode cX6_play 121 = .ok (.goto (-75), 3) := by decide +kernel
theorem dX6_play_124 : decode cX6_play 124 = .ok (.iload 4, 2) := by decide +kernel
theorem dX6_play_126 : decode cX6_play 126 = .ok (.ifCond .ne 6, 3) := by decide +kernel
theorem dX6_play_129 : decode cX6_play 129 = .ok (.iload 6, 2) := by decide +kernel
theorem dX6_play_131 : decode cX6_play 131 = .ok (.ireturn, 1) := by decide +kernel
theorem dX6_play_132 : decode cX6_play 132 = .ok (.iload 7, 2) := by decide +kernel
theorem dX6_play_134 : decode cX6_play 134 = .ok (.ifCond .eq 7, 3) := by decide +kernel
theorem dX6_play_137 : decode cX6_play 137 = .ok (.iconst 1, 1) := by decide +kernel
theorem dX6_play_138 : decode cX6_play 138 = .ok (.goto 4, 3) := by decide +kernel
theorem dX6_play_141 : decode cX6_play 141 = .ok (.iconst 0, 1) := by decide +kernel
theorem dX6_play_142 : decode cX6_play 142 = .ok (.ireturn, 1) := by decide +kernel
theorem dX6_keep_0 : decode cX6_keep 0 = .ok (.iload_n 1, 1) := by decide +kernel
theorem dX6_keep_1 : decode cX6_keep 1 = .ok (.iconst 0, 1) := by decide +kernel
theorem dX6_keep_2 : decode cX6_keep 2 = .ok (.iconst 1, 1) := by decide +kernel
theorem dX6_keep_3 : decode cX6_keep 3 = .ok (.invokestatic 87, 3) := by decide +kernel
theorem dX6_keep_6 : decode cX6_keep 6 = .ok (.ifCond .ne 5, 3) := by decide +kernel
theorem dX6_keep_9 : decode cX6_keep 9 = .ok (.iconst (-1), 1) := by decide +kernel
theorem dX6_keep_10 : decode cX6_keep 10 = .ok (.ireturn, 1) := by decide +kernel
theorem dX6_keep_11 : decode cX6_keep 11 = .ok (.aload_n 0, 1) := by decide +kernel
theorem dX6_keep_12 : decode cX6_keep 12 = .ok (.getfield 44, 3) := by decide +kernel
theorem dX6_keep_15 : decode cX6_keep 15 = .ok (.iload_n 1, 1) := by decide +kernel
theorem dX6_keep_16 : decode cX6_keep 16 = .ok (.baload, 1) := by decide +kernel
theorem dX6_keep_17 : decode cX6_keep 17 = .ok (.istore_n 2, 1) := by decide +kernel
theorem dX6_keep_18 : decode cX6_keep 18 = .ok (.aload_n 0, 1) := by decide +kernel
theorem dX6_keep_19 : decode cX6_keep 19 = .ok (.getfield 40, 3) := by decide +kernel
theorem dX6_keep_22 : decode cX6_keep 22 = .ok (.iload_n 1, 1) := by decide +kernel
theorem dX6_keep_23 : decode cX6_keep 23 = .ok (.aaload, 1) := by decide +kernel
theorem dX6_keep_24 : decode cX6_keep 24 = .ok (.aload_n 0, 1) := by decide +kernel
theorem dX6_keep_25 : decode cX6_keep 25 = .ok (.getfield 30, 3) := by decide +kernel
theorem dX6_keep_28 : decode cX6_keep 28 = .ok (.invokevirtual 258, 3) := by decide +kernel
theorem dX6_keep_31 : decode cX6_keep 31 = .ok (.aload_n 0, 1) := by decide +kernel
theorem dX6_keep_32 : decode cX6_keep 32 = .ok (.getfield 44, 3) := by decide +kernel
theorem dX6_keep_35 : decode cX6_keep 35 = .ok (.iload_n 1, 1) := by decide +kernel
theorem dX6_keep_36 : decode cX6_keep 36 = .ok (.iconst 1, 1) := by decide +kernel
theorem dX6_keep_37 : decode cX6_keep 37 = .ok (.bastore, 1) := by decide +kernel
theorem dX6_keep_38 : decode cX6_keep 38 = .ok (.iload_n 2, 1) := by decide +kernel
theorem dX6_keep_39 : decode cX6_keep 39 = .ok (.ifCond .eq 7, 3) := by decide +kernel
theorem dX6_keep_42 : decode cX6_keep 42 = .ok (.iconst 1, 1) := by decide +kernel
theorem dX6_keep_43 : decode cX6_keep 43 = .ok (.goto 4, 3) := by decide +kernel
theorem dX6_keep_46 : decode cX6_keep 46 = .ok (.iconst 0, 1) := by decide +kernel
theorem dX6_keep_47 : decode cX6_keep 47 = .ok (.ireturn, 1) := by decide +kernel
theorem dX6_back_0 : decode cX6_back 0 = .ok (.iload_n 1, 1) := by decide +kernel
theorem dX6_back_1 : decode cX6_back 1 = .ok (.iconst 0, 1) := by decide +kernel
theorem dX6_back_2 : decode cX6_back 2 = .ok (.iconst 1, 1) := by decide +kernel
theorem dX6_back_3 : decode cX6_back 3 = .ok (.invokestatic 87, 3) := by decide +kernel
theorem dX6_back_6 : decode cX6_back 6 = .ok (.ifCond .ne 5, 3) := by decide +kernel
theorem dX6_back_9 : decode cX6_back 9 = .ok (.iconst (-1), 1) := by decide +kernel
theorem dX6_back_10 : decode cX6_back 10 = .ok (.ireturn, 1) := by decide +kernel
theorem dX6_back_11 : decode cX6_back 11 = .ok (.aload_n 0, 1) := by decide +kernel
theorem dX6_back_12 : decode cX6_back 12 = .ok (.getfield 44, 3) := by decide +kernel
theorem dX6_back_15 : decode cX6_back 15 = .ok (.iload_n 1, 1) := by decide +kernel
theorem dX6_back_16 : decode cX6_back 16 = .ok (.baload, 1) := by decide +kernel
theorem dX6_back_17 : decode cX6_back 17 = .ok (.ifCond .ne 6, 3) := by decide +kernel
theorem dX6_back_20 : decode cX6_back 20 = .ok (.bipush (-2), 2) := by decide +kernel
theorem dX6_back_22 : decode cX6_back 22 = .ok (.ireturn, 1) := by decide +kernel
theorem dX6_back_23 : decode cX6_back 23 = .ok (.aload_n 0, 1) := by decide +kernel
theorem dX6_back_24 : decode cX6_back 24 = .ok (.getfield 30, 3) := by decide +kernel
theorem dX6_back_27 : decode cX6_back 27 = .ok (.aload_n 0, 1) := by decide +kernel
theorem dX6_back_28 : decode cX6_back 28 = .ok (.getfield 40, 3) := by decide +kernel
theorem dX6_back_31 : decode cX6_back 31 = .ok (.iload_n 1, 1) := by decide +kernel
theorem dX6_back_32 : decode cX6_back 32 = .ok (.aaload, 1) := by decide +kernel
theorem dX6_back_33 : decode cX6_back 33 = .ok (.invokevirtual 258, 3) := by decide +kernel
theorem dX6_back_36 : decode cX6_back 36 = .ok (.aload_n 0, 1) := by decide +kernel
theorem dX6_back_37 : decode cX6_back 37 = .ok (.invokevirtual 156, 3) := by decide +kernel
theorem dX6_back_40 : decode cX6_back 40 = .ok (.aload_n 0, 1) := by decide +kernel
theorem dX6_back_41 : decode cX6_back 41 = .ok (.getfield 30, 3) := by decide +kernel
theorem dX6_back_44 : decode cX6_back 44 = .ok (.getfield 170, 3) := by decide +kernel
theorem dX6_back_47 : decode cX6_back 47 = .ok (.ireturn, 1) := by decide +kernel
theorem dX6_sheet_0 : decode cX6_sheet 0 = .ok (.iload_n 1, 1) := by decide +kernel
theorem dX6_sheet_1 : decode cX6_sheet 1 = .ok (.iconst 0, 1) := by decide +kernel
theorem dX6_sheet_2 : decode cX6_sheet 2 = .ok (.iconst 3, 1) := by decide +kernel
theorem dX6_sheet_3 : decode cX6_sheet 3 = .ok (.invokestatic 87, 3) := by decide +kernel
theorem dX6_sheet_6 : decode cX6_sheet 6 = .ok (.ifCond .eq 18, 3) := by decide +kernel
theorem dX6_sheet_9 : decode cX6_sheet 9 = .ok (.iload_n 2, 1) := by decide +kernel
theorem dX6_sheet_10 : decode cX6_sheet 10 = .ok (.iconst 0, 1) := by decide +kernel
theorem dX6_sheet_11 : decode cX6_sheet 11 = .ok (.iconst 2, 1) := by decide +kernel
theorem dX6_sheet_12 : decode cX6_sheet 12 = .ok (.invokestatic 87, 3) := by decide +kernel
theorem dX6_sheet_15 : decode cX6_sheet 15 = .ok (.ifCond .eq 9, 3) := by decide +kernel
theorem dX6_sheet_18 : decode cX6_sheet 18 = .ok (.iload_n 3, 1) := by decide +kernel
theorem dX6_sheet_19 : decode cX6_sheet 19 = .ok (.bipush 40, 2) := by decide +kernel
theorem dX6_sheet_21 : decode cX6_sheet 21 = .ok (.if_icmp .le 5, 3) := by decide +kernel
theorem dX6_sheet_24 : decode cX6_sheet 24 = .ok (.iconst (-1), 1) := by decide +kernel
theorem dX6_sheet_25 : decode cX6_sheet 25 = .ok (.ireturn, 1) := by decide +kernel
theorem dX6_sheet_26 : decode cX6_sheet 26 = .ok (.iload_n 3, 1) := by decide +kernel
theorem dX6_sheet_27 : decode cX6_sheet 27 = .ok (.ifCond .ge 6, 3) := by decide +kernel
theorem dX6_sheet_30 : decode cX6_sheet 30 = .ok (.bipush (-14), 2) := by decide +kernel
theorem dX6_sheet_32 : decode cX6_sheet 32 = .ok (.ireturn, 1) := by decide +kernel
theorem dX6_sheet_33 : decode cX6_sheet 33 = .ok (.aload_n 0, 1) := by decide +kernel
theorem dX6_sheet_34 : decode cX6_sheet 34 = .ok (.getfield 50, 3) := by decide +kernel
theorem dX6_sheet_37 : decode cX6_sheet 37 = .ok (.iload_n 1, 1) := by decide +kernel
theorem dX6_sheet_38 : decode cX6_sheet 38 = .ok (.aaload, 1) := by decide +kernel
theorem dX6_sheet_39 : decode cX6_sheet 39 = .ok (.iload_n 2, 1) := by decide +kernel
theorem dX6_sheet_40 : decode cX6_sheet 40 = .ok (.iload_n 3, 1) := by decide +kernel
theorem dX6_sheet_41 : decode cX6_sheet 41 = .ok (.invokevirtual 262, 3) := by decide +kernel
theorem dX6_sheet_44 : decode cX6_sheet 44 = .ok (.iconst 1, 1) := by decide +kernel
theorem dX6_sheet_45 : decode cX6_sheet 45 = .ok (.ireturn, 1) := by decide +kernel
theorem dX6_lay_0 : decode cX6_lay 0 = .ok (.iload_n 1, 1) := by decide +kernel
theorem dX6_lay_1 : decode cX6_lay 1 = .ok (.iconst 0, 1) := by decide +kernel
theorem dX6_lay_2 : decode cX6_lay 2 = .ok (.iconst 3, 1) := by decide +kernel
theorem dX6_lay_3 : decode cX6_lay 3 = .ok (.invokestatic 87, 3) := by decide +kernel
theorem dX6_lay_6 : decode cX6_lay 6 = .ok (.ifCond .ne 5, 3) := by decide +kernel
theorem dX6_lay_9 : decode cX6_lay 9 = .ok (.iconst (-1), 1) := by decide +kernel
theorem dX6_lay_10 : decode cX6_lay 10 = .ok (.ireturn, 1) := by decide +kernel
theorem dX6_lay_11 : decode cX6_lay 11 = .ok (.aload_n 0, 1) := by decide +kernel
theorem dX6_lay_12 : decode cX6_lay 12 = .ok (.getfield 50, 3) := by decide +kernel
theorem dX6_lay_15 : decode cX6_lay 15 = .ok (.iload_n 1, 1) := by decide +kernel
theorem dX6_lay_16 : decode cX6_lay 16 = .ok (.aaload, 1) := by decide +kernel
theorem dX6_lay_17 : decode cX6_lay 17 = .ok (.iload_n 2, 1) := by decide +kernel
theorem dX6_lay_18 : decode cX6_lay 18 = .ok (.invokevirtual 265, 3) := by decide +kernel
theorem dX6_lay_21 : decode cX6_lay 21 = .ok (.istore 4, 2) := by decide +kernel
theorem dX6_lay_23 : decode cX6_lay 23 = .ok (.iload 4, 2) := by decide +kernel
theorem dX6_lay_25 : decode cX6_lay 25 = .ok (.ifCond .eq 9, 3) := by decide +kernel
theorem dX6_lay_28 : decode cX6_lay 28 = .ok (.bipush (-10), 2) := by decide +kernel
theorem dX6_lay_30 : decode cX6_lay 30 = .ok (.iload 4, 2) := by decide +kernel
theorem dX6_lay_32 : decode cX6_lay 32 = .ok (.isub, 1) := by decide +kernel
theorem dX6_lay_33 : decode cX6_lay 33 = .ok (.ireturn, 1) := by decide +kernel
theorem dX6_lay_34 : decode cX6_lay 34 = .ok (.aload_n 0, 1) := by decide +kernel
theorem dX6_lay_35 : decode cX6_lay 35 = .ok (.getfield 50, 3) := by decide +kernel
theorem dX6_lay_38 : decode cX6_lay 38 = .ok (.iload_n 1, 1) := by decide +kernel
theorem dX6_lay_39 : decode cX6_lay 39 = .ok (.aaload, 1) := by decide +kernel
theorem dX6_lay_40 : decode cX6_lay 40 = .ok (.iload_n 2, 1) := by decide +kernel
theorem dX6_lay_41 : decode cX6_lay 41 = .ok (.iload_n 3, 1) := by decide +kernel
theorem dX6_lay_42 : decode cX6_lay 42 = .ok (.invokevirtual 268, 3) := by decide +kernel
theorem dX6_lay_45 : decode cX6_lay 45 = .ok (.iconst 1, 1) := by decide +kernel
theorem dX6_lay_46 : decode cX6_lay 46 = .ok (.ireturn, 1) := by decide +kernel
theorem dX6_read_0 : decode cX6_read 0 = .ok (.iload_n 1, 1) := by decide +kernel
theorem dX6_read_1 : decode cX6_read 1 = .ok (.iconst 0, 1) := by decide +kernel
theorem dX6_read_2 : decode cX6_read 2 = .ok (.iconst 3, 1) := by decide +kernel
theorem dX6_read_3 : decode cX6_read 3 = .ok (.invokestatic 87, 3) := by decide +kernel
theorem dX6_read_6 : decode cX6_read 6 = .ok (.ifCond .eq 23, 3) := by decide +kernel
theorem dX6_read_9 : decode cX6_read 9 = .ok (.iload_n 2, 1) := by decide +kernel
theorem dX6_read_10 : decode cX6_read 10 = .ok (.iconst 0, 1) := by decide +kernel
theorem dX6_read_11 : decode cX6_read 11 = .ok (.iconst 2, 1) := by decide +kernel
theorem dX6_read_12 : decode cX6_read 12 = .ok (.invokestatic 87, 3) := by decide +kernel
theorem dX6_read_15 : decode cX6_read 15 = .ok (.ifCond .eq 14, 3) := by decide +kernel
theorem dX6_read_18 : decode cX6_read 18 = .ok (.iload 4, 2) := by decide +kernel
theorem dX6_read_20 : decode cX6_read 20 = .ok (.iconst 0, 1) := by decide +kernel
theorem dX6_read_21 : decode cX6_read 21 = .ok (.bipush 20, 2) := by decide +kernel
theorem dX6_read_23 : decode cX6_read 23 = .ok (.invokestatic 87, 3) := by decide +kernel
theorem dX6_read_26 : decode cX6_read 26 = .ok (.ifCond .ne 5, 3) := by decide +kernel
theorem dX6_read_29 : decode cX6_read 29 = .ok (.iconst (-1), 1) := by decide +kernel
theorem dX6_read_30 : decode cX6_read 30 = .ok (.ireturn, 1) := by decide +kernel
theorem dX6_read_31 : decode cX6_read 31 = .ok (.aload_n 0, 1) := by decide +kernel
theorem dX6_read_32 : decode cX6_read 32 = .ok (.getfield 50, 3) := by decide +kernel
theorem dX6_read_35 : decode cX6_read 35 = .ok (.iload_n 1, 1) := by decide +kernel
theorem dX6_read_36 : decode cX6_read 36 = .ok (.aaload, 1) := by decide +kernel
theorem dX6_read_37 : decode cX6_read 37 = .ok (.astore 5, 2) := by decide +kernel
theorem dX6_read_39 : decode cX6_read 39 = .ok (.aload_n 0, 1) := by decide +kernel
theorem dX6_read_40 : decode cX6_read 40 = .ok (.getfield 30, 3) := by decide +kernel
theorem dX6_read_43 : decode cX6_read 43 = .ok (.getfield 170, 3) := by decide +kernel
theorem dX6_read_46 : decode cX6_read 46 = .ok (.istore 6, 2) := by decide +kernel
theorem dX6_read_48 : decode cX6_read 48 = .ok (.iconst 0, 1) := by decide +kernel
theorem dX6_read_49 : decode cX6_read 49 = .ok (.istore 7, 2) := by decide +kernel
theorem dX6_read_51 : decode cX6_read 51 = .ok (.iconst 0, 1) := by decide +kernel
theorem dX6_read_52 : decode cX6_read 52 = .ok (.istore 8, 2) := by decide +kernel
theorem dX6_read_54 : decode cX6_read 54 = .ok (.iconst 0, 1) := by decide +kernel
theorem dX6_read_55 : decode cX6_read 55 = .ok (.istore 9, 2) := by decide +kernel
theorem dX6_read_57 : decode cX6_read 57 = .ok (.iload 9, 2) := by decide +kernel
theorem dX6_read_59 : decode cX6_read 59 = .ok (.iload 4, 2) := by decide +kernel
theorem dX6_read_61 : decode cX6_read 61 = .ok (.if_icmp .ge 80, 3) := by decide +kernel
theorem dX6_read_64 : decode cX6_read 64 = .ok (.iload 7, 2) := by decide +kernel
theorem dX6_read_66 : decode cX6_read 66 = .ok (.ifCond .ne 75, 3) := by decide +kernel
theorem dX6_read_69 : decode cX6_read 69 = .ok (.iload_n 3, 1) := by decide +kernel
theorem dX6_read_70 : decode cX6_read 70 = .ok (.iconst 2, 1) := by decide +kernel
theorem dX6_read_71 : decode cX6_read 71 = .ok (.iload 9, 2) := by decide +kernel
theorem dX6_read_73 : decode cX6_read 73 = .ok (.imul, 1) := by decide +kernel
theorem dX6_read_74 : decode cX6_read 74 = .ok (.iadd, 1) := by decide +kernel
theorem dX6_read_75 : decode cX6_read 75 = .ok (.istore 10, 2) := by decide +kernel
theorem dX6_read_77 : decode cX6_read 77 = .ok (.aload 5, 2) := by decide +kernel
theorem dX6_read_79 : decode cX6_read 79 = .ok (.iload 10, 2) := by decide +kernel
theorem dX6_read_81 : decode cX6_read 81 = .ok (.iload_n 2, 1) := by decide +kernel
theorem dX6_read_82 : decode cX6_read 82 = .ok (.invokevirtual 271, 3) := by decide +kernel
theorem dX6_read_85 : decode cX6_read 85 = .ok (.istore 7, 2) := by decide +kernel
theorem dX6_read_87 : decode cX6_read 87 = .ok (.iload 7, 2) := by decide +kernel
theorem dX6_read_89 : decode cX6_read 89 = .ok (.ifCond .ne 46, 3) := by decide +kernel
theorem dX6_read_92 : decode cX6_read 92 = .ok (.aload_n 0, 1) := by decide +kernel
theorem dX6_read_93 : decode cX6_read 93 = .ok (.aload 5, 2) := by decide +kernel
theorem dX6_read_95 : decode cX6_read 95 = .ok (.getfield 274, 3) := by decide +kernel
theorem dX6_read_98 : decode cX6_read 98 = .ok (.iload 10, 2) := by decide +kernel
theorem dX6_read_100 : decode cX6_read 100 = .ok (.iaload, 1) := by decide +kernel
theorem dX6_read_101 : decode cX6_read 101 = .ok (.aload 5, 2) := by decide +kernel
theorem dX6_read_103 : decode cX6_read 103 = .ok (.getfield 274, 3) := by decide +kernel
theorem dX6_read_106 : decode cX6_read 106 = .ok (.iload 10, 2) := by decide +kernel
theorem dX6_read_108 : decode cX6_read 108 = .ok (.iconst 1, 1) := by decide +kernel
theorem dX6_read_109 : decode cX6_read 109 = .ok (.iadd, 1) := by decide +kernel
theorem dX6_read_110 : decode cX6_read 110 = .ok (.iaload, 1) := by decide +kernel
theorem dX6_read_111 : decode cX6_read 111 = .ok (.invokevirtual 277, 3) := by decide +kernel
theorem dX6_read_114 : decode cX6_read 114 = .ok (.ifCond .ge 18, 3) := by decide +kernel
theorem dX6_read_117 : decode cX6_read 117 = .ok (.aload_n 0, 1) := by decide +kernel
theorem dX6_read_118 : decode cX6_read 118 = .ok (.getfield 30, 3) := by decide +kernel
theorem dX6_read_121 : decode cX6_read 121 = .ok (.iload 6, 2) := by decide +kernel
theorem dX6_read_123 : decode cX6_read 123 = .ok (.putfield 170, 3) := by decide +kernel
theorem dX6_read_126 : decode cX6_read 126 = .ok (.bipush (-20), 2) := by decide +kernel
theorem dX6_read_128 : decode cX6_read 128 = .ok (.iload 9, 2) := by decide +kernel
theorem dX6_read_130 : decode cX6_read 130 = .ok (.isub, 1) := by decide +kernel
theorem dX6_read_131 : decode cX6_read 131 = .ok (.ireturn, 1) := by decide +kernel
theorem dX6_read_132 : decode cX6_read 132 = .ok (.iinc 8 1, 3) := by decide +kernel
theorem dX6_read_135 : decode cX6_read 135 = .ok (.iinc 9 1, 3) := by decide +kernel
theorem dX6_read_138 : decode cX6_read 138 = .ok (.goto (-81), 3) := by decide +kernel
theorem dX6_read_141 : decode cX6_read 141 = .ok (.aload_n 0, 1) := by decide +kernel
theorem dX6_read_142 : decode cX6_read 142 = .ok (.iload 7, 2) := by decide +kernel
theorem dX6_read_144 : decode cX6_read 144 = .ok (.putfield 280, 3) := by decide +kernel
theorem dX6_read_147 : decode cX6_read 147 = .ok (.iload 8, 2) := by decide +kernel
theorem dX6_read_149 : decode cX6_read 149 = .ok (.ireturn, 1) := by decide +kernel
theorem dX6_torn_0 : decode cX6_torn 0 = .ok (.aload_n 0, 1) := by decide +kernel
theorem dX6_torn_1 : decode cX6_torn 1 = .ok (.getfield 280, 3) := by decide +kernel
theorem dX6_torn_4 : decode cX6_torn 4 = .ok (.ireturn, 1) := by decide +kernel
theorem dX6_count_0 : decode cX6_count 0 = .ok (.iload_n 1, 1) := by decide +kernel
theorem dX6_count_1 : decode cX6_count 1 = .ok (.tableswitch 139 0 6 #[43, 51, 59, 89, 94, 122, 131], 43) := by decide +kernel
theorem dX6_count_44 : decode cX6_count 44 = .ok (.aload_n 0, 1) := by decide +kernel
theorem dX6_count_45 : decode cX6_count 45 = .ok (.getfield 30, 3) := by decide +kernel
theorem dX6_count_48 : decode cX6_count 48 = .ok (.getfield 170, 3) := by decide +kernel
theorem dX6_count_51 : decode cX6_count 51 = .ok (.ireturn, 1) := by decide +kernel
theorem dX6_count_52 : decode cX6_count 52 = .ok (.aload_n 0, 1) := by decide +kernel
theorem dX6_count_53 : decode cX6_count 53 = .ok (.getfield 30, 3) := by decide +kernel
theorem dX6_count_56 : decode cX6_count 56 = .ok (.getfield 176, 3) := by decide +kernel
theorem dX6_count_59 : decode cX6_count 59 = .ok (.ireturn, 1) := by decide +kernel
theorem dX6_count_60 : decode cX6_count 60 = .ok (.aload_n 0, 1) := by decide +kernel
theorem dX6_count_61 : decode cX6_count 61 = .ok (.getfield 44, 3) := by decide +kernel
theorem dX6_count_64 : decode cX6_count 64 = .ok (.iconst 0, 1) := by decide +kernel
theorem dX6_count_65 : decode cX6_count 65 = .ok (.baload, 1) := by decide +kernel
theorem dX6_count_66 : decode cX6_count 66 = .ok (.ifCond .eq 7, 3) := by decide +kernel
theorem dX6_count_69 : decode cX6_count 69 = .ok (.iconst 1, 1) := by decide +kernel
theorem dX6_count_70 : decode cX6_count 70 = .ok (.goto 4, 3) := by decide +kernel
theorem dX6_count_73 : decode cX6_count 73 = .ok (.iconst 0, 1) := by decide +kernel
theorem dX6_count_74 : decode cX6_count 74 = .ok (.aload_n 0, 1) := by decide +kernel
theorem dX6_count_75 : decode cX6_count 75 = .ok (.getfield 44, 3) := by decide +kernel
theorem dX6_count_78 : decode cX6_count 78 = .ok (.iconst 1, 1) := by decide +kernel
theorem dX6_count_79 : decode cX6_count 79 = .ok (.baload, 1) := by decide +kernel
theorem dX6_count_80 : decode cX6_count 80 = .ok (.ifCond .eq 7, 3) := by decide +kernel
theorem dX6_count_83 : decode cX6_count 83 = .ok (.iconst 1, 1) := by decide +kernel
theorem dX6_count_84 : decode cX6_count 84 = .ok (.goto 4, 3) := by decide +kernel
theorem dX6_count_87 : decode cX6_count 87 = .ok (.iconst 0, 1) := by decide +kernel
theorem dX6_count_88 : decode cX6_count 88 = .ok (.iadd, 1) := by decide +kernel
theorem dX6_count_89 : decode cX6_count 89 = .ok (.ireturn, 1) := by decide +kernel
theorem dX6_count_90 : decode cX6_count 90 = .ok (.aload_n 0, 1) := by decide +kernel
theorem dX6_count_91 : decode cX6_count 91 = .ok (.getfield 91, 3) := by decide +kernel
theorem dX6_count_94 : decode cX6_count 94 = .ok (.ireturn, 1) := by decide +kernel
theorem dX6_count_95 : decode cX6_count 95 = .ok (.aload_n 0, 1) := by decide +kernel
theorem dX6_count_96 : decode cX6_count 96 = .ok (.getfield 50, 3) := by decide +kernel
theorem dX6_count_99 : decode cX6_count 99 = .ok (.iconst 0, 1) := by decide +kernel
theorem dX6_count_100 : decode cX6_count 100 = .ok (.aaload, 1) := by decide +kernel
theorem dX6_count_101 : decode cX6_count 101 = .ok (.getfield 283, 3) := by decide +kernel
theorem dX6_count_104 : decode cX6_count 104 = .ok (.iconst (-1), 1) := by decide +kernel
theorem dX6_count_105 : decode cX6_count 105 = .ok (.if_icmp .ne 8, 3) := by decide +kernel
theorem dX6_count_108 : decode cX6_count 108 = .ok (.bipush (-4), 2) := by decide +kernel
theorem dX6_count_110 : decode cX6_count 110 = .ok (.goto 12, 3) := by decide +kernel
theorem dX6_count_113 : decode cX6_count 113 = .ok (.aload_n 0, 1) := by decide +kernel
theorem dX6_count_114 : decode cX6_count 114 = .ok (.getfield 50, 3) := by decide +kernel
theorem dX6_count_117 : decode cX6_count 117 = .ok (.iconst 0, 1) := by decide +kernel
theorem dX6_count_118 : decode cX6_count 118 = .ok (.aaload, 1) := by decide +kernel
theorem dX6_count_119 : decode cX6_count 119 = .ok (.getfield 286, 3) := by decide +kernel
theorem dX6_count_122 : decode cX6_count 122 = .ok (.ireturn, 1) := by decide +kernel
theorem dX6_count_123 : decode cX6_count 123 = .ok (.aload_n 0, 1) := by decide +kernel
theorem dX6_count_124 : decode cX6_count 124 = .ok (.aload_n 0, 1) := by decide +kernel
theorem dX6_count_125 : decode cX6_count 125 = .ok (.invokevirtual 287, 3) := by decide +kernel
theorem dX6_count_128 : decode cX6_count 128 = .ok (.invokevirtual 191, 3) := by decide +kernel
theorem dX6_count_131 : decode cX6_count 131 = .ok (.ireturn, 1) := by decide +kernel
theorem dX6_count_132 : decode cX6_count 132 = .ok (.aload_n 0, 1) := by decide +kernel
theorem dX6_count_133 : decode cX6_count 133 = .ok (.invokevirtual 183, 3) := by decide +kernel
theorem dX6_count_136 : decode cX6_count 136 = .ok (.invokestatic 211, 3) := by decide +kernel
theorem dX6_count_139 : decode cX6_count 139 = .ok (.ireturn, 1) := by decide +kernel
theorem dX6_count_140 : decode cX6_count 140 = .ok (.iconst (-1), 1) := by decide +kernel
theorem dX6_count_141 : decode cX6_count 141 = .ok (.ireturn, 1) := by decide +kernel
theorem dX6_within_0 : decode cX6_within 0 = .ok (.iload_n 0, 1) := by decide +kernel
theorem dX6_within_1 : decode cX6_within 1 = .ok (.iload_n 1, 1) := by decide +kernel
theorem dX6_within_2 : decode cX6_within 2 = .ok (.if_icmp .lt 12, 3) := by decide +kernel
theorem dX6_within_5 : decode cX6_within 5 = .ok (.iload_n 0, 1) := by decide +kernel
theorem dX6_within_6 : decode cX6_within 6 = .ok (.iload_n 2, 1) := by decide +kernel
theorem dX6_within_7 : decode cX6_within 7 = .ok (.if_icmp .gt 7, 3) := by decide +kernel
theorem dX6_within_10 : decode cX6_within 10 = .ok (.iconst 1, 1) := by decide +kernel
theorem dX6_within_11 : decode cX6_within 11 = .ok (.goto 4, 3) := by decide +kernel
theorem dX6_within_14 : decode cX6_within 14 = .ok (.iconst 0, 1) := by decide +kernel
theorem dX6_within_15 : decode cX6_within 15 = .ok (.ireturn, 1) := by decide +kernel
theorem dX6_isLetter_0 : decode cX6_isLetter 0 = .ok (.iload_n 0, 1) := by decide +kernel
theorem dX6_isLetter_1 : decode cX6_isLetter 1 = .ok (.iconst 0, 1) := by decide +kernel
theorem dX6_isLetter_2 : decode cX6_isLetter 2 = .ok (.bipush 25, 2) := by decide +kernel
theorem dX6_isLetter_4 : decode cX6_isLetter 4 = .ok (.invokestatic 87, 3) := by decide +kernel
theorem dX6_isLetter_7 : decode cX6_isLetter 7 = .ok (.ireturn, 1) := by decide +kernel
theorem dX6_has_0 : decode cX6_has 0 = .ok (.iload_n 0, 1) := by decide +kernel
theorem dX6_has_1 : decode cX6_has 1 = .ok (.iload_n 1, 1) := by decide +kernel
theorem dX6_has_2 : decode cX6_has 2 = .ok (.iushr, 1) := by decide +kernel
theorem dX6_has_3 : decode cX6_has 3 = .ok (.iconst 1, 1) := by decide +kernel
theorem dX6_has_4 : decode cX6_has 4 = .ok (.iand, 1) := by decide +kernel
theorem dX6_has_5 : decode cX6_has 5 = .ok (.ifCond .eq 7, 3) := by decide +kernel
theorem dX6_has_8 : decode cX6_has 8 = .ok (.iconst 1, 1) := by decide +kernel
theorem dX6_has_9 : decode cX6_has 9 = .ok (.goto 4, 3) := by decide +kernel
theorem dX6_has_12 : decode cX6_has 12 = .ok (.iconst 0, 1) := by decide +kernel
theorem dX6_has_13 : decode cX6_has 13 = .ok (.ireturn, 1) := by decide +kernel
theorem dX6_pairCode_0 : decode cX6_pairCode 0 = .ok (.bipush 26, 2) := by decide +kernel
theorem dX6_pairCode_2 : decode cX6_pairCode 2 = .ok (.iload_n 0, 1) := by decide +kernel
theorem dX6_pairCode_3 : decode cX6_pairCode 3 = .ok (.imul, 1) := by decide +kernel
theorem dX6_pairCode_4 : decode cX6_pairCode 4 = .ok (.iload_n 1, 1) := by decide +kernel
theorem dX6_pairCode_5 : decode cX6_pairCode 5 = .ok (.iadd, 1) := by decide +kernel
theorem dX6_pairCode_6 : decode cX6_pairCode 6 = .ok (.ireturn, 1) := by decide +kernel
theorem dX6_fraction_0 : decode cX6_fraction 0 = .ok (.iload_n 0, 1) := by decide +kernel
theorem dX6_fraction_1 : decode cX6_fraction 1 = .ok (.iload_n 1, 1) := by decide +kernel
theorem dX6_fraction_2 : decode cX6_fraction 2 = .ok (.invokestatic 290, 3) := by decide +kernel
theorem dX6_fraction_5 : decode cX6_fraction 5 = .ok (.istore_n 3, 1) := by decide +kernel
theorem dX6_fraction_6 : decode cX6_fraction 6 = .ok (.iload_n 3, 1) := by decide +kernel
theorem dX6_fraction_7 : decode cX6_fraction 7 = .ok (.ifCond .ne 5, 3) := by decide +kernel
theorem dX6_fraction_10 : decode cX6_fraction 10 = .ok (.lconst 0, 1) := by decide +kernel
theorem dX6_fraction_11 : decode cX6_fraction 11 = .ok (.lreturn, 1) := by decide +kernel
theorem dX6_fraction_12 : decode cX6_fraction 12 = .ok (.iload_n 2, 1) := by decide +kernel
theorem dX6_fraction_13 : decode cX6_fraction 13 = .ok (.ifCond .ne 10, 3) := by decide +kernel
theorem dX6_fraction_16 : decode cX6_fraction 16 = .ok (.iload_n 0, 1) := by decide +kernel
theorem dX6_fraction_17 : decode cX6_fraction 17 = .ok (.iload_n 3, 1) := by decide +kernel
theorem dX6_fraction_18 : decode cX6_fraction 18 = .ok (.idiv, 1) := by decide +kernel
theorem dX6_fraction_19 : decode cX6_fraction 19 = .ok (.i2l, 1) := by decide +kernel
theorem dX6_fraction_20 : decode cX6_fraction 20 = .ok (.goto 7, 3) := by decide +kernel
theorem dX6_fraction_23 : decode cX6_fraction 23 = .ok (.iload_n 1, 1) := by decide +kernel
theorem dX6_fraction_24 : decode cX6_fraction 24 = .ok (.iload_n 3, 1) := by decide +kernel
theorem dX6_fraction_25 : decode cX6_fraction 25 = .ok (.idiv, 1) := by decide +kernel
theorem dX6_fraction_26 : decode cX6_fraction 26 = .ok (.i2l, 1) := by decide +kernel
theorem dX6_fraction_27 : decode cX6_fraction 27 = .ok (.lreturn, 1) := by decide +kernel
theorem dX6_greatestDivisor_0 : decode cX6_greatestDivisor 0 = .ok (.iload_n 0, 1) := by decide +kernel
theorem dX6_greatestDivisor_1 : decode cX6_greatestDivisor 1 = .ok (.istore_n 2, 1) := by decide +kernel
theorem dX6_greatestDivisor_2 : decode cX6_greatestDivisor 2 = .ok (.iload_n 1, 1) := by decide +kernel
theorem dX6_greatestDivisor_3 : decode cX6_greatestDivisor 3 = .ok (.istore_n 3, 1) := by decide +kernel
theorem dX6_greatestDivisor_4 : decode cX6_greatestDivisor 4 = .ok (.iconst 0, 1) := by decide +kernel
theorem dX6_greatestDivisor_5 : decode cX6_greatestDivisor 5 = .ok (.istore 4, 2) := by decide +kernel
theorem dX6_greatestDivisor_7 : decode cX6_greatestDivisor 7 = .ok (.iload 4, 2) := by decide +kernel
theorem dX6_greatestDivisor_9 : decode cX6_greatestDivisor 9 = .ok (.bipush 64, 2) := by decide +kernel
theorem dX6_greatestDivisor_11 : decode cX6_greatestDivisor 11 = .ok (.if_icmp .ge 23, 3) := by decide +kernel
theorem dX6_greatestDivisor_14 : decode cX6_greatestDivisor 14 = .ok (.iload_n 2, 1) := by decide +kernel
theorem dX6_greatestDivisor_15 : decode cX6_greatestDivisor 15 = .ok (.ifCond .eq 19, 3) := by decide +kernel
theorem dX6_greatestDivisor_18 : decode cX6_greatestDivisor 18 = .ok (.iload_n 3, 1) := by decide +kernel
theorem dX6_greatestDivisor_19 : decode cX6_greatestDivisor 19 = .ok (.iload_n 2, 1) := by decide +kernel
theorem dX6_greatestDivisor_20 : decode cX6_greatestDivisor 20 = .ok (.irem, 1) := by decide +kernel
theorem dX6_greatestDivisor_21 : decode cX6_greatestDivisor 21 = .ok (.istore 5, 2) := by decide +kernel
theorem dX6_greatestDivisor_23 : decode cX6_greatestDivisor 23 = .ok (.iload_n 2, 1) := by decide +kernel
theorem dX6_greatestDivisor_24 : decode cX6_greatestDivisor 24 = .ok (.istore_n 3, 1) := by decide +kernel
theorem dX6_greatestDivisor_25 : decode cX6_greatestDivisor 25 = .ok (.iload 5, 2) := by decide +kernel
theorem dX6_greatestDivisor_27 : decode cX6_greatestDivisor 27 = .ok (.istore_n 2, 1) := by decide +kernel
theorem dX6_greatestDivisor_28 : decode cX6_greatestDivisor 28 = .ok (.iinc 4 1, 3) := by decide +kernel
theorem dX6_greatestDivisor_31 : decode cX6_greatestDivisor 31 = .ok (.goto (-24), 3) := by decide +kernel
theorem dX6_greatestDivisor_34 : decode cX6_greatestDivisor 34 = .ok (.iload_n 3, 1) := by decide +kernel
theorem dX6_greatestDivisor_35 : decode cX6_greatestDivisor 35 = .ok (.ireturn, 1) := by decide +kernel
theorem dX6_answer_0 : decode cX6_answer 0 = .ok (.iload_n 1, 1) := by decide +kernel
theorem dX6_answer_1 : decode cX6_answer 1 = .ok (.iload_n 2, 1) := by decide +kernel
theorem dX6_answer_2 : decode cX6_answer 2 = .ok (.if_icmp .ne 5, 3) := by decide +kernel
theorem dX6_answer_5 : decode cX6_answer 5 = .ok (.iconst 2, 1) := by decide +kernel
theorem dX6_answer_6 : decode cX6_answer 6 = .ok (.ireturn, 1) := by decide +kernel
theorem dX6_answer_7 : decode cX6_answer 7 = .ok (.iload_n 0, 1) := by decide +kernel
theorem dX6_answer_8 : decode cX6_answer 8 = .ok (.iload_n 2, 1) := by decide +kernel
theorem dX6_answer_9 : decode cX6_answer 9 = .ok (.invokestatic 166, 3) := by decide +kernel
theorem dX6_answer_12 : decode cX6_answer 12 = .ok (.ifCond .eq 7, 3) := by decide +kernel
theorem dX6_answer_15 : decode cX6_answer 15 = .ok (.iconst 1, 1) := by decide +kernel
theorem dX6_answer_16 : decode cX6_answer 16 = .ok (.goto 4, 3) := by decide +kernel
theorem dX6_answer_19 : decode cX6_answer 19 = .ok (.iconst 0, 1) := by decide +kernel
theorem dX6_answer_20 : decode cX6_answer 20 = .ok (.ireturn, 1) := by decide +kernel
theorem dX6_nameAt_0 : decode cX6_nameAt 0 = .ok (.iload_n 0, 1) := by decide +kernel
theorem dX6_nameAt_1 : decode cX6_nameAt 1 = .ok (.invokestatic 211, 3) := by decide +kernel
theorem dX6_nameAt_4 : decode cX6_nameAt 4 = .ok (.istore_n 2, 1) := by decide +kernel
theorem dX6_nameAt_5 : decode cX6_nameAt 5 = .ok (.iload_n 2, 1) := by decide +kernel
theorem dX6_nameAt_6 : decode cX6_nameAt 6 = .ok (.ifCond .ne 5, 3) := by decide +kernel
theorem dX6_nameAt_9 : decode cX6_nameAt 9 = .ok (.iconst 0, 1) := by decide +kernel
theorem dX6_nameAt_10 : decode cX6_nameAt 10 = .ok (.ireturn, 1) := by decide +kernel
theorem dX6_nameAt_11 : decode cX6_nameAt 11 = .ok (.iload_n 0, 1) := by decide +kernel
theorem dX6_nameAt_12 : decode cX6_nameAt 12 = .ok (.istore_n 3, 1) := by decide +kernel
theorem dX6_nameAt_13 : decode cX6_nameAt 13 = .ok (.iload_n 1, 1) := by decide +kernel
theorem dX6_nameAt_14 : decode cX6_nameAt 14 = .ok (.iload_n 2, 1) := by decide +kernel
theorem dX6_nameAt_15 : decode cX6_nameAt 15 = .ok (.irem, 1) := by decide +kernel
theorem dX6_nameAt_16 : decode cX6_nameAt 16 = .ok (.istore 4, 2) := by decide +kernel
theorem dX6_nameAt_18 : decode cX6_nameAt 18 = .ok (.iload 4, 2) := by decide +kernel
theorem dX6_nameAt_20 : decode cX6_nameAt 20 = .ok (.ifCond .le 15, 3) := by decide +kernel
theorem dX6_nameAt_23 : decode cX6_nameAt 23 = .ok (.iload_n 3, 1) := by decide +kernel
theorem dX6_nameAt_24 : decode cX6_nameAt 24 = .ok (.iload_n 3, 1) := by decide +kernel
theorem dX6_nameAt_25 : decode cX6_nameAt 25 = .ok (.iconst 1, 1) := by decide +kernel
theorem dX6_nameAt_26 : decode cX6_nameAt 26 = .ok (.isub, 1) := by decide +kernel
theorem dX6_nameAt_27 : decode cX6_nameAt 27 = .ok (.iand, 1) := by decide +kernel
theorem dX6_nameAt_28 : decode cX6_nameAt 28 = .ok (.istore_n 3, 1) := by decide +kernel
theorem dX6_nameAt_29 : decode cX6_nameAt 29 = .ok (.iinc 4 (-1), 3) := by decide +kernel
theorem dX6_nameAt_32 : decode cX6_nameAt 32 = .ok (.goto (-14), 3) := by decide +kernel
theorem dX6_nameAt_35 : decode cX6_nameAt 35 = .ok (.iload_n 3, 1) := by decide +kernel
theorem dX6_nameAt_36 : decode cX6_nameAt 36 = .ok (.invokestatic 293, 3) := by decide +kernel
theorem dX6_nameAt_39 : decode cX6_nameAt 39 = .ok (.ireturn, 1) := by decide +kernel
theorem dX6_isName_0 : decode cX6_isName 0 = .ok (.iload_n 1, 1) := by decide +kernel
theorem dX6_isName_1 : decode cX6_isName 1 = .ok (.iconst 0, 1) := by decide +kernel
theorem dX6_isName_2 : decode cX6_isName 2 = .ok (.aload_n 0, 1) := by decide +kernel
theorem dX6_isName_3 : decode cX6_isName 3 = .ok (.getfield 23, 3) := by decide +kernel
theorem dX6_isName_6 : decode cX6_isName 6 = .ok (.getfield 115, 3) := by decide +kernel
theorem dX6_isName_9 : decode cX6_isName 9 = .ok (.iconst 1, 1) := by decide +kernel
theorem dX6_isName_10 : decode cX6_isName 10 = .ok (.isub, 1) := by decide +kernel
theorem dX6_isName_11 : decode cX6_isName 11 = .ok (.invokestatic 87, 3) := by decide +kernel
theorem dX6_isName_14 : decode cX6_isName 14 = .ok (.ireturn, 1) := by decide +kernel
theorem dX6_allNames_0 : decode cX6_allNames 0 = .ok (.iconst 1, 1) := by decide +kernel
theorem dX6_allNames_1 : decode cX6_allNames 1 = .ok (.aload_n 0, 1) := by decide +kernel
theorem dX6_allNames_2 : decode cX6_allNames 2 = .ok (.getfield 23, 3) := by decide +kernel
theorem dX6_allNames_5 : decode cX6_allNames 5 = .ok (.getfield 115, 3) := by decide +kernel
theorem dX6_allNames_8 : decode cX6_allNames 8 = .ok (.ishl, 1) := by decide +kernel
theorem dX6_allNames_9 : decode cX6_allNames 9 = .ok (.iconst 1, 1) := by decide +kernel
theorem dX6_allNames_10 : decode cX6_allNames 10 = .ok (.isub, 1) := by decide +kernel
theorem dX6_allNames_11 : decode cX6_allNames 11 = .ok (.ireturn, 1) := by decide +kernel
theorem dX6_takeDraft_0 : decode cX6_takeDraft 0 = .ok (.aload_n 0, 1) := by decide +kernel
theorem dX6_takeDraft_1 : decode cX6_takeDraft 1 = .ok (.getfield 23, 3) := by decide +kernel
theorem dX6_takeDraft_4 : decode cX6_takeDraft 4 = .ok (.astore_n 1, 1) := by decide +kernel
theorem dX6_takeDraft_5 : decode cX6_takeDraft 5 = .ok (.aload_n 0, 1) := by decide +kernel
theorem dX6_takeDraft_6 : decode cX6_takeDraft 6 = .ok (.aload_n 0, 1) := by decide +kernel
theorem dX6_takeDraft_7 : decode cX6_takeDraft 7 = .ok (.getfield 34, 3) := by decide +kernel
theorem dX6_takeDraft_10 : decode cX6_takeDraft 10 = .ok (.putfield 23, 3) := by decide +kernel
theorem dX6_takeDraft_13 : decode cX6_takeDraft 13 = .ok (.aload_n 0, 1) := by decide +kernel
theorem dX6_takeDraft_14 : decode cX6_takeDraft 14 = .ok (.aload_n 1, 1) := by decide +kernel
theorem dX6_takeDraft_15 : decode cX6_takeDraft 15 = .ok (.putfield 34, 3) := by decide +kernel
theorem dX6_takeDraft_18 : decode cX6_takeDraft 18 = .ok (.aload_n 0, 1) := by decide +kernel
theorem dX6_takeDraft_19 : decode cX6_takeDraft 19 = .ok (.getfield 30, 3) := by decide +kernel
theorem dX6_takeDraft_22 : decode cX6_takeDraft 22 = .ok (.astore_n 2, 1) := by decide +kernel
theorem dX6_takeDraft_23 : decode cX6_takeDraft 23 = .ok (.aload_n 0, 1) := by decide +kernel
theorem dX6_takeDraft_24 : decode cX6_takeDraft 24 = .ok (.aload_n 0, 1) := by decide +kernel
theorem dX6_takeDraft_25 : decode cX6_takeDraft 25 = .ok (.getfield 37, 3) := by decide +kernel
theorem dX6_takeDraft_28 : decode cX6_takeDraft 28 = .ok (.putfield 30, 3) := by decide +kernel
theorem dX6_takeDraft_31 : decode cX6_takeDraft 31 = .ok (.aload_n 0, 1) := by decide +kernel
theorem dX6_takeDraft_32 : decode cX6_takeDraft 32 = .ok (.aload_n 2, 1) := by decide +kernel
