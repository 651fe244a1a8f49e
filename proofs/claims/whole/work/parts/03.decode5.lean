theorem dX7_mean_33 : decode cX7_mean 33 = .ok (.iconst 0, 1) := by decide +kernel
theorem dX7_mean_34 : decode cX7_mean 34 = .ok (.istore_n 3, 1) := by decide +kernel
theorem dX7_mean_35 : decode cX7_mean 35 = .ok (.aload_n 0, 1) := by decide +kernel
theorem dX7_mean_36 : decode cX7_mean 36 = .ok (.iload_n 2, 1) := by decide +kernel
theorem dX7_mean_37 : decode cX7_mean 37 = .ok (.iload_n 3, 1) := by decide +kernel
theorem dX7_mean_38 : decode cX7_mean 38 = .ok (.invokevirtual 242, 3) := by decide +kernel
theorem dX7_mean_41 : decode cX7_mean 41 = .ok (.aload_n 0, 1) := by decide +kernel
theorem dX7_mean_42 : decode cX7_mean 42 = .ok (.getfield 43, 3) := by decide +kernel
theorem dX7_mean_45 : decode cX7_mean 45 = .ok (.iload_n 2, 1) := by decide +kernel
theorem dX7_mean_46 : decode cX7_mean 46 = .ok (.laload, 1) := by decide +kernel
theorem dX7_mean_47 : decode cX7_mean 47 = .ok (.lcmp, 1) := by decide +kernel
theorem dX7_mean_48 : decode cX7_mean 48 = .ok (.ifCond .eq 9, 3) := by decide +kernel
theorem dX7_mean_51 : decode cX7_mean 51 = .ok (.iinc 3 1, 3) := by decide +kernel
theorem dX7_mean_54 : decode cX7_mean 54 = .ok (.goto (-19), 3) := by decide +kernel
theorem dX7_mean_57 : decode cX7_mean 57 = .ok (.iload_n 1, 1) := by decide +kernel
theorem dX7_mean_58 : decode cX7_mean 58 = .ok (.iconst 2, 1) := by decide +kernel
theorem dX7_mean_59 : decode cX7_mean 59 = .ok (.if_icmp .ne 8, 3) := by decide +kernel
theorem dX7_mean_62 : decode cX7_mean 62 = .ok (.iload_n 3, 1) := by decide +kernel
theorem dX7_mean_63 : decode cX7_mean 63 = .ok (.i2l, 1) := by decide +kernel
theorem dX7_mean_64 : decode cX7_mean 64 = .ok (.goto 18, 3) := by decide +kernel
theorem dX7_mean_67 : decode cX7_mean 67 = .ok (.aload_n 0, 1) := by decide +kernel
theorem dX7_mean_68 : decode cX7_mean 68 = .ok (.getfield 43, 3) := by decide +kernel
theorem dX7_mean_71 : decode cX7_mean 71 = .ok (.iload_n 2, 1) := by decide +kernel
theorem dX7_mean_72 : decode cX7_mean 72 = .ok (.laload, 1) := by decide +kernel
theorem dX7_mean_73 : decode cX7_mean 73 = .ok (.aload_n 0, 1) := by decide +kernel
theorem dX7_mean_74 : decode cX7_mean 74 = .ok (.iload_n 2, 1) := by decide +kernel
theorem dX7_mean_75 : decode cX7_mean 75 = .ok (.invokevirtual 228, 3) := by decide +kernel
theorem dX7_mean_78 : decode cX7_mean 78 = .ok (.iload_n 1, 1) := by decide +kernel
theorem dX7_mean_79 : decode cX7_mean 79 = .ok (.invokestatic 232, 3) := by decide +kernel
theorem dX7_mean_82 : decode cX7_mean 82 = .ok (.lreturn, 1) := by decide +kernel
theorem dX7_surelyBy_0 : decode cX7_surelyBy 0 = .ok (.aload_n 0, 1) := by decide +kernel
theorem dX7_surelyBy_1 : decode cX7_surelyBy 1 = .ok (.iload_n 1, 1) := by decide +kernel
theorem dX7_surelyBy_2 : decode cX7_surelyBy 2 = .ok (.bipush 10, 2) := by decide +kernel
theorem dX7_surelyBy_4 : decode cX7_surelyBy 4 = .ok (.idiv, 1) := by decide +kernel
theorem dX7_surelyBy_5 : decode cX7_surelyBy 5 = .ok (.iload_n 1, 1) := by decide +kernel
theorem dX7_surelyBy_6 : decode cX7_surelyBy 6 = .ok (.bipush 10, 2) := by decide +kernel
theorem dX7_surelyBy_8 : decode cX7_surelyBy 8 = .ok (.irem, 1) := by decide +kernel
theorem dX7_surelyBy_9 : decode cX7_surelyBy 9 = .ok (.invokevirtual 201, 3) := by decide +kernel
theorem dX7_surelyBy_12 : decode cX7_surelyBy 12 = .ok (.aload_n 0, 1) := by decide +kernel
theorem dX7_surelyBy_13 : decode cX7_surelyBy 13 = .ok (.invokevirtual 246, 3) := by decide +kernel
theorem dX7_surelyBy_16 : decode cX7_surelyBy 16 = .ok (.aload_n 0, 1) := by decide +kernel
theorem dX7_surelyBy_17 : decode cX7_surelyBy 17 = .ok (.getfield 40, 3) := by decide +kernel
theorem dX7_surelyBy_20 : decode cX7_surelyBy 20 = .ok (.iconst 1, 1) := by decide +kernel
theorem dX7_surelyBy_21 : decode cX7_surelyBy 21 = .ok (.aload_n 0, 1) := by decide +kernel
theorem dX7_surelyBy_22 : decode cX7_surelyBy 22 = .ok (.getfield 155, 3) := by decide +kernel
theorem dX7_surelyBy_25 : decode cX7_surelyBy 25 = .ok (.ishl, 1) := by decide +kernel
theorem dX7_surelyBy_26 : decode cX7_surelyBy 26 = .ok (.iconst 1, 1) := by decide +kernel
theorem dX7_surelyBy_27 : decode cX7_surelyBy 27 = .ok (.isub, 1) := by decide +kernel
theorem dX7_surelyBy_28 : decode cX7_surelyBy 28 = .ok (.iaload, 1) := by decide +kernel
theorem dX7_surelyBy_29 : decode cX7_surelyBy 29 = .ok (.ireturn, 1) := by decide +kernel
theorem dX7_best_0 : decode cX7_best 0 = .ok (.iload_n 1, 1) := by decide +kernel
theorem dX7_best_1 : decode cX7_best 1 = .ok (.i2l, 1) := by decide +kernel
theorem dX7_best_2 : decode cX7_best 2 = .ok (.lconst 0, 1) := by decide +kernel
theorem dX7_best_3 : decode cX7_best 3 = .ok (.lconst 1, 1) := by decide +kernel
theorem dX7_best_4 : decode cX7_best 4 = .ok (.invokestatic 68, 3) := by decide +kernel
theorem dX7_best_7 : decode cX7_best 7 = .ok (.ifCond .ne 5, 3) := by decide +kernel
theorem dX7_best_10 : decode cX7_best 10 = .ok (.iconst (-1), 1) := by decide +kernel
theorem dX7_best_11 : decode cX7_best 11 = .ok (.ireturn, 1) := by decide +kernel
theorem dX7_best_12 : decode cX7_best 12 = .ok (.aload_n 0, 1) := by decide +kernel
theorem dX7_best_13 : decode cX7_best 13 = .ok (.getfield 155, 3) := by decide +kernel
theorem dX7_best_16 : decode cX7_best 16 = .ok (.ifCond .ne 6, 3) := by decide +kernel
theorem dX7_best_19 : decode cX7_best 19 = .ok (.bipush (-2), 2) := by decide +kernel
theorem dX7_best_21 : decode cX7_best 21 = .ok (.ireturn, 1) := by decide +kernel
theorem dX7_best_22 : decode cX7_best 22 = .ok (.sipush 1000, 3) := by decide +kernel
theorem dX7_best_25 : decode cX7_best 25 = .ok (.istore_n 2, 1) := by decide +kernel
theorem dX7_best_26 : decode cX7_best 26 = .ok (.iconst 0, 1) := by decide +kernel
theorem dX7_best_27 : decode cX7_best 27 = .ok (.istore_n 3, 1) := by decide +kernel
theorem dX7_best_28 : decode cX7_best 28 = .ok (.iconst 0, 1) := by decide +kernel
theorem dX7_best_29 : decode cX7_best 29 = .ok (.istore 4, 2) := by decide +kernel
theorem dX7_best_31 : decode cX7_best 31 = .ok (.iload 4, 2) := by decide +kernel
theorem dX7_best_33 : decode cX7_best 33 = .ok (.bipush 50, 2) := by decide +kernel
theorem dX7_best_35 : decode cX7_best 35 = .ok (.if_icmp .ge 59, 3) := by decide +kernel
theorem dX7_best_38 : decode cX7_best 38 = .ok (.iload 4, 2) := by decide +kernel
theorem dX7_best_40 : decode cX7_best 40 = .ok (.bipush 10, 2) := by decide +kernel
theorem dX7_best_42 : decode cX7_best 42 = .ok (.irem, 1) := by decide +kernel
theorem dX7_best_43 : decode cX7_best 43 = .ok (.bipush 8, 2) := by decide +kernel
theorem dX7_best_45 : decode cX7_best 45 = .ok (.if_icmp .gt 12, 3) := by decide +kernel
theorem dX7_best_48 : decode cX7_best 48 = .ok (.aload_n 0, 1) := by decide +kernel
theorem dX7_best_49 : decode cX7_best 49 = .ok (.iload 4, 2) := by decide +kernel
theorem dX7_best_51 : decode cX7_best 51 = .ok (.invokevirtual 252, 3) := by decide +kernel
theorem dX7_best_54 : decode cX7_best 54 = .ok (.goto 6, 3) := by decide +kernel
theorem dX7_best_57 : decode cX7_best 57 = .ok (.sipush 1000, 3) := by decide +kernel
theorem dX7_best_60 : decode cX7_best 60 = .ok (.istore 5, 2) := by decide +kernel
theorem dX7_best_62 : decode cX7_best 62 = .ok (.iload 5, 2) := by decide +kernel
theorem dX7_best_64 : decode cX7_best 64 = .ok (.iload_n 2, 1) := by decide +kernel
theorem dX7_best_65 : decode cX7_best 65 = .ok (.if_icmp .ge 8, 3) := by decide +kernel
theorem dX7_best_68 : decode cX7_best 68 = .ok (.iload 4, 2) := by decide +kernel
theorem dX7_best_70 : decode cX7_best 70 = .ok (.goto 4, 3) := by decide +kernel
theorem dX7_best_73 : decode cX7_best 73 = .ok (.iload_n 3, 1) := by decide +kernel
theorem dX7_best_74 : decode cX7_best 74 = .ok (.istore_n 3, 1) := by decide +kernel
theorem dX7_best_75 : decode cX7_best 75 = .ok (.iload 5, 2) := by decide +kernel
theorem dX7_best_77 : decode cX7_best 77 = .ok (.iload_n 2, 1) := by decide +kernel
theorem dX7_best_78 : decode cX7_best 78 = .ok (.if_icmp .ge 8, 3) := by decide +kernel
theorem dX7_best_81 : decode cX7_best 81 = .ok (.iload 5, 2) := by decide +kernel
theorem dX7_best_83 : decode cX7_best 83 = .ok (.goto 4, 3) := by decide +kernel
theorem dX7_best_86 : decode cX7_best 86 = .ok (.iload_n 2, 1) := by decide +kernel
theorem dX7_best_87 : decode cX7_best 87 = .ok (.istore_n 2, 1) := by decide +kernel
theorem dX7_best_88 : decode cX7_best 88 = .ok (.iinc 4 1, 3) := by decide +kernel
theorem dX7_best_91 : decode cX7_best 91 = .ok (.goto (-60), 3) := by decide +kernel
theorem dX7_best_94 : decode cX7_best 94 = .ok (.iload_n 1, 1) := by decide +kernel
theorem dX7_best_95 : decode cX7_best 95 = .ok (.ifCond .ne 7, 3) := by decide +kernel
theorem dX7_best_98 : decode cX7_best 98 = .ok (.iload_n 3, 1) := by decide +kernel
theorem dX7_best_99 : decode cX7_best 99 = .ok (.goto 4, 3) := by decide +kernel
theorem dX7_best_102 : decode cX7_best 102 = .ok (.iload_n 2, 1) := by decide +kernel
theorem dX7_best_103 : decode cX7_best 103 = .ok (.ireturn, 1) := by decide +kernel
theorem dX7_laws_0 : decode cX7_laws 0 = .ok (.iload_n 1, 1) := by decide +kernel
theorem dX7_laws_1 : decode cX7_laws 1 = .ok (.i2l, 1) := by decide +kernel
theorem dX7_laws_2 : decode cX7_laws 2 = .ok (.lconst 1, 1) := by decide +kernel
theorem dX7_laws_3 : decode cX7_laws 3 = .ok (.ldc2_w 165, 3) := by decide +kernel
theorem dX7_laws_6 : decode cX7_laws 6 = .ok (.invokestatic 68, 3) := by decide +kernel
theorem dX7_laws_9 : decode cX7_laws 9 = .ok (.ifCond .ne 5, 3) := by decide +kernel
theorem dX7_laws_12 : decode cX7_laws 12 = .ok (.iconst (-1), 1) := by decide +kernel
theorem dX7_laws_13 : decode cX7_laws 13 = .ok (.ireturn, 1) := by decide +kernel
theorem dX7_laws_14 : decode cX7_laws 14 = .ok (.aload_n 0, 1) := by decide +kernel
theorem dX7_laws_15 : decode cX7_laws 15 = .ok (.getfield 155, 3) := by decide +kernel
theorem dX7_laws_18 : decode cX7_laws 18 = .ok (.ifCond .ne 6, 3) := by decide +kernel
theorem dX7_laws_21 : decode cX7_laws 21 = .ok (.bipush (-2), 2) := by decide +kernel
theorem dX7_laws_23 : decode cX7_laws 23 = .ok (.ireturn, 1) := by decide +kernel
theorem dX7_laws_24 : decode cX7_laws 24 = .ok (.iconst 0, 1) := by decide +kernel
theorem dX7_laws_25 : decode cX7_laws 25 = .ok (.istore_n 2, 1) := by decide +kernel
theorem dX7_laws_26 : decode cX7_laws 26 = .ok (.iconst 0, 1) := by decide +kernel
theorem dX7_laws_27 : decode cX7_laws 27 = .ok (.istore_n 3, 1) := by decide +kernel
theorem dX7_laws_28 : decode cX7_laws 28 = .ok (.iload_n 3, 1) := by decide +kernel
theorem dX7_laws_29 : decode cX7_laws 29 = .ok (.bipush 50, 2) := by decide +kernel
theorem dX7_laws_31 : decode cX7_laws 31 = .ok (.if_icmp .ge 35, 3) := by decide +kernel
theorem dX7_laws_34 : decode cX7_laws 34 = .ok (.iload_n 2, 1) := by decide +kernel
theorem dX7_laws_35 : decode cX7_laws 35 = .ok (.iload_n 3, 1) := by decide +kernel
theorem dX7_laws_36 : decode cX7_laws 36 = .ok (.bipush 10, 2) := by decide +kernel
theorem dX7_laws_38 : decode cX7_laws 38 = .ok (.irem, 1) := by decide +kernel
theorem dX7_laws_39 : decode cX7_laws 39 = .ok (.bipush 8, 2) := by decide +kernel
theorem dX7_laws_41 : decode cX7_laws 41 = .ok (.if_icmp .gt 16, 3) := by decide +kernel
theorem dX7_laws_44 : decode cX7_laws 44 = .ok (.aload_n 0, 1) := by decide +kernel
theorem dX7_laws_45 : decode cX7_laws 45 = .ok (.iload_n 3, 1) := by decide +kernel
theorem dX7_laws_46 : decode cX7_laws 46 = .ok (.invokevirtual 252, 3) := by decide +kernel
theorem dX7_laws_49 : decode cX7_laws 49 = .ok (.iload_n 1, 1) := by decide +kernel
theorem dX7_laws_50 : decode cX7_laws 50 = .ok (.if_icmp .gt 7, 3) := by decide +kernel
theorem dX7_laws_53 : decode cX7_laws 53 = .ok (.iconst 1, 1) := by decide +kernel
theorem dX7_laws_54 : decode cX7_laws 54 = .ok (.goto 4, 3) := by decide +kernel
theorem dX7_laws_57 : decode cX7_laws 57 = .ok (.iconst 0, 1) := by decide +kernel
theorem dX7_laws_58 : decode cX7_laws 58 = .ok (.iadd, 1) := by decide +kernel
theorem dX7_laws_59 : decode cX7_laws 59 = .ok (.istore_n 2, 1) := by decide +kernel
theorem dX7_laws_60 : decode cX7_laws 60 = .ok (.iinc 3 1, 3) := by decide +kernel
theorem dX7_laws_63 : decode cX7_laws 63 = .ok (.goto (-35), 3) := by decide +kernel
theorem dX7_laws_66 : decode cX7_laws 66 = .ok (.iload_n 2, 1) := by decide +kernel
theorem dX7_laws_67 : decode cX7_laws 67 = .ok (.ireturn, 1) := by decide +kernel
theorem dX7_greatest_0 : decode cX7_greatest 0 = .ok (.iconst 0, 1) := by decide +kernel
theorem dX7_greatest_1 : decode cX7_greatest 1 = .ok (.istore_n 3, 1) := by decide +kernel
theorem dX7_greatest_2 : decode cX7_greatest 2 = .ok (.iconst 0, 1) := by decide +kernel
theorem dX7_greatest_3 : decode cX7_greatest 3 = .ok (.istore 4, 2) := by decide +kernel
theorem dX7_greatest_5 : decode cX7_greatest 5 = .ok (.iload 4, 2) := by decide +kernel
theorem dX7_greatest_7 : decode cX7_greatest 7 = .ok (.bipush 27, 2) := by decide +kernel
theorem dX7_greatest_9 : decode cX7_greatest 9 = .ok (.if_icmp .ge 85, 3) := by decide +kernel
theorem dX7_greatest_12 : decode cX7_greatest 12 = .ok (.iload 4, 2) := by decide +kernel
theorem dX7_greatest_14 : decode cX7_greatest 14 = .ok (.istore 5, 2) := by decide +kernel
theorem dX7_greatest_16 : decode cX7_greatest 16 = .ok (.iload_n 1, 1) := by decide +kernel
theorem dX7_greatest_17 : decode cX7_greatest 17 = .ok (.istore 6, 2) := by decide +kernel
theorem dX7_greatest_19 : decode cX7_greatest 19 = .ok (.iconst 0, 1) := by decide +kernel
theorem dX7_greatest_20 : decode cX7_greatest 20 = .ok (.istore 7, 2) := by decide +kernel
theorem dX7_greatest_22 : decode cX7_greatest 22 = .ok (.iload 7, 2) := by decide +kernel
theorem dX7_greatest_24 : decode cX7_greatest 24 = .ok (.iload_n 2, 1) := by decide +kernel
theorem dX7_greatest_25 : decode cX7_greatest 25 = .ok (.if_icmp .ge 34, 3) := by decide +kernel
theorem dX7_greatest_28 : decode cX7_greatest 28 = .ok (.aload_n 0, 1) := by decide +kernel
theorem dX7_greatest_29 : decode cX7_greatest 29 = .ok (.iload 6, 2) := by decide +kernel
theorem dX7_greatest_31 : decode cX7_greatest 31 = .ok (.aload_n 0, 1) := by decide +kernel
theorem dX7_greatest_32 : decode cX7_greatest 32 = .ok (.getfield 47, 3) := by decide +kernel
theorem dX7_greatest_35 : decode cX7_greatest 35 = .ok (.iload 7, 2) := by decide +kernel
theorem dX7_greatest_37 : decode cX7_greatest 37 = .ok (.iaload, 1) := by decide +kernel
theorem dX7_greatest_38 : decode cX7_greatest 38 = .ok (.iload 5, 2) := by decide +kernel
theorem dX7_greatest_40 : decode cX7_greatest 40 = .ok (.iconst 3, 1) := by decide +kernel
theorem dX7_greatest_41 : decode cX7_greatest 41 = .ok (.irem, 1) := by decide +kernel
theorem dX7_greatest_42 : decode cX7_greatest 42 = .ok (.invokevirtual 212, 3) := by decide +kernel
theorem dX7_greatest_45 : decode cX7_greatest 45 = .ok (.istore 6, 2) := by decide +kernel
theorem dX7_greatest_47 : decode cX7_greatest 47 = .ok (.iload 5, 2) := by decide +kernel
theorem dX7_greatest_49 : decode cX7_greatest 49 = .ok (.iconst 3, 1) := by decide +kernel
theorem dX7_greatest_50 : decode cX7_greatest 50 = .ok (.idiv, 1) := by decide +kernel
theorem dX7_greatest_51 : decode cX7_greatest 51 = .ok (.istore 5, 2) := by decide +kernel
theorem dX7_greatest_53 : decode cX7_greatest 53 = .ok (.iinc 7 1, 3) := by decide +kernel
theorem dX7_greatest_56 : decode cX7_greatest 56 = .ok (.goto (-34), 3) := by decide +kernel
theorem dX7_greatest_59 : decode cX7_greatest 59 = .ok (.iload 5, 2) := by decide +kernel
theorem dX7_greatest_61 : decode cX7_greatest 61 = .ok (.ifCond .le 7, 3) := by decide +kernel
theorem dX7_greatest_64 : decode cX7_greatest 64 = .ok (.iconst 0, 1) := by decide +kernel
theorem dX7_greatest_65 : decode cX7_greatest 65 = .ok (.goto 8, 3) := by decide +kernel
theorem dX7_greatest_68 : decode cX7_greatest 68 = .ok (.iload 6, 2) := by decide +kernel
theorem dX7_greatest_70 : decode cX7_greatest 70 = .ok (.invokestatic 191, 3) := by decide +kernel
theorem dX7_greatest_73 : decode cX7_greatest 73 = .ok (.istore 7, 2) := by decide +kernel
theorem dX7_greatest_75 : decode cX7_greatest 75 = .ok (.iload 7, 2) := by decide +kernel
theorem dX7_greatest_77 : decode cX7_greatest 77 = .ok (.iload_n 3, 1) := by decide +kernel
theorem dX7_greatest_78 : decode cX7_greatest 78 = .ok (.if_icmp .le 8, 3) := by decide +kernel
theorem dX7_greatest_81 : decode cX7_greatest 81 = .ok (.iload 7, 2) := by decide +kernel
theorem dX7_greatest_83 : decode cX7_greatest 83 = .ok (.goto 4, 3) := by decide +kernel
theorem dX7_greatest_86 : decode cX7_greatest 86 = .ok (.iload_n 3, 1) := by decide +kernel
theorem dX7_greatest_87 : decode cX7_greatest 87 = .ok (.istore_n 3, 1) := by decide +kernel
theorem dX7_greatest_88 : decode cX7_greatest 88 = .ok (.iinc 4 1, 3) := by decide +kernel
theorem dX7_greatest_91 : decode cX7_greatest 91 = .ok (.goto (-86), 3) := by decide +kernel
theorem dX7_greatest_94 : decode cX7_greatest 94 = .ok (.iload_n 3, 1) := by decide +kernel
theorem dX7_greatest_95 : decode cX7_greatest 95 = .ok (.ireturn, 1) := by decide +kernel
theorem dX7_row_0 : decode cX7_row 0 = .ok (.iload_n 1, 1) := by decide +kernel
theorem dX7_row_1 : decode cX7_row 1 = .ok (.i2l, 1) := by decide +kernel
theorem dX7_row_2 : decode cX7_row 2 = .ok (.lconst 1, 1) := by decide +kernel
theorem dX7_row_3 : decode cX7_row 3 = .ok (.ldc2_w 135, 3) := by decide +kernel
theorem dX7_row_6 : decode cX7_row 6 = .ok (.invokestatic 68, 3) := by decide +kernel
theorem dX7_row_9 : decode cX7_row 9 = .ok (.ifCond .eq 23, 3) := by decide +kernel
theorem dX7_row_12 : decode cX7_row 12 = .ok (.iload_n 2, 1) := by decide +kernel
theorem dX7_row_13 : decode cX7_row 13 = .ok (.ifCond .eq 21, 3) := by decide +kernel
theorem dX7_row_16 : decode cX7_row 16 = .ok (.iload_n 2, 1) := by decide +kernel
theorem dX7_row_17 : decode cX7_row 17 = .ok (.i2l, 1) := by decide +kernel
theorem dX7_row_18 : decode cX7_row 18 = .ok (.ldc2_w 163, 3) := by decide +kernel
theorem dX7_row_21 : decode cX7_row 21 = .ok (.bipush 9, 2) := by decide +kernel
theorem dX7_row_23 : decode cX7_row 23 = .ok (.iload_n 1, 1) := by decide +kernel
theorem dX7_row_24 : decode cX7_row 24 = .ok (.iadd, 1) := by decide +kernel
theorem dX7_row_25 : decode cX7_row 25 = .ok (.i2l, 1) := by decide +kernel
theorem dX7_row_26 : decode cX7_row 26 = .ok (.invokestatic 68, 3) := by decide +kernel
theorem dX7_row_29 : decode cX7_row 29 = .ok (.ifCond .ne 5, 3) := by decide +kernel
theorem dX7_row_32 : decode cX7_row 32 = .ok (.iconst (-1), 1) := by decide +kernel
theorem dX7_row_33 : decode cX7_row 33 = .ok (.ireturn, 1) := by decide +kernel
theorem dX7_row_34 : decode cX7_row 34 = .ok (.aload_n 0, 1) := by decide +kernel
theorem dX7_row_35 : decode cX7_row 35 = .ok (.invokevirtual 221, 3) := by decide +kernel
theorem dX7_row_38 : decode cX7_row 38 = .ok (.istore_n 3, 1) := by decide +kernel
theorem dX7_row_39 : decode cX7_row 39 = .ok (.iload_n 3, 1) := by decide +kernel
theorem dX7_row_40 : decode cX7_row 40 = .ok (.ifCond .ne 6, 3) := by decide +kernel
theorem dX7_row_43 : decode cX7_row 43 = .ok (.bipush (-2), 2) := by decide +kernel
theorem dX7_row_45 : decode cX7_row 45 = .ok (.ireturn, 1) := by decide +kernel
theorem dX7_row_46 : decode cX7_row 46 = .ok (.iconst 1, 1) := by decide +kernel
theorem dX7_row_47 : decode cX7_row 47 = .ok (.istore 4, 2) := by decide +kernel
theorem dX7_row_49 : decode cX7_row 49 = .ok (.sipush 1000, 3) := by decide +kernel
theorem dX7_row_52 : decode cX7_row 52 = .ok (.istore 5, 2) := by decide +kernel
theorem dX7_row_54 : decode cX7_row 54 = .ok (.iconst 0, 1) := by decide +kernel
theorem dX7_row_55 : decode cX7_row 55 = .ok (.istore 6, 2) := by decide +kernel
theorem dX7_row_57 : decode cX7_row 57 = .ok (.iload 6, 2) := by decide +kernel
theorem dX7_row_59 : decode cX7_row 59 = .ok (.iload_n 1, 1) := by decide +kernel
theorem dX7_row_60 : decode cX7_row 60 = .ok (.if_icmp .ge 18, 3) := by decide +kernel
theorem dX7_row_63 : decode cX7_row 63 = .ok (.iload 4, 2) := by decide +kernel
theorem dX7_row_65 : decode cX7_row 65 = .ok (.aload_n 0, 1) := by decide +kernel
theorem dX7_row_66 : decode cX7_row 66 = .ok (.getfield 155, 3) := by decide +kernel
theorem dX7_row_69 : decode cX7_row 69 = .ok (.imul, 1) := by decide +kernel
theorem dX7_row_70 : decode cX7_row 70 = .ok (.istore 4, 2) := by decide +kernel
theorem dX7_row_72 : decode cX7_row 72 = .ok (.iinc 6 1, 3) := by decide +kernel
theorem dX7_row_75 : decode cX7_row 75 = .ok (.goto (-18), 3) := by decide +kernel
theorem dX7_row_78 : decode cX7_row 78 = .ok (.iconst 0, 1) := by decide +kernel
theorem dX7_row_79 : decode cX7_row 79 = .ok (.istore 6, 2) := by decide +kernel
theorem dX7_row_81 : decode cX7_row 81 = .ok (.iload 6, 2) := by decide +kernel
theorem dX7_row_83 : decode cX7_row 83 = .ok (.iload 4, 2) := by decide +kernel
theorem dX7_row_85 : decode cX7_row 85 = .ok (.if_icmp .ge 100, 3) := by decide +kernel
theorem dX7_row_88 : decode cX7_row 88 = .ok (.iload 6, 2) := by decide +kernel
theorem dX7_row_90 : decode cX7_row 90 = .ok (.istore 7, 2) := by decide +kernel
theorem dX7_row_92 : decode cX7_row 92 = .ok (.iload_n 1, 1) := by decide +kernel
theorem dX7_row_93 : decode cX7_row 93 = .ok (.iconst 1, 1) := by decide +kernel
theorem dX7_row_94 : decode cX7_row 94 = .ok (.isub, 1) := by decide +kernel
theorem dX7_row_95 : decode cX7_row 95 = .ok (.istore 8, 2) := by decide +kernel
theorem dX7_row_97 : decode cX7_row 97 = .ok (.iload 8, 2) := by decide +kernel
theorem dX7_row_99 : decode cX7_row 99 = .ok (.ifCond .lt 32, 3) := by decide +kernel
theorem dX7_row_102 : decode cX7_row 102 = .ok (.aload_n 0, 1) := by decide +kernel
theorem dX7_row_103 : decode cX7_row 103 = .ok (.getfield 47, 3) := by decide +kernel
theorem dX7_row_106 : decode cX7_row 106 = .ok (.iload 8, 2) := by decide +kernel
theorem dX7_row_108 : decode cX7_row 108 = .ok (.iload 7, 2) := by decide +kernel
theorem dX7_row_110 : decode cX7_row 110 = .ok (.aload_n 0, 1) := by decide +kernel
theorem dX7_row_111 : decode cX7_row 111 = .ok (.getfield 155, 3) := by decide +kernel
theorem dX7_row_114 : decode cX7_row 114 = .ok (.irem, 1) := by decide +kernel
theorem dX7_row_115 : decode cX7_row 115 = .ok (.iastore, 1) := by decide +kernel
theorem dX7_row_116 : decode cX7_row 116 = .ok (.iload 7, 2) := by decide +kernel
theorem dX7_row_118 : decode cX7_row 118 = .ok (.aload_n 0, 1) := by decide +kernel
theorem dX7_row_119 : decode cX7_row 119 = .ok (.getfield 155, 3) := by decide +kernel
theorem dX7_row_122 : decode cX7_row 122 = .ok (.idiv, 1) := by decide +kernel
theorem dX7_row_123 : decode cX7_row 123 = .ok (.istore 7, 2) := by decide +kernel
theorem dX7_row_125 : decode cX7_row 125 = .ok (.iinc 8 (-1), 3) := by decide +kernel
theorem dX7_row_128 : decode cX7_row 128 = .ok (.goto (-31), 3) := by decide +kernel
theorem dX7_row_131 : decode cX7_row 131 = .ok (.aload_n 0, 1) := by decide +kernel
theorem dX7_row_132 : decode cX7_row 132 = .ok (.iload_n 3, 1) := by decide +kernel
theorem dX7_row_133 : decode cX7_row 133 = .ok (.iload_n 1, 1) := by decide +kernel
theorem dX7_row_134 : decode cX7_row 134 = .ok (.invokevirtual 255, 3) := by decide +kernel
theorem dX7_row_137 : decode cX7_row 137 = .ok (.istore 8, 2) := by decide +kernel
theorem dX7_row_139 : decode cX7_row 139 = .ok (.iload 8, 2) := by decide +kernel
theorem dX7_row_141 : decode cX7_row 141 = .ok (.iload 5, 2) := by decide +kernel
theorem dX7_row_143 : decode cX7_row 143 = .ok (.if_icmp .ge 36, 3) := by decide +kernel
theorem dX7_row_146 : decode cX7_row 146 = .ok (.iload 8, 2) := by decide +kernel
theorem dX7_row_148 : decode cX7_row 148 = .ok (.istore 5, 2) := by decide +kernel
theorem dX7_row_150 : decode cX7_row 150 = .ok (.iconst 0, 1) := by decide +kernel
theorem dX7_row_151 : decode cX7_row 151 = .ok (.istore 9, 2) := by decide +kernel
theorem dX7_row_153 : decode cX7_row 153 = .ok (.iload 9, 2) := by decide +kernel
theorem dX7_row_155 : decode cX7_row 155 = .ok (.iload_n 1, 1) := by decide +kernel
theorem dX7_row_156 : decode cX7_row 156 = .ok (.if_icmp .ge 23, 3) := by decide +kernel
theorem dX7_row_159 : decode cX7_row 159 = .ok (.aload_n 0, 1) := by decide +kernel
theorem dX7_row_160 : decode cX7_row 160 = .ok (.getfield 50, 3) := by decide +kernel
theorem dX7_row_163 : decode cX7_row 163 = .ok (.iload 9, 2) := by decide +kernel
theorem dX7_row_165 : decode cX7_row 165 = .ok (.aload_n 0, 1) := by decide +kernel
theorem dX7_row_166 : decode cX7_row 166 = .ok (.getfield 47, 3) := by decide +kernel
theorem dX7_row_169 : decode cX7_row 169 = .ok (.iload 9, 2) := by decide +kernel
theorem dX7_row_171 : decode cX7_row 171 = .ok (.iaload, 1) := by decide +kernel
theorem dX7_row_172 : decode cX7_row 172 = .ok (.iastore, 1) := by decide +kernel
theorem dX7_row_173 : decode cX7_row 173 = .ok (.iinc 9 1, 3) := by decide +kernel
theorem dX7_row_176 : decode cX7_row 176 = .ok (.goto (-23), 3) := by decide +kernel
theorem dX7_row_179 : decode cX7_row 179 = .ok (.iinc 6 1, 3) := by decide +kernel
theorem dX7_row_182 : decode cX7_row 182 = .ok (.goto (-101), 3) := by decide +kernel
theorem dX7_row_185 : decode cX7_row 185 = .ok (.iload_n 2, 1) := by decide +kernel
theorem dX7_row_186 : decode cX7_row 186 = .ok (.ifCond .ne 8, 3) := by decide +kernel
theorem dX7_row_189 : decode cX7_row 189 = .ok (.iload 5, 2) := by decide +kernel
theorem dX7_row_191 : decode cX7_row 191 = .ok (.goto 12, 3) := by decide +kernel
theorem dX7_row_194 : decode cX7_row 194 = .ok (.aload_n 0, 1) := by decide +kernel
theorem dX7_row_195 : decode cX7_row 195 = .ok (.getfield 50, 3) := by decide +kernel
theorem dX7_row_198 : decode cX7_row 198 = .ok (.iload_n 2, 1) := by decide +kernel
theorem dX7_row_199 : decode cX7_row 199 = .ok (.bipush 10, 2) := by decide +kernel
theorem dX7_row_201 : decode cX7_row 201 = .ok (.isub, 1) := by decide +kernel
theorem dX7_row_202 : decode cX7_row 202 = .ok (.iaload, 1) := by decide +kernel
theorem dX7_row_203 : decode cX7_row 203 = .ok (.ireturn, 1) := by decide +kernel
theorem dX7_twins_0 : decode cX7_twins 0 = .ok (.aload_n 0, 1) := by decide +kernel
theorem dX7_twins_1 : decode cX7_twins 1 = .ok (.invokevirtual 221, 3) := by decide +kernel
theorem dX7_twins_4 : decode cX7_twins 4 = .ok (.istore_n 1, 1) := by decide +kernel
theorem dX7_twins_5 : decode cX7_twins 5 = .ok (.iconst 0, 1) := by decide +kernel
theorem dX7_twins_6 : decode cX7_twins 6 = .ok (.istore_n 2, 1) := by decide +kernel
theorem dX7_twins_7 : decode cX7_twins 7 = .ok (.iconst 0, 1) := by decide +kernel
theorem dX7_twins_8 : decode cX7_twins 8 = .ok (.istore_n 3, 1) := by decide +kernel
theorem dX7_twins_9 : decode cX7_twins 9 = .ok (.iload_n 3, 1) := by decide +kernel
theorem dX7_twins_10 : decode cX7_twins 10 = .ok (.aload_n 0, 1) := by decide +kernel
theorem dX7_twins_11 : decode cX7_twins 11 = .ok (.getfield 155, 3) := by decide +kernel
theorem dX7_twins_14 : decode cX7_twins 14 = .ok (.if_icmp .ge 137, 3) := by decide +kernel
theorem dX7_twins_17 : decode cX7_twins 17 = .ok (.iload_n 3, 1) := by decide +kernel
theorem dX7_twins_18 : decode cX7_twins 18 = .ok (.iconst 1, 1) := by decide +kernel
theorem dX7_twins_19 : decode cX7_twins 19 = .ok (.iadd, 1) := by decide +kernel
theorem dX7_twins_20 : decode cX7_twins 20 = .ok (.istore 4, 2) := by decide +kernel
theorem dX7_twins_22 : decode cX7_twins 22 = .ok (.iload 4, 2) := by decide +kernel
theorem dX7_twins_24 : decode cX7_twins 24 = .ok (.aload_n 0, 1) := by decide +kernel
theorem dX7_twins_25 : decode cX7_twins 25 = .ok (.getfield 155, 3) := by decide +kernel
theorem dX7_twins_28 : decode cX7_twins 28 = .ok (.if_icmp .ge 117, 3) := by decide +kernel
theorem dX7_twins_31 : decode cX7_twins 31 = .ok (.iload_n 1, 1) := by decide +kernel
theorem dX7_twins_32 : decode cX7_twins 32 = .ok (.iload_n 3, 1) := by decide +kernel
theorem dX7_twins_33 : decode cX7_twins 33 = .ok (.ishr, 1) := by decide +kernel
theorem dX7_twins_34 : decode cX7_twins 34 = .ok (.iconst 1, 1) := by decide +kernel
theorem dX7_twins_35 : decode cX7_twins 35 = .ok (.iand, 1) := by decide +kernel
theorem dX7_twins_36 : decode cX7_twins 36 = .ok (.iconst 1, 1) := by decide +kernel
theorem dX7_twins_37 : decode cX7_twins 37 = .ok (.if_icmp .ne 17, 3) := by decide +kernel
theorem dX7_twins_40 : decode cX7_twins 40 = .ok (.iload_n 1, 1) := by decide +kernel
theorem dX7_twins_41 : decode cX7_twins 41 = .ok (.iload 4, 2) := by decide +kernel
theorem dX7_twins_43 : decode cX7_twins 43 = .ok (.ishr, 1) := by decide +kernel
theorem dX7_twins_44 : decode cX7_twins 44 = .ok (.iconst 1, 1) := by decide +kernel
theorem dX7_twins_45 : decode cX7_twins 45 = .ok (.iand, 1) := by decide +kernel
theorem dX7_twins_46 : decode cX7_twins 46 = .ok (.iconst 1, 1) := by decide +kernel
theorem dX7_twins_47 : decode cX7_twins 47 = .ok (.if_icmp .ne 7, 3) := by decide +kernel
theorem dX7_twins_50 : decode cX7_twins 50 = .ok (.iconst 1, 1) := by decide +kernel
theorem dX7_twins_51 : decode cX7_twins 51 = .ok (.goto 4, 3) := by decide +kernel
theorem dX7_twins_54 : decode cX7_twins 54 = .ok (.iconst 0, 1) := by decide +kernel
theorem dX7_twins_55 : decode cX7_twins 55 = .ok (.istore 5, 2) := by decide +kernel
theorem dX7_twins_57 : decode cX7_twins 57 = .ok (.iconst 0, 1) := by decide +kernel
theorem dX7_twins_58 : decode cX7_twins 58 = .ok (.istore 6, 2) := by decide +kernel
theorem dX7_twins_60 : decode cX7_twins 60 = .ok (.iload 6, 2) := by decide +kernel
theorem dX7_twins_62 : decode cX7_twins 62 = .ok (.aload_n 0, 1) := by decide +kernel
theorem dX7_twins_63 : decode cX7_twins 63 = .ok (.getfield 155, 3) := by decide +kernel
theorem dX7_twins_66 : decode cX7_twins 66 = .ok (.if_icmp .ge 60, 3) := by decide +kernel
theorem dX7_twins_69 : decode cX7_twins 69 = .ok (.iload 5, 2) := by decide +kernel
theorem dX7_twins_71 : decode cX7_twins 71 = .ok (.ifCond .eq 46, 3) := by decide +kernel
theorem dX7_twins_74 : decode cX7_twins 74 = .ok (.iload 6, 2) := by decide +kernel
theorem dX7_twins_76 : decode cX7_twins 76 = .ok (.iload_n 3, 1) := by decide +kernel
theorem dX7_twins_77 : decode cX7_twins 77 = .ok (.if_icmp .eq 36, 3) := by decide +kernel
theorem dX7_twins_80 : decode cX7_twins 80 = .ok (.iload 6, 2) := by decide +kernel
theorem dX7_twins_82 : decode cX7_twins 82 = .ok (.iload 4, 2) := by decide +kernel
theorem dX7_twins_84 : decode cX7_twins 84 = .ok (.if_icmp .eq 29, 3) := by decide +kernel
theorem dX7_twins_87 : decode cX7_twins 87 = .ok (.aload_n 0, 1) := by decide +kernel
theorem dX7_twins_88 : decode cX7_twins 88 = .ok (.getfield 37, 3) := by decide +kernel
theorem dX7_twins_91 : decode cX7_twins 91 = .ok (.iload 6, 2) := by decide +kernel
theorem dX7_twins_93 : decode cX7_twins 93 = .ok (.iaload, 1) := by decide +kernel
theorem dX7_twins_94 : decode cX7_twins 94 = .ok (.iload_n 3, 1) := by decide +kernel
theorem dX7_twins_95 : decode cX7_twins 95 = .ok (.ishr, 1) := by decide +kernel
theorem dX7_twins_96 : decode cX7_twins 96 = .ok (.iconst 1, 1) := by decide +kernel
theorem dX7_twins_97 : decode cX7_twins 97 = .ok (.iand, 1) := by decide +kernel
theorem dX7_twins_98 : decode cX7_twins 98 = .ok (.aload_n 0, 1) := by decide +kernel
theorem dX7_twins_99 : decode cX7_twins 99 = .ok (.getfield 37, 3) := by decide +kernel
theorem dX7_twins_102 : decode cX7_twins 102 = .ok (.iload 6, 2) := by decide +kernel
theorem dX7_twins_104 : decode cX7_twins 104 = .ok (.iaload, 1) := by decide +kernel
theorem dX7_twins_105 : decode cX7_twins 105 = .ok (.iload 4, 2) := by decide +kernel
theorem dX7_twins_107 : decode cX7_twins 107 = .ok (.ishr, 1) := by decide +kernel
theorem dX7_twins_108 : decode cX7_twins 108 = .ok (.iconst 1, 1) := by decide +kernel
theorem dX7_twins_109 : decode cX7_twins 109 = .ok (.iand, 1) := by decide +kernel
theorem dX7_twins_110 : decode cX7_twins 110 = .ok (.if_icmp .ne 7, 3) := by decide +kernel
theorem dX7_twins_113 : decode cX7_twins 113 = .ok (.iconst 1, 1) := by decide +kernel
theorem dX7_twins_114 : decode cX7_twins 114 = .ok (.goto 4, 3) := by decide +kernel
theorem dX7_twins_117 : decode cX7_twins 117 = .ok (.iconst 0, 1) := by decide +kernel
theorem dX7_twins_118 : decode cX7_twins 118 = .ok (.istore 5, 2) := by decide +kernel
theorem dX7_twins_120 : decode cX7_twins 120 = .ok (.iinc 6 1, 3) := by decide +kernel
theorem dX7_twins_123 : decode cX7_twins 123 = .ok (.goto (-63), 3) := by decide +kernel
theorem dX7_twins_126 : decode cX7_twins 126 = .ok (.iload_n 2, 1) := by decide +kernel
theorem dX7_twins_127 : decode cX7_twins 127 = .ok (.iload 5, 2) := by decide +kernel
theorem dX7_twins_129 : decode cX7_twins 129 = .ok (.ifCond .eq 7, 3) := by decide +kernel
theorem dX7_twins_132 : decode cX7_twins 132 = .ok (.iconst 1, 1) := by decide +kernel
theorem dX7_twins_133 : decode cX7_twins 133 = .ok (.goto 4, 3) := by decide +kernel
theorem dX7_twins_136 : decode cX7_twins 136 = .ok (.iconst 0, 1) := by decide +kernel
theorem dX7_twins_137 : decode cX7_twins 137 = .ok (.iadd, 1) := by decide +kernel
theorem dX7_twins_138 : decode cX7_twins 138 = .ok (.istore_n 2, 1) := by decide +kernel
theorem dX7_twins_139 : decode cX7_twins 139 = .ok (.iinc 4 1, 3) := by decide +kernel
theorem dX7_twins_142 : decode cX7_twins 142 = .ok (.goto (-120), 3) := by decide +kernel
theorem dX7_twins_145 : decode cX7_twins 145 = .ok (.iinc 3 1, 3) := by decide +kernel
theorem dX7_twins_148 : decode cX7_twins 148 = .ok (.goto (-139), 3) := by decide +kernel
theorem dX7_twins_151 : decode cX7_twins 151 = .ok (.iload_n 2, 1) := by decide +kernel
theorem dX7_twins_152 : decode cX7_twins 152 = .ok (.ireturn, 1) := by decide +kernel
theorem dX7_areMixed_0 : decode cX7_areMixed 0 = .ok (.iload_n 1, 1) := by decide +kernel
theorem dX7_areMixed_1 : decode cX7_areMixed 1 = .ok (.iload_n 2, 1) := by decide +kernel
theorem dX7_areMixed_2 : decode cX7_areMixed 2 = .ok (.if_icmp .ne 7, 3) := by decide +kernel
theorem dX7_areMixed_5 : decode cX7_areMixed 5 = .ok (.iconst 1, 1) := by decide +kernel
theorem dX7_areMixed_6 : decode cX7_areMixed 6 = .ok (.goto 4, 3) := by decide +kernel
theorem dX7_areMixed_9 : decode cX7_areMixed 9 = .ok (.iconst 0, 1) := by decide +kernel
theorem dX7_areMixed_10 : decode cX7_areMixed 10 = .ok (.istore_n 3, 1) := by decide +kernel
theorem dX7_areMixed_11 : decode cX7_areMixed 11 = .ok (.iconst 0, 1) := by decide +kernel
theorem dX7_areMixed_12 : decode cX7_areMixed 12 = .ok (.istore 4, 2) := by decide +kernel
theorem dX7_areMixed_14 : decode cX7_areMixed 14 = .ok (.iload 4, 2) := by decide +kernel
theorem dX7_areMixed_16 : decode cX7_areMixed 16 = .ok (.aload_n 0, 1) := by decide +kernel
theorem dX7_areMixed_17 : decode cX7_areMixed 17 = .ok (.getfield 7, 3) := by decide +kernel
theorem dX7_areMixed_20 : decode cX7_areMixed 20 = .ok (.bipush 21, 2) := by decide +kernel
theorem dX7_areMixed_22 : decode cX7_areMixed 22 = .ok (.iaload, 1) := by decide +kernel
theorem dX7_areMixed_23 : decode cX7_areMixed 23 = .ok (.if_icmp .ge 73, 3) := by decide +kernel
theorem dX7_areMixed_26 : decode cX7_areMixed 26 = .ok (.aload_n 0, 1) := by decide +kernel
theorem dX7_areMixed_27 : decode cX7_areMixed 27 = .ok (.getfield 7, 3) := by decide +kernel
theorem dX7_areMixed_30 : decode cX7_areMixed 30 = .ok (.bipush 11, 2) := by decide +kernel
theorem dX7_areMixed_32 : decode cX7_areMixed 32 = .ok (.iconst 2, 1) := by decide +kernel
theorem dX7_areMixed_33 : decode cX7_areMixed 33 = .ok (.iload 4, 2) := by decide +kernel
theorem dX7_areMixed_35 : decode cX7_areMixed 35 = .ok (.imul, 1) := by decide +kernel
theorem dX7_areMixed_36 : decode cX7_areMixed 36 = .ok (.iadd, 1) := by decide +kernel
theorem dX7_areMixed_37 : decode cX7_areMixed 37 = .ok (.iaload, 1) := by decide +kernel
theorem dX7_areMixed_38 : decode cX7_areMixed 38 = .ok (.istore 5, 2) := by decide +kernel
theorem dX7_areMixed_40 : decode cX7_areMixed 40 = .ok (.aload_n 0, 1) := by decide +kernel
theorem dX7_areMixed_41 : decode cX7_areMixed 41 = .ok (.getfield 7, 3) := by decide +kernel
theorem dX7_areMixed_44 : decode cX7_areMixed 44 = .ok (.bipush 11, 2) := by decide +kernel
theorem dX7_areMixed_46 : decode cX7_areMixed 46 = .ok (.iconst 2, 1) := by decide +kernel
theorem dX7_areMixed_47 : decode cX7_areMixed 47 = .ok (.iload 4, 2) := by decide +kernel
theorem dX7_areMixed_49 : decode cX7_areMixed 49 = .ok (.imul, 1) := by decide +kernel
theorem dX7_areMixed_50 : decode cX7_areMixed 50 = .ok (.iadd, 1) := by decide +kernel
theorem dX7_areMixed_51 : decode cX7_areMixed 51 = .ok (.iconst 1, 1) := by decide +kernel
theorem dX7_areMixed_52 : decode cX7_areMixed 52 = .ok (.iadd, 1) := by decide +kernel
theorem dX7_areMixed_53 : decode cX7_areMixed 53 = .ok (.iaload, 1) := by decide +kernel
theorem dX7_areMixed_54 : decode cX7_areMixed 54 = .ok (.istore 6, 2) := by decide +kernel
theorem dX7_areMixed_56 : decode cX7_areMixed 56 = .ok (.iload_n 3, 1) := by decide +kernel
theorem dX7_areMixed_57 : decode cX7_areMixed 57 = .ok (.ifCond .ne 27, 3) := by decide +kernel
theorem dX7_areMixed_60 : decode cX7_areMixed 60 = .ok (.iload 5, 2) := by decide +kernel
theorem dX7_areMixed_62 : decode cX7_areMixed 62 = .ok (.iload_n 1, 1) := by decide +kernel
theorem dX7_areMixed_63 : decode cX7_areMixed 63 = .ok (.if_icmp .ne 9, 3) := by decide +kernel
theorem dX7_areMixed_66 : decode cX7_areMixed 66 = .ok (.iload 6, 2) := by decide +kernel
theorem dX7_areMixed_68 : decode cX7_areMixed 68 = .ok (.iload_n 2, 1) := by decide +kernel
theorem dX7_areMixed_69 : decode cX7_areMixed 69 = .ok (.if_icmp .eq 15, 3) := by decide +kernel
theorem dX7_areMixed_72 : decode cX7_areMixed 72 = .ok (.iload 5, 2) := by decide +kernel
theorem dX7_areMixed_74 : decode cX7_areMixed 74 = .ok (.iload_n 2, 1) := by decide +kernel
theorem dX7_areMixed_75 : decode cX7_areMixed 75 = .ok (.if_icmp .ne 13, 3) := by decide +kernel
theorem dX7_areMixed_78 : decode cX7_areMixed 78 = .ok (.iload 6, 2) := by decide +kernel
theorem dX7_areMixed_80 : decode cX7_areMixed 80 = .ok (.iload_n 1, 1) := by decide +kernel
theorem dX7_areMixed_81 : decode cX7_areMixed 81 = .ok (.if_icmp .ne 7, 3) := by decide +kernel
theorem dX7_areMixed_84 : decode cX7_areMixed 84 = .ok (.iconst 1, 1) := by decide +kernel
theorem dX7_areMixed_85 : decode cX7_areMixed 85 = .ok (.goto 4, 3) := by decide +kernel
theorem dX7_areMixed_88 : decode cX7_areMixed 88 = .ok (.iconst 0, 1) := by decide +kernel
theorem dX7_areMixed_89 : decode cX7_areMixed 89 = .ok (.istore_n 3, 1) := by decide +kernel
theorem dX7_areMixed_90 : decode cX7_areMixed 90 = .ok (.iinc 4 1, 3) := by decide +kernel
theorem dX7_areMixed_93 : decode cX7_areMixed 93 = .ok (.goto (-79), 3) := by decide +kernel
theorem dX7_areMixed_96 : decode cX7_areMixed 96 = .ok (.iload_n 3, 1) := by decide +kernel
theorem dX7_areMixed_97 : decode cX7_areMixed 97 = .ok (.ireturn, 1) := by decide +kernel
theorem dX7_slipsOf_0 : decode cX7_slipsOf 0 = .ok (.aload_n 0, 1) := by decide +kernel
theorem dX7_slipsOf_1 : decode cX7_slipsOf 1 = .ok (.getfield 13, 3) := by decide +kernel
theorem dX7_slipsOf_4 : decode cX7_slipsOf 4 = .ok (.bipush 9, 2) := by decide +kernel
theorem dX7_slipsOf_6 : decode cX7_slipsOf 6 = .ok (.iload_n 1, 1) := by decide +kernel
theorem dX7_slipsOf_7 : decode cX7_slipsOf 7 = .ok (.imul, 1) := by decide +kernel
theorem dX7_slipsOf_8 : decode cX7_slipsOf 8 = .ok (.iaload, 1) := by decide +kernel
theorem dX7_slipsOf_9 : decode cX7_slipsOf 9 = .ok (.aload_n 0, 1) := by decide +kernel
theorem dX7_slipsOf_10 : decode cX7_slipsOf 10 = .ok (.getfield 16, 3) := by decide +kernel
theorem dX7_slipsOf_13 : decode cX7_slipsOf 13 = .ok (.iconst 0, 1) := by decide +kernel
theorem dX7_slipsOf_14 : decode cX7_slipsOf 14 = .ok (.iaload, 1) := by decide +kernel
theorem dX7_slipsOf_15 : decode cX7_slipsOf 15 = .ok (.if_icmp .eq 6, 3) := by decide +kernel
theorem dX7_slipsOf_18 : decode cX7_slipsOf 18 = .ok (.bipush (-4), 2) := by decide +kernel
theorem dX7_slipsOf_20 : decode cX7_slipsOf 20 = .ok (.ireturn, 1) := by decide +kernel
theorem dX7_slipsOf_21 : decode cX7_slipsOf 21 = .ok (.iconst 0, 1) := by decide +kernel
theorem dX7_slipsOf_22 : decode cX7_slipsOf 22 = .ok (.istore 4, 2) := by decide +kernel
theorem dX7_slipsOf_24 : decode cX7_slipsOf 24 = .ok (.iconst 1, 1) := by decide +kernel
theorem dX7_slipsOf_25 : decode cX7_slipsOf 25 = .ok (.istore 5, 2) := by decide +kernel
theorem dX7_slipsOf_27 : decode cX7_slipsOf 27 = .ok (.iload 5, 2) := by decide +kernel
theorem dX7_slipsOf_29 : decode cX7_slipsOf 29 = .ok (.aload_n 0, 1) := by decide +kernel
theorem dX7_slipsOf_30 : decode cX7_slipsOf 30 = .ok (.getfield 16, 3) := by decide +kernel
theorem dX7_slipsOf_33 : decode cX7_slipsOf 33 = .ok (.iconst 0, 1) := by decide +kernel
theorem dX7_slipsOf_34 : decode cX7_slipsOf 34 = .ok (.iaload, 1) := by decide +kernel
theorem dX7_slipsOf_35 : decode cX7_slipsOf 35 = .ok (.if_icmp .gt 87, 3) := by decide +kernel
theorem dX7_slipsOf_38 : decode cX7_slipsOf 38 = .ok (.aload_n 0, 1) := by decide +kernel
theorem dX7_slipsOf_39 : decode cX7_slipsOf 39 = .ok (.getfield 13, 3) := by decide +kernel
theorem dX7_slipsOf_42 : decode cX7_slipsOf 42 = .ok (.bipush 9, 2) := by decide +kernel
theorem dX7_slipsOf_44 : decode cX7_slipsOf 44 = .ok (.iload_n 1, 1) := by decide +kernel
theorem dX7_slipsOf_45 : decode cX7_slipsOf 45 = .ok (.imul, 1) := by decide +kernel
theorem dX7_slipsOf_46 : decode cX7_slipsOf 46 = .ok (.iload 5, 2) := by decide +kernel
theorem dX7_slipsOf_48 : decode cX7_slipsOf 48 = .ok (.iadd, 1) := by decide +kernel
theorem dX7_slipsOf_49 : decode cX7_slipsOf 49 = .ok (.iaload, 1) := by decide +kernel
theorem dX7_slipsOf_50 : decode cX7_slipsOf 50 = .ok (.istore 6, 2) := by decide +kernel
theorem dX7_slipsOf_52 : decode cX7_slipsOf 52 = .ok (.aload_n 0, 1) := by decide +kernel
theorem dX7_slipsOf_53 : decode cX7_slipsOf 53 = .ok (.getfield 16, 3) := by decide +kernel
theorem dX7_slipsOf_56 : decode cX7_slipsOf 56 = .ok (.iload 5, 2) := by decide +kernel
theorem dX7_slipsOf_58 : decode cX7_slipsOf 58 = .ok (.iaload, 1) := by decide +kernel
theorem dX7_slipsOf_59 : decode cX7_slipsOf 59 = .ok (.istore 7, 2) := by decide +kernel
theorem dX7_slipsOf_61 : decode cX7_slipsOf 61 = .ok (.aload_n 0, 1) := by decide +kernel
theorem dX7_slipsOf_62 : decode cX7_slipsOf 62 = .ok (.iload 6, 2) := by decide +kernel
theorem dX7_slipsOf_64 : decode cX7_slipsOf 64 = .ok (.iload 7, 2) := by decide +kernel
theorem dX7_slipsOf_66 : decode cX7_slipsOf 66 = .ok (.invokevirtual 258, 3) := by decide +kernel
theorem dX7_slipsOf_69 : decode cX7_slipsOf 69 = .ok (.ifCond .ne 30, 3) := by decide +kernel
theorem dX7_slipsOf_72 : decode cX7_slipsOf 72 = .ok (.iload 6, 2) := by decide +kernel
theorem dX7_slipsOf_74 : decode cX7_slipsOf 74 = .ok (.iload_n 2, 1) := by decide +kernel
theorem dX7_slipsOf_75 : decode cX7_slipsOf 75 = .ok (.if_icmp .ne 9, 3) := by decide +kernel
theorem dX7_slipsOf_78 : decode cX7_slipsOf 78 = .ok (.iload 7, 2) := by decide +kernel
theorem dX7_slipsOf_80 : decode cX7_slipsOf 80 = .ok (.iload_n 3, 1) := by decide +kernel
theorem dX7_slipsOf_81 : decode cX7_slipsOf 81 = .ok (.if_icmp .eq 18, 3) := by decide +kernel
theorem dX7_slipsOf_84 : decode cX7_slipsOf 84 = .ok (.iload 6, 2) := by decide +kernel
theorem dX7_slipsOf_86 : decode cX7_slipsOf 86 = .ok (.iload_n 3, 1) := by decide +kernel
theorem dX7_slipsOf_87 : decode cX7_slipsOf 87 = .ok (.if_icmp .ne 9, 3) := by decide +kernel
theorem dX7_slipsOf_90 : decode cX7_slipsOf 90 = .ok (.iload 7, 2) := by decide +kernel
theorem dX7_slipsOf_92 : decode cX7_slipsOf 92 = .ok (.iload_n 2, 1) := by decide +kernel
theorem dX7_slipsOf_93 : decode cX7_slipsOf 93 = .ok (.if_icmp .eq 6, 3) := by decide +kernel
theorem dX7_slipsOf_96 : decode cX7_slipsOf 96 = .ok (.bipush (-4), 2) := by decide +kernel
theorem dX7_slipsOf_98 : decode cX7_slipsOf 98 = .ok (.ireturn, 1) := by decide +kernel
theorem dX7_slipsOf_99 : decode cX7_slipsOf 99 = .ok (.iload 4, 2) := by decide +kernel
theorem dX7_slipsOf_101 : decode cX7_slipsOf 101 = .ok (.iload 6, 2) := by decide +kernel
theorem dX7_slipsOf_103 : decode cX7_slipsOf 103 = .ok (.iload 7, 2) := by decide +kernel
theorem dX7_slipsOf_105 : decode cX7_slipsOf 105 = .ok (.if_icmp .ne 7, 3) := by decide +kernel
theorem dX7_slipsOf_108 : decode cX7_slipsOf 108 = .ok (.iconst 0, 1) := by decide +kernel
theorem dX7_slipsOf_109 : decode cX7_slipsOf 109 = .ok (.goto 4, 3) := by decide +kernel
theorem dX7_slipsOf_112 : decode cX7_slipsOf 112 = .ok (.iconst 1, 1) := by decide +kernel
theorem dX7_slipsOf_113 : decode cX7_slipsOf 113 = .ok (.iadd, 1) := by decide +kernel
theorem dX7_slipsOf_114 : decode cX7_slipsOf 114 = .ok (.istore 4, 2) := by decide +kernel
theorem dX7_slipsOf_116 : decode cX7_slipsOf 116 = .ok (.iinc 5 1, 3) := by decide +kernel
theorem dX7_slipsOf_119 : decode cX7_slipsOf 119 = .ok (.goto (-92), 3) := by decide +kernel
theorem dX7_slipsOf_122 : decode cX7_slipsOf 122 = .ok (.iload 4, 2) := by decide +kernel
theorem dX7_slipsOf_124 : decode cX7_slipsOf 124 = .ok (.ireturn, 1) := by decide +kernel
theorem dX7_meantBy_0 : decode cX7_meantBy 0 = .ok (.iconst 0, 1) := by decide +kernel
theorem dX7_meantBy_1 : decode cX7_meantBy 1 = .ok (.istore_n 3, 1) := by decide +kernel
theorem dX7_meantBy_2 : decode cX7_meantBy 2 = .ok (.iconst 0, 1) := by decide +kernel
theorem dX7_meantBy_3 : decode cX7_meantBy 3 = .ok (.istore 4, 2) := by decide +kernel
theorem dX7_meantBy_5 : decode cX7_meantBy 5 = .ok (.iload 4, 2) := by decide +kernel
theorem dX7_meantBy_7 : decode cX7_meantBy 7 = .ok (.aload_n 0, 1) := by decide +kernel
theorem dX7_meantBy_8 : decode cX7_meantBy 8 = .ok (.getfield 155, 3) := by decide +kernel
theorem dX7_meantBy_11 : decode cX7_meantBy 11 = .ok (.if_icmp .ge 33, 3) := by decide +kernel
theorem dX7_meantBy_14 : decode cX7_meantBy 14 = .ok (.iload_n 3, 1) := by decide +kernel
theorem dX7_meantBy_15 : decode cX7_meantBy 15 = .ok (.aload_n 0, 1) := by decide +kernel
theorem dX7_meantBy_16 : decode cX7_meantBy 16 = .ok (.iload 4, 2) := by decide +kernel
theorem dX7_meantBy_18 : decode cX7_meantBy 18 = .ok (.iload_n 1, 1) := by decide +kernel
theorem dX7_meantBy_19 : decode cX7_meantBy 19 = .ok (.iload_n 2, 1) := by decide +kernel
theorem dX7_meantBy_20 : decode cX7_meantBy 20 = .ok (.invokevirtual 262, 3) := by decide +kernel
theorem dX7_meantBy_23 : decode cX7_meantBy 23 = .ok (.bipush (-4), 2) := by decide +kernel
theorem dX7_meantBy_25 : decode cX7_meantBy 25 = .ok (.if_icmp .eq 10, 3) := by decide +kernel
theorem dX7_meantBy_28 : decode cX7_meantBy 28 = .ok (.iconst 1, 1) := by decide +kernel
theorem dX7_meantBy_29 : decode cX7_meantBy 29 = .ok (.iload 4, 2) := by decide +kernel
theorem dX7_meantBy_31 : decode cX7_meantBy 31 = .ok (.ishl, 1) := by decide +kernel
theorem dX7_meantBy_32 : decode cX7_meantBy 32 = .ok (.goto 4, 3) := by decide +kernel
theorem dX7_meantBy_35 : decode cX7_meantBy 35 = .ok (.iconst 0, 1) := by decide +kernel
theorem dX7_meantBy_36 : decode cX7_meantBy 36 = .ok (.ior, 1) := by decide +kernel
theorem dX7_meantBy_37 : decode cX7_meantBy 37 = .ok (.istore_n 3, 1) := by decide +kernel
theorem dX7_meantBy_38 : decode cX7_meantBy 38 = .ok (.iinc 4 1, 3) := by decide +kernel
theorem dX7_meantBy_41 : decode cX7_meantBy 41 = .ok (.goto (-36), 3) := by decide +kernel
theorem dX7_meantBy_44 : decode cX7_meantBy 44 = .ok (.iload_n 3, 1) := by decide +kernel
theorem dX7_meantBy_45 : decode cX7_meantBy 45 = .ok (.ireturn, 1) := by decide +kernel
theorem dX7_meant_0 : decode cX7_meant 0 = .ok (.aload_n 0, 1) := by decide +kernel
theorem dX7_meant_1 : decode cX7_meant 1 = .ok (.bipush (-4), 2) := by decide +kernel
theorem dX7_meant_3 : decode cX7_meant 3 = .ok (.bipush (-4), 2) := by decide +kernel
theorem dX7_meant_5 : decode cX7_meant 5 = .ok (.invokevirtual 265, 3) := by decide +kernel
theorem dX7_meant_8 : decode cX7_meant 8 = .ok (.ireturn, 1) := by decide +kernel
theorem dX7_slips_0 : decode cX7_slips 0 = .ok (.aload_n 0, 1) := by decide +kernel
theorem dX7_slips_1 : decode cX7_slips 1 = .ok (.iload_n 1, 1) := by decide +kernel
theorem dX7_slips_2 : decode cX7_slips 2 = .ok (.invokevirtual 160, 3) := by decide +kernel
theorem dX7_slips_5 : decode cX7_slips 5 = .ok (.ifCond .eq 15, 3) := by decide +kernel
theorem dX7_slips_8 : decode cX7_slips 8 = .ok (.aload_n 0, 1) := by decide +kernel
theorem dX7_slips_9 : decode cX7_slips 9 = .ok (.iload_n 1, 1) := by decide +kernel
theorem dX7_slips_10 : decode cX7_slips 10 = .ok (.bipush (-4), 2) := by decide +kernel
theorem dX7_slips_12 : decode cX7_slips 12 = .ok (.bipush (-4), 2) := by decide +kernel
theorem dX7_slips_14 : decode cX7_slips 14 = .ok (.invokevirtual 262, 3) := by decide +kernel
theorem dX7_slips_17 : decode cX7_slips 17 = .ok (.goto 4, 3) := by decide +kernel
theorem dX7_slips_20 : decode cX7_slips 20 = .ok (.iconst (-1), 1) := by decide +kernel
theorem dX7_slips_21 : decode cX7_slips 21 = .ok (.ireturn, 1) := by decide +kernel
theorem dX7_more_0 : decode cX7_more 0 = .ok (.iload_n 1, 1) := by decide +kernel
theorem dX7_more_1 : decode cX7_more 1 = .ok (.i2l, 1) := by decide +kernel
theorem dX7_more_2 : decode cX7_more 2 = .ok (.lconst 0, 1) := by decide +kernel
theorem dX7_more_3 : decode cX7_more 3 = .ok (.lconst 1, 1) := by decide +kernel
theorem dX7_more_4 : decode cX7_more 4 = .ok (.invokestatic 68, 3) := by decide +kernel
theorem dX7_more_7 : decode cX7_more 7 = .ok (.ifCond .ne 5, 3) := by decide +kernel
theorem dX7_more_10 : decode cX7_more 10 = .ok (.iconst (-1), 1) := by decide +kernel
theorem dX7_more_11 : decode cX7_more 11 = .ok (.ireturn, 1) := by decide +kernel
theorem dX7_more_12 : decode cX7_more 12 = .ok (.aload_n 0, 1) := by decide +kernel
theorem dX7_more_13 : decode cX7_more 13 = .ok (.bipush (-4), 2) := by decide +kernel
theorem dX7_more_15 : decode cX7_more 15 = .ok (.bipush (-4), 2) := by decide +kernel
theorem dX7_more_17 : decode cX7_more 17 = .ok (.invokevirtual 265, 3) := by decide +kernel
theorem dX7_more_20 : decode cX7_more 20 = .ok (.invokestatic 191, 3) := by decide +kernel
theorem dX7_more_23 : decode cX7_more 23 = .ok (.istore_n 2, 1) := by decide +kernel
theorem dX7_more_24 : decode cX7_more 24 = .ok (.bipush (-4), 2) := by decide +kernel
theorem dX7_more_26 : decode cX7_more 26 = .ok (.istore_n 3, 1) := by decide +kernel
theorem dX7_more_27 : decode cX7_more 27 = .ok (.iconst 0, 1) := by decide +kernel
theorem dX7_more_28 : decode cX7_more 28 = .ok (.istore 4, 2) := by decide +kernel
theorem dX7_more_30 : decode cX7_more 30 = .ok (.iload 4, 2) := by decide +kernel
theorem dX7_more_32 : decode cX7_more 32 = .ok (.sipush 676, 3) := by decide +kernel
theorem dX7_more_35 : decode cX7_more 35 = .ok (.if_icmp .ge 67, 3) := by decide +kernel
theorem dX7_more_38 : decode cX7_more 38 = .ok (.iload 4, 2) := by decide +kernel
theorem dX7_more_40 : decode cX7_more 40 = .ok (.bipush 26, 2) := by decide +kernel
theorem dX7_more_42 : decode cX7_more 42 = .ok (.idiv, 1) := by decide +kernel
theorem dX7_more_43 : decode cX7_more 43 = .ok (.iload 4, 2) := by decide +kernel
theorem dX7_more_45 : decode cX7_more 45 = .ok (.bipush 26, 2) := by decide +kernel
theorem dX7_more_47 : decode cX7_more 47 = .ok (.irem, 1) := by decide +kernel
theorem dX7_more_48 : decode cX7_more 48 = .ok (.if_icmp .ge 48, 3) := by decide +kernel
theorem dX7_more_51 : decode cX7_more 51 = .ok (.aload_n 0, 1) := by decide +kernel
theorem dX7_more_52 : decode cX7_more 52 = .ok (.iload 4, 2) := by decide +kernel
theorem dX7_more_54 : decode cX7_more 54 = .ok (.bipush 26, 2) := by decide +kernel
theorem dX7_more_56 : decode cX7_more 56 = .ok (.idiv, 1) := by decide +kernel
theorem dX7_more_57 : decode cX7_more 57 = .ok (.iload 4, 2) := by decide +kernel
theorem dX7_more_59 : decode cX7_more 59 = .ok (.bipush 26, 2) := by decide +kernel
theorem dX7_more_61 : decode cX7_more 61 = .ok (.irem, 1) := by decide +kernel
theorem dX7_more_62 : decode cX7_more 62 = .ok (.invokevirtual 265, 3) := by decide +kernel
theorem dX7_more_65 : decode cX7_more 65 = .ok (.invokestatic 191, 3) := by decide +kernel
theorem dX7_more_68 : decode cX7_more 68 = .ok (.istore 5, 2) := by decide +kernel
theorem dX7_more_70 : decode cX7_more 70 = .ok (.iload 5, 2) := by decide +kernel
theorem dX7_more_72 : decode cX7_more 72 = .ok (.iload_n 2, 1) := by decide +kernel
theorem dX7_more_73 : decode cX7_more 73 = .ok (.if_icmp .le 8, 3) := by decide +kernel
theorem dX7_more_76 : decode cX7_more 76 = .ok (.iload 4, 2) := by decide +kernel
theorem dX7_more_78 : decode cX7_more 78 = .ok (.goto 4, 3) := by decide +kernel
theorem dX7_more_81 : decode cX7_more 81 = .ok (.iload_n 3, 1) := by decide +kernel
theorem dX7_more_82 : decode cX7_more 82 = .ok (.istore_n 3, 1) := by decide +kernel
theorem dX7_more_83 : decode cX7_more 83 = .ok (.iload 5, 2) := by decide +kernel
theorem dX7_more_85 : decode cX7_more 85 = .ok (.iload_n 2, 1) := by decide +kernel
theorem dX7_more_86 : decode cX7_more 86 = .ok (.if_icmp .le 8, 3) := by decide +kernel
theorem dX7_more_89 : decode cX7_more 89 = .ok (.iload 5, 2) := by decide +kernel
theorem dX7_more_91 : decode cX7_more 91 = .ok (.goto 4, 3) := by decide +kernel
theorem dX7_more_94 : decode cX7_more 94 = .ok (.iload_n 2, 1) := by decide +kernel
theorem dX7_more_95 : decode cX7_more 95 = .ok (.istore_n 2, 1) := by decide +kernel
theorem dX7_more_96 : decode cX7_more 96 = .ok (.iinc 4 1, 3) := by decide +kernel
theorem dX7_more_99 : decode cX7_more 99 = .ok (.goto (-69), 3) := by decide +kernel
theorem dX7_more_102 : decode cX7_more 102 = .ok (.iload_n 3, 1) := by decide +kernel
theorem dX7_more_103 : decode cX7_more 103 = .ok (.bipush (-4), 2) := by decide +kernel
theorem dX7_more_105 : decode cX7_more 105 = .ok (.if_icmp .eq 7, 3) := by decide +kernel
theorem dX7_more_108 : decode cX7_more 108 = .ok (.iload_n 1, 1) := by decide +kernel
theorem dX7_more_109 : decode cX7_more 109 = .ok (.ifCond .ne 7, 3) := by decide +kernel
theorem dX7_more_112 : decode cX7_more 112 = .ok (.iload_n 3, 1) := by decide +kernel
theorem dX7_more_113 : decode cX7_more 113 = .ok (.goto 4, 3) := by decide +kernel
theorem dX7_more_116 : decode cX7_more 116 = .ok (.iload_n 2, 1) := by decide +kernel
theorem dX7_more_117 : decode cX7_more 117 = .ok (.ireturn, 1) := by decide +kernel
theorem dX7_placeOf_0 : decode cX7_placeOf 0 = .ok (.iload_n 1, 1) := by decide +kernel
theorem dX7_placeOf_1 : decode cX7_placeOf 1 = .ok (.istore_n 2, 1) := by decide +kernel
theorem dX7_placeOf_2 : decode cX7_placeOf 2 = .ok (.iconst 0, 1) := by decide +kernel
theorem dX7_placeOf_3 : decode cX7_placeOf 3 = .ok (.istore_n 3, 1) := by decide +kernel
theorem dX7_placeOf_4 : decode cX7_placeOf 4 = .ok (.iload_n 0, 1) := by decide +kernel
theorem dX7_placeOf_5 : decode cX7_placeOf 5 = .ok (.iload_n 3, 1) := by decide +kernel
theorem dX7_placeOf_6 : decode cX7_placeOf 6 = .ok (.ishr, 1) := by decide +kernel
theorem dX7_placeOf_7 : decode cX7_placeOf 7 = .ok (.iconst 1, 1) := by decide +kernel
theorem dX7_placeOf_8 : decode cX7_placeOf 8 = .ok (.iand, 1) := by decide +kernel
theorem dX7_placeOf_9 : decode cX7_placeOf 9 = .ok (.ifCond .eq 7, 3) := by decide +kernel
theorem dX7_placeOf_12 : decode cX7_placeOf 12 = .ok (.iload_n 2, 1) := by decide +kernel
theorem dX7_placeOf_13 : decode cX7_placeOf 13 = .ok (.ifCond .le 17, 3) := by decide +kernel
theorem dX7_placeOf_16 : decode cX7_placeOf 16 = .ok (.iload_n 2, 1) := by decide +kernel
theorem dX7_placeOf_17 : decode cX7_placeOf 17 = .ok (.iload_n 0, 1) := by decide +kernel
theorem dX7_placeOf_18 : decode cX7_placeOf 18 = .ok (.iload_n 3, 1) := by decide +kernel
theorem dX7_placeOf_19 : decode cX7_placeOf 19 = .ok (.ishr, 1) := by decide +kernel
theorem dX7_placeOf_20 : decode cX7_placeOf 20 = .ok (.iconst 1, 1) := by decide +kernel
theorem dX7_placeOf_21 : decode cX7_placeOf 21 = .ok (.iand, 1) := by decide +kernel
theorem dX7_placeOf_22 : decode cX7_placeOf 22 = .ok (.isub, 1) := by decide +kernel
theorem dX7_placeOf_23 : decode cX7_placeOf 23 = .ok (.istore_n 2, 1) := by decide +kernel
theorem dX7_placeOf_24 : decode cX7_placeOf 24 = .ok (.iinc 3 1, 3) := by decide +kernel
theorem dX7_placeOf_27 : decode cX7_placeOf 27 = .ok (.goto (-23), 3) := by decide +kernel
theorem dX7_placeOf_30 : decode cX7_placeOf 30 = .ok (.iload_n 3, 1) := by decide +kernel
theorem dX7_placeOf_31 : decode cX7_placeOf 31 = .ok (.ireturn, 1) := by decide +kernel
theorem dX7_play_0 : decode cX7_play 0 = .ok (.aload_n 0, 1) := by decide +kernel
theorem dX7_play_1 : decode cX7_play 1 = .ok (.iload_n 2, 1) := by decide +kernel
theorem dX7_play_2 : decode cX7_play 2 = .ok (.invokevirtual 160, 3) := by decide +kernel
theorem dX7_play_5 : decode cX7_play 5 = .ok (.ifCond .eq 26, 3) := by decide +kernel
theorem dX7_play_8 : decode cX7_play 8 = .ok (.iload_n 3, 1) := by decide +kernel
theorem dX7_play_9 : decode cX7_play 9 = .ok (.i2l, 1) := by decide +kernel
theorem dX7_play_10 : decode cX7_play 10 = .ok (.lconst 1, 1) := by decide +kernel
theorem dX7_play_11 : decode cX7_play 11 = .ok (.ldc2_w 268, 3) := by decide +kernel
theorem dX7_play_14 : decode cX7_play 14 = .ok (.invokestatic 68, 3) := by decide +kernel
theorem dX7_play_17 : decode cX7_play 17 = .ok (.ifCond .eq 14, 3) := by decide +kernel
theorem dX7_play_20 : decode cX7_play 20 = .ok (.iload 4, 2) := by decide +kernel
theorem dX7_play_22 : decode cX7_play 22 = .ok (.i2l, 1) := by decide +kernel
theorem dX7_play_23 : decode cX7_play 23 = .ok (.lconst 0, 1) := by decide +kernel
theorem dX7_play_24 : decode cX7_play 24 = .ok (.lconst 1, 1) := by decide +kernel
theorem dX7_play_25 : decode cX7_play 25 = .ok (.invokestatic 68, 3) := by decide +kernel
theorem dX7_play_28 : decode cX7_play 28 = .ok (.ifCond .ne 5, 3) := by decide +kernel
theorem dX7_play_31 : decode cX7_play 31 = .ok (.iconst (-1), 1) := by decide +kernel
theorem dX7_play_32 : decode cX7_play 32 = .ok (.ireturn, 1) := by decide +kernel
theorem dX7_play_33 : decode cX7_play 33 = .ok (.aload_n 0, 1) := by decide +kernel
theorem dX7_play_34 : decode cX7_play 34 = .ok (.invokevirtual 221, 3) := by decide +kernel
theorem dX7_play_37 : decode cX7_play 37 = .ok (.iconst 1, 1) := by decide +kernel
theorem dX7_play_38 : decode cX7_play 38 = .ok (.iload_n 2, 1) := by decide +kernel
theorem dX7_play_39 : decode cX7_play 39 = .ok (.ishl, 1) := by decide +kernel
theorem dX7_play_40 : decode cX7_play 40 = .ok (.ior, 1) := by decide +kernel
theorem dX7_play_41 : decode cX7_play 41 = .ok (.istore 5, 2) := by decide +kernel
theorem dX7_play_43 : decode cX7_play 43 = .ok (.iload_n 1, 1) := by decide +kernel
theorem dX7_play_44 : decode cX7_play 44 = .ok (.istore 6, 2) := by decide +kernel
theorem dX7_play_46 : decode cX7_play 46 = .ok (.iconst 0, 1) := by decide +kernel
theorem dX7_play_47 : decode cX7_play 47 = .ok (.istore 7, 2) := by decide +kernel
theorem dX7_play_49 : decode cX7_play 49 = .ok (.iconst 0, 1) := by decide +kernel
theorem dX7_play_50 : decode cX7_play 50 = .ok (.istore 8, 2) := by decide +kernel
theorem dX7_play_52 : decode cX7_play 52 = .ok (.iload 7, 2) := by decide +kernel
theorem dX7_play_54 : decode cX7_play 54 = .ok (.iload_n 3, 1) := by decide +kernel
theorem dX7_play_55 : decode cX7_play 55 = .ok (.if_icmp .ge 92, 3) := by decide +kernel
theorem dX7_play_58 : decode cX7_play 58 = .ok (.iload 8, 2) := by decide +kernel
theorem dX7_play_60 : decode cX7_play 60 = .ok (.ifCond .ne 87, 3) := by decide +kernel
theorem dX7_play_63 : decode cX7_play 63 = .ok (.iload 6, 2) := by decide +kernel
theorem dX7_play_65 : decode cX7_play 65 = .ok (.ldc_w 270, 3) := by decide +kernel
theorem dX7_play_68 : decode cX7_play 68 = .ok (.imul, 1) := by decide +kernel
theorem dX7_play_69 : decode cX7_play 69 = .ok (.sipush 12345, 3) := by decide +kernel
theorem dX7_play_72 : decode cX7_play 72 = .ok (.iadd, 1) := by decide +kernel
theorem dX7_play_73 : decode cX7_play 73 = .ok (.istore 6, 2) := by decide +kernel
theorem dX7_play_75 : decode cX7_play 75 = .ok (.iload 5, 2) := by decide +kernel
theorem dX7_play_77 : decode cX7_play 77 = .ok (.iload 6, 2) := by decide +kernel
theorem dX7_play_79 : decode cX7_play 79 = .ok (.bipush 16, 2) := by decide +kernel
theorem dX7_play_81 : decode cX7_play 81 = .ok (.ishr, 1) := by decide +kernel
theorem dX7_play_82 : decode cX7_play 82 = .ok (.sipush 32767, 3) := by decide +kernel
theorem dX7_play_85 : decode cX7_play 85 = .ok (.iand, 1) := by decide +kernel
theorem dX7_play_86 : decode cX7_play 86 = .ok (.iload 5, 2) := by decide +kernel
theorem dX7_play_88 : decode cX7_play 88 = .ok (.invokestatic 191, 3) := by decide +kernel
theorem dX7_play_91 : decode cX7_play 91 = .ok (.irem, 1) := by decide +kernel
theorem dX7_play_92 : decode cX7_play 92 = .ok (.invokestatic 271, 3) := by decide +kernel
theorem dX7_play_95 : decode cX7_play 95 = .ok (.istore 9, 2) := by decide +kernel
theorem dX7_play_97 : decode cX7_play 97 = .ok (.iinc 7 1, 3) := by decide +kernel
theorem dX7_play_100 : decode cX7_play 100 = .ok (.iload 9, 2) := by decide +kernel
theorem dX7_play_102 : decode cX7_play 102 = .ok (.iload_n 2, 1) := by decide +kernel
theorem dX7_play_103 : decode cX7_play 103 = .ok (.if_icmp .ne 7, 3) := by decide +kernel
theorem dX7_play_106 : decode cX7_play 106 = .ok (.iconst 1, 1) := by decide +kernel
theorem dX7_play_107 : decode cX7_play 107 = .ok (.goto 4, 3) := by decide +kernel
theorem dX7_play_110 : decode cX7_play 110 = .ok (.iconst 0, 1) := by decide +kernel
theorem dX7_play_111 : decode cX7_play 111 = .ok (.istore 8, 2) := by decide +kernel
theorem dX7_play_113 : decode cX7_play 113 = .ok (.aload_n 0, 1) := by decide +kernel
theorem dX7_play_114 : decode cX7_play 114 = .ok (.iload 5, 2) := by decide +kernel
theorem dX7_play_116 : decode cX7_play 116 = .ok (.iload 9, 2) := by decide +kernel
theorem dX7_play_118 : decode cX7_play 118 = .ok (.iload 9, 2) := by decide +kernel
theorem dX7_play_120 : decode cX7_play 120 = .ok (.iload_n 2, 1) := by decide +kernel
theorem dX7_play_121 : decode cX7_play 121 = .ok (.if_icmp .ne 7, 3) := by decide +kernel
theorem dX7_play_124 : decode cX7_play 124 = .ok (.iconst 2, 1) := by decide +kernel
theorem dX7_play_125 : decode cX7_play 125 = .ok (.goto 14, 3) := by decide +kernel
theorem dX7_play_128 : decode cX7_play 128 = .ok (.aload_n 0, 1) := by decide +kernel
theorem dX7_play_129 : decode cX7_play 129 = .ok (.getfield 37, 3) := by decide +kernel
theorem dX7_play_132 : decode cX7_play 132 = .ok (.iload 9, 2) := by decide +kernel
theorem dX7_play_134 : decode cX7_play 134 = .ok (.iaload, 1) := by decide +kernel
theorem dX7_play_135 : decode cX7_play 135 = .ok (.iload_n 2, 1) := by decide +kernel
theorem dX7_play_136 : decode cX7_play 136 = .ok (.ishr, 1) := by decide +kernel
theorem dX7_play_137 : decode cX7_play 137 = .ok (.iconst 1, 1) := by decide +kernel
theorem dX7_play_138 : decode cX7_play 138 = .ok (.iand, 1) := by decide +kernel
theorem dX7_play_139 : decode cX7_play 139 = .ok (.invokevirtual 212, 3) := by decide +kernel
theorem dX7_play_142 : decode cX7_play 142 = .ok (.istore 5, 2) := by decide +kernel
theorem dX7_play_144 : decode cX7_play 144 = .ok (.goto (-92), 3) := by decide +kernel
theorem dX7_play_147 : decode cX7_play 147 = .ok (.iload 4, 2) := by decide +kernel
theorem dX7_play_149 : decode cX7_play 149 = .ok (.ifCond .ne 8, 3) := by decide +kernel
theorem dX7_play_152 : decode cX7_play 152 = .ok (.iload 7, 2) := by decide +kernel
theorem dX7_play_154 : decode cX7_play 154 = .ok (.goto 5, 3) := by decide +kernel
theorem dX7_play_157 : decode cX7_play 157 = .ok (.iload 8, 2) := by decide +kernel
theorem dX7_play_159 : decode cX7_play 159 = .ok (.ireturn, 1) := by decide +kernel
theorem dX7_copies_0 : decode cX7_copies 0 = .ok (.iconst 0, 1) := by decide +kernel
theorem dX7_copies_1 : decode cX7_copies 1 = .ok (.istore_n 3, 1) := by decide +kernel
theorem dX7_copies_2 : decode cX7_copies 2 = .ok (.iload_n 3, 1) := by decide +kernel
theorem dX7_copies_3 : decode cX7_copies 3 = .ok (.bipush 60, 2) := by decide +kernel
theorem dX7_copies_5 : decode cX7_copies 5 = .ok (.if_icmp .ge 25, 3) := by decide +kernel
theorem dX7_copies_8 : decode cX7_copies 8 = .ok (.aload_n 0, 1) := by decide +kernel
theorem dX7_copies_9 : decode cX7_copies 9 = .ok (.getfield 7, 3) := by decide +kernel
theorem dX7_copies_12 : decode cX7_copies 12 = .ok (.iload_n 2, 1) := by decide +kernel
theorem dX7_copies_13 : decode cX7_copies 13 = .ok (.iload_n 3, 1) := by decide +kernel
theorem dX7_copies_14 : decode cX7_copies 14 = .ok (.iadd, 1) := by decide +kernel
theorem dX7_copies_15 : decode cX7_copies 15 = .ok (.aload_n 0, 1) := by decide +kernel
theorem dX7_copies_16 : decode cX7_copies 16 = .ok (.getfield 7, 3) := by decide +kernel
theorem dX7_copies_19 : decode cX7_copies 19 = .ok (.iload_n 1, 1) := by decide +kernel
theorem dX7_copies_20 : decode cX7_copies 20 = .ok (.iload_n 3, 1) := by decide +kernel
theorem dX7_copies_21 : decode cX7_copies 21 = .ok (.iadd, 1) := by decide +kernel
theorem dX7_copies_22 : decode cX7_copies 22 = .ok (.iaload, 1) := by decide +kernel
theorem dX7_copies_23 : decode cX7_copies 23 = .ok (.iastore, 1) := by decide +kernel
theorem dX7_copies_24 : decode cX7_copies 24 = .ok (.iinc 3 1, 3) := by decide +kernel
theorem dX7_copies_27 : decode cX7_copies 27 = .ok (.goto (-25), 3) := by decide +kernel
theorem dX7_copies_30 : decode cX7_copies 30 = .ok (.return_, 1) := by decide +kernel
theorem dX7_keep_0 : decode cX7_keep 0 = .ok (.iload_n 1, 1) := by decide +kernel
theorem dX7_keep_1 : decode cX7_keep 1 = .ok (.i2l, 1) := by decide +kernel
theorem dX7_keep_2 : decode cX7_keep 2 = .ok (.lconst 0, 1) := by decide +kernel
theorem dX7_keep_3 : decode cX7_keep 3 = .ok (.lconst 1, 1) := by decide +kernel
theorem dX7_keep_4 : decode cX7_keep 4 = .ok (.invokestatic 68, 3) := by decide +kernel
theorem dX7_keep_7 : decode cX7_keep 7 = .ok (.ifCond .ne 5, 3) := by decide +kernel
theorem dX7_keep_10 : decode cX7_keep 10 = .ok (.iconst (-1), 1) := by decide +kernel
theorem dX7_keep_11 : decode cX7_keep 11 = .ok (.ireturn, 1) := by decide +kernel
theorem dX7_keep_12 : decode cX7_keep 12 = .ok (.aload_n 0, 1) := by decide +kernel
theorem dX7_keep_13 : decode cX7_keep 13 = .ok (.iconst 0, 1) := by decide +kernel
theorem dX7_keep_14 : decode cX7_keep 14 = .ok (.bipush 60, 2) := by decide +kernel
theorem dX7_keep_16 : decode cX7_keep 16 = .ok (.iload_n 1, 1) := by decide +kernel
theorem dX7_keep_17 : decode cX7_keep 17 = .ok (.iconst 1, 1) := by decide +kernel
theorem dX7_keep_18 : decode cX7_keep 18 = .ok (.iadd, 1) := by decide +kernel
theorem dX7_keep_19 : decode cX7_keep 19 = .ok (.imul, 1) := by decide +kernel
theorem dX7_keep_20 : decode cX7_keep 20 = .ok (.invokevirtual 274, 3) := by decide +kernel
theorem dX7_keep_23 : decode cX7_keep 23 = .ok (.aload_n 0, 1) := by decide +kernel
theorem dX7_keep_24 : decode cX7_keep 24 = .ok (.getfield 53, 3) := by decide +kernel
theorem dX7_keep_27 : decode cX7_keep 27 = .ok (.iload_n 1, 1) := by decide +kernel
theorem dX7_keep_28 : decode cX7_keep 28 = .ok (.baload, 1) := by decide +kernel
theorem dX7_keep_29 : decode cX7_keep 29 = .ok (.ifCond .eq 7, 3) := by decide +kernel
theorem dX7_keep_32 : decode cX7_keep 32 = .ok (.iconst 1, 1) := by decide +kernel
theorem dX7_keep_33 : decode cX7_keep 33 = .ok (.goto 4, 3) := by decide +kernel
theorem dX7_keep_36 : decode cX7_keep 36 = .ok (.iconst 0, 1) := by decide +kernel
theorem dX7_keep_37 : decode cX7_keep 37 = .ok (.istore_n 2, 1) := by decide +kernel
theorem dX7_keep_38 : decode cX7_keep 38 = .ok (.aload_n 0, 1) := by decide +kernel
theorem dX7_keep_39 : decode cX7_keep 39 = .ok (.getfield 53, 3) := by decide +kernel
theorem dX7_keep_42 : decode cX7_keep 42 = .ok (.iload_n 1, 1) := by decide +kernel
theorem dX7_keep_43 : decode cX7_keep 43 = .ok (.iconst 1, 1) := by decide +kernel
theorem dX7_keep_44 : decode cX7_keep 44 = .ok (.bastore, 1) := by decide +kernel
theorem dX7_keep_45 : decode cX7_keep 45 = .ok (.iload_n 2, 1) := by decide +kernel
theorem dX7_keep_46 : decode cX7_keep 46 = .ok (.ireturn, 1) := by decide +kernel
theorem dX7_back_0 : decode cX7_back 0 = .ok (.iload_n 1, 1) := by decide +kernel
theorem dX7_back_1 : decode cX7_back 1 = .ok (.i2l, 1) := by decide +kernel
theorem dX7_back_2 : decode cX7_back 2 = .ok (.lconst 0, 1) := by decide +kernel
theorem dX7_back_3 : decode cX7_back 3 = .ok (.lconst 1, 1) := by decide +kernel
theorem dX7_back_4 : decode cX7_back 4 = .ok (.invokestatic 68, 3) := by decide +kernel
theorem dX7_back_7 : decode cX7_back 7 = .ok (.ifCond .ne 5, 3) := by decide +kernel
theorem dX7_back_10 : decode cX7_back 10 = .ok (.iconst (-1), 1) := by decide +kernel
theorem dX7_back_11 : decode cX7_back 11 = .ok (.ireturn, 1) := by decide +kernel
theorem dX7_back_12 : decode cX7_back 12 = .ok (.aload_n 0, 1) := by decide +kernel
theorem dX7_back_13 : decode cX7_back 13 = .ok (.getfield 53, 3) := by decide +kernel
theorem dX7_back_16 : decode cX7_back 16 = .ok (.iload_n 1, 1) := by decide +kernel
theorem dX7_back_17 : decode cX7_back 17 = .ok (.baload, 1) := by decide +kernel
theorem dX7_back_18 : decode cX7_back 18 = .ok (.ifCond .ne 6, 3) := by decide +kernel
theorem dX7_back_21 : decode cX7_back 21 = .ok (.bipush (-2), 2) := by decide +kernel
theorem dX7_back_23 : decode cX7_back 23 = .ok (.ireturn, 1) := by decide +kernel
theorem dX7_back_24 : decode cX7_back 24 = .ok (.aload_n 0, 1) := by decide +kernel
theorem dX7_back_25 : decode cX7_back 25 = .ok (.bipush 60, 2) := by decide +kernel
theorem dX7_back_27 : decode cX7_back 27 = .ok (.iload_n 1, 1) := by decide +kernel
theorem dX7_back_28 : decode cX7_back 28 = .ok (.iconst 1, 1) := by decide +kernel
theorem dX7_back_29 : decode cX7_back 29 = .ok (.iadd, 1) := by decide +kernel
theorem dX7_back_30 : decode cX7_back 30 = .ok (.imul, 1) := by decide +kernel
theorem dX7_back_31 : decode cX7_back 31 = .ok (.iconst 0, 1) := by decide +kernel
theorem dX7_back_32 : decode cX7_back 32 = .ok (.invokevirtual 274, 3) := by decide +kernel
theorem dX7_back_35 : decode cX7_back 35 = .ok (.aload_n 0, 1) := by decide +kernel
theorem dX7_back_36 : decode cX7_back 36 = .ok (.getfield 7, 3) := by decide +kernel
theorem dX7_back_39 : decode cX7_back 39 = .ok (.bipush 40, 2) := by decide +kernel
theorem dX7_back_41 : decode cX7_back 41 = .ok (.iaload, 1) := by decide +kernel
theorem dX7_back_42 : decode cX7_back 42 = .ok (.ireturn, 1) := by decide +kernel
theorem dX7_sheet_0 : decode cX7_sheet 0 = .ok (.iload_n 1, 1) := by decide +kernel
theorem dX7_sheet_1 : decode cX7_sheet 1 = .ok (.i2l, 1) := by decide +kernel
theorem dX7_sheet_2 : decode cX7_sheet 2 = .ok (.lconst 0, 1) := by decide +kernel
theorem dX7_sheet_3 : decode cX7_sheet 3 = .ok (.ldc2_w 135, 3) := by decide +kernel
theorem dX7_sheet_6 : decode cX7_sheet 6 = .ok (.invokestatic 68, 3) := by decide +kernel
theorem dX7_sheet_9 : decode cX7_sheet 9 = .ok (.ifCond .eq 21, 3) := by decide +kernel
theorem dX7_sheet_12 : decode cX7_sheet 12 = .ok (.iload_n 2, 1) := by decide +kernel
theorem dX7_sheet_13 : decode cX7_sheet 13 = .ok (.i2l, 1) := by decide +kernel
theorem dX7_sheet_14 : decode cX7_sheet 14 = .ok (.lconst 0, 1) := by decide +kernel
theorem dX7_sheet_15 : decode cX7_sheet 15 = .ok (.ldc2_w 205, 3) := by decide +kernel
theorem dX7_sheet_18 : decode cX7_sheet 18 = .ok (.invokestatic 68, 3) := by decide +kernel
theorem dX7_sheet_21 : decode cX7_sheet 21 = .ok (.ifCond .eq 9, 3) := by decide +kernel
theorem dX7_sheet_24 : decode cX7_sheet 24 = .ok (.iload_n 3, 1) := by decide +kernel
theorem dX7_sheet_25 : decode cX7_sheet 25 = .ok (.bipush 40, 2) := by decide +kernel
theorem dX7_sheet_27 : decode cX7_sheet 27 = .ok (.if_icmp .le 5, 3) := by decide +kernel
theorem dX7_sheet_30 : decode cX7_sheet 30 = .ok (.iconst (-1), 1) := by decide +kernel
theorem dX7_sheet_31 : decode cX7_sheet 31 = .ok (.ireturn, 1) := by decide +kernel
theorem dX7_sheet_32 : decode cX7_sheet 32 = .ok (.iload_n 3, 1) := by decide +kernel
theorem dX7_sheet_33 : decode cX7_sheet 33 = .ok (.ifCond .ge 6, 3) := by decide +kernel
theorem dX7_sheet_36 : decode cX7_sheet 36 = .ok (.bipush (-14), 2) := by decide +kernel
theorem dX7_sheet_38 : decode cX7_sheet 38 = .ok (.ireturn, 1) := by decide +kernel
theorem dX7_sheet_39 : decode cX7_sheet 39 = .ok (.aload_n 0, 1) := by decide +kernel
theorem dX7_sheet_40 : decode cX7_sheet 40 = .ok (.getfield 57, 3) := by decide +kernel
theorem dX7_sheet_43 : decode cX7_sheet 43 = .ok (.iload_n 1, 1) := by decide +kernel
theorem dX7_sheet_44 : decode cX7_sheet 44 = .ok (.iload_n 2, 1) := by decide +kernel
theorem dX7_sheet_45 : decode cX7_sheet 45 = .ok (.iastore, 1) := by decide +kernel
theorem dX7_sheet_46 : decode cX7_sheet 46 = .ok (.aload_n 0, 1) := by decide +kernel
theorem dX7_sheet_47 : decode cX7_sheet 47 = .ok (.getfield 60, 3) := by decide +kernel
theorem dX7_sheet_50 : decode cX7_sheet 50 = .ok (.iload_n 1, 1) := by decide +kernel
theorem dX7_sheet_51 : decode cX7_sheet 51 = .ok (.iload_n 3, 1) := by decide +kernel
theorem dX7_sheet_52 : decode cX7_sheet 52 = .ok (.iastore, 1) := by decide +kernel
theorem dX7_sheet_53 : decode cX7_sheet 53 = .ok (.iconst 0, 1) := by decide +kernel
theorem dX7_sheet_54 : decode cX7_sheet 54 = .ok (.istore 4, 2) := by decide +kernel
theorem dX7_sheet_56 : decode cX7_sheet 56 = .ok (.iload 4, 2) := by decide +kernel
theorem dX7_sheet_58 : decode cX7_sheet 58 = .ok (.bipush 40, 2) := by decide +kernel
theorem dX7_sheet_60 : decode cX7_sheet 60 = .ok (.if_icmp .ge 22, 3) := by decide +kernel
theorem dX7_sheet_63 : decode cX7_sheet 63 = .ok (.aload_n 0, 1) := by decide +kernel
theorem dX7_sheet_64 : decode cX7_sheet 64 = .ok (.getfield 63, 3) := by decide +kernel
theorem dX7_sheet_67 : decode cX7_sheet 67 = .ok (.bipush 40, 2) := by decide +kernel
theorem dX7_sheet_69 : decode cX7_sheet 69 = .ok (.iload_n 1, 1) := by decide +kernel
theorem dX7_sheet_70 : decode cX7_sheet 70 = .ok (.imul, 1) := by decide +kernel
theorem dX7_sheet_71 : decode cX7_sheet 71 = .ok (.iload 4, 2) := by decide +kernel
theorem dX7_sheet_73 : decode cX7_sheet 73 = .ok (.iadd, 1) := by decide +kernel
theorem dX7_sheet_74 : decode cX7_sheet 74 = .ok (.iconst 0, 1) := by decide +kernel
theorem dX7_sheet_75 : decode cX7_sheet 75 = .ok (.iastore, 1) := by decide +kernel
theorem dX7_sheet_76 : decode cX7_sheet 76 = .ok (.iinc 4 1, 3) := by decide +kernel
theorem dX7_sheet_79 : decode cX7_sheet 79 = .ok (.goto (-23), 3) := by decide +kernel
theorem dX7_sheet_82 : decode cX7_sheet 82 = .ok (.iconst 1, 1) := by decide +kernel
theorem dX7_sheet_83 : decode cX7_sheet 83 = .ok (.ireturn, 1) := by decide +kernel
theorem dX7_lay_0 : decode cX7_lay 0 = .ok (.iload_n 1, 1) := by decide +kernel
theorem dX7_lay_1 : decode cX7_lay 1 = .ok (.i2l, 1) := by decide +kernel
theorem dX7_lay_2 : decode cX7_lay 2 = .ok (.lconst 0, 1) := by decide +kernel
theorem dX7_lay_3 : decode cX7_lay 3 = .ok (.ldc2_w 135, 3) := by decide +kernel
theorem dX7_lay_6 : decode cX7_lay 6 = .ok (.invokestatic 68, 3) := by decide +kernel
theorem dX7_lay_9 : decode cX7_lay 9 = .ok (.ifCond .ne 5, 3) := by decide +kernel
theorem dX7_lay_12 : decode cX7_lay 12 = .ok (.iconst (-1), 1) := by decide +kernel
theorem dX7_lay_13 : decode cX7_lay 13 = .ok (.ireturn, 1) := by decide +kernel
theorem dX7_lay_14 : decode cX7_lay 14 = .ok (.aload_n 0, 1) := by decide +kernel
theorem dX7_lay_15 : decode cX7_lay 15 = .ok (.getfield 57, 3) := by decide +kernel
theorem dX7_lay_18 : decode cX7_lay 18 = .ok (.iload_n 1, 1) := by decide +kernel
theorem dX7_lay_19 : decode cX7_lay 19 = .ok (.iaload, 1) := by decide +kernel
theorem dX7_lay_20 : decode cX7_lay 20 = .ok (.bipush (-4), 2) := by decide +kernel
theorem dX7_lay_22 : decode cX7_lay 22 = .ok (.if_icmp .ne 6, 3) := by decide +kernel
theorem dX7_lay_25 : decode cX7_lay 25 = .ok (.bipush (-11), 2) := by decide +kernel
theorem dX7_lay_27 : decode cX7_lay 27 = .ok (.ireturn, 1) := by decide +kernel
theorem dX7_lay_28 : decode cX7_lay 28 = .ok (.iload_n 2, 1) := by decide +kernel
theorem dX7_lay_29 : decode cX7_lay 29 = .ok (.i2l, 1) := by decide +kernel
theorem dX7_lay_30 : decode cX7_lay 30 = .ok (.lconst 0, 1) := by decide +kernel
theorem dX7_lay_31 : decode cX7_lay 31 = .ok (.aload_n 0, 1) := by decide +kernel
theorem dX7_lay_32 : decode cX7_lay 32 = .ok (.getfield 60, 3) := by decide +kernel
theorem dX7_lay_35 : decode cX7_lay 35 = .ok (.iload_n 1, 1) := by decide +kernel
theorem dX7_lay_36 : decode cX7_lay 36 = .ok (.iaload, 1) := by decide +kernel
theorem dX7_lay_37 : decode cX7_lay 37 = .ok (.iconst 1, 1) := by decide +kernel
theorem dX7_lay_38 : decode cX7_lay 38 = .ok (.isub, 1) := by decide +kernel
theorem dX7_lay_39 : decode cX7_lay 39 = .ok (.i2l, 1) := by decide +kernel
theorem dX7_lay_40 : decode cX7_lay 40 = .ok (.invokestatic 68, 3) := by decide +kernel
theorem dX7_lay_43 : decode cX7_lay 43 = .ok (.ifCond .ne 6, 3) := by decide +kernel
theorem dX7_lay_46 : decode cX7_lay 46 = .ok (.bipush (-12), 2) := by decide +kernel
theorem dX7_lay_48 : decode cX7_lay 48 = .ok (.ireturn, 1) := by decide +kernel
theorem dX7_lay_49 : decode cX7_lay 49 = .ok (.aload_n 0, 1) := by decide +kernel
theorem dX7_lay_50 : decode cX7_lay 50 = .ok (.getfield 63, 3) := by decide +kernel
theorem dX7_lay_53 : decode cX7_lay 53 = .ok (.bipush 40, 2) := by decide +kernel
theorem dX7_lay_55 : decode cX7_lay 55 = .ok (.iload_n 1, 1) := by decide +kernel
theorem dX7_lay_56 : decode cX7_lay 56 = .ok (.imul, 1) := by decide +kernel
theorem dX7_lay_57 : decode cX7_lay 57 = .ok (.iload_n 2, 1) := by decide +kernel
theorem dX7_lay_58 : decode cX7_lay 58 = .ok (.iadd, 1) := by decide +kernel
theorem dX7_lay_59 : decode cX7_lay 59 = .ok (.aload_n 0, 1) := by decide +kernel
theorem dX7_lay_60 : decode cX7_lay 60 = .ok (.getfield 57, 3) := by decide +kernel
theorem dX7_lay_63 : decode cX7_lay 63 = .ok (.iload_n 1, 1) := by decide +kernel
theorem dX7_lay_64 : decode cX7_lay 64 = .ok (.iaload, 1) := by decide +kernel
theorem dX7_lay_65 : decode cX7_lay 65 = .ok (.ifCond .ne 13, 3) := by decide +kernel
theorem dX7_lay_68 : decode cX7_lay 68 = .ok (.iload_n 3, 1) := by decide +kernel
theorem dX7_lay_69 : decode cX7_lay 69 = .ok (.bipush 24, 2) := by decide +kernel
theorem dX7_lay_71 : decode cX7_lay 71 = .ok (.ishl, 1) := by decide +kernel
theorem dX7_lay_72 : decode cX7_lay 72 = .ok (.bipush 24, 2) := by decide +kernel
theorem dX7_lay_74 : decode cX7_lay 74 = .ok (.ishr, 1) := by decide +kernel
theorem dX7_lay_75 : decode cX7_lay 75 = .ok (.goto 24, 3) := by decide +kernel
theorem dX7_lay_78 : decode cX7_lay 78 = .ok (.aload_n 0, 1) := by decide +kernel
theorem dX7_lay_79 : decode cX7_lay 79 = .ok (.getfield 57, 3) := by decide +kernel
theorem dX7_lay_82 : decode cX7_lay 82 = .ok (.iload_n 1, 1) := by decide +kernel
theorem dX7_lay_83 : decode cX7_lay 83 = .ok (.iaload, 1) := by decide +kernel
theorem dX7_lay_84 : decode cX7_lay 84 = .ok (.iconst 1, 1) := by decide +kernel
theorem dX7_lay_85 : decode cX7_lay 85 = .ok (.if_icmp .ne 13, 3) := by decide +kernel
theorem dX7_lay_88 : decode cX7_lay 88 = .ok (.iload_n 3, 1) := by decide +kernel
theorem dX7_lay_89 : decode cX7_lay 89 = .ok (.bipush 16, 2) := by decide +kernel
theorem dX7_lay_91 : decode cX7_lay 91 = .ok (.ishl, 1) := by decide +kernel
theorem dX7_lay_92 : decode cX7_lay 92 = .ok (.bipush 16, 2) := by decide +kernel
theorem dX7_lay_94 : decode cX7_lay 94 = .ok (.ishr, 1) := by decide +kernel
theorem dX7_lay_95 : decode cX7_lay 95 = .ok (.goto 4, 3) := by decide +kernel
theorem dX7_lay_98 : decode cX7_lay 98 = .ok (.iload_n 3, 1) := by decide +kernel
theorem dX7_lay_99 : decode cX7_lay 99 = .ok (.iastore, 1) := by decide +kernel
theorem dX7_lay_100 : decode cX7_lay 100 = .ok (.iconst 1, 1) := by decide +kernel
theorem dX7_lay_101 : decode cX7_lay 101 = .ok (.ireturn, 1) := by decide +kernel
theorem dX7_read_0 : decode cX7_read 0 = .ok (.iload_n 1, 1) := by decide +kernel
theorem dX7_read_1 : decode cX7_read 1 = .ok (.i2l, 1) := by decide +kernel
theorem dX7_read_2 : decode cX7_read 2 = .ok (.lconst 0, 1) := by decide +kernel
theorem dX7_read_3 : decode cX7_read 3 = .ok (.ldc2_w 135, 3) := by decide +kernel
theorem dX7_read_6 : decode cX7_read 6 = .ok (.invokestatic 68, 3) := by decide +kernel
theorem dX7_read_9 : decode cX7_read 9 = .ok (.ifCond .eq 28, 3) := by decide +kernel
theorem dX7_read_12 : decode cX7_read 12 = .ok (.iload_n 2, 1) := by decide +kernel
theorem dX7_read_13 : decode cX7_read 13 = .ok (.i2l, 1) := by decide +kernel
theorem dX7_read_14 : decode cX7_read 14 = .ok (.lconst 0, 1) := by decide +kernel
theorem dX7_read_15 : decode cX7_read 15 = .ok (.ldc2_w 205, 3) := by decide +kernel
theorem dX7_read_18 : decode cX7_read 18 = .ok (.invokestatic 68, 3) := by decide +kernel
theorem dX7_read_21 : decode cX7_read 21 = .ok (.ifCond .eq 16, 3) := by decide +kernel
theorem dX7_read_24 : decode cX7_read 24 = .ok (.iload 4, 2) := by decide +kernel
theorem dX7_read_26 : decode cX7_read 26 = .ok (.i2l, 1) := by decide +kernel
theorem dX7_read_27 : decode cX7_read 27 = .ok (.lconst 0, 1) := by decide +kernel
theorem dX7_read_28 : decode cX7_read 28 = .ok (.ldc2_w 277, 3) := by decide +kernel
theorem dX7_read_31 : decode cX7_read 31 = .ok (.invokestatic 68, 3) := by decide +kernel
theorem dX7_read_34 : decode cX7_read 34 = .ok (.ifCond .ne 5, 3) := by decide +kernel
theorem dX7_read_37 : decode cX7_read 37 = .ok (.iconst (-1), 1) := by decide +kernel
theorem dX7_read_38 : decode cX7_read 38 = .ok (.ireturn, 1) := by decide +kernel
theorem dX7_read_39 : decode cX7_read 39 = .ok (.aload_n 0, 1) := by decide +kernel
theorem dX7_read_40 : decode cX7_read 40 = .ok (.iconst 0, 1) := by decide +kernel
theorem dX7_read_41 : decode cX7_read 41 = .ok (.sipush 180, 3) := by decide +kernel
theorem dX7_read_44 : decode cX7_read 44 = .ok (.invokevirtual 274, 3) := by decide +kernel
theorem dX7_read_47 : decode cX7_read 47 = .ok (.iconst 0, 1) := by decide +kernel
theorem dX7_read_48 : decode cX7_read 48 = .ok (.istore 5, 2) := by decide +kernel
theorem dX7_read_50 : decode cX7_read 50 = .ok (.iconst 0, 1) := by decide +kernel
theorem dX7_read_51 : decode cX7_read 51 = .ok (.istore 6, 2) := by decide +kernel
theorem dX7_read_53 : decode cX7_read 53 = .ok (.iconst 0, 1) := by decide +kernel
theorem dX7_read_54 : decode cX7_read 54 = .ok (.istore 7, 2) := by decide +kernel
theorem dX7_read_56 : decode cX7_read 56 = .ok (.iload 7, 2) := by decide +kernel
theorem dX7_read_58 : decode cX7_read 58 = .ok (.iconst 2, 1) := by decide +kernel
theorem dX7_read_59 : decode cX7_read 59 = .ok (.iload 4, 2) := by decide +kernel
theorem dX7_read_61 : decode cX7_read 61 = .ok (.imul, 1) := by decide +kernel
theorem dX7_read_62 : decode cX7_read 62 = .ok (.if_icmp .ge 136, 3) := by decide +kernel
theorem dX7_read_65 : decode cX7_read 65 = .ok (.iload 5, 2) := by decide +kernel
theorem dX7_read_67 : decode cX7_read 67 = .ok (.ifCond .ne 131, 3) := by decide +kernel
theorem dX7_read_70 : decode cX7_read 70 = .ok (.aload_n 0, 1) := by decide +kernel
theorem dX7_read_71 : decode cX7_read 71 = .ok (.getfield 57, 3) := by decide +kernel
theorem dX7_read_74 : decode cX7_read 74 = .ok (.iload_n 1, 1) := by decide +kernel
theorem dX7_read_75 : decode cX7_read 75 = .ok (.iaload, 1) := by decide +kernel
theorem dX7_read_76 : decode cX7_read 76 = .ok (.bipush (-4), 2) := by decide +kernel
theorem dX7_read_78 : decode cX7_read 78 = .ok (.if_icmp .ne 7, 3) := by decide +kernel
theorem dX7_read_81 : decode cX7_read 81 = .ok (.iconst 1, 1) := by decide +kernel
theorem dX7_read_82 : decode cX7_read 82 = .ok (.goto 44, 3) := by decide +kernel
theorem dX7_read_85 : decode cX7_read 85 = .ok (.aload_n 0, 1) := by decide +kernel
theorem dX7_read_86 : decode cX7_read 86 = .ok (.getfield 57, 3) := by decide +kernel
theorem dX7_read_89 : decode cX7_read 89 = .ok (.iload_n 1, 1) := by decide +kernel
theorem dX7_read_90 : decode cX7_read 90 = .ok (.iaload, 1) := by decide +kernel
theorem dX7_read_91 : decode cX7_read 91 = .ok (.iload_n 2, 1) := by decide +kernel
theorem dX7_read_92 : decode cX7_read 92 = .ok (.if_icmp .eq 7, 3) := by decide +kernel
theorem dX7_read_95 : decode cX7_read 95 = .ok (.iconst 3, 1) := by decide +kernel
theorem dX7_read_96 : decode cX7_read 96 = .ok (.goto 30, 3) := by decide +kernel
theorem dX7_read_99 : decode cX7_read 99 = .ok (.iload_n 3, 1) := by decide +kernel
theorem dX7_read_100 : decode cX7_read 100 = .ok (.i2l, 1) := by decide +kernel
theorem dX7_read_101 : decode cX7_read 101 = .ok (.iload 7, 2) := by decide +kernel
theorem dX7_read_103 : decode cX7_read 103 = .ok (.i2l, 1) := by decide +kernel
theorem dX7_read_104 : decode cX7_read 104 = .ok (.ladd, 1) := by decide +kernel
theorem dX7_read_105 : decode cX7_read 105 = .ok (.lconst 0, 1) := by decide +kernel
theorem dX7_read_106 : decode cX7_read 106 = .ok (.aload_n 0, 1) := by decide +kernel
theorem dX7_read_107 : decode cX7_read 107 = .ok (.getfield 60, 3) := by decide +kernel
theorem dX7_read_110 : decode cX7_read 110 = .ok (.iload_n 1, 1) := by decide +kernel
theorem dX7_read_111 : decode cX7_read 111 = .ok (.iaload, 1) := by decide +kernel
theorem dX7_read_112 : decode cX7_read 112 = .ok (.iconst 1, 1) := by decide +kernel
theorem dX7_read_113 : decode cX7_read 113 = .ok (.isub, 1) := by decide +kernel
theorem dX7_read_114 : decode cX7_read 114 = .ok (.i2l, 1) := by decide +kernel
theorem dX7_read_115 : decode cX7_read 115 = .ok (.invokestatic 68, 3) := by decide +kernel
theorem dX7_read_118 : decode cX7_read 118 = .ok (.ifCond .ne 7, 3) := by decide +kernel
theorem dX7_read_121 : decode cX7_read 121 = .ok (.iconst 2, 1) := by decide +kernel
theorem dX7_read_122 : decode cX7_read 122 = .ok (.goto 4, 3) := by decide +kernel
theorem dX7_read_125 : decode cX7_read 125 = .ok (.iconst 0, 1) := by decide +kernel
theorem dX7_read_126 : decode cX7_read 126 = .ok (.istore 5, 2) := by decide +kernel
theorem dX7_read_128 : decode cX7_read 128 = .ok (.iload 5, 2) := by decide +kernel
theorem dX7_read_130 : decode cX7_read 130 = .ok (.ifCond .ne 62, 3) := by decide +kernel
theorem dX7_read_133 : decode cX7_read 133 = .ok (.iload 7, 2) := by decide +kernel
theorem dX7_read_135 : decode cX7_read 135 = .ok (.iconst 2, 1) := by decide +kernel
theorem dX7_read_136 : decode cX7_read 136 = .ok (.irem, 1) := by decide +kernel
theorem dX7_read_137 : decode cX7_read 137 = .ok (.iconst 1, 1) := by decide +kernel
theorem dX7_read_138 : decode cX7_read 138 = .ok (.if_icmp .ne 54, 3) := by decide +kernel
theorem dX7_read_141 : decode cX7_read 141 = .ok (.bipush 40, 2) := by decide +kernel
theorem dX7_read_143 : decode cX7_read 143 = .ok (.iload_n 1, 1) := by decide +kernel
theorem dX7_read_144 : decode cX7_read 144 = .ok (.imul, 1) := by decide +kernel
theorem dX7_read_145 : decode cX7_read 145 = .ok (.iload_n 3, 1) := by decide +kernel
theorem dX7_read_146 : decode cX7_read 146 = .ok (.iadd, 1) := by decide +kernel
theorem dX7_read_147 : decode cX7_read 147 = .ok (.iload 7, 2) := by decide +kernel
theorem dX7_read_149 : decode cX7_read 149 = .ok (.iadd, 1) := by decide +kernel
theorem dX7_read_150 : decode cX7_read 150 = .ok (.istore 8, 2) := by decide +kernel
theorem dX7_read_152 : decode cX7_read 152 = .ok (.aload_n 0, 1) := by decide +kernel
theorem dX7_read_153 : decode cX7_read 153 = .ok (.aload_n 0, 1) := by decide +kernel
theorem dX7_read_154 : decode cX7_read 154 = .ok (.getfield 63, 3) := by decide +kernel
theorem dX7_read_157 : decode cX7_read 157 = .ok (.iload 8, 2) := by decide +kernel
theorem dX7_read_159 : decode cX7_read 159 = .ok (.iconst 1, 1) := by decide +kernel
theorem dX7_read_160 : decode cX7_read 160 = .ok (.isub, 1) := by decide +kernel
theorem dX7_read_161 : decode cX7_read 161 = .ok (.iaload, 1) := by decide +kernel
theorem dX7_read_162 : decode cX7_read 162 = .ok (.aload_n 0, 1) := by decide +kernel
theorem dX7_read_163 : decode cX7_read 163 = .ok (.getfield 63, 3) := by decide +kernel
theorem dX7_read_166 : decode cX7_read 166 = .ok (.iload 8, 2) := by decide +kernel
theorem dX7_read_168 : decode cX7_read 168 = .ok (.iaload, 1) := by decide +kernel
theorem dX7_read_169 : decode cX7_read 169 = .ok (.invokevirtual 207, 3) := by decide +kernel
theorem dX7_read_172 : decode cX7_read 172 = .ok (.ifCond .ge 17, 3) := by decide +kernel
theorem dX7_read_175 : decode cX7_read 175 = .ok (.aload_n 0, 1) := by decide +kernel
theorem dX7_read_176 : decode cX7_read 176 = .ok (.sipush 180, 3) := by decide +kernel
theorem dX7_read_179 : decode cX7_read 179 = .ok (.iconst 0, 1) := by decide +kernel
theorem dX7_read_180 : decode cX7_read 180 = .ok (.invokevirtual 274, 3) := by decide +kernel
theorem dX7_read_183 : decode cX7_read 183 = .ok (.bipush (-20), 2) := by decide +kernel
theorem dX7_read_185 : decode cX7_read 185 = .ok (.iload 6, 2) := by decide +kernel
theorem dX7_read_187 : decode cX7_read 187 = .ok (.isub, 1) := by decide +kernel
theorem dX7_read_188 : decode cX7_read 188 = .ok (.ireturn, 1) := by decide +kernel
theorem dX7_read_189 : decode cX7_read 189 = .ok (.iinc 6 1, 3) := by decide +kernel
theorem dX7_read_192 : decode cX7_read 192 = .ok (.iinc 7 1, 3) := by decide +kernel
theorem dX7_read_195 : decode cX7_read 195 = .ok (.goto (-139), 3) := by decide +kernel
theorem dX7_read_198 : decode cX7_read 198 = .ok (.aload_n 0, 1) := by decide +kernel
theorem dX7_read_199 : decode cX7_read 199 = .ok (.iload 5, 2) := by decide +kernel
theorem dX7_read_201 : decode cX7_read 201 = .ok (.putfield 279, 3) := by decide +kernel
theorem dX7_read_204 : decode cX7_read 204 = .ok (.iload 6, 2) := by decide +kernel
theorem dX7_read_206 : decode cX7_read 206 = .ok (.ireturn, 1) := by decide +kernel
theorem dX7_torn_0 : decode cX7_torn 0 = .ok (.aload_n 0, 1) := by decide +kernel
theorem dX7_torn_1 : decode cX7_torn 1 = .ok (.getfield 279, 3) := by decide +kernel
theorem dX7_torn_4 : decode cX7_torn 4 = .ok (.ireturn, 1) := by decide +kernel
theorem dX7_count_0 : decode cX7_count 0 = .ok (.iload_n 1, 1) := by decide +kernel
theorem dX7_count_1 : decode cX7_count 1 = .ok (.tableswitch 139 0 6 #[43, 51, 59, 89, 94, 117, 131], 43) := by decide +kernel
theorem dX7_count_44 : decode cX7_count 44 = .ok (.aload_n 0, 1) := by decide +kernel
theorem dX7_count_45 : decode cX7_count 45 = .ok (.getfield 7, 3) := by decide +kernel
theorem dX7_count_48 : decode cX7_count 48 = .ok (.bipush 40, 2) := by decide +kernel
theorem dX7_count_50 : decode cX7_count 50 = .ok (.iaload, 1) := by decide +kernel
theorem dX7_count_51 : decode cX7_count 51 = .ok (.ireturn, 1) := by decide +kernel
theorem dX7_count_52 : decode cX7_count 52 = .ok (.aload_n 0, 1) := by decide +kernel
theorem dX7_count_53 : decode cX7_count 53 = .ok (.getfield 7, 3) := by decide +kernel
theorem dX7_count_56 : decode cX7_count 56 = .ok (.bipush 59, 2) := by decide +kernel
theorem dX7_count_58 : decode cX7_count 58 = .ok (.iaload, 1) := by decide +kernel
theorem dX7_count_59 : decode cX7_count 59 = .ok (.ireturn, 1) := by decide +kernel
theorem dX7_count_60 : decode cX7_count 60 = .ok (.aload_n 0, 1) := by decide +kernel
theorem dX7_count_61 : decode cX7_count 61 = .ok (.getfield 53, 3) := by decide +kernel
theorem dX7_count_64 : decode cX7_count 64 = .ok (.iconst 0, 1) := by decide +kernel
theorem dX7_count_65 : decode cX7_count 65 = .ok (.baload, 1) := by decide +kernel
theorem dX7_count_66 : decode cX7_count 66 = .ok (.ifCond .eq 7, 3) := by decide +kernel
theorem dX7_count_69 : decode cX7_count 69 = .ok (.iconst 1, 1) := by decide +kernel
theorem dX7_count_70 : decode cX7_count 70 = .ok (.goto 4, 3) := by decide +kernel
theorem dX7_count_73 : decode cX7_count 73 = .ok (.iconst 0, 1) := by decide +kernel
theorem dX7_count_74 : decode cX7_count 74 = .ok (.aload_n 0, 1) := by decide +kernel
theorem dX7_count_75 : decode cX7_count 75 = .ok (.getfield 53, 3) := by decide +kernel
theorem dX7_count_78 : decode cX7_count 78 = .ok (.iconst 1, 1) := by decide +kernel
theorem dX7_count_79 : decode cX7_count 79 = .ok (.baload, 1) := by decide +kernel
theorem dX7_count_80 : decode cX7_count 80 = .ok (.ifCond .eq 7, 3) := by decide +kernel
theorem dX7_count_83 : decode cX7_count 83 = .ok (.iconst 1, 1) := by decide +kernel
theorem dX7_count_84 : decode cX7_count 84 = .ok (.goto 4, 3) := by decide +kernel
theorem dX7_count_87 : decode cX7_count 87 = .ok (.iconst 0, 1) := by decide +kernel
theorem dX7_count_88 : decode cX7_count 88 = .ok (.iadd, 1) := by decide +kernel
theorem dX7_count_89 : decode cX7_count 89 = .ok (.ireturn, 1) := by decide +kernel
theorem dX7_count_90 : decode cX7_count 90 = .ok (.aload_n 0, 1) := by decide +kernel
theorem dX7_count_91 : decode cX7_count 91 = .ok (.getfield 72, 3) := by decide +kernel
theorem dX7_count_94 : decode cX7_count 94 = .ok (.ireturn, 1) := by decide +kernel
theorem dX7_count_95 : decode cX7_count 95 = .ok (.aload_n 0, 1) := by decide +kernel
theorem dX7_count_96 : decode cX7_count 96 = .ok (.getfield 57, 3) := by decide +kernel
theorem dX7_count_99 : decode cX7_count 99 = .ok (.iconst 0, 1) := by decide +kernel
theorem dX7_count_100 : decode cX7_count 100 = .ok (.iaload, 1) := by decide +kernel
theorem dX7_count_101 : decode cX7_count 101 = .ok (.bipush (-4), 2) := by decide +kernel
theorem dX7_count_103 : decode cX7_count 103 = .ok (.if_icmp .ne 8, 3) := by decide +kernel
theorem dX7_count_106 : decode cX7_count 106 = .ok (.bipush (-4), 2) := by decide +kernel
theorem dX7_count_108 : decode cX7_count 108 = .ok (.goto 9, 3) := by decide +kernel
theorem dX7_count_111 : decode cX7_count 111 = .ok (.aload_n 0, 1) := by decide +kernel
theorem dX7_count_112 : decode cX7_count 112 = .ok (.getfield 60, 3) := by decide +kernel
theorem dX7_count_115 : decode cX7_count 115 = .ok (.iconst 0, 1) := by decide +kernel
theorem dX7_count_116 : decode cX7_count 116 = .ok (.iaload, 1) := by decide +kernel
theorem dX7_count_117 : decode cX7_count 117 = .ok (.ireturn, 1) := by decide +kernel
theorem dX7_count_118 : decode cX7_count 118 = .ok (.aload_n 0, 1) := by decide +kernel
theorem dX7_count_119 : decode cX7_count 119 = .ok (.iconst 1, 1) := by decide +kernel
theorem dX7_count_120 : decode cX7_count 120 = .ok (.aload_n 0, 1) := by decide +kernel
theorem dX7_count_121 : decode cX7_count 121 = .ok (.getfield 155, 3) := by decide +kernel
theorem dX7_count_124 : decode cX7_count 124 = .ok (.ishl, 1) := by decide +kernel
theorem dX7_count_125 : decode cX7_count 125 = .ok (.iconst 1, 1) := by decide +kernel
theorem dX7_count_126 : decode cX7_count 126 = .ok (.isub, 1) := by decide +kernel
theorem dX7_count_127 : decode cX7_count 127 = .ok (.invokevirtual 228, 3) := by decide +kernel
theorem dX7_count_130 : decode cX7_count 130 = .ok (.l2i, 1) := by decide +kernel
theorem dX7_count_131 : decode cX7_count 131 = .ok (.ireturn, 1) := by decide +kernel
theorem dX7_count_132 : decode cX7_count 132 = .ok (.aload_n 0, 1) := by decide +kernel
theorem dX7_count_133 : decode cX7_count 133 = .ok (.invokevirtual 221, 3) := by decide +kernel
theorem dX7_count_136 : decode cX7_count 136 = .ok (.invokestatic 191, 3) := by decide +kernel
theorem dX7_count_139 : decode cX7_count 139 = .ok (.ireturn, 1) := by decide +kernel
theorem dX7_count_140 : decode cX7_count 140 = .ok (.iconst (-1), 1) := by decide +kernel
theorem dX7_count_141 : decode cX7_count 141 = .ok (.ireturn, 1) := by decide +kernel
