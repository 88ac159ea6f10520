theorem dX7_falls_56 : decode cX7_falls 56 = .ok (.iconst 1, 1) := by decide +kernel
theorem dX7_falls_57 : decode cX7_falls 57 = .ok (.iload 4, 2) := by decide +kernel
theorem dX7_falls_59 : decode cX7_falls 59 = .ok (.ishl, 1) := by decide +kernel
theorem dX7_falls_60 : decode cX7_falls 60 = .ok (.goto 4, 3) := by decide +kernel
theorem dX7_falls_63 : decode cX7_falls 63 = .ok (.iconst 0, 1) := by decide +kernel
theorem dX7_falls_64 : decode cX7_falls 64 = .ok (.ior, 1) := by decide +kernel
theorem dX7_falls_65 : decode cX7_falls 65 = .ok (.istore_n 3, 1) := by decide +kernel
theorem dX7_falls_66 : decode cX7_falls 66 = .ok (.iinc 4 1, 3) := by decide +kernel
theorem dX7_falls_69 : decode cX7_falls 69 = .ok (.goto (-36), 3) := by decide +kernel
theorem dX7_falls_72 : decode cX7_falls 72 = .ok (.aload_n 0, 1) := by decide +kernel
theorem dX7_falls_73 : decode cX7_falls 73 = .ok (.getfield 19, 3) := by decide +kernel
theorem dX7_falls_76 : decode cX7_falls 76 = .ok (.iload_n 1, 1) := by decide +kernel
theorem dX7_falls_77 : decode cX7_falls 77 = .ok (.iload_n 2, 1) := by decide +kernel
theorem dX7_falls_78 : decode cX7_falls 78 = .ok (.iastore, 1) := by decide +kernel
theorem dX7_falls_79 : decode cX7_falls 79 = .ok (.iload_n 3, 1) := by decide +kernel
theorem dX7_falls_80 : decode cX7_falls 80 = .ok (.ireturn, 1) := by decide +kernel
theorem dX7_blow_0 : decode cX7_blow 0 = .ok (.iconst 0, 1) := by decide +kernel
theorem dX7_blow_1 : decode cX7_blow 1 = .ok (.istore_n 3, 1) := by decide +kernel
theorem dX7_blow_2 : decode cX7_blow 2 = .ok (.iload_n 3, 1) := by decide +kernel
theorem dX7_blow_3 : decode cX7_blow 3 = .ok (.iload_n 2, 1) := by decide +kernel
theorem dX7_blow_4 : decode cX7_blow 4 = .ok (.if_icmp .ge 20, 3) := by decide +kernel
theorem dX7_blow_7 : decode cX7_blow 7 = .ok (.aload_n 0, 1) := by decide +kernel
theorem dX7_blow_8 : decode cX7_blow 8 = .ok (.getfield 16, 3) := by decide +kernel
theorem dX7_blow_11 : decode cX7_blow 11 = .ok (.iload_n 3, 1) := by decide +kernel
theorem dX7_blow_12 : decode cX7_blow 12 = .ok (.iload_n 1, 1) := by decide +kernel
theorem dX7_blow_13 : decode cX7_blow 13 = .ok (.iload_n 3, 1) := by decide +kernel
theorem dX7_blow_14 : decode cX7_blow 14 = .ok (.ishr, 1) := by decide +kernel
theorem dX7_blow_15 : decode cX7_blow 15 = .ok (.iconst 1, 1) := by decide +kernel
theorem dX7_blow_16 : decode cX7_blow 16 = .ok (.iand, 1) := by decide +kernel
theorem dX7_blow_17 : decode cX7_blow 17 = .ok (.iastore, 1) := by decide +kernel
theorem dX7_blow_18 : decode cX7_blow 18 = .ok (.iinc 3 1, 3) := by decide +kernel
theorem dX7_blow_21 : decode cX7_blow 21 = .ok (.goto (-19), 3) := by decide +kernel
theorem dX7_blow_24 : decode cX7_blow 24 = .ok (.return_, 1) := by decide +kernel
theorem dX7_odds_0 : decode cX7_odds 0 = .ok (.aload_n 0, 1) := by decide +kernel
theorem dX7_odds_1 : decode cX7_odds 1 = .ok (.iload_n 1, 1) := by decide +kernel
theorem dX7_odds_2 : decode cX7_odds 2 = .ok (.invokevirtual 202, 3) := by decide +kernel
theorem dX7_odds_5 : decode cX7_odds 5 = .ok (.ifCond .ne 27, 3) := by decide +kernel
theorem dX7_odds_8 : decode cX7_odds 8 = .ok (.iload_n 2, 1) := by decide +kernel
theorem dX7_odds_9 : decode cX7_odds 9 = .ok (.i2l, 1) := by decide +kernel
theorem dX7_odds_10 : decode cX7_odds 10 = .ok (.lconst 0, 1) := by decide +kernel
theorem dX7_odds_11 : decode cX7_odds 11 = .ok (.aload_n 0, 1) := by decide +kernel
theorem dX7_odds_12 : decode cX7_odds 12 = .ok (.getfield 96, 3) := by decide +kernel
theorem dX7_odds_15 : decode cX7_odds 15 = .ok (.i2l, 1) := by decide +kernel
theorem dX7_odds_16 : decode cX7_odds 16 = .ok (.invokestatic 89, 3) := by decide +kernel
theorem dX7_odds_19 : decode cX7_odds 19 = .ok (.ifCond .eq 13, 3) := by decide +kernel
theorem dX7_odds_22 : decode cX7_odds 22 = .ok (.iload_n 3, 1) := by decide +kernel
theorem dX7_odds_23 : decode cX7_odds 23 = .ok (.i2l, 1) := by decide +kernel
theorem dX7_odds_24 : decode cX7_odds 24 = .ok (.lconst 0, 1) := by decide +kernel
theorem dX7_odds_25 : decode cX7_odds 25 = .ok (.lconst 1, 1) := by decide +kernel
theorem dX7_odds_26 : decode cX7_odds 26 = .ok (.invokestatic 89, 3) := by decide +kernel
theorem dX7_odds_29 : decode cX7_odds 29 = .ok (.ifCond .ne 7, 3) := by decide +kernel
theorem dX7_odds_32 : decode cX7_odds 32 = .ok (.invokestatic 82, 3) := by decide +kernel
theorem dX7_odds_35 : decode cX7_odds 35 = .ok (.lreturn, 1) := by decide +kernel
theorem dX7_odds_36 : decode cX7_odds 36 = .ok (.iconst 0, 1) := by decide +kernel
theorem dX7_odds_37 : decode cX7_odds 37 = .ok (.istore 4, 2) := by decide +kernel
theorem dX7_odds_39 : decode cX7_odds 39 = .ok (.iconst 0, 1) := by decide +kernel
theorem dX7_odds_40 : decode cX7_odds 40 = .ok (.istore 5, 2) := by decide +kernel
theorem dX7_odds_42 : decode cX7_odds 42 = .ok (.iload 5, 2) := by decide +kernel
theorem dX7_odds_44 : decode cX7_odds 44 = .ok (.iload_n 2, 1) := by decide +kernel
theorem dX7_odds_45 : decode cX7_odds 45 = .ok (.if_icmp .ge 24, 3) := by decide +kernel
theorem dX7_odds_48 : decode cX7_odds 48 = .ok (.iload 4, 2) := by decide +kernel
theorem dX7_odds_50 : decode cX7_odds 50 = .ok (.aload_n 0, 1) := by decide +kernel
theorem dX7_odds_51 : decode cX7_odds 51 = .ok (.getfield 16, 3) := by decide +kernel
theorem dX7_odds_54 : decode cX7_odds 54 = .ok (.iload 5, 2) := by decide +kernel
theorem dX7_odds_56 : decode cX7_odds 56 = .ok (.iaload, 1) := by decide +kernel
theorem dX7_odds_57 : decode cX7_odds 57 = .ok (.iload 5, 2) := by decide +kernel
theorem dX7_odds_59 : decode cX7_odds 59 = .ok (.ishl, 1) := by decide +kernel
theorem dX7_odds_60 : decode cX7_odds 60 = .ok (.ior, 1) := by decide +kernel
theorem dX7_odds_61 : decode cX7_odds 61 = .ok (.istore 4, 2) := by decide +kernel
theorem dX7_odds_63 : decode cX7_odds 63 = .ok (.iinc 5 1, 3) := by decide +kernel
theorem dX7_odds_66 : decode cX7_odds 66 = .ok (.goto (-24), 3) := by decide +kernel
theorem dX7_odds_69 : decode cX7_odds 69 = .ok (.lconst 0, 1) := by decide +kernel
theorem dX7_odds_70 : decode cX7_odds 70 = .ok (.lstore 5, 2) := by decide +kernel
theorem dX7_odds_72 : decode cX7_odds 72 = .ok (.iconst 0, 1) := by decide +kernel
theorem dX7_odds_73 : decode cX7_odds 73 = .ok (.istore 7, 2) := by decide +kernel
theorem dX7_odds_75 : decode cX7_odds 75 = .ok (.iload 7, 2) := by decide +kernel
theorem dX7_odds_77 : decode cX7_odds 77 = .ok (.iconst 1, 1) := by decide +kernel
theorem dX7_odds_78 : decode cX7_odds 78 = .ok (.iload_n 2, 1) := by decide +kernel
theorem dX7_odds_79 : decode cX7_odds 79 = .ok (.ishl, 1) := by decide +kernel
theorem dX7_odds_80 : decode cX7_odds 80 = .ok (.if_icmp .ge 35, 3) := by decide +kernel
theorem dX7_odds_83 : decode cX7_odds 83 = .ok (.aload_n 0, 1) := by decide +kernel
theorem dX7_odds_84 : decode cX7_odds 84 = .ok (.iload 7, 2) := by decide +kernel
theorem dX7_odds_86 : decode cX7_odds 86 = .ok (.iload_n 2, 1) := by decide +kernel
theorem dX7_odds_87 : decode cX7_odds 87 = .ok (.invokevirtual 222, 3) := by decide +kernel
theorem dX7_odds_90 : decode cX7_odds 90 = .ok (.lload 5, 2) := by decide +kernel
theorem dX7_odds_92 : decode cX7_odds 92 = .ok (.aload_n 0, 1) := by decide +kernel
theorem dX7_odds_93 : decode cX7_odds 93 = .ok (.iload_n 1, 1) := by decide +kernel
theorem dX7_odds_94 : decode cX7_odds 94 = .ok (.iload_n 2, 1) := by decide +kernel
theorem dX7_odds_95 : decode cX7_odds 95 = .ok (.invokevirtual 205, 3) := by decide +kernel
theorem dX7_odds_98 : decode cX7_odds 98 = .ok (.ifCond .lt 7, 3) := by decide +kernel
theorem dX7_odds_101 : decode cX7_odds 101 = .ok (.lconst 1, 1) := by decide +kernel
theorem dX7_odds_102 : decode cX7_odds 102 = .ok (.goto 4, 3) := by decide +kernel
theorem dX7_odds_105 : decode cX7_odds 105 = .ok (.lconst 0, 1) := by decide +kernel
theorem dX7_odds_106 : decode cX7_odds 106 = .ok (.ladd, 1) := by decide +kernel
theorem dX7_odds_107 : decode cX7_odds 107 = .ok (.lstore 5, 2) := by decide +kernel
theorem dX7_odds_109 : decode cX7_odds 109 = .ok (.iinc 7 1, 3) := by decide +kernel
theorem dX7_odds_112 : decode cX7_odds 112 = .ok (.goto (-37), 3) := by decide +kernel
theorem dX7_odds_115 : decode cX7_odds 115 = .ok (.aload_n 0, 1) := by decide +kernel
theorem dX7_odds_116 : decode cX7_odds 116 = .ok (.iload 4, 2) := by decide +kernel
theorem dX7_odds_118 : decode cX7_odds 118 = .ok (.iload_n 2, 1) := by decide +kernel
theorem dX7_odds_119 : decode cX7_odds 119 = .ok (.invokevirtual 222, 3) := by decide +kernel
theorem dX7_odds_122 : decode cX7_odds 122 = .ok (.lload 5, 2) := by decide +kernel
theorem dX7_odds_124 : decode cX7_odds 124 = .ok (.lconst 1, 1) := by decide +kernel
theorem dX7_odds_125 : decode cX7_odds 125 = .ok (.iload_n 2, 1) := by decide +kernel
theorem dX7_odds_126 : decode cX7_odds 126 = .ok (.lshl, 1) := by decide +kernel
theorem dX7_odds_127 : decode cX7_odds 127 = .ok (.iload_n 3, 1) := by decide +kernel
theorem dX7_odds_128 : decode cX7_odds 128 = .ok (.invokestatic 225, 3) := by decide +kernel
theorem dX7_odds_131 : decode cX7_odds 131 = .ok (.lreturn, 1) := by decide +kernel
theorem dX7_noSheet_0 : decode cX7_noSheet 0 = .ok (.iload_n 0, 1) := by decide +kernel
theorem dX7_noSheet_1 : decode cX7_noSheet 1 = .ok (.i2l, 1) := by decide +kernel
theorem dX7_noSheet_2 : decode cX7_noSheet 2 = .ok (.lconst 0, 1) := by decide +kernel
theorem dX7_noSheet_3 : decode cX7_noSheet 3 = .ok (.ldc2_w 229, 3) := by decide +kernel
theorem dX7_noSheet_6 : decode cX7_noSheet 6 = .ok (.invokestatic 89, 3) := by decide +kernel
theorem dX7_noSheet_9 : decode cX7_noSheet 9 = .ok (.ifCond .ne 7, 3) := by decide +kernel
theorem dX7_noSheet_12 : decode cX7_noSheet 12 = .ok (.iconst 1, 1) := by decide +kernel
theorem dX7_noSheet_13 : decode cX7_noSheet 13 = .ok (.goto 4, 3) := by decide +kernel
theorem dX7_noSheet_16 : decode cX7_noSheet 16 = .ok (.iconst 0, 1) := by decide +kernel
theorem dX7_noSheet_17 : decode cX7_noSheet 17 = .ok (.ireturn, 1) := by decide +kernel
theorem dX7_sheet_0 : decode cX7_sheet 0 = .ok (.iload_n 1, 1) := by decide +kernel
theorem dX7_sheet_1 : decode cX7_sheet 1 = .ok (.invokestatic 137, 3) := by decide +kernel
theorem dX7_sheet_4 : decode cX7_sheet 4 = .ok (.ifCond .eq 9, 3) := by decide +kernel
theorem dX7_sheet_7 : decode cX7_sheet 7 = .ok (.aload_n 0, 1) := by decide +kernel
theorem dX7_sheet_8 : decode cX7_sheet 8 = .ok (.iconst (-1), 1) := by decide +kernel
theorem dX7_sheet_9 : decode cX7_sheet 9 = .ok (.invokevirtual 141, 3) := by decide +kernel
theorem dX7_sheet_12 : decode cX7_sheet 12 = .ok (.ireturn, 1) := by decide +kernel
theorem dX7_sheet_13 : decode cX7_sheet 13 = .ok (.iload_n 2, 1) := by decide +kernel
theorem dX7_sheet_14 : decode cX7_sheet 14 = .ok (.i2l, 1) := by decide +kernel
theorem dX7_sheet_15 : decode cX7_sheet 15 = .ok (.lconst 0, 1) := by decide +kernel
theorem dX7_sheet_16 : decode cX7_sheet 16 = .ok (.ldc2_w 144, 3) := by decide +kernel
theorem dX7_sheet_19 : decode cX7_sheet 19 = .ok (.invokestatic 89, 3) := by decide +kernel
theorem dX7_sheet_22 : decode cX7_sheet 22 = .ok (.ifCond .eq 9, 3) := by decide +kernel
theorem dX7_sheet_25 : decode cX7_sheet 25 = .ok (.iload_n 3, 1) := by decide +kernel
theorem dX7_sheet_26 : decode cX7_sheet 26 = .ok (.bipush 60, 2) := by decide +kernel
theorem dX7_sheet_28 : decode cX7_sheet 28 = .ok (.if_icmp .le 10, 3) := by decide +kernel
theorem dX7_sheet_31 : decode cX7_sheet 31 = .ok (.aload_n 0, 1) := by decide +kernel
theorem dX7_sheet_32 : decode cX7_sheet 32 = .ok (.bipush (-2), 2) := by decide +kernel
theorem dX7_sheet_34 : decode cX7_sheet 34 = .ok (.invokevirtual 141, 3) := by decide +kernel
theorem dX7_sheet_37 : decode cX7_sheet 37 = .ok (.ireturn, 1) := by decide +kernel
theorem dX7_sheet_38 : decode cX7_sheet 38 = .ok (.iload_n 3, 1) := by decide +kernel
theorem dX7_sheet_39 : decode cX7_sheet 39 = .ok (.ifCond .ge 9, 3) := by decide +kernel
theorem dX7_sheet_42 : decode cX7_sheet 42 = .ok (.aload_n 0, 1) := by decide +kernel
theorem dX7_sheet_43 : decode cX7_sheet 43 = .ok (.iconst 4, 1) := by decide +kernel
theorem dX7_sheet_44 : decode cX7_sheet 44 = .ok (.invokevirtual 129, 3) := by decide +kernel
theorem dX7_sheet_47 : decode cX7_sheet 47 = .ok (.ireturn, 1) := by decide +kernel
theorem dX7_sheet_48 : decode cX7_sheet 48 = .ok (.aload_n 0, 1) := by decide +kernel
theorem dX7_sheet_49 : decode cX7_sheet 49 = .ok (.getfield 61, 3) := by decide +kernel
theorem dX7_sheet_52 : decode cX7_sheet 52 = .ok (.iload_n 1, 1) := by decide +kernel
theorem dX7_sheet_53 : decode cX7_sheet 53 = .ok (.iload_n 3, 1) := by decide +kernel
theorem dX7_sheet_54 : decode cX7_sheet 54 = .ok (.iastore, 1) := by decide +kernel
theorem dX7_sheet_55 : decode cX7_sheet 55 = .ok (.aload_n 0, 1) := by decide +kernel
theorem dX7_sheet_56 : decode cX7_sheet 56 = .ok (.getfield 64, 3) := by decide +kernel
theorem dX7_sheet_59 : decode cX7_sheet 59 = .ok (.iload_n 1, 1) := by decide +kernel
theorem dX7_sheet_60 : decode cX7_sheet 60 = .ok (.iload_n 2, 1) := by decide +kernel
theorem dX7_sheet_61 : decode cX7_sheet 61 = .ok (.iastore, 1) := by decide +kernel
theorem dX7_sheet_62 : decode cX7_sheet 62 = .ok (.iconst 0, 1) := by decide +kernel
theorem dX7_sheet_63 : decode cX7_sheet 63 = .ok (.istore 4, 2) := by decide +kernel
theorem dX7_sheet_65 : decode cX7_sheet 65 = .ok (.iload 4, 2) := by decide +kernel
theorem dX7_sheet_67 : decode cX7_sheet 67 = .ok (.iload_n 3, 1) := by decide +kernel
theorem dX7_sheet_68 : decode cX7_sheet 68 = .ok (.if_icmp .ge 22, 3) := by decide +kernel
theorem dX7_sheet_71 : decode cX7_sheet 71 = .ok (.aload_n 0, 1) := by decide +kernel
theorem dX7_sheet_72 : decode cX7_sheet 72 = .ok (.getfield 67, 3) := by decide +kernel
theorem dX7_sheet_75 : decode cX7_sheet 75 = .ok (.bipush 60, 2) := by decide +kernel
theorem dX7_sheet_77 : decode cX7_sheet 77 = .ok (.iload_n 1, 1) := by decide +kernel
theorem dX7_sheet_78 : decode cX7_sheet 78 = .ok (.imul, 1) := by decide +kernel
theorem dX7_sheet_79 : decode cX7_sheet 79 = .ok (.iload 4, 2) := by decide +kernel
theorem dX7_sheet_81 : decode cX7_sheet 81 = .ok (.iadd, 1) := by decide +kernel
theorem dX7_sheet_82 : decode cX7_sheet 82 = .ok (.iconst 0, 1) := by decide +kernel
theorem dX7_sheet_83 : decode cX7_sheet 83 = .ok (.iastore, 1) := by decide +kernel
theorem dX7_sheet_84 : decode cX7_sheet 84 = .ok (.iinc 4 1, 3) := by decide +kernel
theorem dX7_sheet_87 : decode cX7_sheet 87 = .ok (.goto (-22), 3) := by decide +kernel
theorem dX7_sheet_90 : decode cX7_sheet 90 = .ok (.aload_n 0, 1) := by decide +kernel
theorem dX7_sheet_91 : decode cX7_sheet 91 = .ok (.iconst 1, 1) := by decide +kernel
theorem dX7_sheet_92 : decode cX7_sheet 92 = .ok (.invokevirtual 141, 3) := by decide +kernel
theorem dX7_sheet_95 : decode cX7_sheet 95 = .ok (.ireturn, 1) := by decide +kernel
theorem dX7_lose_0 : decode cX7_lose 0 = .ok (.iload_n 1, 1) := by decide +kernel
theorem dX7_lose_1 : decode cX7_lose 1 = .ok (.invokestatic 137, 3) := by decide +kernel
theorem dX7_lose_4 : decode cX7_lose 4 = .ok (.ifCond .eq 5, 3) := by decide +kernel
theorem dX7_lose_7 : decode cX7_lose 7 = .ok (.iconst (-1), 1) := by decide +kernel
theorem dX7_lose_8 : decode cX7_lose 8 = .ok (.ireturn, 1) := by decide +kernel
theorem dX7_lose_9 : decode cX7_lose 9 = .ok (.aload_n 0, 1) := by decide +kernel
theorem dX7_lose_10 : decode cX7_lose 10 = .ok (.getfield 61, 3) := by decide +kernel
theorem dX7_lose_13 : decode cX7_lose 13 = .ok (.iload_n 1, 1) := by decide +kernel
theorem dX7_lose_14 : decode cX7_lose 14 = .ok (.iaload, 1) := by decide +kernel
theorem dX7_lose_15 : decode cX7_lose 15 = .ok (.ifCond .ge 7, 3) := by decide +kernel
theorem dX7_lose_18 : decode cX7_lose 18 = .ok (.iconst 0, 1) := by decide +kernel
theorem dX7_lose_19 : decode cX7_lose 19 = .ok (.goto 4, 3) := by decide +kernel
theorem dX7_lose_22 : decode cX7_lose 22 = .ok (.iconst 1, 1) := by decide +kernel
theorem dX7_lose_23 : decode cX7_lose 23 = .ok (.istore_n 2, 1) := by decide +kernel
theorem dX7_lose_24 : decode cX7_lose 24 = .ok (.aload_n 0, 1) := by decide +kernel
theorem dX7_lose_25 : decode cX7_lose 25 = .ok (.getfield 61, 3) := by decide +kernel
theorem dX7_lose_28 : decode cX7_lose 28 = .ok (.iload_n 1, 1) := by decide +kernel
theorem dX7_lose_29 : decode cX7_lose 29 = .ok (.iconst (-1), 1) := by decide +kernel
theorem dX7_lose_30 : decode cX7_lose 30 = .ok (.iastore, 1) := by decide +kernel
theorem dX7_lose_31 : decode cX7_lose 31 = .ok (.iload_n 2, 1) := by decide +kernel
theorem dX7_lose_32 : decode cX7_lose 32 = .ok (.ireturn, 1) := by decide +kernel
theorem dX7_noCell_0 : decode cX7_noCell 0 = .ok (.aload_n 0, 1) := by decide +kernel
theorem dX7_noCell_1 : decode cX7_noCell 1 = .ok (.getfield 61, 3) := by decide +kernel
theorem dX7_noCell_4 : decode cX7_noCell 4 = .ok (.iload_n 1, 1) := by decide +kernel
theorem dX7_noCell_5 : decode cX7_noCell 5 = .ok (.iaload, 1) := by decide +kernel
theorem dX7_noCell_6 : decode cX7_noCell 6 = .ok (.ifCond .ge 7, 3) := by decide +kernel
theorem dX7_noCell_9 : decode cX7_noCell 9 = .ok (.iconst 1, 1) := by decide +kernel
theorem dX7_noCell_10 : decode cX7_noCell 10 = .ok (.goto 26, 3) := by decide +kernel
theorem dX7_noCell_13 : decode cX7_noCell 13 = .ok (.iload_n 2, 1) := by decide +kernel
theorem dX7_noCell_14 : decode cX7_noCell 14 = .ok (.i2l, 1) := by decide +kernel
theorem dX7_noCell_15 : decode cX7_noCell 15 = .ok (.lconst 0, 1) := by decide +kernel
theorem dX7_noCell_16 : decode cX7_noCell 16 = .ok (.aload_n 0, 1) := by decide +kernel
theorem dX7_noCell_17 : decode cX7_noCell 17 = .ok (.getfield 61, 3) := by decide +kernel
theorem dX7_noCell_20 : decode cX7_noCell 20 = .ok (.iload_n 1, 1) := by decide +kernel
theorem dX7_noCell_21 : decode cX7_noCell 21 = .ok (.iaload, 1) := by decide +kernel
theorem dX7_noCell_22 : decode cX7_noCell 22 = .ok (.i2l, 1) := by decide +kernel
theorem dX7_noCell_23 : decode cX7_noCell 23 = .ok (.lconst 1, 1) := by decide +kernel
theorem dX7_noCell_24 : decode cX7_noCell 24 = .ok (.lsub, 1) := by decide +kernel
theorem dX7_noCell_25 : decode cX7_noCell 25 = .ok (.invokestatic 89, 3) := by decide +kernel
theorem dX7_noCell_28 : decode cX7_noCell 28 = .ok (.ifCond .eq 7, 3) := by decide +kernel
theorem dX7_noCell_31 : decode cX7_noCell 31 = .ok (.iconst 0, 1) := by decide +kernel
theorem dX7_noCell_32 : decode cX7_noCell 32 = .ok (.goto 4, 3) := by decide +kernel
theorem dX7_noCell_35 : decode cX7_noCell 35 = .ok (.iconst 3, 1) := by decide +kernel
theorem dX7_noCell_36 : decode cX7_noCell 36 = .ok (.ireturn, 1) := by decide +kernel
theorem dX7_put_0 : decode cX7_put 0 = .ok (.iload_n 1, 1) := by decide +kernel
theorem dX7_put_1 : decode cX7_put 1 = .ok (.invokestatic 137, 3) := by decide +kernel
theorem dX7_put_4 : decode cX7_put 4 = .ok (.ifCond .eq 9, 3) := by decide +kernel
theorem dX7_put_7 : decode cX7_put 7 = .ok (.aload_n 0, 1) := by decide +kernel
theorem dX7_put_8 : decode cX7_put 8 = .ok (.iconst (-1), 1) := by decide +kernel
theorem dX7_put_9 : decode cX7_put 9 = .ok (.invokevirtual 141, 3) := by decide +kernel
theorem dX7_put_12 : decode cX7_put 12 = .ok (.ireturn, 1) := by decide +kernel
theorem dX7_put_13 : decode cX7_put 13 = .ok (.aload_n 0, 1) := by decide +kernel
theorem dX7_put_14 : decode cX7_put 14 = .ok (.iload_n 1, 1) := by decide +kernel
theorem dX7_put_15 : decode cX7_put 15 = .ok (.iload_n 2, 1) := by decide +kernel
theorem dX7_put_16 : decode cX7_put 16 = .ok (.invokevirtual 231, 3) := by decide +kernel
theorem dX7_put_19 : decode cX7_put 19 = .ok (.ifCond .le 14, 3) := by decide +kernel
theorem dX7_put_22 : decode cX7_put 22 = .ok (.aload_n 0, 1) := by decide +kernel
theorem dX7_put_23 : decode cX7_put 23 = .ok (.aload_n 0, 1) := by decide +kernel
theorem dX7_put_24 : decode cX7_put 24 = .ok (.iload_n 1, 1) := by decide +kernel
theorem dX7_put_25 : decode cX7_put 25 = .ok (.iload_n 2, 1) := by decide +kernel
theorem dX7_put_26 : decode cX7_put 26 = .ok (.invokevirtual 231, 3) := by decide +kernel
theorem dX7_put_29 : decode cX7_put 29 = .ok (.invokevirtual 129, 3) := by decide +kernel
theorem dX7_put_32 : decode cX7_put 32 = .ok (.ireturn, 1) := by decide +kernel
theorem dX7_put_33 : decode cX7_put 33 = .ok (.aload_n 0, 1) := by decide +kernel
theorem dX7_put_34 : decode cX7_put 34 = .ok (.getfield 67, 3) := by decide +kernel
theorem dX7_put_37 : decode cX7_put 37 = .ok (.bipush 60, 2) := by decide +kernel
theorem dX7_put_39 : decode cX7_put 39 = .ok (.iload_n 1, 1) := by decide +kernel
theorem dX7_put_40 : decode cX7_put 40 = .ok (.imul, 1) := by decide +kernel
theorem dX7_put_41 : decode cX7_put 41 = .ok (.iload_n 2, 1) := by decide +kernel
theorem dX7_put_42 : decode cX7_put 42 = .ok (.iadd, 1) := by decide +kernel
theorem dX7_put_43 : decode cX7_put 43 = .ok (.aload_n 0, 1) := by decide +kernel
theorem dX7_put_44 : decode cX7_put 44 = .ok (.getfield 64, 3) := by decide +kernel
theorem dX7_put_47 : decode cX7_put 47 = .ok (.iload_n 1, 1) := by decide +kernel
theorem dX7_put_48 : decode cX7_put 48 = .ok (.iaload, 1) := by decide +kernel
theorem dX7_put_49 : decode cX7_put 49 = .ok (.ifCond .ne 8, 3) := by decide +kernel
theorem dX7_put_52 : decode cX7_put 52 = .ok (.iload_n 3, 1) := by decide +kernel
theorem dX7_put_53 : decode cX7_put 53 = .ok (.i2b, 1) := by decide +kernel
theorem dX7_put_54 : decode cX7_put 54 = .ok (.goto 19, 3) := by decide +kernel
theorem dX7_put_57 : decode cX7_put 57 = .ok (.aload_n 0, 1) := by decide +kernel
theorem dX7_put_58 : decode cX7_put 58 = .ok (.getfield 64, 3) := by decide +kernel
theorem dX7_put_61 : decode cX7_put 61 = .ok (.iload_n 1, 1) := by decide +kernel
theorem dX7_put_62 : decode cX7_put 62 = .ok (.iaload, 1) := by decide +kernel
theorem dX7_put_63 : decode cX7_put 63 = .ok (.iconst 1, 1) := by decide +kernel
theorem dX7_put_64 : decode cX7_put 64 = .ok (.if_icmp .ne 8, 3) := by decide +kernel
theorem dX7_put_67 : decode cX7_put 67 = .ok (.iload_n 3, 1) := by decide +kernel
theorem dX7_put_68 : decode cX7_put 68 = .ok (.i2s, 1) := by decide +kernel
theorem dX7_put_69 : decode cX7_put 69 = .ok (.goto 4, 3) := by decide +kernel
theorem dX7_put_72 : decode cX7_put 72 = .ok (.iload_n 3, 1) := by decide +kernel
theorem dX7_put_73 : decode cX7_put 73 = .ok (.iastore, 1) := by decide +kernel
theorem dX7_put_74 : decode cX7_put 74 = .ok (.aload_n 0, 1) := by decide +kernel
theorem dX7_put_75 : decode cX7_put 75 = .ok (.iconst 1, 1) := by decide +kernel
theorem dX7_put_76 : decode cX7_put 76 = .ok (.invokevirtual 141, 3) := by decide +kernel
theorem dX7_put_79 : decode cX7_put 79 = .ok (.ireturn, 1) := by decide +kernel
theorem dX7_cell_0 : decode cX7_cell 0 = .ok (.aload_n 0, 1) := by decide +kernel
theorem dX7_cell_1 : decode cX7_cell 1 = .ok (.iconst 0, 1) := by decide +kernel
theorem dX7_cell_2 : decode cX7_cell 2 = .ok (.putfield 79, 3) := by decide +kernel
theorem dX7_cell_5 : decode cX7_cell 5 = .ok (.iload_n 1, 1) := by decide +kernel
theorem dX7_cell_6 : decode cX7_cell 6 = .ok (.invokestatic 137, 3) := by decide +kernel
theorem dX7_cell_9 : decode cX7_cell 9 = .ok (.ifCond .ne 15, 3) := by decide +kernel
theorem dX7_cell_12 : decode cX7_cell 12 = .ok (.iload_n 3, 1) := by decide +kernel
theorem dX7_cell_13 : decode cX7_cell 13 = .ok (.i2l, 1) := by decide +kernel
theorem dX7_cell_14 : decode cX7_cell 14 = .ok (.lconst 0, 1) := by decide +kernel
theorem dX7_cell_15 : decode cX7_cell 15 = .ok (.ldc2_w 144, 3) := by decide +kernel
theorem dX7_cell_18 : decode cX7_cell 18 = .ok (.invokestatic 89, 3) := by decide +kernel
theorem dX7_cell_21 : decode cX7_cell 21 = .ok (.ifCond .ne 7, 3) := by decide +kernel
theorem dX7_cell_24 : decode cX7_cell 24 = .ok (.invokestatic 82, 3) := by decide +kernel
theorem dX7_cell_27 : decode cX7_cell 27 = .ok (.lreturn, 1) := by decide +kernel
theorem dX7_cell_28 : decode cX7_cell 28 = .ok (.aload_n 0, 1) := by decide +kernel
theorem dX7_cell_29 : decode cX7_cell 29 = .ok (.getfield 61, 3) := by decide +kernel
theorem dX7_cell_32 : decode cX7_cell 32 = .ok (.iload_n 1, 1) := by decide +kernel
theorem dX7_cell_33 : decode cX7_cell 33 = .ok (.iaload, 1) := by decide +kernel
theorem dX7_cell_34 : decode cX7_cell 34 = .ok (.ifCond .lt 19, 3) := by decide +kernel
theorem dX7_cell_37 : decode cX7_cell 37 = .ok (.aload_n 0, 1) := by decide +kernel
theorem dX7_cell_38 : decode cX7_cell 38 = .ok (.getfield 64, 3) := by decide +kernel
theorem dX7_cell_41 : decode cX7_cell 41 = .ok (.iload_n 1, 1) := by decide +kernel
theorem dX7_cell_42 : decode cX7_cell 42 = .ok (.iaload, 1) := by decide +kernel
theorem dX7_cell_43 : decode cX7_cell 43 = .ok (.iload_n 3, 1) := by decide +kernel
theorem dX7_cell_44 : decode cX7_cell 44 = .ok (.if_icmp .eq 9, 3) := by decide +kernel
theorem dX7_cell_47 : decode cX7_cell 47 = .ok (.aload_n 0, 1) := by decide +kernel
theorem dX7_cell_48 : decode cX7_cell 48 = .ok (.iconst 2, 1) := by decide +kernel
theorem dX7_cell_49 : decode cX7_cell 49 = .ok (.invokevirtual 234, 3) := by decide +kernel
theorem dX7_cell_52 : decode cX7_cell 52 = .ok (.lreturn, 1) := by decide +kernel
theorem dX7_cell_53 : decode cX7_cell 53 = .ok (.aload_n 0, 1) := by decide +kernel
theorem dX7_cell_54 : decode cX7_cell 54 = .ok (.iload_n 1, 1) := by decide +kernel
theorem dX7_cell_55 : decode cX7_cell 55 = .ok (.iload_n 2, 1) := by decide +kernel
theorem dX7_cell_56 : decode cX7_cell 56 = .ok (.invokevirtual 231, 3) := by decide +kernel
theorem dX7_cell_59 : decode cX7_cell 59 = .ok (.ifCond .le 16, 3) := by decide +kernel
theorem dX7_cell_62 : decode cX7_cell 62 = .ok (.aload_n 0, 1) := by decide +kernel
theorem dX7_cell_63 : decode cX7_cell 63 = .ok (.aload_n 0, 1) := by decide +kernel
theorem dX7_cell_64 : decode cX7_cell 64 = .ok (.iload_n 1, 1) := by decide +kernel
theorem dX7_cell_65 : decode cX7_cell 65 = .ok (.iload_n 2, 1) := by decide +kernel
theorem dX7_cell_66 : decode cX7_cell 66 = .ok (.invokevirtual 231, 3) := by decide +kernel
theorem dX7_cell_69 : decode cX7_cell 69 = .ok (.invokevirtual 234, 3) := by decide +kernel
theorem dX7_cell_72 : decode cX7_cell 72 = .ok (.goto 15, 3) := by decide +kernel
theorem dX7_cell_75 : decode cX7_cell 75 = .ok (.aload_n 0, 1) := by decide +kernel
theorem dX7_cell_76 : decode cX7_cell 76 = .ok (.getfield 67, 3) := by decide +kernel
theorem dX7_cell_79 : decode cX7_cell 79 = .ok (.bipush 60, 2) := by decide +kernel
theorem dX7_cell_81 : decode cX7_cell 81 = .ok (.iload_n 1, 1) := by decide +kernel
theorem dX7_cell_82 : decode cX7_cell 82 = .ok (.imul, 1) := by decide +kernel
theorem dX7_cell_83 : decode cX7_cell 83 = .ok (.iload_n 2, 1) := by decide +kernel
theorem dX7_cell_84 : decode cX7_cell 84 = .ok (.iadd, 1) := by decide +kernel
theorem dX7_cell_85 : decode cX7_cell 85 = .ok (.iaload, 1) := by decide +kernel
theorem dX7_cell_86 : decode cX7_cell 86 = .ok (.i2l, 1) := by decide +kernel
theorem dX7_cell_87 : decode cX7_cell 87 = .ok (.lreturn, 1) := by decide +kernel
theorem dX7_isBeyond_0 : decode cX7_isBeyond 0 = .ok (.iload_n 0, 1) := by decide +kernel
theorem dX7_isBeyond_1 : decode cX7_isBeyond 1 = .ok (.ifCond .lt 19, 3) := by decide +kernel
theorem dX7_isBeyond_4 : decode cX7_isBeyond 4 = .ok (.lload_n 1, 1) := by decide +kernel
theorem dX7_isBeyond_5 : decode cX7_isBeyond 5 = .ok (.lconst 0, 1) := by decide +kernel
theorem dX7_isBeyond_6 : decode cX7_isBeyond 6 = .ok (.lcmp, 1) := by decide +kernel
theorem dX7_isBeyond_7 : decode cX7_isBeyond 7 = .ok (.ifCond .lt 13, 3) := by decide +kernel
theorem dX7_isBeyond_10 : decode cX7_isBeyond 10 = .ok (.iload_n 0, 1) := by decide +kernel
theorem dX7_isBeyond_11 : decode cX7_isBeyond 11 = .ok (.i2l, 1) := by decide +kernel
theorem dX7_isBeyond_12 : decode cX7_isBeyond 12 = .ok (.lload_n 1, 1) := by decide +kernel
theorem dX7_isBeyond_13 : decode cX7_isBeyond 13 = .ok (.ladd, 1) := by decide +kernel
theorem dX7_isBeyond_14 : decode cX7_isBeyond 14 = .ok (.iload_n 3, 1) := by decide +kernel
theorem dX7_isBeyond_15 : decode cX7_isBeyond 15 = .ok (.i2l, 1) := by decide +kernel
theorem dX7_isBeyond_16 : decode cX7_isBeyond 16 = .ok (.lcmp, 1) := by decide +kernel
theorem dX7_isBeyond_17 : decode cX7_isBeyond 17 = .ok (.ifCond .le 7, 3) := by decide +kernel
theorem dX7_isBeyond_20 : decode cX7_isBeyond 20 = .ok (.iconst 1, 1) := by decide +kernel
theorem dX7_isBeyond_21 : decode cX7_isBeyond 21 = .ok (.goto 4, 3) := by decide +kernel
theorem dX7_isBeyond_24 : decode cX7_isBeyond 24 = .ok (.iconst 0, 1) := by decide +kernel
theorem dX7_isBeyond_25 : decode cX7_isBeyond 25 = .ok (.ireturn, 1) := by decide +kernel
theorem dX7_copy_0 : decode cX7_copy 0 = .ok (.iload_n 1, 1) := by decide +kernel
theorem dX7_copy_1 : decode cX7_copy 1 = .ok (.invokestatic 137, 3) := by decide +kernel
theorem dX7_copy_4 : decode cX7_copy 4 = .ok (.ifCond .ne 10, 3) := by decide +kernel
theorem dX7_copy_7 : decode cX7_copy 7 = .ok (.iload_n 3, 1) := by decide +kernel
theorem dX7_copy_8 : decode cX7_copy 8 = .ok (.invokestatic 137, 3) := by decide +kernel
theorem dX7_copy_11 : decode cX7_copy 11 = .ok (.ifCond .eq 9, 3) := by decide +kernel
theorem dX7_copy_14 : decode cX7_copy 14 = .ok (.aload_n 0, 1) := by decide +kernel
theorem dX7_copy_15 : decode cX7_copy 15 = .ok (.iconst (-1), 1) := by decide +kernel
theorem dX7_copy_16 : decode cX7_copy 16 = .ok (.invokevirtual 141, 3) := by decide +kernel
theorem dX7_copy_19 : decode cX7_copy 19 = .ok (.ireturn, 1) := by decide +kernel
theorem dX7_copy_20 : decode cX7_copy 20 = .ok (.aload_n 0, 1) := by decide +kernel
theorem dX7_copy_21 : decode cX7_copy 21 = .ok (.getfield 61, 3) := by decide +kernel
theorem dX7_copy_24 : decode cX7_copy 24 = .ok (.iload_n 1, 1) := by decide +kernel
theorem dX7_copy_25 : decode cX7_copy 25 = .ok (.iaload, 1) := by decide +kernel
theorem dX7_copy_26 : decode cX7_copy 26 = .ok (.ifCond .lt 12, 3) := by decide +kernel
theorem dX7_copy_29 : decode cX7_copy 29 = .ok (.aload_n 0, 1) := by decide +kernel
theorem dX7_copy_30 : decode cX7_copy 30 = .ok (.getfield 61, 3) := by decide +kernel
theorem dX7_copy_33 : decode cX7_copy 33 = .ok (.iload_n 3, 1) := by decide +kernel
theorem dX7_copy_34 : decode cX7_copy 34 = .ok (.iaload, 1) := by decide +kernel
theorem dX7_copy_35 : decode cX7_copy 35 = .ok (.ifCond .ge 9, 3) := by decide +kernel
theorem dX7_copy_38 : decode cX7_copy 38 = .ok (.aload_n 0, 1) := by decide +kernel
theorem dX7_copy_39 : decode cX7_copy 39 = .ok (.iconst 1, 1) := by decide +kernel
theorem dX7_copy_40 : decode cX7_copy 40 = .ok (.invokevirtual 129, 3) := by decide +kernel
theorem dX7_copy_43 : decode cX7_copy 43 = .ok (.ireturn, 1) := by decide +kernel
theorem dX7_copy_44 : decode cX7_copy 44 = .ok (.aload_n 0, 1) := by decide +kernel
theorem dX7_copy_45 : decode cX7_copy 45 = .ok (.getfield 64, 3) := by decide +kernel
theorem dX7_copy_48 : decode cX7_copy 48 = .ok (.iload_n 1, 1) := by decide +kernel
theorem dX7_copy_49 : decode cX7_copy 49 = .ok (.iaload, 1) := by decide +kernel
theorem dX7_copy_50 : decode cX7_copy 50 = .ok (.aload_n 0, 1) := by decide +kernel
theorem dX7_copy_51 : decode cX7_copy 51 = .ok (.getfield 64, 3) := by decide +kernel
theorem dX7_copy_54 : decode cX7_copy 54 = .ok (.iload_n 3, 1) := by decide +kernel
theorem dX7_copy_55 : decode cX7_copy 55 = .ok (.iaload, 1) := by decide +kernel
theorem dX7_copy_56 : decode cX7_copy 56 = .ok (.if_icmp .eq 9, 3) := by decide +kernel
theorem dX7_copy_59 : decode cX7_copy 59 = .ok (.aload_n 0, 1) := by decide +kernel
theorem dX7_copy_60 : decode cX7_copy 60 = .ok (.iconst 2, 1) := by decide +kernel
theorem dX7_copy_61 : decode cX7_copy 61 = .ok (.invokevirtual 129, 3) := by decide +kernel
theorem dX7_copy_64 : decode cX7_copy 64 = .ok (.ireturn, 1) := by decide +kernel
theorem dX7_copy_65 : decode cX7_copy 65 = .ok (.iload_n 2, 1) := by decide +kernel
theorem dX7_copy_66 : decode cX7_copy 66 = .ok (.iload 5, 2) := by decide +kernel
theorem dX7_copy_68 : decode cX7_copy 68 = .ok (.i2l, 1) := by decide +kernel
theorem dX7_copy_69 : decode cX7_copy 69 = .ok (.aload_n 0, 1) := by decide +kernel
theorem dX7_copy_70 : decode cX7_copy 70 = .ok (.getfield 61, 3) := by decide +kernel
theorem dX7_copy_73 : decode cX7_copy 73 = .ok (.iload_n 1, 1) := by decide +kernel
theorem dX7_copy_74 : decode cX7_copy 74 = .ok (.iaload, 1) := by decide +kernel
theorem dX7_copy_75 : decode cX7_copy 75 = .ok (.invokestatic 133, 3) := by decide +kernel
theorem dX7_copy_78 : decode cX7_copy 78 = .ok (.ifCond .ne 20, 3) := by decide +kernel
theorem dX7_copy_81 : decode cX7_copy 81 = .ok (.iload 4, 2) := by decide +kernel
theorem dX7_copy_83 : decode cX7_copy 83 = .ok (.iload 5, 2) := by decide +kernel
theorem dX7_copy_85 : decode cX7_copy 85 = .ok (.i2l, 1) := by decide +kernel
theorem dX7_copy_86 : decode cX7_copy 86 = .ok (.aload_n 0, 1) := by decide +kernel
theorem dX7_copy_87 : decode cX7_copy 87 = .ok (.getfield 61, 3) := by decide +kernel
theorem dX7_copy_90 : decode cX7_copy 90 = .ok (.iload_n 3, 1) := by decide +kernel
theorem dX7_copy_91 : decode cX7_copy 91 = .ok (.iaload, 1) := by decide +kernel
theorem dX7_copy_92 : decode cX7_copy 92 = .ok (.invokestatic 133, 3) := by decide +kernel
theorem dX7_copy_95 : decode cX7_copy 95 = .ok (.ifCond .eq 9, 3) := by decide +kernel
theorem dX7_copy_98 : decode cX7_copy 98 = .ok (.aload_n 0, 1) := by decide +kernel
theorem dX7_copy_99 : decode cX7_copy 99 = .ok (.iconst 3, 1) := by decide +kernel
theorem dX7_copy_100 : decode cX7_copy 100 = .ok (.invokevirtual 129, 3) := by decide +kernel
theorem dX7_copy_103 : decode cX7_copy 103 = .ok (.ireturn, 1) := by decide +kernel
theorem dX7_copy_104 : decode cX7_copy 104 = .ok (.iconst 0, 1) := by decide +kernel
theorem dX7_copy_105 : decode cX7_copy 105 = .ok (.istore 6, 2) := by decide +kernel
theorem dX7_copy_107 : decode cX7_copy 107 = .ok (.iload 6, 2) := by decide +kernel
theorem dX7_copy_109 : decode cX7_copy 109 = .ok (.iload 5, 2) := by decide +kernel
theorem dX7_copy_111 : decode cX7_copy 111 = .ok (.if_icmp .ge 30, 3) := by decide +kernel
theorem dX7_copy_114 : decode cX7_copy 114 = .ok (.aload_n 0, 1) := by decide +kernel
theorem dX7_copy_115 : decode cX7_copy 115 = .ok (.getfield 70, 3) := by decide +kernel
theorem dX7_copy_118 : decode cX7_copy 118 = .ok (.iload 6, 2) := by decide +kernel
theorem dX7_copy_120 : decode cX7_copy 120 = .ok (.aload_n 0, 1) := by decide +kernel
theorem dX7_copy_121 : decode cX7_copy 121 = .ok (.getfield 67, 3) := by decide +kernel
theorem dX7_copy_124 : decode cX7_copy 124 = .ok (.bipush 60, 2) := by decide +kernel
theorem dX7_copy_126 : decode cX7_copy 126 = .ok (.iload_n 1, 1) := by decide +kernel
theorem dX7_copy_127 : decode cX7_copy 127 = .ok (.imul, 1) := by decide +kernel
theorem dX7_copy_128 : decode cX7_copy 128 = .ok (.iload_n 2, 1) := by decide +kernel
theorem dX7_copy_129 : decode cX7_copy 129 = .ok (.iadd, 1) := by decide +kernel
theorem dX7_copy_130 : decode cX7_copy 130 = .ok (.iload 6, 2) := by decide +kernel
theorem dX7_copy_132 : decode cX7_copy 132 = .ok (.iadd, 1) := by decide +kernel
theorem dX7_copy_133 : decode cX7_copy 133 = .ok (.iaload, 1) := by decide +kernel
theorem dX7_copy_134 : decode cX7_copy 134 = .ok (.iastore, 1) := by decide +kernel
theorem dX7_copy_135 : decode cX7_copy 135 = .ok (.iinc 6 1, 3) := by decide +kernel
theorem dX7_copy_138 : decode cX7_copy 138 = .ok (.goto (-31), 3) := by decide +kernel
theorem dX7_copy_141 : decode cX7_copy 141 = .ok (.iconst 0, 1) := by decide +kernel
theorem dX7_copy_142 : decode cX7_copy 142 = .ok (.istore 6, 2) := by decide +kernel
theorem dX7_copy_144 : decode cX7_copy 144 = .ok (.iload 6, 2) := by decide +kernel
theorem dX7_copy_146 : decode cX7_copy 146 = .ok (.iload 5, 2) := by decide +kernel
theorem dX7_copy_148 : decode cX7_copy 148 = .ok (.if_icmp .ge 31, 3) := by decide +kernel
theorem dX7_copy_151 : decode cX7_copy 151 = .ok (.aload_n 0, 1) := by decide +kernel
theorem dX7_copy_152 : decode cX7_copy 152 = .ok (.getfield 67, 3) := by decide +kernel
theorem dX7_copy_155 : decode cX7_copy 155 = .ok (.bipush 60, 2) := by decide +kernel
theorem dX7_copy_157 : decode cX7_copy 157 = .ok (.iload_n 3, 1) := by decide +kernel
theorem dX7_copy_158 : decode cX7_copy 158 = .ok (.imul, 1) := by decide +kernel
theorem dX7_copy_159 : decode cX7_copy 159 = .ok (.iload 4, 2) := by decide +kernel
theorem dX7_copy_161 : decode cX7_copy 161 = .ok (.iadd, 1) := by decide +kernel
theorem dX7_copy_162 : decode cX7_copy 162 = .ok (.iload 6, 2) := by decide +kernel
theorem dX7_copy_164 : decode cX7_copy 164 = .ok (.iadd, 1) := by decide +kernel
theorem dX7_copy_165 : decode cX7_copy 165 = .ok (.aload_n 0, 1) := by decide +kernel
theorem dX7_copy_166 : decode cX7_copy 166 = .ok (.getfield 70, 3) := by decide +kernel
theorem dX7_copy_169 : decode cX7_copy 169 = .ok (.iload 6, 2) := by decide +kernel
theorem dX7_copy_171 : decode cX7_copy 171 = .ok (.iaload, 1) := by decide +kernel
theorem dX7_copy_172 : decode cX7_copy 172 = .ok (.iastore, 1) := by decide +kernel
theorem dX7_copy_173 : decode cX7_copy 173 = .ok (.iinc 6 1, 3) := by decide +kernel
theorem dX7_copy_176 : decode cX7_copy 176 = .ok (.goto (-32), 3) := by decide +kernel
theorem dX7_copy_179 : decode cX7_copy 179 = .ok (.aload_n 0, 1) := by decide +kernel
theorem dX7_copy_180 : decode cX7_copy 180 = .ok (.iload 5, 2) := by decide +kernel
theorem dX7_copy_182 : decode cX7_copy 182 = .ok (.invokevirtual 141, 3) := by decide +kernel
theorem dX7_copy_185 : decode cX7_copy 185 = .ok (.ireturn, 1) := by decide +kernel
theorem dX7_traced_0 : decode cX7_traced 0 = .ok (.aload_n 0, 1) := by decide +kernel
theorem dX7_traced_1 : decode cX7_traced 1 = .ok (.bipush 31, 2) := by decide +kernel
theorem dX7_traced_3 : decode cX7_traced 3 = .ok (.aload_n 0, 1) := by decide +kernel
theorem dX7_traced_4 : decode cX7_traced 4 = .ok (.getfield 238, 3) := by decide +kernel
theorem dX7_traced_7 : decode cX7_traced 7 = .ok (.imul, 1) := by decide +kernel
theorem dX7_traced_8 : decode cX7_traced 8 = .ok (.iload_n 1, 1) := by decide +kernel
theorem dX7_traced_9 : decode cX7_traced 9 = .ok (.iadd, 1) := by decide +kernel
theorem dX7_traced_10 : decode cX7_traced 10 = .ok (.putfield 238, 3) := by decide +kernel
theorem dX7_traced_13 : decode cX7_traced 13 = .ok (.return_, 1) := by decide +kernel
theorem dX7_tell_0 : decode cX7_tell 0 = .ok (.aload_n 0, 1) := by decide +kernel
theorem dX7_tell_1 : decode cX7_tell 1 = .ok (.iload_n 1, 1) := by decide +kernel
theorem dX7_tell_2 : decode cX7_tell 2 = .ok (.invokevirtual 159, 3) := by decide +kernel
theorem dX7_tell_5 : decode cX7_tell 5 = .ok (.ifCond .eq 5, 3) := by decide +kernel
theorem dX7_tell_8 : decode cX7_tell 8 = .ok (.iconst (-1), 1) := by decide +kernel
theorem dX7_tell_9 : decode cX7_tell 9 = .ok (.ireturn, 1) := by decide +kernel
theorem dX7_tell_10 : decode cX7_tell 10 = .ok (.aload_n 0, 1) := by decide +kernel
theorem dX7_tell_11 : decode cX7_tell 11 = .ok (.getfield 7, 3) := by decide +kernel
theorem dX7_tell_14 : decode cX7_tell 14 = .ok (.iload_n 1, 1) := by decide +kernel
theorem dX7_tell_15 : decode cX7_tell 15 = .ok (.iaload, 1) := by decide +kernel
theorem dX7_tell_16 : decode cX7_tell 16 = .ok (.istore_n 2, 1) := by decide +kernel
theorem dX7_tell_17 : decode cX7_tell 17 = .ok (.iload_n 2, 1) := by decide +kernel
theorem dX7_tell_18 : decode cX7_tell 18 = .ok (.iconst 2, 1) := by decide +kernel
theorem dX7_tell_19 : decode cX7_tell 19 = .ok (.if_icmp .ne 8, 3) := by decide +kernel
theorem dX7_tell_22 : decode cX7_tell 22 = .ok (.aload_n 0, 1) := by decide +kernel
theorem dX7_tell_23 : decode cX7_tell 23 = .ok (.iconst 3, 1) := by decide +kernel
theorem dX7_tell_24 : decode cX7_tell 24 = .ok (.invokevirtual 241, 3) := by decide +kernel
theorem dX7_tell_27 : decode cX7_tell 27 = .ok (.iload_n 2, 1) := by decide +kernel
theorem dX7_tell_28 : decode cX7_tell 28 = .ok (.ifCond .le 8, 3) := by decide +kernel
theorem dX7_tell_31 : decode cX7_tell 31 = .ok (.aload_n 0, 1) := by decide +kernel
theorem dX7_tell_32 : decode cX7_tell 32 = .ok (.iconst 2, 1) := by decide +kernel
theorem dX7_tell_33 : decode cX7_tell 33 = .ok (.invokevirtual 241, 3) := by decide +kernel
theorem dX7_tell_36 : decode cX7_tell 36 = .ok (.aload_n 0, 1) := by decide +kernel
theorem dX7_tell_37 : decode cX7_tell 37 = .ok (.iconst 1, 1) := by decide +kernel
theorem dX7_tell_38 : decode cX7_tell 38 = .ok (.invokevirtual 241, 3) := by decide +kernel
theorem dX7_tell_41 : decode cX7_tell 41 = .ok (.iload_n 2, 1) := by decide +kernel
theorem dX7_tell_42 : decode cX7_tell 42 = .ok (.iconst 2, 1) := by decide +kernel
theorem dX7_tell_43 : decode cX7_tell 43 = .ok (.if_icmp .ne 8, 3) := by decide +kernel
theorem dX7_tell_46 : decode cX7_tell 46 = .ok (.aload_n 0, 1) := by decide +kernel
theorem dX7_tell_47 : decode cX7_tell 47 = .ok (.iconst 1, 1) := by decide +kernel
theorem dX7_tell_48 : decode cX7_tell 48 = .ok (.invokevirtual 241, 3) := by decide +kernel
theorem dX7_tell_51 : decode cX7_tell 51 = .ok (.aload_n 0, 1) := by decide +kernel
theorem dX7_tell_52 : decode cX7_tell 52 = .ok (.getfield 13, 3) := by decide +kernel
theorem dX7_tell_55 : decode cX7_tell 55 = .ok (.iload_n 1, 1) := by decide +kernel
theorem dX7_tell_56 : decode cX7_tell 56 = .ok (.iaload, 1) := by decide +kernel
theorem dX7_tell_57 : decode cX7_tell 57 = .ok (.istore_n 3, 1) := by decide +kernel
theorem dX7_tell_58 : decode cX7_tell 58 = .ok (.iload_n 2, 1) := by decide +kernel
theorem dX7_tell_59 : decode cX7_tell 59 = .ok (.ifCond .ne 7, 3) := by decide +kernel
theorem dX7_tell_62 : decode cX7_tell 62 = .ok (.iload_n 3, 1) := by decide +kernel
theorem dX7_tell_63 : decode cX7_tell 63 = .ok (.goto 21, 3) := by decide +kernel
theorem dX7_tell_66 : decode cX7_tell 66 = .ok (.iload_n 2, 1) := by decide +kernel
theorem dX7_tell_67 : decode cX7_tell 67 = .ok (.iconst 1, 1) := by decide +kernel
theorem dX7_tell_68 : decode cX7_tell 68 = .ok (.if_icmp .ne 10, 3) := by decide +kernel
theorem dX7_tell_71 : decode cX7_tell 71 = .ok (.iload_n 3, 1) := by decide +kernel
theorem dX7_tell_72 : decode cX7_tell 72 = .ok (.bipush 100, 2) := by decide +kernel
theorem dX7_tell_74 : decode cX7_tell 74 = .ok (.iadd, 1) := by decide +kernel
theorem dX7_tell_75 : decode cX7_tell 75 = .ok (.goto 9, 3) := by decide +kernel
theorem dX7_tell_78 : decode cX7_tell 78 = .ok (.iconst 2, 1) := by decide +kernel
theorem dX7_tell_79 : decode cX7_tell 79 = .ok (.iload_n 3, 1) := by decide +kernel
theorem dX7_tell_80 : decode cX7_tell 80 = .ok (.imul, 1) := by decide +kernel
theorem dX7_tell_81 : decode cX7_tell 81 = .ok (.bipush 100, 2) := by decide +kernel
theorem dX7_tell_83 : decode cX7_tell 83 = .ok (.iadd, 1) := by decide +kernel
theorem dX7_tell_84 : decode cX7_tell 84 = .ok (.ireturn, 1) := by decide +kernel
theorem dX7_light_0 : decode cX7_light 0 = .ok (.aload_n 0, 1) := by decide +kernel
theorem dX7_light_1 : decode cX7_light 1 = .ok (.iload_n 1, 1) := by decide +kernel
theorem dX7_light_2 : decode cX7_light 2 = .ok (.invokevirtual 159, 3) := by decide +kernel
theorem dX7_light_5 : decode cX7_light 5 = .ok (.ifCond .eq 5, 3) := by decide +kernel
theorem dX7_light_8 : decode cX7_light 8 = .ok (.iconst (-1), 1) := by decide +kernel
theorem dX7_light_9 : decode cX7_light 9 = .ok (.ireturn, 1) := by decide +kernel
theorem dX7_light_10 : decode cX7_light 10 = .ok (.aload_n 0, 1) := by decide +kernel
theorem dX7_light_11 : decode cX7_light 11 = .ok (.aload_n 0, 1) := by decide +kernel
theorem dX7_light_12 : decode cX7_light 12 = .ok (.getfield 7, 3) := by decide +kernel
theorem dX7_light_15 : decode cX7_light 15 = .ok (.iload_n 1, 1) := by decide +kernel
theorem dX7_light_16 : decode cX7_light 16 = .ok (.iaload, 1) := by decide +kernel
theorem dX7_light_17 : decode cX7_light 17 = .ok (.iconst 2, 1) := by decide +kernel
theorem dX7_light_18 : decode cX7_light 18 = .ok (.if_icmp .ne 7, 3) := by decide +kernel
theorem dX7_light_21 : decode cX7_light 21 = .ok (.iconst 5, 1) := by decide +kernel
theorem dX7_light_22 : decode cX7_light 22 = .ok (.goto 4, 3) := by decide +kernel
theorem dX7_light_25 : decode cX7_light 25 = .ok (.iconst 4, 1) := by decide +kernel
theorem dX7_light_26 : decode cX7_light 26 = .ok (.invokevirtual 241, 3) := by decide +kernel
theorem dX7_light_29 : decode cX7_light 29 = .ok (.aload_n 0, 1) := by decide +kernel
theorem dX7_light_30 : decode cX7_light 30 = .ok (.getfield 7, 3) := by decide +kernel
theorem dX7_light_33 : decode cX7_light 33 = .ok (.iload_n 1, 1) := by decide +kernel
theorem dX7_light_34 : decode cX7_light 34 = .ok (.iaload, 1) := by decide +kernel
theorem dX7_light_35 : decode cX7_light 35 = .ok (.iconst 2, 1) := by decide +kernel
theorem dX7_light_36 : decode cX7_light 36 = .ok (.if_icmp .ne 8, 3) := by decide +kernel
theorem dX7_light_39 : decode cX7_light 39 = .ok (.bipush 80, 2) := by decide +kernel
theorem dX7_light_41 : decode cX7_light 41 = .ok (.goto 4, 3) := by decide +kernel
theorem dX7_light_44 : decode cX7_light 44 = .ok (.iload_n 1, 1) := by decide +kernel
theorem dX7_light_45 : decode cX7_light 45 = .ok (.ireturn, 1) := by decide +kernel
theorem dX7_as_0 : decode cX7_as 0 = .ok (.aload_n 0, 1) := by decide +kernel
theorem dX7_as_1 : decode cX7_as 1 = .ok (.iload_n 1, 1) := by decide +kernel
theorem dX7_as_2 : decode cX7_as 2 = .ok (.invokevirtual 159, 3) := by decide +kernel
theorem dX7_as_5 : decode cX7_as 5 = .ok (.ifCond .eq 9, 3) := by decide +kernel
theorem dX7_as_8 : decode cX7_as 8 = .ok (.aload_n 0, 1) := by decide +kernel
theorem dX7_as_9 : decode cX7_as 9 = .ok (.iconst (-1), 1) := by decide +kernel
theorem dX7_as_10 : decode cX7_as 10 = .ok (.invokevirtual 141, 3) := by decide +kernel
theorem dX7_as_13 : decode cX7_as 13 = .ok (.ireturn, 1) := by decide +kernel
theorem dX7_as_14 : decode cX7_as 14 = .ok (.iload_n 2, 1) := by decide +kernel
theorem dX7_as_15 : decode cX7_as 15 = .ok (.i2l, 1) := by decide +kernel
theorem dX7_as_16 : decode cX7_as 16 = .ok (.lconst 0, 1) := by decide +kernel
theorem dX7_as_17 : decode cX7_as 17 = .ok (.ldc2_w 144, 3) := by decide +kernel
theorem dX7_as_20 : decode cX7_as 20 = .ok (.invokestatic 89, 3) := by decide +kernel
theorem dX7_as_23 : decode cX7_as 23 = .ok (.ifCond .ne 10, 3) := by decide +kernel
theorem dX7_as_26 : decode cX7_as 26 = .ok (.aload_n 0, 1) := by decide +kernel
theorem dX7_as_27 : decode cX7_as 27 = .ok (.bipush (-2), 2) := by decide +kernel
theorem dX7_as_29 : decode cX7_as 29 = .ok (.invokevirtual 141, 3) := by decide +kernel
theorem dX7_as_32 : decode cX7_as 32 = .ok (.ireturn, 1) := by decide +kernel
theorem dX7_as_33 : decode cX7_as 33 = .ok (.aload_n 0, 1) := by decide +kernel
theorem dX7_as_34 : decode cX7_as 34 = .ok (.getfield 7, 3) := by decide +kernel
theorem dX7_as_37 : decode cX7_as 37 = .ok (.iload_n 1, 1) := by decide +kernel
theorem dX7_as_38 : decode cX7_as 38 = .ok (.iaload, 1) := by decide +kernel
theorem dX7_as_39 : decode cX7_as 39 = .ok (.iload_n 2, 1) := by decide +kernel
theorem dX7_as_40 : decode cX7_as 40 = .ok (.if_icmp .lt 11, 3) := by decide +kernel
theorem dX7_as_43 : decode cX7_as 43 = .ok (.aload_n 0, 1) := by decide +kernel
theorem dX7_as_44 : decode cX7_as 44 = .ok (.iconst 1, 1) := by decide +kernel
theorem dX7_as_45 : decode cX7_as 45 = .ok (.invokevirtual 141, 3) := by decide +kernel
theorem dX7_as_48 : decode cX7_as 48 = .ok (.goto 8, 3) := by decide +kernel
theorem dX7_as_51 : decode cX7_as 51 = .ok (.aload_n 0, 1) := by decide +kernel
theorem dX7_as_52 : decode cX7_as 52 = .ok (.iconst 2, 1) := by decide +kernel
theorem dX7_as_53 : decode cX7_as 53 = .ok (.invokevirtual 129, 3) := by decide +kernel
theorem dX7_as_56 : decode cX7_as 56 = .ok (.ireturn, 1) := by decide +kernel
theorem dX7_trace_0 : decode cX7_trace 0 = .ok (.aload_n 0, 1) := by decide +kernel
theorem dX7_trace_1 : decode cX7_trace 1 = .ok (.getfield 238, 3) := by decide +kernel
theorem dX7_trace_4 : decode cX7_trace 4 = .ok (.ireturn, 1) := by decide +kernel
theorem dX7_fault_0 : decode cX7_fault 0 = .ok (.aload_n 0, 1) := by decide +kernel
theorem dX7_fault_1 : decode cX7_fault 1 = .ok (.getfield 79, 3) := by decide +kernel
theorem dX7_fault_4 : decode cX7_fault 4 = .ok (.ireturn, 1) := by decide +kernel
theorem dX7_many_0 : decode cX7_many 0 = .ok (.iload_n 1, 1) := by decide +kernel
theorem dX7_many_1 : decode cX7_many 1 = .ok (.tableswitch 60 0 4 #[35, 40, 45, 50, 55], 35) := by decide +kernel
theorem dX7_many_36 : decode cX7_many 36 = .ok (.aload_n 0, 1) := by decide +kernel
theorem dX7_many_37 : decode cX7_many 37 = .ok (.getfield 86, 3) := by decide +kernel
theorem dX7_many_40 : decode cX7_many 40 = .ok (.ireturn, 1) := by decide +kernel
theorem dX7_many_41 : decode cX7_many 41 = .ok (.aload_n 0, 1) := by decide +kernel
theorem dX7_many_42 : decode cX7_many 42 = .ok (.getfield 96, 3) := by decide +kernel
theorem dX7_many_45 : decode cX7_many 45 = .ok (.ireturn, 1) := by decide +kernel
theorem dX7_many_46 : decode cX7_many 46 = .ok (.aload_n 0, 1) := by decide +kernel
theorem dX7_many_47 : decode cX7_many 47 = .ok (.getfield 93, 3) := by decide +kernel
theorem dX7_many_50 : decode cX7_many 50 = .ok (.ireturn, 1) := by decide +kernel
theorem dX7_many_51 : decode cX7_many 51 = .ok (.aload_n 0, 1) := by decide +kernel
theorem dX7_many_52 : decode cX7_many 52 = .ok (.getfield 153, 3) := by decide +kernel
theorem dX7_many_55 : decode cX7_many 55 = .ok (.ireturn, 1) := by decide +kernel
theorem dX7_many_56 : decode cX7_many 56 = .ok (.aload_n 0, 1) := by decide +kernel
theorem dX7_many_57 : decode cX7_many 57 = .ok (.getfield 156, 3) := by decide +kernel
theorem dX7_many_60 : decode cX7_many 60 = .ok (.ireturn, 1) := by decide +kernel
theorem dX7_many_61 : decode cX7_many 61 = .ok (.bipush (-2), 2) := by decide +kernel
theorem dX7_many_63 : decode cX7_many 63 = .ok (.ireturn, 1) := by decide +kernel
theorem dJ6_bitCount_0f7a4_0 : decode cJ6_bitCount_0f7a4 0 = .ok (.iload_n 0, 1) := by decide +kernel
theorem dJ6_bitCount_0f7a4_1 : decode cJ6_bitCount_0f7a4 1 = .ok (.iload_n 0, 1) := by decide +kernel
theorem dJ6_bitCount_0f7a4_2 : decode cJ6_bitCount_0f7a4 2 = .ok (.iconst 1, 1) := by decide +kernel
theorem dJ6_bitCount_0f7a4_3 : decode cJ6_bitCount_0f7a4 3 = .ok (.iushr, 1) := by decide +kernel
theorem dJ6_bitCount_0f7a4_4 : decode cJ6_bitCount_0f7a4 4 = .ok (.ldc_w 265, 3) := by decide +kernel
theorem dJ6_bitCount_0f7a4_7 : decode cJ6_bitCount_0f7a4 7 = .ok (.iand, 1) := by decide +kernel
theorem dJ6_bitCount_0f7a4_8 : decode cJ6_bitCount_0f7a4 8 = .ok (.isub, 1) := by decide +kernel
theorem dJ6_bitCount_0f7a4_9 : decode cJ6_bitCount_0f7a4 9 = .ok (.istore_n 0, 1) := by decide +kernel
theorem dJ6_bitCount_0f7a4_10 : decode cJ6_bitCount_0f7a4 10 = .ok (.iload_n 0, 1) := by decide +kernel
theorem dJ6_bitCount_0f7a4_11 : decode cJ6_bitCount_0f7a4 11 = .ok (.ldc_w 266, 3) := by decide +kernel
theorem dJ6_bitCount_0f7a4_14 : decode cJ6_bitCount_0f7a4 14 = .ok (.iand, 1) := by decide +kernel
theorem dJ6_bitCount_0f7a4_15 : decode cJ6_bitCount_0f7a4 15 = .ok (.iload_n 0, 1) := by decide +kernel
theorem dJ6_bitCount_0f7a4_16 : decode cJ6_bitCount_0f7a4 16 = .ok (.iconst 2, 1) := by decide +kernel
theorem dJ6_bitCount_0f7a4_17 : decode cJ6_bitCount_0f7a4 17 = .ok (.iushr, 1) := by decide +kernel
theorem dJ6_bitCount_0f7a4_18 : decode cJ6_bitCount_0f7a4 18 = .ok (.ldc_w 266, 3) := by decide +kernel
theorem dJ6_bitCount_0f7a4_21 : decode cJ6_bitCount_0f7a4 21 = .ok (.iand, 1) := by decide +kernel
theorem dJ6_bitCount_0f7a4_22 : decode cJ6_bitCount_0f7a4 22 = .ok (.iadd, 1) := by decide +kernel
theorem dJ6_bitCount_0f7a4_23 : decode cJ6_bitCount_0f7a4 23 = .ok (.istore_n 0, 1) := by decide +kernel
theorem dJ6_bitCount_0f7a4_24 : decode cJ6_bitCount_0f7a4 24 = .ok (.iload_n 0, 1) := by decide +kernel
theorem dJ6_bitCount_0f7a4_25 : decode cJ6_bitCount_0f7a4 25 = .ok (.iload_n 0, 1) := by decide +kernel
theorem dJ6_bitCount_0f7a4_26 : decode cJ6_bitCount_0f7a4 26 = .ok (.iconst 4, 1) := by decide +kernel
theorem dJ6_bitCount_0f7a4_27 : decode cJ6_bitCount_0f7a4 27 = .ok (.iushr, 1) := by decide +kernel
theorem dJ6_bitCount_0f7a4_28 : decode cJ6_bitCount_0f7a4 28 = .ok (.iadd, 1) := by decide +kernel
theorem dJ6_bitCount_0f7a4_29 : decode cJ6_bitCount_0f7a4 29 = .ok (.ldc_w 267, 3) := by decide +kernel
theorem dJ6_bitCount_0f7a4_32 : decode cJ6_bitCount_0f7a4 32 = .ok (.iand, 1) := by decide +kernel
theorem dJ6_bitCount_0f7a4_33 : decode cJ6_bitCount_0f7a4 33 = .ok (.istore_n 0, 1) := by decide +kernel
theorem dJ6_bitCount_0f7a4_34 : decode cJ6_bitCount_0f7a4 34 = .ok (.iload_n 0, 1) := by decide +kernel
theorem dJ6_bitCount_0f7a4_35 : decode cJ6_bitCount_0f7a4 35 = .ok (.iload_n 0, 1) := by decide +kernel
theorem dJ6_bitCount_0f7a4_36 : decode cJ6_bitCount_0f7a4 36 = .ok (.bipush 8, 2) := by decide +kernel
theorem dJ6_bitCount_0f7a4_38 : decode cJ6_bitCount_0f7a4 38 = .ok (.iushr, 1) := by decide +kernel
theorem dJ6_bitCount_0f7a4_39 : decode cJ6_bitCount_0f7a4 39 = .ok (.iadd, 1) := by decide +kernel
theorem dJ6_bitCount_0f7a4_40 : decode cJ6_bitCount_0f7a4 40 = .ok (.istore_n 0, 1) := by decide +kernel
theorem dJ6_bitCount_0f7a4_41 : decode cJ6_bitCount_0f7a4 41 = .ok (.iload_n 0, 1) := by decide +kernel
theorem dJ6_bitCount_0f7a4_42 : decode cJ6_bitCount_0f7a4 42 = .ok (.iload_n 0, 1) := by decide +kernel
theorem dJ6_bitCount_0f7a4_43 : decode cJ6_bitCount_0f7a4 43 = .ok (.bipush 16, 2) := by decide +kernel
theorem dJ6_bitCount_0f7a4_45 : decode cJ6_bitCount_0f7a4 45 = .ok (.iushr, 1) := by decide +kernel
theorem dJ6_bitCount_0f7a4_46 : decode cJ6_bitCount_0f7a4 46 = .ok (.iadd, 1) := by decide +kernel
theorem dJ6_bitCount_0f7a4_47 : decode cJ6_bitCount_0f7a4 47 = .ok (.istore_n 0, 1) := by decide +kernel
theorem dJ6_bitCount_0f7a4_48 : decode cJ6_bitCount_0f7a4 48 = .ok (.iload_n 0, 1) := by decide +kernel
theorem dJ6_bitCount_0f7a4_49 : decode cJ6_bitCount_0f7a4 49 = .ok (.bipush 63, 2) := by decide +kernel
theorem dJ6_bitCount_0f7a4_51 : decode cJ6_bitCount_0f7a4 51 = .ok (.iand, 1) := by decide +kernel
theorem dJ6_bitCount_0f7a4_52 : decode cJ6_bitCount_0f7a4 52 = .ok (.ireturn, 1) := by decide +kernel
theorem dJ9_max_7cf53_0 : decode cJ9_max_7cf53 0 = .ok (.iload_n 0, 1) := by decide +kernel
theorem dJ9_max_7cf53_1 : decode cJ9_max_7cf53 1 = .ok (.iload_n 1, 1) := by decide +kernel
theorem dJ9_max_7cf53_2 : decode cJ9_max_7cf53 2 = .ok (.if_icmp .lt 7, 3) := by decide +kernel
theorem dJ9_max_7cf53_5 : decode cJ9_max_7cf53 5 = .ok (.iload_n 0, 1) := by decide +kernel
theorem dJ9_max_7cf53_6 : decode cJ9_max_7cf53 6 = .ok (.goto 4, 3) := by decide +kernel
theorem dJ9_max_7cf53_9 : decode cJ9_max_7cf53 9 = .ok (.iload_n 1, 1) := by decide +kernel
theorem dJ9_max_7cf53_10 : decode cJ9_max_7cf53 10 = .ok (.ireturn, 1) := by decide +kernel
theorem dJ9_min_7cf53_0 : decode cJ9_min_7cf53 0 = .ok (.iload_n 0, 1) := by decide +kernel
theorem dJ9_min_7cf53_1 : decode cJ9_min_7cf53 1 = .ok (.iload_n 1, 1) := by decide +kernel
theorem dJ9_min_7cf53_2 : decode cJ9_min_7cf53 2 = .ok (.if_icmp .gt 7, 3) := by decide +kernel
theorem dJ9_min_7cf53_5 : decode cJ9_min_7cf53 5 = .ok (.iload_n 0, 1) := by decide +kernel
theorem dJ9_min_7cf53_6 : decode cJ9_min_7cf53 6 = .ok (.goto 4, 3) := by decide +kernel
theorem dJ9_min_7cf53_9 : decode cJ9_min_7cf53 9 = .ok (.iload_n 1, 1) := by decide +kernel
theorem dJ9_min_7cf53_10 : decode cJ9_min_7cf53 10 = .ok (.ireturn, 1) := by decide +kernel
theorem dL_law_0 : decode cL_law 0 = .ok (.new 7, 3) := by decide +kernel
theorem dL_law_3 : decode cL_law 3 = .ok (.dup, 1) := by decide +kernel
theorem dL_law_4 : decode cL_law 4 = .ok (.invokespecial 9, 3) := by decide +kernel
theorem dL_law_7 : decode cL_law 7 = .ok (.astore_n 1, 1) := by decide +kernel
theorem dL_law_8 : decode cL_law 8 = .ok (.new 10, 3) := by decide +kernel
theorem dL_law_11 : decode cL_law 11 = .ok (.dup, 1) := by decide +kernel
theorem dL_law_12 : decode cL_law 12 = .ok (.invokespecial 12, 3) := by decide +kernel
theorem dL_law_15 : decode cL_law 15 = .ok (.astore_n 2, 1) := by decide +kernel
theorem dL_law_16 : decode cL_law 16 = .ok (.iconst 0, 1) := by decide +kernel
theorem dL_law_17 : decode cL_law 17 = .ok (.istore_n 3, 1) := by decide +kernel
theorem dL_law_18 : decode cL_law 18 = .ok (.iload_n 3, 1) := by decide +kernel
theorem dL_law_19 : decode cL_law 19 = .ok (.aload_n 0, 1) := by decide +kernel
theorem dL_law_20 : decode cL_law 20 = .ok (.arraylength, 1) := by decide +kernel
theorem dL_law_21 : decode cL_law 21 = .ok (.bipush 6, 2) := by decide +kernel
theorem dL_law_23 : decode cL_law 23 = .ok (.isub, 1) := by decide +kernel
theorem dL_law_24 : decode cL_law 24 = .ok (.if_icmp .gt 1329, 3) := by decide +kernel
theorem dL_law_27 : decode cL_law 27 = .ok (.aload_n 0, 1) := by decide +kernel
theorem dL_law_28 : decode cL_law 28 = .ok (.iload_n 3, 1) := by decide +kernel
theorem dL_law_29 : decode cL_law 29 = .ok (.iaload, 1) := by decide +kernel
theorem dL_law_30 : decode cL_law 30 = .ok (.bipush 63, 2) := by decide +kernel
theorem dL_law_32 : decode cL_law 32 = .ok (.iand, 1) := by decide +kernel
theorem dL_law_33 : decode cL_law 33 = .ok (.tableswitch 1314 0 34 #[155, 208, 241, 274, 307, 330, 363, 412, 445, 504, 537, 570, 603, 666, 689, 722, 755, 778, 821, 844, 857, 880, 903, 926, 970, 1013, 1036, 1079, 1123, 1186, 1209, 1232, 1265, 1278, 1291], 155) := by decide +kernel
theorem dL_law_188 : decode cL_law 188 = .ok (.aload_n 1, 1) := by decide +kernel
theorem dL_law_189 : decode cL_law 189 = .ok (.aload_n 0, 1) := by decide +kernel
theorem dL_law_190 : decode cL_law 190 = .ok (.iload_n 3, 1) := by decide +kernel
theorem dL_law_191 : decode cL_law 191 = .ok (.iconst 1, 1) := by decide +kernel
theorem dL_law_192 : decode cL_law 192 = .ok (.iadd, 1) := by decide +kernel
theorem dL_law_193 : decode cL_law 193 = .ok (.iaload, 1) := by decide +kernel
theorem dL_law_194 : decode cL_law 194 = .ok (.aload_n 0, 1) := by decide +kernel
theorem dL_law_195 : decode cL_law 195 = .ok (.iload_n 3, 1) := by decide +kernel
theorem dL_law_196 : decode cL_law 196 = .ok (.iconst 2, 1) := by decide +kernel
theorem dL_law_197 : decode cL_law 197 = .ok (.iadd, 1) := by decide +kernel
theorem dL_law_198 : decode cL_law 198 = .ok (.iaload, 1) := by decide +kernel
theorem dL_law_199 : decode cL_law 199 = .ok (.aload_n 0, 1) := by decide +kernel
theorem dL_law_200 : decode cL_law 200 = .ok (.iload_n 3, 1) := by decide +kernel
theorem dL_law_201 : decode cL_law 201 = .ok (.iconst 3, 1) := by decide +kernel
theorem dL_law_202 : decode cL_law 202 = .ok (.iadd, 1) := by decide +kernel
theorem dL_law_203 : decode cL_law 203 = .ok (.iaload, 1) := by decide +kernel
theorem dL_law_204 : decode cL_law 204 = .ok (.aload_n 0, 1) := by decide +kernel
theorem dL_law_205 : decode cL_law 205 = .ok (.iload_n 3, 1) := by decide +kernel
theorem dL_law_206 : decode cL_law 206 = .ok (.iconst 4, 1) := by decide +kernel
theorem dL_law_207 : decode cL_law 207 = .ok (.iadd, 1) := by decide +kernel
theorem dL_law_208 : decode cL_law 208 = .ok (.iaload, 1) := by decide +kernel
theorem dL_law_209 : decode cL_law 209 = .ok (.invokevirtual 13, 3) := by decide +kernel
theorem dL_law_212 : decode cL_law 212 = .ok (.aload_n 2, 1) := by decide +kernel
theorem dL_law_213 : decode cL_law 213 = .ok (.aload_n 0, 1) := by decide +kernel
theorem dL_law_214 : decode cL_law 214 = .ok (.iload_n 3, 1) := by decide +kernel
theorem dL_law_215 : decode cL_law 215 = .ok (.iconst 1, 1) := by decide +kernel
theorem dL_law_216 : decode cL_law 216 = .ok (.iadd, 1) := by decide +kernel
theorem dL_law_217 : decode cL_law 217 = .ok (.iaload, 1) := by decide +kernel
theorem dL_law_218 : decode cL_law 218 = .ok (.aload_n 0, 1) := by decide +kernel
theorem dL_law_219 : decode cL_law 219 = .ok (.iload_n 3, 1) := by decide +kernel
theorem dL_law_220 : decode cL_law 220 = .ok (.iconst 2, 1) := by decide +kernel
theorem dL_law_221 : decode cL_law 221 = .ok (.iadd, 1) := by decide +kernel
theorem dL_law_222 : decode cL_law 222 = .ok (.iaload, 1) := by decide +kernel
theorem dL_law_223 : decode cL_law 223 = .ok (.aload_n 0, 1) := by decide +kernel
theorem dL_law_224 : decode cL_law 224 = .ok (.iload_n 3, 1) := by decide +kernel
