theorem dX7_list_145 : decode cX7_list 145 = .ok (.iload 7, 2) := by decide +kernel
theorem dX7_list_147 : decode cX7_list 147 = .ok (.invokevirtual 141, 3) := by decide +kernel
theorem dX7_list_150 : decode cX7_list 150 = .ok (.ireturn, 1) := by decide +kernel
theorem dX7_list_151 : decode cX7_list 151 = .ok (.iinc 7 1, 3) := by decide +kernel
theorem dX7_list_154 : decode cX7_list 154 = .ok (.goto (-42), 3) := by decide +kernel
theorem dX7_list_157 : decode cX7_list 157 = .ok (.aload_n 0, 1) := by decide +kernel
theorem dX7_list_158 : decode cX7_list 158 = .ok (.bipush (-9), 2) := by decide +kernel
theorem dX7_list_160 : decode cX7_list 160 = .ok (.invokevirtual 141, 3) := by decide +kernel
theorem dX7_list_163 : decode cX7_list 163 = .ok (.ireturn, 1) := by decide +kernel
theorem dX7_noFamily_0 : decode cX7_noFamily 0 = .ok (.iconst 0, 1) := by decide +kernel
theorem dX7_noFamily_1 : decode cX7_noFamily 1 = .ok (.istore_n 2, 1) := by decide +kernel
theorem dX7_noFamily_2 : decode cX7_noFamily 2 = .ok (.iconst 0, 1) := by decide +kernel
theorem dX7_noFamily_3 : decode cX7_noFamily 3 = .ok (.istore_n 3, 1) := by decide +kernel
theorem dX7_noFamily_4 : decode cX7_noFamily 4 = .ok (.iload_n 3, 1) := by decide +kernel
theorem dX7_noFamily_5 : decode cX7_noFamily 5 = .ok (.aload_n 0, 1) := by decide +kernel
theorem dX7_noFamily_6 : decode cX7_noFamily 6 = .ok (.getfield 93, 3) := by decide +kernel
theorem dX7_noFamily_9 : decode cX7_noFamily 9 = .ok (.if_icmp .ge 29, 3) := by decide +kernel
theorem dX7_noFamily_12 : decode cX7_noFamily 12 = .ok (.iload_n 2, 1) := by decide +kernel
theorem dX7_noFamily_13 : decode cX7_noFamily 13 = .ok (.ifCond .ne 13, 3) := by decide +kernel
theorem dX7_noFamily_16 : decode cX7_noFamily 16 = .ok (.aload_n 0, 1) := by decide +kernel
theorem dX7_noFamily_17 : decode cX7_noFamily 17 = .ok (.getfield 22, 3) := by decide +kernel
theorem dX7_noFamily_20 : decode cX7_noFamily 20 = .ok (.iload_n 3, 1) := by decide +kernel
theorem dX7_noFamily_21 : decode cX7_noFamily 21 = .ok (.iaload, 1) := by decide +kernel
theorem dX7_noFamily_22 : decode cX7_noFamily 22 = .ok (.iload_n 1, 1) := by decide +kernel
theorem dX7_noFamily_23 : decode cX7_noFamily 23 = .ok (.if_icmp .ne 7, 3) := by decide +kernel
theorem dX7_noFamily_26 : decode cX7_noFamily 26 = .ok (.iconst 1, 1) := by decide +kernel
theorem dX7_noFamily_27 : decode cX7_noFamily 27 = .ok (.goto 4, 3) := by decide +kernel
theorem dX7_noFamily_30 : decode cX7_noFamily 30 = .ok (.iconst 0, 1) := by decide +kernel
theorem dX7_noFamily_31 : decode cX7_noFamily 31 = .ok (.istore_n 2, 1) := by decide +kernel
theorem dX7_noFamily_32 : decode cX7_noFamily 32 = .ok (.iinc 3 1, 3) := by decide +kernel
theorem dX7_noFamily_35 : decode cX7_noFamily 35 = .ok (.goto (-31), 3) := by decide +kernel
theorem dX7_noFamily_38 : decode cX7_noFamily 38 = .ok (.iload_n 2, 1) := by decide +kernel
theorem dX7_noFamily_39 : decode cX7_noFamily 39 = .ok (.ifCond .ne 7, 3) := by decide +kernel
theorem dX7_noFamily_42 : decode cX7_noFamily 42 = .ok (.iconst 1, 1) := by decide +kernel
theorem dX7_noFamily_43 : decode cX7_noFamily 43 = .ok (.goto 4, 3) := by decide +kernel
theorem dX7_noFamily_46 : decode cX7_noFamily 46 = .ok (.iconst 0, 1) := by decide +kernel
theorem dX7_noFamily_47 : decode cX7_noFamily 47 = .ok (.ireturn, 1) := by decide +kernel
theorem dX7_isTogether_0 : decode cX7_isTogether 0 = .ok (.iconst 1, 1) := by decide +kernel
theorem dX7_isTogether_1 : decode cX7_isTogether 1 = .ok (.istore_n 2, 1) := by decide +kernel
theorem dX7_isTogether_2 : decode cX7_isTogether 2 = .ok (.bipush (-9), 2) := by decide +kernel
theorem dX7_isTogether_4 : decode cX7_isTogether 4 = .ok (.istore_n 3, 1) := by decide +kernel
theorem dX7_isTogether_5 : decode cX7_isTogether 5 = .ok (.iconst 0, 1) := by decide +kernel
theorem dX7_isTogether_6 : decode cX7_isTogether 6 = .ok (.istore 4, 2) := by decide +kernel
theorem dX7_isTogether_8 : decode cX7_isTogether 8 = .ok (.iload 4, 2) := by decide +kernel
theorem dX7_isTogether_10 : decode cX7_isTogether 10 = .ok (.aload_n 0, 1) := by decide +kernel
theorem dX7_isTogether_11 : decode cX7_isTogether 11 = .ok (.getfield 93, 3) := by decide +kernel
theorem dX7_isTogether_14 : decode cX7_isTogether 14 = .ok (.if_icmp .ge 65, 3) := by decide +kernel
theorem dX7_isTogether_17 : decode cX7_isTogether 17 = .ok (.aload_n 0, 1) := by decide +kernel
theorem dX7_isTogether_18 : decode cX7_isTogether 18 = .ok (.getfield 22, 3) := by decide +kernel
theorem dX7_isTogether_21 : decode cX7_isTogether 21 = .ok (.iload 4, 2) := by decide +kernel
theorem dX7_isTogether_23 : decode cX7_isTogether 23 = .ok (.iaload, 1) := by decide +kernel
theorem dX7_isTogether_24 : decode cX7_isTogether 24 = .ok (.iload_n 1, 1) := by decide +kernel
theorem dX7_isTogether_25 : decode cX7_isTogether 25 = .ok (.if_icmp .ne 48, 3) := by decide +kernel
theorem dX7_isTogether_28 : decode cX7_isTogether 28 = .ok (.iload_n 3, 1) := by decide +kernel
theorem dX7_isTogether_29 : decode cX7_isTogether 29 = .ok (.ifCond .ge 13, 3) := by decide +kernel
theorem dX7_isTogether_32 : decode cX7_isTogether 32 = .ok (.aload_n 0, 1) := by decide +kernel
theorem dX7_isTogether_33 : decode cX7_isTogether 33 = .ok (.getfield 46, 3) := by decide +kernel
theorem dX7_isTogether_36 : decode cX7_isTogether 36 = .ok (.iload 4, 2) := by decide +kernel
theorem dX7_isTogether_38 : decode cX7_isTogether 38 = .ok (.iaload, 1) := by decide +kernel
theorem dX7_isTogether_39 : decode cX7_isTogether 39 = .ok (.goto 4, 3) := by decide +kernel
theorem dX7_isTogether_42 : decode cX7_isTogether 42 = .ok (.iload_n 3, 1) := by decide +kernel
theorem dX7_isTogether_43 : decode cX7_isTogether 43 = .ok (.istore_n 3, 1) := by decide +kernel
theorem dX7_isTogether_44 : decode cX7_isTogether 44 = .ok (.iload_n 2, 1) := by decide +kernel
theorem dX7_isTogether_45 : decode cX7_isTogether 45 = .ok (.ifCond .eq 26, 3) := by decide +kernel
theorem dX7_isTogether_48 : decode cX7_isTogether 48 = .ok (.aload_n 0, 1) := by decide +kernel
theorem dX7_isTogether_49 : decode cX7_isTogether 49 = .ok (.getfield 46, 3) := by decide +kernel
theorem dX7_isTogether_52 : decode cX7_isTogether 52 = .ok (.iload 4, 2) := by decide +kernel
theorem dX7_isTogether_54 : decode cX7_isTogether 54 = .ok (.iaload, 1) := by decide +kernel
theorem dX7_isTogether_55 : decode cX7_isTogether 55 = .ok (.iload_n 3, 1) := by decide +kernel
theorem dX7_isTogether_56 : decode cX7_isTogether 56 = .ok (.if_icmp .ne 15, 3) := by decide +kernel
theorem dX7_isTogether_59 : decode cX7_isTogether 59 = .ok (.iload_n 3, 1) := by decide +kernel
theorem dX7_isTogether_60 : decode cX7_isTogether 60 = .ok (.aload_n 0, 1) := by decide +kernel
theorem dX7_isTogether_61 : decode cX7_isTogether 61 = .ok (.getfield 86, 3) := by decide +kernel
theorem dX7_isTogether_64 : decode cX7_isTogether 64 = .ok (.if_icmp .ge 7, 3) := by decide +kernel
theorem dX7_isTogether_67 : decode cX7_isTogether 67 = .ok (.iconst 1, 1) := by decide +kernel
theorem dX7_isTogether_68 : decode cX7_isTogether 68 = .ok (.goto 4, 3) := by decide +kernel
theorem dX7_isTogether_71 : decode cX7_isTogether 71 = .ok (.iconst 0, 1) := by decide +kernel
theorem dX7_isTogether_72 : decode cX7_isTogether 72 = .ok (.istore_n 2, 1) := by decide +kernel
theorem dX7_isTogether_73 : decode cX7_isTogether 73 = .ok (.iinc 4 1, 3) := by decide +kernel
theorem dX7_isTogether_76 : decode cX7_isTogether 76 = .ok (.goto (-68), 3) := by decide +kernel
theorem dX7_isTogether_79 : decode cX7_isTogether 79 = .ok (.iload_n 2, 1) := by decide +kernel
theorem dX7_isTogether_80 : decode cX7_isTogether 80 = .ok (.ireturn, 1) := by decide +kernel
theorem dX7_meetsIn_0 : decode cX7_meetsIn 0 = .ok (.aload_n 0, 1) := by decide +kernel
theorem dX7_meetsIn_1 : decode cX7_meetsIn 1 = .ok (.invokevirtual 186, 3) := by decide +kernel
theorem dX7_meetsIn_4 : decode cX7_meetsIn 4 = .ok (.bipush (-9), 2) := by decide +kernel
theorem dX7_meetsIn_6 : decode cX7_meetsIn 6 = .ok (.istore_n 3, 1) := by decide +kernel
theorem dX7_meetsIn_7 : decode cX7_meetsIn 7 = .ok (.iconst 0, 1) := by decide +kernel
theorem dX7_meetsIn_8 : decode cX7_meetsIn 8 = .ok (.istore 4, 2) := by decide +kernel
theorem dX7_meetsIn_10 : decode cX7_meetsIn 10 = .ok (.iload 4, 2) := by decide +kernel
theorem dX7_meetsIn_12 : decode cX7_meetsIn 12 = .ok (.iload_n 2, 1) := by decide +kernel
theorem dX7_meetsIn_13 : decode cX7_meetsIn 13 = .ok (.if_icmp .ge 34, 3) := by decide +kernel
theorem dX7_meetsIn_16 : decode cX7_meetsIn 16 = .ok (.aload_n 0, 1) := by decide +kernel
theorem dX7_meetsIn_17 : decode cX7_meetsIn 17 = .ok (.iload 4, 2) := by decide +kernel
theorem dX7_meetsIn_19 : decode cX7_meetsIn 19 = .ok (.invokevirtual 189, 3) := by decide +kernel
theorem dX7_meetsIn_22 : decode cX7_meetsIn 22 = .ok (.iload_n 3, 1) := by decide +kernel
theorem dX7_meetsIn_23 : decode cX7_meetsIn 23 = .ok (.ifCond .ge 16, 3) := by decide +kernel
theorem dX7_meetsIn_26 : decode cX7_meetsIn 26 = .ok (.aload_n 0, 1) := by decide +kernel
theorem dX7_meetsIn_27 : decode cX7_meetsIn 27 = .ok (.iload_n 1, 1) := by decide +kernel
theorem dX7_meetsIn_28 : decode cX7_meetsIn 28 = .ok (.invokevirtual 199, 3) := by decide +kernel
theorem dX7_meetsIn_31 : decode cX7_meetsIn 31 = .ok (.ifCond .eq 8, 3) := by decide +kernel
theorem dX7_meetsIn_34 : decode cX7_meetsIn 34 = .ok (.iload 4, 2) := by decide +kernel
theorem dX7_meetsIn_36 : decode cX7_meetsIn 36 = .ok (.goto 4, 3) := by decide +kernel
theorem dX7_meetsIn_39 : decode cX7_meetsIn 39 = .ok (.iload_n 3, 1) := by decide +kernel
theorem dX7_meetsIn_40 : decode cX7_meetsIn 40 = .ok (.istore_n 3, 1) := by decide +kernel
theorem dX7_meetsIn_41 : decode cX7_meetsIn 41 = .ok (.iinc 4 1, 3) := by decide +kernel
theorem dX7_meetsIn_44 : decode cX7_meetsIn 44 = .ok (.goto (-34), 3) := by decide +kernel
theorem dX7_meetsIn_47 : decode cX7_meetsIn 47 = .ok (.iload_n 3, 1) := by decide +kernel
theorem dX7_meetsIn_48 : decode cX7_meetsIn 48 = .ok (.ireturn, 1) := by decide +kernel
theorem dX7_meet_0 : decode cX7_meet 0 = .ok (.aload_n 0, 1) := by decide +kernel
theorem dX7_meet_1 : decode cX7_meet 1 = .ok (.iload_n 1, 1) := by decide +kernel
theorem dX7_meet_2 : decode cX7_meet 2 = .ok (.invokevirtual 202, 3) := by decide +kernel
theorem dX7_meet_5 : decode cX7_meet 5 = .ok (.ifCond .eq 7, 3) := by decide +kernel
theorem dX7_meet_8 : decode cX7_meet 8 = .ok (.iconst (-1), 1) := by decide +kernel
theorem dX7_meet_9 : decode cX7_meet 9 = .ok (.goto 12, 3) := by decide +kernel
theorem dX7_meet_12 : decode cX7_meet 12 = .ok (.aload_n 0, 1) := by decide +kernel
theorem dX7_meet_13 : decode cX7_meet 13 = .ok (.iload_n 1, 1) := by decide +kernel
theorem dX7_meet_14 : decode cX7_meet 14 = .ok (.aload_n 0, 1) := by decide +kernel
theorem dX7_meet_15 : decode cX7_meet 15 = .ok (.getfield 96, 3) := by decide +kernel
theorem dX7_meet_18 : decode cX7_meet 18 = .ok (.invokevirtual 205, 3) := by decide +kernel
theorem dX7_meet_21 : decode cX7_meet 21 = .ok (.ireturn, 1) := by decide +kernel
theorem dX7_isNobodyOut_0 : decode cX7_isNobodyOut 0 = .ok (.aload_n 0, 1) := by decide +kernel
theorem dX7_isNobodyOut_1 : decode cX7_isNobodyOut 1 = .ok (.invokevirtual 186, 3) := by decide +kernel
theorem dX7_isNobodyOut_4 : decode cX7_isNobodyOut 4 = .ok (.iconst 1, 1) := by decide +kernel
theorem dX7_isNobodyOut_5 : decode cX7_isNobodyOut 5 = .ok (.istore_n 2, 1) := by decide +kernel
theorem dX7_isNobodyOut_6 : decode cX7_isNobodyOut 6 = .ok (.iconst 0, 1) := by decide +kernel
theorem dX7_isNobodyOut_7 : decode cX7_isNobodyOut 7 = .ok (.istore_n 3, 1) := by decide +kernel
theorem dX7_isNobodyOut_8 : decode cX7_isNobodyOut 8 = .ok (.iload_n 3, 1) := by decide +kernel
theorem dX7_isNobodyOut_9 : decode cX7_isNobodyOut 9 = .ok (.iload_n 1, 1) := by decide +kernel
theorem dX7_isNobodyOut_10 : decode cX7_isNobodyOut 10 = .ok (.if_icmp .ge 35, 3) := by decide +kernel
theorem dX7_isNobodyOut_13 : decode cX7_isNobodyOut 13 = .ok (.aload_n 0, 1) := by decide +kernel
theorem dX7_isNobodyOut_14 : decode cX7_isNobodyOut 14 = .ok (.iload_n 3, 1) := by decide +kernel
theorem dX7_isNobodyOut_15 : decode cX7_isNobodyOut 15 = .ok (.invokevirtual 189, 3) := by decide +kernel
theorem dX7_isNobodyOut_18 : decode cX7_isNobodyOut 18 = .ok (.iload_n 2, 1) := by decide +kernel
theorem dX7_isNobodyOut_19 : decode cX7_isNobodyOut 19 = .ok (.ifCond .eq 18, 3) := by decide +kernel
theorem dX7_isNobodyOut_22 : decode cX7_isNobodyOut 22 = .ok (.aload_n 0, 1) := by decide +kernel
theorem dX7_isNobodyOut_23 : decode cX7_isNobodyOut 23 = .ok (.aload_n 0, 1) := by decide +kernel
theorem dX7_isNobodyOut_24 : decode cX7_isNobodyOut 24 = .ok (.getfield 86, 3) := by decide +kernel
theorem dX7_isNobodyOut_27 : decode cX7_isNobodyOut 27 = .ok (.invokevirtual 196, 3) := by decide +kernel
theorem dX7_isNobodyOut_30 : decode cX7_isNobodyOut 30 = .ok (.ifCond .ne 7, 3) := by decide +kernel
theorem dX7_isNobodyOut_33 : decode cX7_isNobodyOut 33 = .ok (.iconst 1, 1) := by decide +kernel
theorem dX7_isNobodyOut_34 : decode cX7_isNobodyOut 34 = .ok (.goto 4, 3) := by decide +kernel
theorem dX7_isNobodyOut_37 : decode cX7_isNobodyOut 37 = .ok (.iconst 0, 1) := by decide +kernel
theorem dX7_isNobodyOut_38 : decode cX7_isNobodyOut 38 = .ok (.istore_n 2, 1) := by decide +kernel
theorem dX7_isNobodyOut_39 : decode cX7_isNobodyOut 39 = .ok (.iinc 3 1, 3) := by decide +kernel
theorem dX7_isNobodyOut_42 : decode cX7_isNobodyOut 42 = .ok (.goto (-34), 3) := by decide +kernel
theorem dX7_isNobodyOut_45 : decode cX7_isNobodyOut 45 = .ok (.iload_n 2, 1) := by decide +kernel
theorem dX7_isNobodyOut_46 : decode cX7_isNobodyOut 46 = .ok (.ireturn, 1) := by decide +kernel
theorem dX7_isBy_0 : decode cX7_isBy 0 = .ok (.aload_n 0, 1) := by decide +kernel
theorem dX7_isBy_1 : decode cX7_isBy 1 = .ok (.getfield 13, 3) := by decide +kernel
theorem dX7_isBy_4 : decode cX7_isBy 4 = .ok (.iload_n 1, 1) := by decide +kernel
theorem dX7_isBy_5 : decode cX7_isBy 5 = .ok (.iaload, 1) := by decide +kernel
theorem dX7_isBy_6 : decode cX7_isBy 6 = .ok (.istore 5, 2) := by decide +kernel
theorem dX7_isBy_8 : decode cX7_isBy 8 = .ok (.aload_n 0, 1) := by decide +kernel
theorem dX7_isBy_9 : decode cX7_isBy 9 = .ok (.getfield 13, 3) := by decide +kernel
theorem dX7_isBy_12 : decode cX7_isBy 12 = .ok (.iload_n 2, 1) := by decide +kernel
theorem dX7_isBy_13 : decode cX7_isBy 13 = .ok (.iaload, 1) := by decide +kernel
theorem dX7_isBy_14 : decode cX7_isBy 14 = .ok (.istore 6, 2) := by decide +kernel
theorem dX7_isBy_16 : decode cX7_isBy 16 = .ok (.iload_n 3, 1) := by decide +kernel
theorem dX7_isBy_17 : decode cX7_isBy 17 = .ok (.iload 5, 2) := by decide +kernel
theorem dX7_isBy_19 : decode cX7_isBy 19 = .ok (.if_icmp .le 5, 3) := by decide +kernel
theorem dX7_isBy_22 : decode cX7_isBy 22 = .ok (.iconst 0, 1) := by decide +kernel
theorem dX7_isBy_23 : decode cX7_isBy 23 = .ok (.ireturn, 1) := by decide +kernel
theorem dX7_isBy_24 : decode cX7_isBy 24 = .ok (.aload_n 0, 1) := by decide +kernel
theorem dX7_isBy_25 : decode cX7_isBy 25 = .ok (.iload_n 1, 1) := by decide +kernel
theorem dX7_isBy_26 : decode cX7_isBy 26 = .ok (.iload_n 2, 1) := by decide +kernel
theorem dX7_isBy_27 : decode cX7_isBy 27 = .ok (.iload_n 3, 1) := by decide +kernel
theorem dX7_isBy_28 : decode cX7_isBy 28 = .ok (.invokevirtual 175, 3) := by decide +kernel
theorem dX7_isBy_31 : decode cX7_isBy 31 = .ok (.pop, 1) := by decide +kernel
theorem dX7_isBy_32 : decode cX7_isBy 32 = .ok (.aload_n 0, 1) := by decide +kernel
theorem dX7_isBy_33 : decode cX7_isBy 33 = .ok (.iload 4, 2) := by decide +kernel
theorem dX7_isBy_35 : decode cX7_isBy 35 = .ok (.invokevirtual 208, 3) := by decide +kernel
theorem dX7_isBy_38 : decode cX7_isBy 38 = .ok (.istore 7, 2) := by decide +kernel
theorem dX7_isBy_40 : decode cX7_isBy 40 = .ok (.aload_n 0, 1) := by decide +kernel
theorem dX7_isBy_41 : decode cX7_isBy 41 = .ok (.getfield 13, 3) := by decide +kernel
theorem dX7_isBy_44 : decode cX7_isBy 44 = .ok (.iload_n 1, 1) := by decide +kernel
theorem dX7_isBy_45 : decode cX7_isBy 45 = .ok (.iload 5, 2) := by decide +kernel
theorem dX7_isBy_47 : decode cX7_isBy 47 = .ok (.iastore, 1) := by decide +kernel
theorem dX7_isBy_48 : decode cX7_isBy 48 = .ok (.aload_n 0, 1) := by decide +kernel
theorem dX7_isBy_49 : decode cX7_isBy 49 = .ok (.getfield 13, 3) := by decide +kernel
theorem dX7_isBy_52 : decode cX7_isBy 52 = .ok (.iload_n 2, 1) := by decide +kernel
theorem dX7_isBy_53 : decode cX7_isBy 53 = .ok (.iload 6, 2) := by decide +kernel
theorem dX7_isBy_55 : decode cX7_isBy 55 = .ok (.iastore, 1) := by decide +kernel
theorem dX7_isBy_56 : decode cX7_isBy 56 = .ok (.iload 7, 2) := by decide +kernel
theorem dX7_isBy_58 : decode cX7_isBy 58 = .ok (.ireturn, 1) := by decide +kernel
theorem dX7_least_0 : decode cX7_least 0 = .ok (.iload_n 1, 1) := by decide +kernel
theorem dX7_least_1 : decode cX7_least 1 = .ok (.i2l, 1) := by decide +kernel
theorem dX7_least_2 : decode cX7_least 2 = .ok (.lconst 0, 1) := by decide +kernel
theorem dX7_least_3 : decode cX7_least 3 = .ok (.aload_n 0, 1) := by decide +kernel
theorem dX7_least_4 : decode cX7_least 4 = .ok (.getfield 96, 3) := by decide +kernel
theorem dX7_least_7 : decode cX7_least 7 = .ok (.i2l, 1) := by decide +kernel
theorem dX7_least_8 : decode cX7_least 8 = .ok (.invokestatic 89, 3) := by decide +kernel
theorem dX7_least_11 : decode cX7_least 11 = .ok (.ifCond .eq 15, 3) := by decide +kernel
theorem dX7_least_14 : decode cX7_least 14 = .ok (.iload_n 2, 1) := by decide +kernel
theorem dX7_least_15 : decode cX7_least 15 = .ok (.i2l, 1) := by decide +kernel
theorem dX7_least_16 : decode cX7_least 16 = .ok (.lconst 0, 1) := by decide +kernel
theorem dX7_least_17 : decode cX7_least 17 = .ok (.ldc2_w 144, 3) := by decide +kernel
theorem dX7_least_20 : decode cX7_least 20 = .ok (.invokestatic 89, 3) := by decide +kernel
theorem dX7_least_23 : decode cX7_least 23 = .ok (.ifCond .ne 6, 3) := by decide +kernel
theorem dX7_least_26 : decode cX7_least 26 = .ok (.bipush (-2), 2) := by decide +kernel
theorem dX7_least_28 : decode cX7_least 28 = .ok (.ireturn, 1) := by decide +kernel
theorem dX7_least_29 : decode cX7_least 29 = .ok (.aload_n 0, 1) := by decide +kernel
theorem dX7_least_30 : decode cX7_least 30 = .ok (.getfield 86, 3) := by decide +kernel
theorem dX7_least_33 : decode cX7_least 33 = .ok (.ifCond .ne 6, 3) := by decide +kernel
theorem dX7_least_36 : decode cX7_least 36 = .ok (.bipush (-3), 2) := by decide +kernel
theorem dX7_least_38 : decode cX7_least 38 = .ok (.ireturn, 1) := by decide +kernel
theorem dX7_least_39 : decode cX7_least 39 = .ok (.aload_n 0, 1) := by decide +kernel
theorem dX7_least_40 : decode cX7_least 40 = .ok (.iload_n 1, 1) := by decide +kernel
theorem dX7_least_41 : decode cX7_least 41 = .ok (.invokevirtual 208, 3) := by decide +kernel
theorem dX7_least_44 : decode cX7_least 44 = .ok (.ifCond .eq 14, 3) := by decide +kernel
theorem dX7_least_47 : decode cX7_least 47 = .ok (.iload_n 2, 1) := by decide +kernel
theorem dX7_least_48 : decode cX7_least 48 = .ok (.ifCond .ne 7, 3) := by decide +kernel
theorem dX7_least_51 : decode cX7_least 51 = .ok (.iconst 0, 1) := by decide +kernel
theorem dX7_least_52 : decode cX7_least 52 = .ok (.goto 5, 3) := by decide +kernel
theorem dX7_least_55 : decode cX7_least 55 = .ok (.bipush (-9), 2) := by decide +kernel
theorem dX7_least_57 : decode cX7_least 57 = .ok (.ireturn, 1) := by decide +kernel
theorem dX7_least_58 : decode cX7_least 58 = .ok (.iconst 0, 1) := by decide +kernel
theorem dX7_least_59 : decode cX7_least 59 = .ok (.istore_n 3, 1) := by decide +kernel
theorem dX7_least_60 : decode cX7_least 60 = .ok (.iload_n 3, 1) := by decide +kernel
theorem dX7_least_61 : decode cX7_least 61 = .ok (.bipush 18, 2) := by decide +kernel
theorem dX7_least_63 : decode cX7_least 63 = .ok (.aload_n 0, 1) := by decide +kernel
theorem dX7_least_64 : decode cX7_least 64 = .ok (.getfield 86, 3) := by decide +kernel
theorem dX7_least_67 : decode cX7_least 67 = .ok (.imul, 1) := by decide +kernel
theorem dX7_least_68 : decode cX7_least 68 = .ok (.if_icmp .ge 97, 3) := by decide +kernel
theorem dX7_least_71 : decode cX7_least 71 = .ok (.iconst 1, 1) := by decide +kernel
theorem dX7_least_72 : decode cX7_least 72 = .ok (.iload_n 3, 1) := by decide +kernel
theorem dX7_least_73 : decode cX7_least 73 = .ok (.iconst 2, 1) := by decide +kernel
theorem dX7_least_74 : decode cX7_least 74 = .ok (.aload_n 0, 1) := by decide +kernel
theorem dX7_least_75 : decode cX7_least 75 = .ok (.getfield 86, 3) := by decide +kernel
theorem dX7_least_78 : decode cX7_least 78 = .ok (.imul, 1) := by decide +kernel
theorem dX7_least_79 : decode cX7_least 79 = .ok (.idiv, 1) := by decide +kernel
theorem dX7_least_80 : decode cX7_least 80 = .ok (.iadd, 1) := by decide +kernel
theorem dX7_least_81 : decode cX7_least 81 = .ok (.istore 4, 2) := by decide +kernel
theorem dX7_least_83 : decode cX7_least 83 = .ok (.iload_n 3, 1) := by decide +kernel
theorem dX7_least_84 : decode cX7_least 84 = .ok (.iconst 2, 1) := by decide +kernel
theorem dX7_least_85 : decode cX7_least 85 = .ok (.aload_n 0, 1) := by decide +kernel
theorem dX7_least_86 : decode cX7_least 86 = .ok (.getfield 86, 3) := by decide +kernel
theorem dX7_least_89 : decode cX7_least 89 = .ok (.imul, 1) := by decide +kernel
theorem dX7_least_90 : decode cX7_least 90 = .ok (.irem, 1) := by decide +kernel
theorem dX7_least_91 : decode cX7_least 91 = .ok (.iconst 2, 1) := by decide +kernel
theorem dX7_least_92 : decode cX7_least 92 = .ok (.idiv, 1) := by decide +kernel
theorem dX7_least_93 : decode cX7_least 93 = .ok (.istore 5, 2) := by decide +kernel
theorem dX7_least_95 : decode cX7_least 95 = .ok (.iload_n 3, 1) := by decide +kernel
theorem dX7_least_96 : decode cX7_least 96 = .ok (.iconst 2, 1) := by decide +kernel
theorem dX7_least_97 : decode cX7_least 97 = .ok (.irem, 1) := by decide +kernel
theorem dX7_least_98 : decode cX7_least 98 = .ok (.ifCond .ne 10, 3) := by decide +kernel
theorem dX7_least_101 : decode cX7_least 101 = .ok (.iload 5, 2) := by decide +kernel
theorem dX7_least_103 : decode cX7_least 103 = .ok (.iconst 1, 1) := by decide +kernel
theorem dX7_least_104 : decode cX7_least 104 = .ok (.isub, 1) := by decide +kernel
theorem dX7_least_105 : decode cX7_least 105 = .ok (.goto 7, 3) := by decide +kernel
theorem dX7_least_108 : decode cX7_least 108 = .ok (.iload 5, 2) := by decide +kernel
theorem dX7_least_110 : decode cX7_least 110 = .ok (.iconst 1, 1) := by decide +kernel
theorem dX7_least_111 : decode cX7_least 111 = .ok (.iadd, 1) := by decide +kernel
theorem dX7_least_112 : decode cX7_least 112 = .ok (.istore 6, 2) := by decide +kernel
theorem dX7_least_114 : decode cX7_least 114 = .ok (.aload_n 0, 1) := by decide +kernel
theorem dX7_least_115 : decode cX7_least 115 = .ok (.iload 6, 2) := by decide +kernel
theorem dX7_least_117 : decode cX7_least 117 = .ok (.invokevirtual 159, 3) := by decide +kernel
theorem dX7_least_120 : decode cX7_least 120 = .ok (.ifCond .ne 39, 3) := by decide +kernel
theorem dX7_least_123 : decode cX7_least 123 = .ok (.aload_n 0, 1) := by decide +kernel
theorem dX7_least_124 : decode cX7_least 124 = .ok (.iload 5, 2) := by decide +kernel
theorem dX7_least_126 : decode cX7_least 126 = .ok (.iload 6, 2) := by decide +kernel
theorem dX7_least_128 : decode cX7_least 128 = .ok (.iload 4, 2) := by decide +kernel
theorem dX7_least_130 : decode cX7_least 130 = .ok (.iload_n 1, 1) := by decide +kernel
theorem dX7_least_131 : decode cX7_least 131 = .ok (.invokevirtual 211, 3) := by decide +kernel
theorem dX7_least_134 : decode cX7_least 134 = .ok (.ifCond .eq 25, 3) := by decide +kernel
theorem dX7_least_137 : decode cX7_least 137 = .ok (.iload_n 2, 1) := by decide +kernel
theorem dX7_least_138 : decode cX7_least 138 = .ok (.ifCond .ne 8, 3) := by decide +kernel
theorem dX7_least_141 : decode cX7_least 141 = .ok (.iload 4, 2) := by decide +kernel
theorem dX7_least_143 : decode cX7_least 143 = .ok (.goto 15, 3) := by decide +kernel
theorem dX7_least_146 : decode cX7_least 146 = .ok (.iload_n 2, 1) := by decide +kernel
theorem dX7_least_147 : decode cX7_least 147 = .ok (.iconst 1, 1) := by decide +kernel
theorem dX7_least_148 : decode cX7_least 148 = .ok (.if_icmp .ne 8, 3) := by decide +kernel
theorem dX7_least_151 : decode cX7_least 151 = .ok (.iload 5, 2) := by decide +kernel
theorem dX7_least_153 : decode cX7_least 153 = .ok (.goto 5, 3) := by decide +kernel
theorem dX7_least_156 : decode cX7_least 156 = .ok (.iload 6, 2) := by decide +kernel
theorem dX7_least_158 : decode cX7_least 158 = .ok (.ireturn, 1) := by decide +kernel
theorem dX7_least_159 : decode cX7_least 159 = .ok (.iinc 3 1, 3) := by decide +kernel
theorem dX7_least_162 : decode cX7_least 162 = .ok (.goto (-102), 3) := by decide +kernel
theorem dX7_least_165 : decode cX7_least 165 = .ok (.bipush (-9), 2) := by decide +kernel
theorem dX7_least_167 : decode cX7_least 167 = .ok (.ireturn, 1) := by decide +kernel
theorem dX7_turn_0 : decode cX7_turn 0 = .ok (.aload_n 0, 1) := by decide +kernel
theorem dX7_turn_1 : decode cX7_turn 1 = .ok (.iload_n 1, 1) := by decide +kernel
theorem dX7_turn_2 : decode cX7_turn 2 = .ok (.invokevirtual 202, 3) := by decide +kernel
theorem dX7_turn_5 : decode cX7_turn 5 = .ok (.ifCond .eq 5, 3) := by decide +kernel
theorem dX7_turn_8 : decode cX7_turn 8 = .ok (.iconst (-1), 1) := by decide +kernel
theorem dX7_turn_9 : decode cX7_turn 9 = .ok (.ireturn, 1) := by decide +kernel
theorem dX7_turn_10 : decode cX7_turn 10 = .ok (.iload_n 2, 1) := by decide +kernel
theorem dX7_turn_11 : decode cX7_turn 11 = .ok (.i2l, 1) := by decide +kernel
theorem dX7_turn_12 : decode cX7_turn 12 = .ok (.lconst 0, 1) := by decide +kernel
theorem dX7_turn_13 : decode cX7_turn 13 = .ok (.aload_n 0, 1) := by decide +kernel
theorem dX7_turn_14 : decode cX7_turn 14 = .ok (.getfield 96, 3) := by decide +kernel
theorem dX7_turn_17 : decode cX7_turn 17 = .ok (.i2l, 1) := by decide +kernel
theorem dX7_turn_18 : decode cX7_turn 18 = .ok (.invokestatic 89, 3) := by decide +kernel
theorem dX7_turn_21 : decode cX7_turn 21 = .ok (.ifCond .ne 6, 3) := by decide +kernel
theorem dX7_turn_24 : decode cX7_turn 24 = .ok (.bipush (-2), 2) := by decide +kernel
theorem dX7_turn_26 : decode cX7_turn 26 = .ok (.ireturn, 1) := by decide +kernel
theorem dX7_turn_27 : decode cX7_turn 27 = .ok (.aload_n 0, 1) := by decide +kernel
theorem dX7_turn_28 : decode cX7_turn 28 = .ok (.iload_n 1, 1) := by decide +kernel
theorem dX7_turn_29 : decode cX7_turn 29 = .ok (.iload_n 2, 1) := by decide +kernel
theorem dX7_turn_30 : decode cX7_turn 30 = .ok (.invokevirtual 205, 3) := by decide +kernel
theorem dX7_turn_33 : decode cX7_turn 33 = .ok (.ifCond .lt 6, 3) := by decide +kernel
theorem dX7_turn_36 : decode cX7_turn 36 = .ok (.bipush (-9), 2) := by decide +kernel
theorem dX7_turn_38 : decode cX7_turn 38 = .ok (.ireturn, 1) := by decide +kernel
theorem dX7_turn_39 : decode cX7_turn 39 = .ok (.bipush (-9), 2) := by decide +kernel
theorem dX7_turn_41 : decode cX7_turn 41 = .ok (.istore_n 3, 1) := by decide +kernel
theorem dX7_turn_42 : decode cX7_turn 42 = .ok (.iconst 0, 1) := by decide +kernel
theorem dX7_turn_43 : decode cX7_turn 43 = .ok (.istore 4, 2) := by decide +kernel
theorem dX7_turn_45 : decode cX7_turn 45 = .ok (.iload 4, 2) := by decide +kernel
theorem dX7_turn_47 : decode cX7_turn 47 = .ok (.iload_n 2, 1) := by decide +kernel
theorem dX7_turn_48 : decode cX7_turn 48 = .ok (.if_icmp .ge 62, 3) := by decide +kernel
theorem dX7_turn_51 : decode cX7_turn 51 = .ok (.iload_n 3, 1) := by decide +kernel
theorem dX7_turn_52 : decode cX7_turn 52 = .ok (.ifCond .ge 58, 3) := by decide +kernel
theorem dX7_turn_55 : decode cX7_turn 55 = .ok (.aload_n 0, 1) := by decide +kernel
theorem dX7_turn_56 : decode cX7_turn 56 = .ok (.getfield 16, 3) := by decide +kernel
theorem dX7_turn_59 : decode cX7_turn 59 = .ok (.iload 4, 2) := by decide +kernel
theorem dX7_turn_61 : decode cX7_turn 61 = .ok (.iconst 1, 1) := by decide +kernel
theorem dX7_turn_62 : decode cX7_turn 62 = .ok (.aload_n 0, 1) := by decide +kernel
theorem dX7_turn_63 : decode cX7_turn 63 = .ok (.getfield 16, 3) := by decide +kernel
theorem dX7_turn_66 : decode cX7_turn 66 = .ok (.iload 4, 2) := by decide +kernel
theorem dX7_turn_68 : decode cX7_turn 68 = .ok (.iaload, 1) := by decide +kernel
theorem dX7_turn_69 : decode cX7_turn 69 = .ok (.isub, 1) := by decide +kernel
theorem dX7_turn_70 : decode cX7_turn 70 = .ok (.iastore, 1) := by decide +kernel
theorem dX7_turn_71 : decode cX7_turn 71 = .ok (.aload_n 0, 1) := by decide +kernel
theorem dX7_turn_72 : decode cX7_turn 72 = .ok (.iload_n 1, 1) := by decide +kernel
theorem dX7_turn_73 : decode cX7_turn 73 = .ok (.iload_n 2, 1) := by decide +kernel
theorem dX7_turn_74 : decode cX7_turn 74 = .ok (.invokevirtual 205, 3) := by decide +kernel
theorem dX7_turn_77 : decode cX7_turn 77 = .ok (.ifCond .lt 8, 3) := by decide +kernel
theorem dX7_turn_80 : decode cX7_turn 80 = .ok (.iload 4, 2) := by decide +kernel
theorem dX7_turn_82 : decode cX7_turn 82 = .ok (.goto 5, 3) := by decide +kernel
theorem dX7_turn_85 : decode cX7_turn 85 = .ok (.bipush (-9), 2) := by decide +kernel
theorem dX7_turn_87 : decode cX7_turn 87 = .ok (.istore_n 3, 1) := by decide +kernel
theorem dX7_turn_88 : decode cX7_turn 88 = .ok (.aload_n 0, 1) := by decide +kernel
theorem dX7_turn_89 : decode cX7_turn 89 = .ok (.getfield 16, 3) := by decide +kernel
theorem dX7_turn_92 : decode cX7_turn 92 = .ok (.iload 4, 2) := by decide +kernel
theorem dX7_turn_94 : decode cX7_turn 94 = .ok (.iconst 1, 1) := by decide +kernel
theorem dX7_turn_95 : decode cX7_turn 95 = .ok (.aload_n 0, 1) := by decide +kernel
theorem dX7_turn_96 : decode cX7_turn 96 = .ok (.getfield 16, 3) := by decide +kernel
theorem dX7_turn_99 : decode cX7_turn 99 = .ok (.iload 4, 2) := by decide +kernel
theorem dX7_turn_101 : decode cX7_turn 101 = .ok (.iaload, 1) := by decide +kernel
theorem dX7_turn_102 : decode cX7_turn 102 = .ok (.isub, 1) := by decide +kernel
theorem dX7_turn_103 : decode cX7_turn 103 = .ok (.iastore, 1) := by decide +kernel
theorem dX7_turn_104 : decode cX7_turn 104 = .ok (.iinc 4 1, 3) := by decide +kernel
theorem dX7_turn_107 : decode cX7_turn 107 = .ok (.goto (-62), 3) := by decide +kernel
theorem dX7_turn_110 : decode cX7_turn 110 = .ok (.iload_n 3, 1) := by decide +kernel
theorem dX7_turn_111 : decode cX7_turn 111 = .ok (.ireturn, 1) := by decide +kernel
theorem dX7_bits_0 : decode cX7_bits 0 = .ok (.iconst 0, 1) := by decide +kernel
theorem dX7_bits_1 : decode cX7_bits 1 = .ok (.istore_n 1, 1) := by decide +kernel
theorem dX7_bits_2 : decode cX7_bits 2 = .ok (.iload_n 0, 1) := by decide +kernel
theorem dX7_bits_3 : decode cX7_bits 3 = .ok (.istore_n 2, 1) := by decide +kernel
theorem dX7_bits_4 : decode cX7_bits 4 = .ok (.iload_n 2, 1) := by decide +kernel
theorem dX7_bits_5 : decode cX7_bits 5 = .ok (.ifCond .le 16, 3) := by decide +kernel
theorem dX7_bits_8 : decode cX7_bits 8 = .ok (.iload_n 1, 1) := by decide +kernel
theorem dX7_bits_9 : decode cX7_bits 9 = .ok (.iload_n 2, 1) := by decide +kernel
theorem dX7_bits_10 : decode cX7_bits 10 = .ok (.iconst 1, 1) := by decide +kernel
theorem dX7_bits_11 : decode cX7_bits 11 = .ok (.iand, 1) := by decide +kernel
theorem dX7_bits_12 : decode cX7_bits 12 = .ok (.iadd, 1) := by decide +kernel
theorem dX7_bits_13 : decode cX7_bits 13 = .ok (.istore_n 1, 1) := by decide +kernel
theorem dX7_bits_14 : decode cX7_bits 14 = .ok (.iload_n 2, 1) := by decide +kernel
theorem dX7_bits_15 : decode cX7_bits 15 = .ok (.iconst 1, 1) := by decide +kernel
theorem dX7_bits_16 : decode cX7_bits 16 = .ok (.ishr, 1) := by decide +kernel
theorem dX7_bits_17 : decode cX7_bits 17 = .ok (.istore_n 2, 1) := by decide +kernel
theorem dX7_bits_18 : decode cX7_bits 18 = .ok (.goto (-14), 3) := by decide +kernel
theorem dX7_bits_21 : decode cX7_bits 21 = .ok (.iload_n 1, 1) := by decide +kernel
theorem dX7_bits_22 : decode cX7_bits 22 = .ok (.ireturn, 1) := by decide +kernel
theorem dX7_corks_0 : decode cX7_corks 0 = .ok (.aload_n 0, 1) := by decide +kernel
theorem dX7_corks_1 : decode cX7_corks 1 = .ok (.getfield 86, 3) := by decide +kernel
theorem dX7_corks_4 : decode cX7_corks 4 = .ok (.ifCond .ne 6, 3) := by decide +kernel
theorem dX7_corks_7 : decode cX7_corks 7 = .ok (.bipush (-3), 2) := by decide +kernel
theorem dX7_corks_9 : decode cX7_corks 9 = .ok (.ireturn, 1) := by decide +kernel
theorem dX7_corks_10 : decode cX7_corks 10 = .ok (.aload_n 0, 1) := by decide +kernel
theorem dX7_corks_11 : decode cX7_corks 11 = .ok (.iload_n 1, 1) := by decide +kernel
theorem dX7_corks_12 : decode cX7_corks 12 = .ok (.invokevirtual 168, 3) := by decide +kernel
theorem dX7_corks_15 : decode cX7_corks 15 = .ok (.ifCond .eq 6, 3) := by decide +kernel
theorem dX7_corks_18 : decode cX7_corks 18 = .ok (.bipush (-2), 2) := by decide +kernel
theorem dX7_corks_20 : decode cX7_corks 20 = .ok (.ireturn, 1) := by decide +kernel
theorem dX7_corks_21 : decode cX7_corks 21 = .ok (.aload_n 0, 1) := by decide +kernel
theorem dX7_corks_22 : decode cX7_corks 22 = .ok (.iload_n 1, 1) := by decide +kernel
theorem dX7_corks_23 : decode cX7_corks 23 = .ok (.iconst 1, 1) := by decide +kernel
theorem dX7_corks_24 : decode cX7_corks 24 = .ok (.iadd, 1) := by decide +kernel
theorem dX7_corks_25 : decode cX7_corks 25 = .ok (.invokevirtual 193, 3) := by decide +kernel
theorem dX7_corks_28 : decode cX7_corks 28 = .ok (.aload_n 0, 1) := by decide +kernel
theorem dX7_corks_29 : decode cX7_corks 29 = .ok (.aload_n 0, 1) := by decide +kernel
theorem dX7_corks_30 : decode cX7_corks 30 = .ok (.getfield 86, 3) := by decide +kernel
theorem dX7_corks_33 : decode cX7_corks 33 = .ok (.invokevirtual 196, 3) := by decide +kernel
theorem dX7_corks_36 : decode cX7_corks 36 = .ok (.invokestatic 215, 3) := by decide +kernel
theorem dX7_corks_39 : decode cX7_corks 39 = .ok (.istore_n 2, 1) := by decide +kernel
theorem dX7_corks_40 : decode cX7_corks 40 = .ok (.iconst 0, 1) := by decide +kernel
theorem dX7_corks_41 : decode cX7_corks 41 = .ok (.istore_n 3, 1) := by decide +kernel
theorem dX7_corks_42 : decode cX7_corks 42 = .ok (.iconst 0, 1) := by decide +kernel
theorem dX7_corks_43 : decode cX7_corks 43 = .ok (.istore 4, 2) := by decide +kernel
theorem dX7_corks_45 : decode cX7_corks 45 = .ok (.iload 4, 2) := by decide +kernel
theorem dX7_corks_47 : decode cX7_corks 47 = .ok (.aload_n 0, 1) := by decide +kernel
theorem dX7_corks_48 : decode cX7_corks 48 = .ok (.getfield 86, 3) := by decide +kernel
theorem dX7_corks_51 : decode cX7_corks 51 = .ok (.if_icmp .ge 48, 3) := by decide +kernel
theorem dX7_corks_54 : decode cX7_corks 54 = .ok (.aload_n 0, 1) := by decide +kernel
theorem dX7_corks_55 : decode cX7_corks 55 = .ok (.iload 4, 2) := by decide +kernel
theorem dX7_corks_57 : decode cX7_corks 57 = .ok (.putfield 73, 3) := by decide +kernel
theorem dX7_corks_60 : decode cX7_corks 60 = .ok (.aload_n 0, 1) := by decide +kernel
theorem dX7_corks_61 : decode cX7_corks 61 = .ok (.iload_n 1, 1) := by decide +kernel
theorem dX7_corks_62 : decode cX7_corks 62 = .ok (.iconst 1, 1) := by decide +kernel
theorem dX7_corks_63 : decode cX7_corks 63 = .ok (.iadd, 1) := by decide +kernel
theorem dX7_corks_64 : decode cX7_corks 64 = .ok (.invokevirtual 193, 3) := by decide +kernel
theorem dX7_corks_67 : decode cX7_corks 67 = .ok (.iload_n 3, 1) := by decide +kernel
theorem dX7_corks_68 : decode cX7_corks 68 = .ok (.aload_n 0, 1) := by decide +kernel
theorem dX7_corks_69 : decode cX7_corks 69 = .ok (.aload_n 0, 1) := by decide +kernel
theorem dX7_corks_70 : decode cX7_corks 70 = .ok (.getfield 86, 3) := by decide +kernel
theorem dX7_corks_73 : decode cX7_corks 73 = .ok (.invokevirtual 196, 3) := by decide +kernel
theorem dX7_corks_76 : decode cX7_corks 76 = .ok (.invokestatic 215, 3) := by decide +kernel
theorem dX7_corks_79 : decode cX7_corks 79 = .ok (.iload_n 2, 1) := by decide +kernel
theorem dX7_corks_80 : decode cX7_corks 80 = .ok (.if_icmp .ge 10, 3) := by decide +kernel
theorem dX7_corks_83 : decode cX7_corks 83 = .ok (.iconst 1, 1) := by decide +kernel
theorem dX7_corks_84 : decode cX7_corks 84 = .ok (.iload 4, 2) := by decide +kernel
theorem dX7_corks_86 : decode cX7_corks 86 = .ok (.ishl, 1) := by decide +kernel
theorem dX7_corks_87 : decode cX7_corks 87 = .ok (.goto 4, 3) := by decide +kernel
theorem dX7_corks_90 : decode cX7_corks 90 = .ok (.iconst 0, 1) := by decide +kernel
theorem dX7_corks_91 : decode cX7_corks 91 = .ok (.ior, 1) := by decide +kernel
theorem dX7_corks_92 : decode cX7_corks 92 = .ok (.istore_n 3, 1) := by decide +kernel
theorem dX7_corks_93 : decode cX7_corks 93 = .ok (.iinc 4 1, 3) := by decide +kernel
theorem dX7_corks_96 : decode cX7_corks 96 = .ok (.goto (-51), 3) := by decide +kernel
theorem dX7_corks_99 : decode cX7_corks 99 = .ok (.aload_n 0, 1) := by decide +kernel
theorem dX7_corks_100 : decode cX7_corks 100 = .ok (.bipush (-9), 2) := by decide +kernel
theorem dX7_corks_102 : decode cX7_corks 102 = .ok (.putfield 73, 3) := by decide +kernel
theorem dX7_corks_105 : decode cX7_corks 105 = .ok (.iload_n 3, 1) := by decide +kernel
theorem dX7_corks_106 : decode cX7_corks 106 = .ok (.ireturn, 1) := by decide +kernel
theorem dX7_reading_0 : decode cX7_reading 0 = .ok (.aload_n 0, 1) := by decide +kernel
theorem dX7_reading_1 : decode cX7_reading 1 = .ok (.iload_n 1, 1) := by decide +kernel
theorem dX7_reading_2 : decode cX7_reading 2 = .ok (.invokevirtual 165, 3) := by decide +kernel
theorem dX7_reading_5 : decode cX7_reading 5 = .ok (.ifCond .ne 17, 3) := by decide +kernel
theorem dX7_reading_8 : decode cX7_reading 8 = .ok (.iload_n 2, 1) := by decide +kernel
theorem dX7_reading_9 : decode cX7_reading 9 = .ok (.i2l, 1) := by decide +kernel
theorem dX7_reading_10 : decode cX7_reading 10 = .ok (.lconst 0, 1) := by decide +kernel
theorem dX7_reading_11 : decode cX7_reading 11 = .ok (.aload_n 0, 1) := by decide +kernel
theorem dX7_reading_12 : decode cX7_reading 12 = .ok (.getfield 86, 3) := by decide +kernel
theorem dX7_reading_15 : decode cX7_reading 15 = .ok (.i2l, 1) := by decide +kernel
theorem dX7_reading_16 : decode cX7_reading 16 = .ok (.invokestatic 89, 3) := by decide +kernel
theorem dX7_reading_19 : decode cX7_reading 19 = .ok (.ifCond .ne 5, 3) := by decide +kernel
theorem dX7_reading_22 : decode cX7_reading 22 = .ok (.iconst (-1), 1) := by decide +kernel
theorem dX7_reading_23 : decode cX7_reading 23 = .ok (.ireturn, 1) := by decide +kernel
theorem dX7_reading_24 : decode cX7_reading 24 = .ok (.aload_n 0, 1) := by decide +kernel
theorem dX7_reading_25 : decode cX7_reading 25 = .ok (.iload_n 3, 1) := by decide +kernel
theorem dX7_reading_26 : decode cX7_reading 26 = .ok (.invokevirtual 168, 3) := by decide +kernel
theorem dX7_reading_29 : decode cX7_reading 29 = .ok (.ifCond .eq 6, 3) := by decide +kernel
theorem dX7_reading_32 : decode cX7_reading 32 = .ok (.bipush (-2), 2) := by decide +kernel
theorem dX7_reading_34 : decode cX7_reading 34 = .ok (.ireturn, 1) := by decide +kernel
theorem dX7_reading_35 : decode cX7_reading 35 = .ok (.aload_n 0, 1) := by decide +kernel
theorem dX7_reading_36 : decode cX7_reading 36 = .ok (.getfield 156, 3) := by decide +kernel
theorem dX7_reading_39 : decode cX7_reading 39 = .ok (.bipush 8, 2) := by decide +kernel
theorem dX7_reading_41 : decode cX7_reading 41 = .ok (.if_icmp .ne 6, 3) := by decide +kernel
theorem dX7_reading_44 : decode cX7_reading 44 = .ok (.bipush (-4), 2) := by decide +kernel
theorem dX7_reading_46 : decode cX7_reading 46 = .ok (.ireturn, 1) := by decide +kernel
theorem dX7_reading_47 : decode cX7_reading 47 = .ok (.aload_n 0, 1) := by decide +kernel
theorem dX7_reading_48 : decode cX7_reading 48 = .ok (.getfield 52, 3) := by decide +kernel
theorem dX7_reading_51 : decode cX7_reading 51 = .ok (.aload_n 0, 1) := by decide +kernel
theorem dX7_reading_52 : decode cX7_reading 52 = .ok (.getfield 156, 3) := by decide +kernel
theorem dX7_reading_55 : decode cX7_reading 55 = .ok (.iload_n 1, 1) := by decide +kernel
theorem dX7_reading_56 : decode cX7_reading 56 = .ok (.iastore, 1) := by decide +kernel
theorem dX7_reading_57 : decode cX7_reading 57 = .ok (.aload_n 0, 1) := by decide +kernel
theorem dX7_reading_58 : decode cX7_reading 58 = .ok (.getfield 55, 3) := by decide +kernel
theorem dX7_reading_61 : decode cX7_reading 61 = .ok (.aload_n 0, 1) := by decide +kernel
theorem dX7_reading_62 : decode cX7_reading 62 = .ok (.getfield 156, 3) := by decide +kernel
theorem dX7_reading_65 : decode cX7_reading 65 = .ok (.iload_n 2, 1) := by decide +kernel
theorem dX7_reading_66 : decode cX7_reading 66 = .ok (.iastore, 1) := by decide +kernel
theorem dX7_reading_67 : decode cX7_reading 67 = .ok (.aload_n 0, 1) := by decide +kernel
theorem dX7_reading_68 : decode cX7_reading 68 = .ok (.getfield 58, 3) := by decide +kernel
theorem dX7_reading_71 : decode cX7_reading 71 = .ok (.aload_n 0, 1) := by decide +kernel
theorem dX7_reading_72 : decode cX7_reading 72 = .ok (.getfield 156, 3) := by decide +kernel
theorem dX7_reading_75 : decode cX7_reading 75 = .ok (.iload_n 3, 1) := by decide +kernel
theorem dX7_reading_76 : decode cX7_reading 76 = .ok (.iastore, 1) := by decide +kernel
theorem dX7_reading_77 : decode cX7_reading 77 = .ok (.aload_n 0, 1) := by decide +kernel
theorem dX7_reading_78 : decode cX7_reading 78 = .ok (.dup, 1) := by decide +kernel
theorem dX7_reading_79 : decode cX7_reading 79 = .ok (.getfield 156, 3) := by decide +kernel
theorem dX7_reading_82 : decode cX7_reading 82 = .ok (.iconst 1, 1) := by decide +kernel
theorem dX7_reading_83 : decode cX7_reading 83 = .ok (.iadd, 1) := by decide +kernel
theorem dX7_reading_84 : decode cX7_reading 84 = .ok (.putfield 156, 3) := by decide +kernel
theorem dX7_reading_87 : decode cX7_reading 87 = .ok (.aload_n 0, 1) := by decide +kernel
theorem dX7_reading_88 : decode cX7_reading 88 = .ok (.getfield 156, 3) := by decide +kernel
theorem dX7_reading_91 : decode cX7_reading 91 = .ok (.iconst 1, 1) := by decide +kernel
theorem dX7_reading_92 : decode cX7_reading 92 = .ok (.isub, 1) := by decide +kernel
theorem dX7_reading_93 : decode cX7_reading 93 = .ok (.ireturn, 1) := by decide +kernel
theorem dX7_back_0 : decode cX7_back 0 = .ok (.iload_n 1, 1) := by decide +kernel
theorem dX7_back_1 : decode cX7_back 1 = .ok (.i2l, 1) := by decide +kernel
theorem dX7_back_2 : decode cX7_back 2 = .ok (.lconst 0, 1) := by decide +kernel
theorem dX7_back_3 : decode cX7_back 3 = .ok (.aload_n 0, 1) := by decide +kernel
theorem dX7_back_4 : decode cX7_back 4 = .ok (.getfield 156, 3) := by decide +kernel
theorem dX7_back_7 : decode cX7_back 7 = .ok (.i2l, 1) := by decide +kernel
theorem dX7_back_8 : decode cX7_back 8 = .ok (.invokestatic 89, 3) := by decide +kernel
theorem dX7_back_11 : decode cX7_back 11 = .ok (.ifCond .ne 6, 3) := by decide +kernel
theorem dX7_back_14 : decode cX7_back 14 = .ok (.bipush (-2), 2) := by decide +kernel
theorem dX7_back_16 : decode cX7_back 16 = .ok (.ireturn, 1) := by decide +kernel
theorem dX7_back_17 : decode cX7_back 17 = .ok (.aload_n 0, 1) := by decide +kernel
theorem dX7_back_18 : decode cX7_back 18 = .ok (.dup, 1) := by decide +kernel
theorem dX7_back_19 : decode cX7_back 19 = .ok (.getfield 156, 3) := by decide +kernel
theorem dX7_back_22 : decode cX7_back 22 = .ok (.iload_n 1, 1) := by decide +kernel
theorem dX7_back_23 : decode cX7_back 23 = .ok (.isub, 1) := by decide +kernel
theorem dX7_back_24 : decode cX7_back 24 = .ok (.putfield 156, 3) := by decide +kernel
theorem dX7_back_27 : decode cX7_back 27 = .ok (.aload_n 0, 1) := by decide +kernel
theorem dX7_back_28 : decode cX7_back 28 = .ok (.getfield 156, 3) := by decide +kernel
theorem dX7_back_31 : decode cX7_back 31 = .ok (.ireturn, 1) := by decide +kernel
theorem dX7_areSo_0 : decode cX7_areSo 0 = .ok (.aload_n 0, 1) := by decide +kernel
theorem dX7_areSo_1 : decode cX7_areSo 1 = .ok (.invokevirtual 186, 3) := by decide +kernel
theorem dX7_areSo_4 : decode cX7_areSo 4 = .ok (.iconst 1, 1) := by decide +kernel
theorem dX7_areSo_5 : decode cX7_areSo 5 = .ok (.istore_n 1, 1) := by decide +kernel
theorem dX7_areSo_6 : decode cX7_areSo 6 = .ok (.iconst 0, 1) := by decide +kernel
theorem dX7_areSo_7 : decode cX7_areSo 7 = .ok (.istore_n 2, 1) := by decide +kernel
theorem dX7_areSo_8 : decode cX7_areSo 8 = .ok (.iload_n 2, 1) := by decide +kernel
theorem dX7_areSo_9 : decode cX7_areSo 9 = .ok (.aload_n 0, 1) := by decide +kernel
theorem dX7_areSo_10 : decode cX7_areSo 10 = .ok (.getfield 96, 3) := by decide +kernel
theorem dX7_areSo_13 : decode cX7_areSo 13 = .ok (.if_icmp .ge 70, 3) := by decide +kernel
theorem dX7_areSo_16 : decode cX7_areSo 16 = .ok (.aload_n 0, 1) := by decide +kernel
theorem dX7_areSo_17 : decode cX7_areSo 17 = .ok (.iload_n 2, 1) := by decide +kernel
theorem dX7_areSo_18 : decode cX7_areSo 18 = .ok (.invokevirtual 189, 3) := by decide +kernel
theorem dX7_areSo_21 : decode cX7_areSo 21 = .ok (.iconst 0, 1) := by decide +kernel
theorem dX7_areSo_22 : decode cX7_areSo 22 = .ok (.istore_n 3, 1) := by decide +kernel
theorem dX7_areSo_23 : decode cX7_areSo 23 = .ok (.iload_n 3, 1) := by decide +kernel
theorem dX7_areSo_24 : decode cX7_areSo 24 = .ok (.aload_n 0, 1) := by decide +kernel
theorem dX7_areSo_25 : decode cX7_areSo 25 = .ok (.getfield 156, 3) := by decide +kernel
theorem dX7_areSo_28 : decode cX7_areSo 28 = .ok (.if_icmp .ge 49, 3) := by decide +kernel
theorem dX7_areSo_31 : decode cX7_areSo 31 = .ok (.iload_n 1, 1) := by decide +kernel
theorem dX7_areSo_32 : decode cX7_areSo 32 = .ok (.ifCond .eq 37, 3) := by decide +kernel
theorem dX7_areSo_35 : decode cX7_areSo 35 = .ok (.aload_n 0, 1) := by decide +kernel
theorem dX7_areSo_36 : decode cX7_areSo 36 = .ok (.getfield 58, 3) := by decide +kernel
theorem dX7_areSo_39 : decode cX7_areSo 39 = .ok (.iload_n 3, 1) := by decide +kernel
theorem dX7_areSo_40 : decode cX7_areSo 40 = .ok (.iaload, 1) := by decide +kernel
theorem dX7_areSo_41 : decode cX7_areSo 41 = .ok (.iload_n 2, 1) := by decide +kernel
theorem dX7_areSo_42 : decode cX7_areSo 42 = .ok (.if_icmp .ne 23, 3) := by decide +kernel
theorem dX7_areSo_45 : decode cX7_areSo 45 = .ok (.aload_n 0, 1) := by decide +kernel
theorem dX7_areSo_46 : decode cX7_areSo 46 = .ok (.getfield 46, 3) := by decide +kernel
theorem dX7_areSo_49 : decode cX7_areSo 49 = .ok (.aload_n 0, 1) := by decide +kernel
theorem dX7_areSo_50 : decode cX7_areSo 50 = .ok (.getfield 52, 3) := by decide +kernel
theorem dX7_areSo_53 : decode cX7_areSo 53 = .ok (.iload_n 3, 1) := by decide +kernel
theorem dX7_areSo_54 : decode cX7_areSo 54 = .ok (.iaload, 1) := by decide +kernel
theorem dX7_areSo_55 : decode cX7_areSo 55 = .ok (.iaload, 1) := by decide +kernel
theorem dX7_areSo_56 : decode cX7_areSo 56 = .ok (.aload_n 0, 1) := by decide +kernel
theorem dX7_areSo_57 : decode cX7_areSo 57 = .ok (.getfield 55, 3) := by decide +kernel
theorem dX7_areSo_60 : decode cX7_areSo 60 = .ok (.iload_n 3, 1) := by decide +kernel
theorem dX7_areSo_61 : decode cX7_areSo 61 = .ok (.iaload, 1) := by decide +kernel
theorem dX7_areSo_62 : decode cX7_areSo 62 = .ok (.if_icmp .ne 7, 3) := by decide +kernel
theorem dX7_areSo_65 : decode cX7_areSo 65 = .ok (.iconst 1, 1) := by decide +kernel
theorem dX7_areSo_66 : decode cX7_areSo 66 = .ok (.goto 4, 3) := by decide +kernel
theorem dX7_areSo_69 : decode cX7_areSo 69 = .ok (.iconst 0, 1) := by decide +kernel
theorem dX7_areSo_70 : decode cX7_areSo 70 = .ok (.istore_n 1, 1) := by decide +kernel
theorem dX7_areSo_71 : decode cX7_areSo 71 = .ok (.iinc 3 1, 3) := by decide +kernel
theorem dX7_areSo_74 : decode cX7_areSo 74 = .ok (.goto (-51), 3) := by decide +kernel
theorem dX7_areSo_77 : decode cX7_areSo 77 = .ok (.iinc 2 1, 3) := by decide +kernel
theorem dX7_areSo_80 : decode cX7_areSo 80 = .ok (.goto (-72), 3) := by decide +kernel
theorem dX7_areSo_83 : decode cX7_areSo 83 = .ok (.iload_n 1, 1) := by decide +kernel
theorem dX7_areSo_84 : decode cX7_areSo 84 = .ok (.ireturn, 1) := by decide +kernel
theorem dX7_rules_0 : decode cX7_rules 0 = .ok (.aload_n 0, 1) := by decide +kernel
theorem dX7_rules_1 : decode cX7_rules 1 = .ok (.getfield 86, 3) := by decide +kernel
theorem dX7_rules_4 : decode cX7_rules 4 = .ok (.ifCond .ne 6, 3) := by decide +kernel
theorem dX7_rules_7 : decode cX7_rules 7 = .ok (.bipush (-3), 2) := by decide +kernel
theorem dX7_rules_9 : decode cX7_rules 9 = .ok (.ireturn, 1) := by decide +kernel
theorem dX7_rules_10 : decode cX7_rules 10 = .ok (.aload_n 0, 1) := by decide +kernel
theorem dX7_rules_11 : decode cX7_rules 11 = .ok (.getfield 153, 3) := by decide +kernel
theorem dX7_rules_14 : decode cX7_rules 14 = .ok (.istore_n 1, 1) := by decide +kernel
theorem dX7_rules_15 : decode cX7_rules 15 = .ok (.iconst 0, 1) := by decide +kernel
theorem dX7_rules_16 : decode cX7_rules 16 = .ok (.istore_n 2, 1) := by decide +kernel
theorem dX7_rules_17 : decode cX7_rules 17 = .ok (.iconst 0, 1) := by decide +kernel
theorem dX7_rules_18 : decode cX7_rules 18 = .ok (.istore_n 3, 1) := by decide +kernel
theorem dX7_rules_19 : decode cX7_rules 19 = .ok (.iload_n 3, 1) := by decide +kernel
theorem dX7_rules_20 : decode cX7_rules 20 = .ok (.iconst 2, 1) := by decide +kernel
theorem dX7_rules_21 : decode cX7_rules 21 = .ok (.if_icmp .ge 31, 3) := by decide +kernel
theorem dX7_rules_24 : decode cX7_rules 24 = .ok (.aload_n 0, 1) := by decide +kernel
theorem dX7_rules_25 : decode cX7_rules 25 = .ok (.iload_n 3, 1) := by decide +kernel
theorem dX7_rules_26 : decode cX7_rules 26 = .ok (.putfield 153, 3) := by decide +kernel
theorem dX7_rules_29 : decode cX7_rules 29 = .ok (.iload_n 2, 1) := by decide +kernel
theorem dX7_rules_30 : decode cX7_rules 30 = .ok (.aload_n 0, 1) := by decide +kernel
theorem dX7_rules_31 : decode cX7_rules 31 = .ok (.invokevirtual 218, 3) := by decide +kernel
theorem dX7_rules_34 : decode cX7_rules 34 = .ok (.ifCond .eq 9, 3) := by decide +kernel
theorem dX7_rules_37 : decode cX7_rules 37 = .ok (.iconst 1, 1) := by decide +kernel
theorem dX7_rules_38 : decode cX7_rules 38 = .ok (.iload_n 3, 1) := by decide +kernel
theorem dX7_rules_39 : decode cX7_rules 39 = .ok (.ishl, 1) := by decide +kernel
theorem dX7_rules_40 : decode cX7_rules 40 = .ok (.goto 4, 3) := by decide +kernel
theorem dX7_rules_43 : decode cX7_rules 43 = .ok (.iconst 0, 1) := by decide +kernel
theorem dX7_rules_44 : decode cX7_rules 44 = .ok (.ior, 1) := by decide +kernel
theorem dX7_rules_45 : decode cX7_rules 45 = .ok (.istore_n 2, 1) := by decide +kernel
theorem dX7_rules_46 : decode cX7_rules 46 = .ok (.iinc 3 1, 3) := by decide +kernel
theorem dX7_rules_49 : decode cX7_rules 49 = .ok (.goto (-30), 3) := by decide +kernel
theorem dX7_rules_52 : decode cX7_rules 52 = .ok (.aload_n 0, 1) := by decide +kernel
theorem dX7_rules_53 : decode cX7_rules 53 = .ok (.iload_n 1, 1) := by decide +kernel
theorem dX7_rules_54 : decode cX7_rules 54 = .ok (.putfield 153, 3) := by decide +kernel
theorem dX7_rules_57 : decode cX7_rules 57 = .ok (.iload_n 2, 1) := by decide +kernel
theorem dX7_rules_58 : decode cX7_rules 58 = .ok (.ireturn, 1) := by decide +kernel
theorem dX7_kinds_0 : decode cX7_kinds 0 = .ok (.aload_n 0, 1) := by decide +kernel
theorem dX7_kinds_1 : decode cX7_kinds 1 = .ok (.iload_n 1, 1) := by decide +kernel
theorem dX7_kinds_2 : decode cX7_kinds 2 = .ok (.invokevirtual 159, 3) := by decide +kernel
theorem dX7_kinds_5 : decode cX7_kinds 5 = .ok (.ifCond .eq 5, 3) := by decide +kernel
theorem dX7_kinds_8 : decode cX7_kinds 8 = .ok (.iconst (-1), 1) := by decide +kernel
theorem dX7_kinds_9 : decode cX7_kinds 9 = .ok (.ireturn, 1) := by decide +kernel
theorem dX7_kinds_10 : decode cX7_kinds 10 = .ok (.aload_n 0, 1) := by decide +kernel
theorem dX7_kinds_11 : decode cX7_kinds 11 = .ok (.getfield 7, 3) := by decide +kernel
theorem dX7_kinds_14 : decode cX7_kinds 14 = .ok (.iload_n 1, 1) := by decide +kernel
theorem dX7_kinds_15 : decode cX7_kinds 15 = .ok (.iaload, 1) := by decide +kernel
theorem dX7_kinds_16 : decode cX7_kinds 16 = .ok (.istore_n 2, 1) := by decide +kernel
theorem dX7_kinds_17 : decode cX7_kinds 17 = .ok (.iconst 0, 1) := by decide +kernel
theorem dX7_kinds_18 : decode cX7_kinds 18 = .ok (.istore_n 3, 1) := by decide +kernel
theorem dX7_kinds_19 : decode cX7_kinds 19 = .ok (.iconst 0, 1) := by decide +kernel
theorem dX7_kinds_20 : decode cX7_kinds 20 = .ok (.istore 4, 2) := by decide +kernel
theorem dX7_kinds_22 : decode cX7_kinds 22 = .ok (.iload 4, 2) := by decide +kernel
theorem dX7_kinds_24 : decode cX7_kinds 24 = .ok (.iconst 3, 1) := by decide +kernel
theorem dX7_kinds_25 : decode cX7_kinds 25 = .ok (.if_icmp .ge 35, 3) := by decide +kernel
theorem dX7_kinds_28 : decode cX7_kinds 28 = .ok (.aload_n 0, 1) := by decide +kernel
theorem dX7_kinds_29 : decode cX7_kinds 29 = .ok (.getfield 7, 3) := by decide +kernel
theorem dX7_kinds_32 : decode cX7_kinds 32 = .ok (.iload_n 1, 1) := by decide +kernel
theorem dX7_kinds_33 : decode cX7_kinds 33 = .ok (.iload 4, 2) := by decide +kernel
theorem dX7_kinds_35 : decode cX7_kinds 35 = .ok (.iastore, 1) := by decide +kernel
theorem dX7_kinds_36 : decode cX7_kinds 36 = .ok (.iload_n 3, 1) := by decide +kernel
theorem dX7_kinds_37 : decode cX7_kinds 37 = .ok (.aload_n 0, 1) := by decide +kernel
theorem dX7_kinds_38 : decode cX7_kinds 38 = .ok (.invokevirtual 218, 3) := by decide +kernel
theorem dX7_kinds_41 : decode cX7_kinds 41 = .ok (.ifCond .eq 10, 3) := by decide +kernel
theorem dX7_kinds_44 : decode cX7_kinds 44 = .ok (.iconst 1, 1) := by decide +kernel
theorem dX7_kinds_45 : decode cX7_kinds 45 = .ok (.iload 4, 2) := by decide +kernel
theorem dX7_kinds_47 : decode cX7_kinds 47 = .ok (.ishl, 1) := by decide +kernel
theorem dX7_kinds_48 : decode cX7_kinds 48 = .ok (.goto 4, 3) := by decide +kernel
theorem dX7_kinds_51 : decode cX7_kinds 51 = .ok (.iconst 0, 1) := by decide +kernel
theorem dX7_kinds_52 : decode cX7_kinds 52 = .ok (.ior, 1) := by decide +kernel
theorem dX7_kinds_53 : decode cX7_kinds 53 = .ok (.istore_n 3, 1) := by decide +kernel
theorem dX7_kinds_54 : decode cX7_kinds 54 = .ok (.iinc 4 1, 3) := by decide +kernel
theorem dX7_kinds_57 : decode cX7_kinds 57 = .ok (.goto (-35), 3) := by decide +kernel
theorem dX7_kinds_60 : decode cX7_kinds 60 = .ok (.aload_n 0, 1) := by decide +kernel
theorem dX7_kinds_61 : decode cX7_kinds 61 = .ok (.getfield 7, 3) := by decide +kernel
theorem dX7_kinds_64 : decode cX7_kinds 64 = .ok (.iload_n 1, 1) := by decide +kernel
theorem dX7_kinds_65 : decode cX7_kinds 65 = .ok (.iload_n 2, 1) := by decide +kernel
theorem dX7_kinds_66 : decode cX7_kinds 66 = .ok (.iastore, 1) := by decide +kernel
theorem dX7_kinds_67 : decode cX7_kinds 67 = .ok (.iload_n 3, 1) := by decide +kernel
theorem dX7_kinds_68 : decode cX7_kinds 68 = .ok (.ireturn, 1) := by decide +kernel
theorem dX7_depths_0 : decode cX7_depths 0 = .ok (.aload_n 0, 1) := by decide +kernel
theorem dX7_depths_1 : decode cX7_depths 1 = .ok (.iload_n 1, 1) := by decide +kernel
theorem dX7_depths_2 : decode cX7_depths 2 = .ok (.invokevirtual 159, 3) := by decide +kernel
theorem dX7_depths_5 : decode cX7_depths 5 = .ok (.ifCond .eq 5, 3) := by decide +kernel
theorem dX7_depths_8 : decode cX7_depths 8 = .ok (.iconst (-1), 1) := by decide +kernel
theorem dX7_depths_9 : decode cX7_depths 9 = .ok (.ireturn, 1) := by decide +kernel
theorem dX7_depths_10 : decode cX7_depths 10 = .ok (.aload_n 0, 1) := by decide +kernel
theorem dX7_depths_11 : decode cX7_depths 11 = .ok (.getfield 13, 3) := by decide +kernel
theorem dX7_depths_14 : decode cX7_depths 14 = .ok (.iload_n 1, 1) := by decide +kernel
theorem dX7_depths_15 : decode cX7_depths 15 = .ok (.iaload, 1) := by decide +kernel
theorem dX7_depths_16 : decode cX7_depths 16 = .ok (.istore_n 2, 1) := by decide +kernel
theorem dX7_depths_17 : decode cX7_depths 17 = .ok (.iconst 0, 1) := by decide +kernel
theorem dX7_depths_18 : decode cX7_depths 18 = .ok (.istore_n 3, 1) := by decide +kernel
theorem dX7_depths_19 : decode cX7_depths 19 = .ok (.iconst 0, 1) := by decide +kernel
theorem dX7_depths_20 : decode cX7_depths 20 = .ok (.istore 4, 2) := by decide +kernel
theorem dX7_depths_22 : decode cX7_depths 22 = .ok (.iload 4, 2) := by decide +kernel
theorem dX7_depths_24 : decode cX7_depths 24 = .ok (.bipush 10, 2) := by decide +kernel
theorem dX7_depths_26 : decode cX7_depths 26 = .ok (.if_icmp .ge 35, 3) := by decide +kernel
theorem dX7_depths_29 : decode cX7_depths 29 = .ok (.aload_n 0, 1) := by decide +kernel
theorem dX7_depths_30 : decode cX7_depths 30 = .ok (.getfield 13, 3) := by decide +kernel
theorem dX7_depths_33 : decode cX7_depths 33 = .ok (.iload_n 1, 1) := by decide +kernel
theorem dX7_depths_34 : decode cX7_depths 34 = .ok (.iload 4, 2) := by decide +kernel
theorem dX7_depths_36 : decode cX7_depths 36 = .ok (.iastore, 1) := by decide +kernel
theorem dX7_depths_37 : decode cX7_depths 37 = .ok (.iload_n 3, 1) := by decide +kernel
theorem dX7_depths_38 : decode cX7_depths 38 = .ok (.aload_n 0, 1) := by decide +kernel
theorem dX7_depths_39 : decode cX7_depths 39 = .ok (.invokevirtual 218, 3) := by decide +kernel
theorem dX7_depths_42 : decode cX7_depths 42 = .ok (.ifCond .eq 10, 3) := by decide +kernel
theorem dX7_depths_45 : decode cX7_depths 45 = .ok (.iconst 1, 1) := by decide +kernel
theorem dX7_depths_46 : decode cX7_depths 46 = .ok (.iload 4, 2) := by decide +kernel
theorem dX7_depths_48 : decode cX7_depths 48 = .ok (.ishl, 1) := by decide +kernel
theorem dX7_depths_49 : decode cX7_depths 49 = .ok (.goto 4, 3) := by decide +kernel
theorem dX7_depths_52 : decode cX7_depths 52 = .ok (.iconst 0, 1) := by decide +kernel
theorem dX7_depths_53 : decode cX7_depths 53 = .ok (.ior, 1) := by decide +kernel
theorem dX7_depths_54 : decode cX7_depths 54 = .ok (.istore_n 3, 1) := by decide +kernel
theorem dX7_depths_55 : decode cX7_depths 55 = .ok (.iinc 4 1, 3) := by decide +kernel
theorem dX7_depths_58 : decode cX7_depths 58 = .ok (.goto (-36), 3) := by decide +kernel
theorem dX7_depths_61 : decode cX7_depths 61 = .ok (.aload_n 0, 1) := by decide +kernel
theorem dX7_depths_62 : decode cX7_depths 62 = .ok (.getfield 13, 3) := by decide +kernel
theorem dX7_depths_65 : decode cX7_depths 65 = .ok (.iload_n 1, 1) := by decide +kernel
theorem dX7_depths_66 : decode cX7_depths 66 = .ok (.iload_n 2, 1) := by decide +kernel
theorem dX7_depths_67 : decode cX7_depths 67 = .ok (.iastore, 1) := by decide +kernel
theorem dX7_depths_68 : decode cX7_depths 68 = .ok (.iload_n 3, 1) := by decide +kernel
theorem dX7_depths_69 : decode cX7_depths 69 = .ok (.ireturn, 1) := by decide +kernel
theorem dX7_falls_0 : decode cX7_falls 0 = .ok (.aload_n 0, 1) := by decide +kernel
theorem dX7_falls_1 : decode cX7_falls 1 = .ok (.getfield 86, 3) := by decide +kernel
theorem dX7_falls_4 : decode cX7_falls 4 = .ok (.ifCond .ne 6, 3) := by decide +kernel
theorem dX7_falls_7 : decode cX7_falls 7 = .ok (.bipush (-3), 2) := by decide +kernel
theorem dX7_falls_9 : decode cX7_falls 9 = .ok (.ireturn, 1) := by decide +kernel
theorem dX7_falls_10 : decode cX7_falls 10 = .ok (.aload_n 0, 1) := by decide +kernel
theorem dX7_falls_11 : decode cX7_falls 11 = .ok (.iload_n 1, 1) := by decide +kernel
theorem dX7_falls_12 : decode cX7_falls 12 = .ok (.invokevirtual 168, 3) := by decide +kernel
theorem dX7_falls_15 : decode cX7_falls 15 = .ok (.ifCond .eq 6, 3) := by decide +kernel
theorem dX7_falls_18 : decode cX7_falls 18 = .ok (.bipush (-2), 2) := by decide +kernel
theorem dX7_falls_20 : decode cX7_falls 20 = .ok (.ireturn, 1) := by decide +kernel
theorem dX7_falls_21 : decode cX7_falls 21 = .ok (.aload_n 0, 1) := by decide +kernel
theorem dX7_falls_22 : decode cX7_falls 22 = .ok (.getfield 19, 3) := by decide +kernel
theorem dX7_falls_25 : decode cX7_falls 25 = .ok (.iload_n 1, 1) := by decide +kernel
theorem dX7_falls_26 : decode cX7_falls 26 = .ok (.iaload, 1) := by decide +kernel
theorem dX7_falls_27 : decode cX7_falls 27 = .ok (.istore_n 2, 1) := by decide +kernel
theorem dX7_falls_28 : decode cX7_falls 28 = .ok (.iconst 0, 1) := by decide +kernel
theorem dX7_falls_29 : decode cX7_falls 29 = .ok (.istore_n 3, 1) := by decide +kernel
theorem dX7_falls_30 : decode cX7_falls 30 = .ok (.iconst 0, 1) := by decide +kernel
theorem dX7_falls_31 : decode cX7_falls 31 = .ok (.istore 4, 2) := by decide +kernel
theorem dX7_falls_33 : decode cX7_falls 33 = .ok (.iload 4, 2) := by decide +kernel
theorem dX7_falls_35 : decode cX7_falls 35 = .ok (.bipush 6, 2) := by decide +kernel
theorem dX7_falls_37 : decode cX7_falls 37 = .ok (.if_icmp .ge 35, 3) := by decide +kernel
theorem dX7_falls_40 : decode cX7_falls 40 = .ok (.aload_n 0, 1) := by decide +kernel
theorem dX7_falls_41 : decode cX7_falls 41 = .ok (.getfield 19, 3) := by decide +kernel
theorem dX7_falls_44 : decode cX7_falls 44 = .ok (.iload_n 1, 1) := by decide +kernel
theorem dX7_falls_45 : decode cX7_falls 45 = .ok (.iload 4, 2) := by decide +kernel
theorem dX7_falls_47 : decode cX7_falls 47 = .ok (.iastore, 1) := by decide +kernel
theorem dX7_falls_48 : decode cX7_falls 48 = .ok (.iload_n 3, 1) := by decide +kernel
theorem dX7_falls_49 : decode cX7_falls 49 = .ok (.aload_n 0, 1) := by decide +kernel
theorem dX7_falls_50 : decode cX7_falls 50 = .ok (.invokevirtual 218, 3) := by decide +kernel
theorem dX7_falls_53 : decode cX7_falls 53 = .ok (.ifCond .eq 10, 3) := by decide +kernel
