theorem dX7_keepsBy_14 : decode cX7_keepsBy 14 = .ok (.getfield 7, 3) := by decide +kernel
theorem dX7_keepsBy_17 : decode cX7_keepsBy 17 = .ok (.iload_n 1, 1) := by decide +kernel
theorem dX7_keepsBy_18 : decode cX7_keepsBy 18 = .ok (.iaload, 1) := by decide +kernel
theorem dX7_keepsBy_19 : decode cX7_keepsBy 19 = .ok (.iconst 1, 1) := by decide +kernel
theorem dX7_keepsBy_20 : decode cX7_keepsBy 20 = .ok (.if_icmp .ne 9, 3) := by decide +kernel
theorem dX7_keepsBy_23 : decode cX7_keepsBy 23 = .ok (.iload_n 2, 1) := by decide +kernel
theorem dX7_keepsBy_24 : decode cX7_keepsBy 24 = .ok (.iconst 1, 1) := by decide +kernel
theorem dX7_keepsBy_25 : decode cX7_keepsBy 25 = .ok (.iadd, 1) := by decide +kernel
theorem dX7_keepsBy_26 : decode cX7_keepsBy 26 = .ok (.goto 8, 3) := by decide +kernel
theorem dX7_keepsBy_29 : decode cX7_keepsBy 29 = .ok (.iconst 2, 1) := by decide +kernel
theorem dX7_keepsBy_30 : decode cX7_keepsBy 30 = .ok (.iload_n 2, 1) := by decide +kernel
theorem dX7_keepsBy_31 : decode cX7_keepsBy 31 = .ok (.iconst 1, 1) := by decide +kernel
theorem dX7_keepsBy_32 : decode cX7_keepsBy 32 = .ok (.iadd, 1) := by decide +kernel
theorem dX7_keepsBy_33 : decode cX7_keepsBy 33 = .ok (.imul, 1) := by decide +kernel
theorem dX7_keepsBy_34 : decode cX7_keepsBy 34 = .ok (.istore_n 3, 1) := by decide +kernel
theorem dX7_keepsBy_35 : decode cX7_keepsBy 35 = .ok (.aload_n 0, 1) := by decide +kernel
theorem dX7_keepsBy_36 : decode cX7_keepsBy 36 = .ok (.getfield 73, 3) := by decide +kernel
theorem dX7_keepsBy_39 : decode cX7_keepsBy 39 = .ok (.iload_n 1, 1) := by decide +kernel
theorem dX7_keepsBy_40 : decode cX7_keepsBy 40 = .ok (.if_icmp .ne 9, 3) := by decide +kernel
theorem dX7_keepsBy_43 : decode cX7_keepsBy 43 = .ok (.iload_n 3, 1) := by decide +kernel
theorem dX7_keepsBy_44 : decode cX7_keepsBy 44 = .ok (.iconst 1, 1) := by decide +kernel
theorem dX7_keepsBy_45 : decode cX7_keepsBy 45 = .ok (.iadd, 1) := by decide +kernel
theorem dX7_keepsBy_46 : decode cX7_keepsBy 46 = .ok (.goto 4, 3) := by decide +kernel
theorem dX7_keepsBy_49 : decode cX7_keepsBy 49 = .ok (.iload_n 3, 1) := by decide +kernel
theorem dX7_keepsBy_50 : decode cX7_keepsBy 50 = .ok (.ireturn, 1) := by decide +kernel
theorem dX7_ofInn_0 : decode cX7_ofInn 0 = .ok (.aload_n 0, 1) := by decide +kernel
theorem dX7_ofInn_1 : decode cX7_ofInn 1 = .ok (.iload_n 1, 1) := by decide +kernel
theorem dX7_ofInn_2 : decode cX7_ofInn 2 = .ok (.invokevirtual 159, 3) := by decide +kernel
theorem dX7_ofInn_5 : decode cX7_ofInn 5 = .ok (.ifCond .eq 5, 3) := by decide +kernel
theorem dX7_ofInn_8 : decode cX7_ofInn 8 = .ok (.iconst (-1), 1) := by decide +kernel
theorem dX7_ofInn_9 : decode cX7_ofInn 9 = .ok (.ireturn, 1) := by decide +kernel
theorem dX7_ofInn_10 : decode cX7_ofInn 10 = .ok (.iload_n 2, 1) := by decide +kernel
theorem dX7_ofInn_11 : decode cX7_ofInn 11 = .ok (.ifCond .ne 12, 3) := by decide +kernel
theorem dX7_ofInn_14 : decode cX7_ofInn 14 = .ok (.aload_n 0, 1) := by decide +kernel
theorem dX7_ofInn_15 : decode cX7_ofInn 15 = .ok (.getfield 7, 3) := by decide +kernel
theorem dX7_ofInn_18 : decode cX7_ofInn 18 = .ok (.iload_n 1, 1) := by decide +kernel
theorem dX7_ofInn_19 : decode cX7_ofInn 19 = .ok (.iaload, 1) := by decide +kernel
theorem dX7_ofInn_20 : decode cX7_ofInn 20 = .ok (.goto 38, 3) := by decide +kernel
theorem dX7_ofInn_23 : decode cX7_ofInn 23 = .ok (.iload_n 2, 1) := by decide +kernel
theorem dX7_ofInn_24 : decode cX7_ofInn 24 = .ok (.iconst 1, 1) := by decide +kernel
theorem dX7_ofInn_25 : decode cX7_ofInn 25 = .ok (.if_icmp .ne 12, 3) := by decide +kernel
theorem dX7_ofInn_28 : decode cX7_ofInn 28 = .ok (.aload_n 0, 1) := by decide +kernel
theorem dX7_ofInn_29 : decode cX7_ofInn 29 = .ok (.getfield 13, 3) := by decide +kernel
theorem dX7_ofInn_32 : decode cX7_ofInn 32 = .ok (.iload_n 1, 1) := by decide +kernel
theorem dX7_ofInn_33 : decode cX7_ofInn 33 = .ok (.iaload, 1) := by decide +kernel
theorem dX7_ofInn_34 : decode cX7_ofInn 34 = .ok (.goto 24, 3) := by decide +kernel
theorem dX7_ofInn_37 : decode cX7_ofInn 37 = .ok (.iload_n 2, 1) := by decide +kernel
theorem dX7_ofInn_38 : decode cX7_ofInn 38 = .ok (.iconst 2, 1) := by decide +kernel
theorem dX7_ofInn_39 : decode cX7_ofInn 39 = .ok (.if_icmp .ne 17, 3) := by decide +kernel
theorem dX7_ofInn_42 : decode cX7_ofInn 42 = .ok (.aload_n 0, 1) := by decide +kernel
theorem dX7_ofInn_43 : decode cX7_ofInn 43 = .ok (.iload_n 1, 1) := by decide +kernel
theorem dX7_ofInn_44 : decode cX7_ofInn 44 = .ok (.aload_n 0, 1) := by decide +kernel
theorem dX7_ofInn_45 : decode cX7_ofInn 45 = .ok (.getfield 13, 3) := by decide +kernel
theorem dX7_ofInn_48 : decode cX7_ofInn 48 = .ok (.iload_n 1, 1) := by decide +kernel
theorem dX7_ofInn_49 : decode cX7_ofInn 49 = .ok (.iaload, 1) := by decide +kernel
theorem dX7_ofInn_50 : decode cX7_ofInn 50 = .ok (.invokevirtual 162, 3) := by decide +kernel
theorem dX7_ofInn_53 : decode cX7_ofInn 53 = .ok (.goto 5, 3) := by decide +kernel
theorem dX7_ofInn_56 : decode cX7_ofInn 56 = .ok (.bipush (-2), 2) := by decide +kernel
theorem dX7_ofInn_58 : decode cX7_ofInn 58 = .ok (.ireturn, 1) := by decide +kernel
theorem dX7_ofGuest_0 : decode cX7_ofGuest 0 = .ok (.aload_n 0, 1) := by decide +kernel
theorem dX7_ofGuest_1 : decode cX7_ofGuest 1 = .ok (.iload_n 1, 1) := by decide +kernel
theorem dX7_ofGuest_2 : decode cX7_ofGuest 2 = .ok (.invokevirtual 165, 3) := by decide +kernel
theorem dX7_ofGuest_5 : decode cX7_ofGuest 5 = .ok (.ifCond .eq 5, 3) := by decide +kernel
theorem dX7_ofGuest_8 : decode cX7_ofGuest 8 = .ok (.iconst (-1), 1) := by decide +kernel
theorem dX7_ofGuest_9 : decode cX7_ofGuest 9 = .ok (.ireturn, 1) := by decide +kernel
theorem dX7_ofGuest_10 : decode cX7_ofGuest 10 = .ok (.iload_n 2, 1) := by decide +kernel
theorem dX7_ofGuest_11 : decode cX7_ofGuest 11 = .ok (.ifCond .ne 12, 3) := by decide +kernel
theorem dX7_ofGuest_14 : decode cX7_ofGuest 14 = .ok (.aload_n 0, 1) := by decide +kernel
theorem dX7_ofGuest_15 : decode cX7_ofGuest 15 = .ok (.getfield 22, 3) := by decide +kernel
theorem dX7_ofGuest_18 : decode cX7_ofGuest 18 = .ok (.iload_n 1, 1) := by decide +kernel
theorem dX7_ofGuest_19 : decode cX7_ofGuest 19 = .ok (.iaload, 1) := by decide +kernel
theorem dX7_ofGuest_20 : decode cX7_ofGuest 20 = .ok (.goto 19, 3) := by decide +kernel
theorem dX7_ofGuest_23 : decode cX7_ofGuest 23 = .ok (.iload_n 2, 1) := by decide +kernel
theorem dX7_ofGuest_24 : decode cX7_ofGuest 24 = .ok (.iconst 1, 1) := by decide +kernel
theorem dX7_ofGuest_25 : decode cX7_ofGuest 25 = .ok (.if_icmp .ne 12, 3) := by decide +kernel
theorem dX7_ofGuest_28 : decode cX7_ofGuest 28 = .ok (.aload_n 0, 1) := by decide +kernel
theorem dX7_ofGuest_29 : decode cX7_ofGuest 29 = .ok (.getfield 25, 3) := by decide +kernel
theorem dX7_ofGuest_32 : decode cX7_ofGuest 32 = .ok (.iload_n 1, 1) := by decide +kernel
theorem dX7_ofGuest_33 : decode cX7_ofGuest 33 = .ok (.iaload, 1) := by decide +kernel
theorem dX7_ofGuest_34 : decode cX7_ofGuest 34 = .ok (.goto 5, 3) := by decide +kernel
theorem dX7_ofGuest_37 : decode cX7_ofGuest 37 = .ok (.bipush (-2), 2) := by decide +kernel
theorem dX7_ofGuest_39 : decode cX7_ofGuest 39 = .ok (.ireturn, 1) := by decide +kernel
theorem dX7_ofNight_0 : decode cX7_ofNight 0 = .ok (.aload_n 0, 1) := by decide +kernel
theorem dX7_ofNight_1 : decode cX7_ofNight 1 = .ok (.getfield 86, 3) := by decide +kernel
theorem dX7_ofNight_4 : decode cX7_ofNight 4 = .ok (.ifCond .ne 6, 3) := by decide +kernel
theorem dX7_ofNight_7 : decode cX7_ofNight 7 = .ok (.bipush (-3), 2) := by decide +kernel
theorem dX7_ofNight_9 : decode cX7_ofNight 9 = .ok (.ireturn, 1) := by decide +kernel
theorem dX7_ofNight_10 : decode cX7_ofNight 10 = .ok (.aload_n 0, 1) := by decide +kernel
theorem dX7_ofNight_11 : decode cX7_ofNight 11 = .ok (.iload_n 1, 1) := by decide +kernel
theorem dX7_ofNight_12 : decode cX7_ofNight 12 = .ok (.invokevirtual 168, 3) := by decide +kernel
theorem dX7_ofNight_15 : decode cX7_ofNight 15 = .ok (.ifCond .ne 13, 3) := by decide +kernel
theorem dX7_ofNight_18 : decode cX7_ofNight 18 = .ok (.iload_n 2, 1) := by decide +kernel
theorem dX7_ofNight_19 : decode cX7_ofNight 19 = .ok (.i2l, 1) := by decide +kernel
theorem dX7_ofNight_20 : decode cX7_ofNight 20 = .ok (.lconst 0, 1) := by decide +kernel
theorem dX7_ofNight_21 : decode cX7_ofNight 21 = .ok (.lconst 1, 1) := by decide +kernel
theorem dX7_ofNight_22 : decode cX7_ofNight 22 = .ok (.invokestatic 89, 3) := by decide +kernel
theorem dX7_ofNight_25 : decode cX7_ofNight 25 = .ok (.ifCond .ne 6, 3) := by decide +kernel
theorem dX7_ofNight_28 : decode cX7_ofNight 28 = .ok (.bipush (-2), 2) := by decide +kernel
theorem dX7_ofNight_30 : decode cX7_ofNight 30 = .ok (.ireturn, 1) := by decide +kernel
theorem dX7_ofNight_31 : decode cX7_ofNight 31 = .ok (.iload_n 2, 1) := by decide +kernel
theorem dX7_ofNight_32 : decode cX7_ofNight 32 = .ok (.ifCond .ne 12, 3) := by decide +kernel
theorem dX7_ofNight_35 : decode cX7_ofNight 35 = .ok (.aload_n 0, 1) := by decide +kernel
theorem dX7_ofNight_36 : decode cX7_ofNight 36 = .ok (.getfield 16, 3) := by decide +kernel
theorem dX7_ofNight_39 : decode cX7_ofNight 39 = .ok (.iload_n 1, 1) := by decide +kernel
theorem dX7_ofNight_40 : decode cX7_ofNight 40 = .ok (.iaload, 1) := by decide +kernel
theorem dX7_ofNight_41 : decode cX7_ofNight 41 = .ok (.goto 9, 3) := by decide +kernel
theorem dX7_ofNight_44 : decode cX7_ofNight 44 = .ok (.aload_n 0, 1) := by decide +kernel
theorem dX7_ofNight_45 : decode cX7_ofNight 45 = .ok (.getfield 19, 3) := by decide +kernel
theorem dX7_ofNight_48 : decode cX7_ofNight 48 = .ok (.iload_n 1, 1) := by decide +kernel
theorem dX7_ofNight_49 : decode cX7_ofNight 49 = .ok (.iaload, 1) := by decide +kernel
theorem dX7_ofNight_50 : decode cX7_ofNight 50 = .ok (.ireturn, 1) := by decide +kernel
theorem dX7_rule_0 : decode cX7_rule 0 = .ok (.iload_n 1, 1) := by decide +kernel
theorem dX7_rule_1 : decode cX7_rule 1 = .ok (.i2l, 1) := by decide +kernel
theorem dX7_rule_2 : decode cX7_rule 2 = .ok (.lconst 0, 1) := by decide +kernel
theorem dX7_rule_3 : decode cX7_rule 3 = .ok (.lconst 1, 1) := by decide +kernel
theorem dX7_rule_4 : decode cX7_rule 4 = .ok (.invokestatic 89, 3) := by decide +kernel
theorem dX7_rule_7 : decode cX7_rule 7 = .ok (.ifCond .ne 6, 3) := by decide +kernel
theorem dX7_rule_10 : decode cX7_rule 10 = .ok (.bipush (-2), 2) := by decide +kernel
theorem dX7_rule_12 : decode cX7_rule 12 = .ok (.ireturn, 1) := by decide +kernel
theorem dX7_rule_13 : decode cX7_rule 13 = .ok (.aload_n 0, 1) := by decide +kernel
theorem dX7_rule_14 : decode cX7_rule 14 = .ok (.getfield 86, 3) := by decide +kernel
theorem dX7_rule_17 : decode cX7_rule 17 = .ok (.ifCond .ne 6, 3) := by decide +kernel
theorem dX7_rule_20 : decode cX7_rule 20 = .ok (.bipush (-3), 2) := by decide +kernel
theorem dX7_rule_22 : decode cX7_rule 22 = .ok (.ireturn, 1) := by decide +kernel
theorem dX7_rule_23 : decode cX7_rule 23 = .ok (.aload_n 0, 1) := by decide +kernel
theorem dX7_rule_24 : decode cX7_rule 24 = .ok (.getfield 153, 3) := by decide +kernel
theorem dX7_rule_27 : decode cX7_rule 27 = .ok (.istore_n 2, 1) := by decide +kernel
theorem dX7_rule_28 : decode cX7_rule 28 = .ok (.aload_n 0, 1) := by decide +kernel
theorem dX7_rule_29 : decode cX7_rule 29 = .ok (.iload_n 1, 1) := by decide +kernel
theorem dX7_rule_30 : decode cX7_rule 30 = .ok (.putfield 153, 3) := by decide +kernel
theorem dX7_rule_33 : decode cX7_rule 33 = .ok (.iload_n 2, 1) := by decide +kernel
theorem dX7_rule_34 : decode cX7_rule 34 = .ok (.ireturn, 1) := by decide +kernel
theorem dX7_fall_0 : decode cX7_fall 0 = .ok (.aload_n 0, 1) := by decide +kernel
theorem dX7_fall_1 : decode cX7_fall 1 = .ok (.getfield 86, 3) := by decide +kernel
theorem dX7_fall_4 : decode cX7_fall 4 = .ok (.ifCond .ne 6, 3) := by decide +kernel
theorem dX7_fall_7 : decode cX7_fall 7 = .ok (.bipush (-3), 2) := by decide +kernel
theorem dX7_fall_9 : decode cX7_fall 9 = .ok (.ireturn, 1) := by decide +kernel
theorem dX7_fall_10 : decode cX7_fall 10 = .ok (.aload_n 0, 1) := by decide +kernel
theorem dX7_fall_11 : decode cX7_fall 11 = .ok (.iload_n 1, 1) := by decide +kernel
theorem dX7_fall_12 : decode cX7_fall 12 = .ok (.invokevirtual 168, 3) := by decide +kernel
theorem dX7_fall_15 : decode cX7_fall 15 = .ok (.ifCond .ne 15, 3) := by decide +kernel
theorem dX7_fall_18 : decode cX7_fall 18 = .ok (.iload_n 2, 1) := by decide +kernel
theorem dX7_fall_19 : decode cX7_fall 19 = .ok (.i2l, 1) := by decide +kernel
theorem dX7_fall_20 : decode cX7_fall 20 = .ok (.lconst 0, 1) := by decide +kernel
theorem dX7_fall_21 : decode cX7_fall 21 = .ok (.ldc2_w 171, 3) := by decide +kernel
theorem dX7_fall_24 : decode cX7_fall 24 = .ok (.invokestatic 89, 3) := by decide +kernel
theorem dX7_fall_27 : decode cX7_fall 27 = .ok (.ifCond .ne 6, 3) := by decide +kernel
theorem dX7_fall_30 : decode cX7_fall 30 = .ok (.bipush (-2), 2) := by decide +kernel
theorem dX7_fall_32 : decode cX7_fall 32 = .ok (.ireturn, 1) := by decide +kernel
theorem dX7_fall_33 : decode cX7_fall 33 = .ok (.aload_n 0, 1) := by decide +kernel
theorem dX7_fall_34 : decode cX7_fall 34 = .ok (.getfield 19, 3) := by decide +kernel
theorem dX7_fall_37 : decode cX7_fall 37 = .ok (.iload_n 1, 1) := by decide +kernel
theorem dX7_fall_38 : decode cX7_fall 38 = .ok (.iaload, 1) := by decide +kernel
theorem dX7_fall_39 : decode cX7_fall 39 = .ok (.istore_n 3, 1) := by decide +kernel
theorem dX7_fall_40 : decode cX7_fall 40 = .ok (.aload_n 0, 1) := by decide +kernel
theorem dX7_fall_41 : decode cX7_fall 41 = .ok (.getfield 19, 3) := by decide +kernel
theorem dX7_fall_44 : decode cX7_fall 44 = .ok (.iload_n 1, 1) := by decide +kernel
theorem dX7_fall_45 : decode cX7_fall 45 = .ok (.iload_n 2, 1) := by decide +kernel
theorem dX7_fall_46 : decode cX7_fall 46 = .ok (.iastore, 1) := by decide +kernel
theorem dX7_fall_47 : decode cX7_fall 47 = .ok (.iload_n 3, 1) := by decide +kernel
theorem dX7_fall_48 : decode cX7_fall 48 = .ok (.ireturn, 1) := by decide +kernel
theorem dX7_gust_0 : decode cX7_gust 0 = .ok (.aload_n 0, 1) := by decide +kernel
theorem dX7_gust_1 : decode cX7_gust 1 = .ok (.getfield 86, 3) := by decide +kernel
theorem dX7_gust_4 : decode cX7_gust 4 = .ok (.ifCond .ne 6, 3) := by decide +kernel
theorem dX7_gust_7 : decode cX7_gust 7 = .ok (.bipush (-3), 2) := by decide +kernel
theorem dX7_gust_9 : decode cX7_gust 9 = .ok (.ireturn, 1) := by decide +kernel
theorem dX7_gust_10 : decode cX7_gust 10 = .ok (.aload_n 0, 1) := by decide +kernel
theorem dX7_gust_11 : decode cX7_gust 11 = .ok (.iload_n 1, 1) := by decide +kernel
theorem dX7_gust_12 : decode cX7_gust 12 = .ok (.invokevirtual 168, 3) := by decide +kernel
theorem dX7_gust_15 : decode cX7_gust 15 = .ok (.ifCond .eq 6, 3) := by decide +kernel
theorem dX7_gust_18 : decode cX7_gust 18 = .ok (.bipush (-2), 2) := by decide +kernel
theorem dX7_gust_20 : decode cX7_gust 20 = .ok (.ireturn, 1) := by decide +kernel
theorem dX7_gust_21 : decode cX7_gust 21 = .ok (.aload_n 0, 1) := by decide +kernel
theorem dX7_gust_22 : decode cX7_gust 22 = .ok (.getfield 16, 3) := by decide +kernel
theorem dX7_gust_25 : decode cX7_gust 25 = .ok (.iload_n 1, 1) := by decide +kernel
theorem dX7_gust_26 : decode cX7_gust 26 = .ok (.iaload, 1) := by decide +kernel
theorem dX7_gust_27 : decode cX7_gust 27 = .ok (.iconst 1, 1) := by decide +kernel
theorem dX7_gust_28 : decode cX7_gust 28 = .ok (.if_icmp .ne 7, 3) := by decide +kernel
theorem dX7_gust_31 : decode cX7_gust 31 = .ok (.iconst 1, 1) := by decide +kernel
theorem dX7_gust_32 : decode cX7_gust 32 = .ok (.goto 4, 3) := by decide +kernel
theorem dX7_gust_35 : decode cX7_gust 35 = .ok (.iconst 0, 1) := by decide +kernel
theorem dX7_gust_36 : decode cX7_gust 36 = .ok (.istore_n 3, 1) := by decide +kernel
theorem dX7_gust_37 : decode cX7_gust 37 = .ok (.aload_n 0, 1) := by decide +kernel
theorem dX7_gust_38 : decode cX7_gust 38 = .ok (.getfield 16, 3) := by decide +kernel
theorem dX7_gust_41 : decode cX7_gust 41 = .ok (.iload_n 1, 1) := by decide +kernel
theorem dX7_gust_42 : decode cX7_gust 42 = .ok (.iload_n 2, 1) := by decide +kernel
theorem dX7_gust_43 : decode cX7_gust 43 = .ok (.ifCond .eq 7, 3) := by decide +kernel
theorem dX7_gust_46 : decode cX7_gust 46 = .ok (.iconst 1, 1) := by decide +kernel
theorem dX7_gust_47 : decode cX7_gust 47 = .ok (.goto 4, 3) := by decide +kernel
theorem dX7_gust_50 : decode cX7_gust 50 = .ok (.iconst 0, 1) := by decide +kernel
theorem dX7_gust_51 : decode cX7_gust 51 = .ok (.iastore, 1) := by decide +kernel
theorem dX7_gust_52 : decode cX7_gust 52 = .ok (.iload_n 3, 1) := by decide +kernel
theorem dX7_gust_53 : decode cX7_gust 53 = .ok (.iload_n 2, 1) := by decide +kernel
theorem dX7_gust_54 : decode cX7_gust 54 = .ok (.if_icmp .ne 7, 3) := by decide +kernel
theorem dX7_gust_57 : decode cX7_gust 57 = .ok (.iconst 0, 1) := by decide +kernel
theorem dX7_gust_58 : decode cX7_gust 58 = .ok (.goto 4, 3) := by decide +kernel
theorem dX7_gust_61 : decode cX7_gust 61 = .ok (.iconst 1, 1) := by decide +kernel
theorem dX7_gust_62 : decode cX7_gust 62 = .ok (.ireturn, 1) := by decide +kernel
theorem dX7_lodge_0 : decode cX7_lodge 0 = .ok (.aload_n 0, 1) := by decide +kernel
theorem dX7_lodge_1 : decode cX7_lodge 1 = .ok (.iload_n 1, 1) := by decide +kernel
theorem dX7_lodge_2 : decode cX7_lodge 2 = .ok (.invokevirtual 165, 3) := by decide +kernel
theorem dX7_lodge_5 : decode cX7_lodge 5 = .ok (.ifCond .ne 11, 3) := by decide +kernel
theorem dX7_lodge_8 : decode cX7_lodge 8 = .ok (.aload_n 0, 1) := by decide +kernel
theorem dX7_lodge_9 : decode cX7_lodge 9 = .ok (.iload_n 2, 1) := by decide +kernel
theorem dX7_lodge_10 : decode cX7_lodge 10 = .ok (.invokevirtual 159, 3) := by decide +kernel
theorem dX7_lodge_13 : decode cX7_lodge 13 = .ok (.ifCond .eq 5, 3) := by decide +kernel
theorem dX7_lodge_16 : decode cX7_lodge 16 = .ok (.iconst (-1), 1) := by decide +kernel
theorem dX7_lodge_17 : decode cX7_lodge 17 = .ok (.ireturn, 1) := by decide +kernel
theorem dX7_lodge_18 : decode cX7_lodge 18 = .ok (.aload_n 0, 1) := by decide +kernel
theorem dX7_lodge_19 : decode cX7_lodge 19 = .ok (.getfield 25, 3) := by decide +kernel
theorem dX7_lodge_22 : decode cX7_lodge 22 = .ok (.iload_n 1, 1) := by decide +kernel
theorem dX7_lodge_23 : decode cX7_lodge 23 = .ok (.iaload, 1) := by decide +kernel
theorem dX7_lodge_24 : decode cX7_lodge 24 = .ok (.istore_n 3, 1) := by decide +kernel
theorem dX7_lodge_25 : decode cX7_lodge 25 = .ok (.aload_n 0, 1) := by decide +kernel
theorem dX7_lodge_26 : decode cX7_lodge 26 = .ok (.getfield 25, 3) := by decide +kernel
theorem dX7_lodge_29 : decode cX7_lodge 29 = .ok (.iload_n 1, 1) := by decide +kernel
theorem dX7_lodge_30 : decode cX7_lodge 30 = .ok (.iload_n 2, 1) := by decide +kernel
theorem dX7_lodge_31 : decode cX7_lodge 31 = .ok (.iastore, 1) := by decide +kernel
theorem dX7_lodge_32 : decode cX7_lodge 32 = .ok (.iload_n 3, 1) := by decide +kernel
theorem dX7_lodge_33 : decode cX7_lodge 33 = .ok (.ireturn, 1) := by decide +kernel
theorem dX7_swept_0 : decode cX7_swept 0 = .ok (.iload_n 3, 1) := by decide +kernel
theorem dX7_swept_1 : decode cX7_swept 1 = .ok (.aload_n 0, 1) := by decide +kernel
theorem dX7_swept_2 : decode cX7_swept 2 = .ok (.getfield 13, 3) := by decide +kernel
theorem dX7_swept_5 : decode cX7_swept 5 = .ok (.iload_n 1, 1) := by decide +kernel
theorem dX7_swept_6 : decode cX7_swept 6 = .ok (.iaload, 1) := by decide +kernel
theorem dX7_swept_7 : decode cX7_swept 7 = .ok (.if_icmp .ge 7, 3) := by decide +kernel
theorem dX7_swept_10 : decode cX7_swept 10 = .ok (.iload_n 3, 1) := by decide +kernel
theorem dX7_swept_11 : decode cX7_swept 11 = .ok (.goto 9, 3) := by decide +kernel
theorem dX7_swept_14 : decode cX7_swept 14 = .ok (.aload_n 0, 1) := by decide +kernel
theorem dX7_swept_15 : decode cX7_swept 15 = .ok (.getfield 13, 3) := by decide +kernel
theorem dX7_swept_18 : decode cX7_swept 18 = .ok (.iload_n 1, 1) := by decide +kernel
theorem dX7_swept_19 : decode cX7_swept 19 = .ok (.iaload, 1) := by decide +kernel
theorem dX7_swept_20 : decode cX7_swept 20 = .ok (.istore 4, 2) := by decide +kernel
theorem dX7_swept_22 : decode cX7_swept 22 = .ok (.bipush 9, 2) := by decide +kernel
theorem dX7_swept_24 : decode cX7_swept 24 = .ok (.aload_n 0, 1) := by decide +kernel
theorem dX7_swept_25 : decode cX7_swept 25 = .ok (.getfield 13, 3) := by decide +kernel
theorem dX7_swept_28 : decode cX7_swept 28 = .ok (.iload_n 2, 1) := by decide +kernel
theorem dX7_swept_29 : decode cX7_swept 29 = .ok (.iaload, 1) := by decide +kernel
theorem dX7_swept_30 : decode cX7_swept 30 = .ok (.isub, 1) := by decide +kernel
theorem dX7_swept_31 : decode cX7_swept 31 = .ok (.istore 5, 2) := by decide +kernel
theorem dX7_swept_33 : decode cX7_swept 33 = .ok (.aload_n 0, 1) := by decide +kernel
theorem dX7_swept_34 : decode cX7_swept 34 = .ok (.getfield 13, 3) := by decide +kernel
theorem dX7_swept_37 : decode cX7_swept 37 = .ok (.iload_n 1, 1) := by decide +kernel
theorem dX7_swept_38 : decode cX7_swept 38 = .ok (.dup2, 1) := by decide +kernel
theorem dX7_swept_39 : decode cX7_swept 39 = .ok (.iaload, 1) := by decide +kernel
theorem dX7_swept_40 : decode cX7_swept 40 = .ok (.iload 4, 2) := by decide +kernel
theorem dX7_swept_42 : decode cX7_swept 42 = .ok (.isub, 1) := by decide +kernel
theorem dX7_swept_43 : decode cX7_swept 43 = .ok (.iastore, 1) := by decide +kernel
theorem dX7_swept_44 : decode cX7_swept 44 = .ok (.aload_n 0, 1) := by decide +kernel
theorem dX7_swept_45 : decode cX7_swept 45 = .ok (.getfield 13, 3) := by decide +kernel
theorem dX7_swept_48 : decode cX7_swept 48 = .ok (.iload_n 2, 1) := by decide +kernel
theorem dX7_swept_49 : decode cX7_swept 49 = .ok (.dup2, 1) := by decide +kernel
theorem dX7_swept_50 : decode cX7_swept 50 = .ok (.iaload, 1) := by decide +kernel
theorem dX7_swept_51 : decode cX7_swept 51 = .ok (.iload 4, 2) := by decide +kernel
theorem dX7_swept_53 : decode cX7_swept 53 = .ok (.iload 5, 2) := by decide +kernel
theorem dX7_swept_55 : decode cX7_swept 55 = .ok (.if_icmp .ge 8, 3) := by decide +kernel
theorem dX7_swept_58 : decode cX7_swept 58 = .ok (.iload 4, 2) := by decide +kernel
theorem dX7_swept_60 : decode cX7_swept 60 = .ok (.goto 5, 3) := by decide +kernel
theorem dX7_swept_63 : decode cX7_swept 63 = .ok (.iload 5, 2) := by decide +kernel
theorem dX7_swept_65 : decode cX7_swept 65 = .ok (.iadd, 1) := by decide +kernel
theorem dX7_swept_66 : decode cX7_swept 66 = .ok (.iastore, 1) := by decide +kernel
theorem dX7_swept_67 : decode cX7_swept 67 = .ok (.iload 4, 2) := by decide +kernel
theorem dX7_swept_69 : decode cX7_swept 69 = .ok (.iload 5, 2) := by decide +kernel
theorem dX7_swept_71 : decode cX7_swept 71 = .ok (.if_icmp .ge 8, 3) := by decide +kernel
theorem dX7_swept_74 : decode cX7_swept 74 = .ok (.iload 4, 2) := by decide +kernel
theorem dX7_swept_76 : decode cX7_swept 76 = .ok (.goto 5, 3) := by decide +kernel
theorem dX7_swept_79 : decode cX7_swept 79 = .ok (.iload 5, 2) := by decide +kernel
theorem dX7_swept_81 : decode cX7_swept 81 = .ok (.ireturn, 1) := by decide +kernel
theorem dX7_sweep_0 : decode cX7_sweep 0 = .ok (.iload_n 2, 1) := by decide +kernel
theorem dX7_sweep_1 : decode cX7_sweep 1 = .ok (.ifCond .eq 9, 3) := by decide +kernel
theorem dX7_sweep_4 : decode cX7_sweep 4 = .ok (.iload_n 1, 1) := by decide +kernel
theorem dX7_sweep_5 : decode cX7_sweep 5 = .ok (.iconst 1, 1) := by decide +kernel
theorem dX7_sweep_6 : decode cX7_sweep 6 = .ok (.iadd, 1) := by decide +kernel
theorem dX7_sweep_7 : decode cX7_sweep 7 = .ok (.goto 6, 3) := by decide +kernel
theorem dX7_sweep_10 : decode cX7_sweep 10 = .ok (.iload_n 1, 1) := by decide +kernel
theorem dX7_sweep_11 : decode cX7_sweep 11 = .ok (.iconst 1, 1) := by decide +kernel
theorem dX7_sweep_12 : decode cX7_sweep 12 = .ok (.isub, 1) := by decide +kernel
theorem dX7_sweep_13 : decode cX7_sweep 13 = .ok (.istore 4, 2) := by decide +kernel
theorem dX7_sweep_15 : decode cX7_sweep 15 = .ok (.aload_n 0, 1) := by decide +kernel
theorem dX7_sweep_16 : decode cX7_sweep 16 = .ok (.iload_n 1, 1) := by decide +kernel
theorem dX7_sweep_17 : decode cX7_sweep 17 = .ok (.invokevirtual 159, 3) := by decide +kernel
theorem dX7_sweep_20 : decode cX7_sweep 20 = .ok (.ifCond .ne 12, 3) := by decide +kernel
theorem dX7_sweep_23 : decode cX7_sweep 23 = .ok (.aload_n 0, 1) := by decide +kernel
theorem dX7_sweep_24 : decode cX7_sweep 24 = .ok (.iload 4, 2) := by decide +kernel
theorem dX7_sweep_26 : decode cX7_sweep 26 = .ok (.invokevirtual 159, 3) := by decide +kernel
theorem dX7_sweep_29 : decode cX7_sweep 29 = .ok (.ifCond .eq 5, 3) := by decide +kernel
theorem dX7_sweep_32 : decode cX7_sweep 32 = .ok (.iconst (-1), 1) := by decide +kernel
theorem dX7_sweep_33 : decode cX7_sweep 33 = .ok (.ireturn, 1) := by decide +kernel
theorem dX7_sweep_34 : decode cX7_sweep 34 = .ok (.iload_n 3, 1) := by decide +kernel
theorem dX7_sweep_35 : decode cX7_sweep 35 = .ok (.i2l, 1) := by decide +kernel
theorem dX7_sweep_36 : decode cX7_sweep 36 = .ok (.lconst 0, 1) := by decide +kernel
theorem dX7_sweep_37 : decode cX7_sweep 37 = .ok (.ldc2_w 173, 3) := by decide +kernel
theorem dX7_sweep_40 : decode cX7_sweep 40 = .ok (.invokestatic 89, 3) := by decide +kernel
theorem dX7_sweep_43 : decode cX7_sweep 43 = .ok (.ifCond .eq 14, 3) := by decide +kernel
theorem dX7_sweep_46 : decode cX7_sweep 46 = .ok (.aload_n 0, 1) := by decide +kernel
theorem dX7_sweep_47 : decode cX7_sweep 47 = .ok (.iload_n 1, 1) := by decide +kernel
theorem dX7_sweep_48 : decode cX7_sweep 48 = .ok (.iload 4, 2) := by decide +kernel
theorem dX7_sweep_50 : decode cX7_sweep 50 = .ok (.iload_n 3, 1) := by decide +kernel
theorem dX7_sweep_51 : decode cX7_sweep 51 = .ok (.invokevirtual 175, 3) := by decide +kernel
theorem dX7_sweep_54 : decode cX7_sweep 54 = .ok (.goto 5, 3) := by decide +kernel
theorem dX7_sweep_57 : decode cX7_sweep 57 = .ok (.bipush (-2), 2) := by decide +kernel
theorem dX7_sweep_59 : decode cX7_sweep 59 = .ok (.ireturn, 1) := by decide +kernel
theorem dX7_begin_0 : decode cX7_begin 0 = .ok (.iconst 0, 1) := by decide +kernel
theorem dX7_begin_1 : decode cX7_begin 1 = .ok (.istore_n 1, 1) := by decide +kernel
theorem dX7_begin_2 : decode cX7_begin 2 = .ok (.iload_n 1, 1) := by decide +kernel
theorem dX7_begin_3 : decode cX7_begin 3 = .ok (.aload_n 0, 1) := by decide +kernel
theorem dX7_begin_4 : decode cX7_begin 4 = .ok (.getfield 93, 3) := by decide +kernel
theorem dX7_begin_7 : decode cX7_begin 7 = .ok (.if_icmp .ge 21, 3) := by decide +kernel
theorem dX7_begin_10 : decode cX7_begin 10 = .ok (.aload_n 0, 1) := by decide +kernel
theorem dX7_begin_11 : decode cX7_begin 11 = .ok (.getfield 46, 3) := by decide +kernel
theorem dX7_begin_14 : decode cX7_begin 14 = .ok (.iload_n 1, 1) := by decide +kernel
theorem dX7_begin_15 : decode cX7_begin 15 = .ok (.aload_n 0, 1) := by decide +kernel
theorem dX7_begin_16 : decode cX7_begin 16 = .ok (.getfield 25, 3) := by decide +kernel
theorem dX7_begin_19 : decode cX7_begin 19 = .ok (.iload_n 1, 1) := by decide +kernel
theorem dX7_begin_20 : decode cX7_begin 20 = .ok (.iaload, 1) := by decide +kernel
theorem dX7_begin_21 : decode cX7_begin 21 = .ok (.iastore, 1) := by decide +kernel
theorem dX7_begin_22 : decode cX7_begin 22 = .ok (.iinc 1 1, 3) := by decide +kernel
theorem dX7_begin_25 : decode cX7_begin 25 = .ok (.goto (-23), 3) := by decide +kernel
theorem dX7_begin_28 : decode cX7_begin 28 = .ok (.iconst 0, 1) := by decide +kernel
theorem dX7_begin_29 : decode cX7_begin 29 = .ok (.istore_n 1, 1) := by decide +kernel
theorem dX7_begin_30 : decode cX7_begin 30 = .ok (.iload_n 1, 1) := by decide +kernel
theorem dX7_begin_31 : decode cX7_begin 31 = .ok (.aload_n 0, 1) := by decide +kernel
theorem dX7_begin_32 : decode cX7_begin 32 = .ok (.getfield 86, 3) := by decide +kernel
theorem dX7_begin_35 : decode cX7_begin 35 = .ok (.if_icmp .ge 21, 3) := by decide +kernel
theorem dX7_begin_38 : decode cX7_begin 38 = .ok (.aload_n 0, 1) := by decide +kernel
theorem dX7_begin_39 : decode cX7_begin 39 = .ok (.getfield 49, 3) := by decide +kernel
theorem dX7_begin_42 : decode cX7_begin 42 = .ok (.iload_n 1, 1) := by decide +kernel
theorem dX7_begin_43 : decode cX7_begin 43 = .ok (.aload_n 0, 1) := by decide +kernel
theorem dX7_begin_44 : decode cX7_begin 44 = .ok (.getfield 13, 3) := by decide +kernel
theorem dX7_begin_47 : decode cX7_begin 47 = .ok (.iload_n 1, 1) := by decide +kernel
theorem dX7_begin_48 : decode cX7_begin 48 = .ok (.iaload, 1) := by decide +kernel
theorem dX7_begin_49 : decode cX7_begin 49 = .ok (.iastore, 1) := by decide +kernel
theorem dX7_begin_50 : decode cX7_begin 50 = .ok (.iinc 1 1, 3) := by decide +kernel
theorem dX7_begin_53 : decode cX7_begin 53 = .ok (.goto (-23), 3) := by decide +kernel
theorem dX7_begin_56 : decode cX7_begin 56 = .ok (.aload_n 0, 1) := by decide +kernel
theorem dX7_begin_57 : decode cX7_begin 57 = .ok (.iconst 0, 1) := by decide +kernel
theorem dX7_begin_58 : decode cX7_begin 58 = .ok (.putfield 179, 3) := by decide +kernel
theorem dX7_begin_61 : decode cX7_begin 61 = .ok (.return_, 1) := by decide +kernel
theorem dX7_passOn_0 : decode cX7_passOn 0 = .ok (.aload_n 0, 1) := by decide +kernel
theorem dX7_passOn_1 : decode cX7_passOn 1 = .ok (.iload_n 1, 1) := by decide +kernel
theorem dX7_passOn_2 : decode cX7_passOn 2 = .ok (.aload_n 0, 1) := by decide +kernel
theorem dX7_passOn_3 : decode cX7_passOn 3 = .ok (.getfield 49, 3) := by decide +kernel
theorem dX7_passOn_6 : decode cX7_passOn 6 = .ok (.iload_n 1, 1) := by decide +kernel
theorem dX7_passOn_7 : decode cX7_passOn 7 = .ok (.iaload, 1) := by decide +kernel
theorem dX7_passOn_8 : decode cX7_passOn 8 = .ok (.invokevirtual 162, 3) := by decide +kernel
theorem dX7_passOn_11 : decode cX7_passOn 11 = .ok (.istore_n 3, 1) := by decide +kernel
theorem dX7_passOn_12 : decode cX7_passOn 12 = .ok (.iconst 0, 1) := by decide +kernel
theorem dX7_passOn_13 : decode cX7_passOn 13 = .ok (.istore 4, 2) := by decide +kernel
theorem dX7_passOn_15 : decode cX7_passOn 15 = .ok (.iload 4, 2) := by decide +kernel
theorem dX7_passOn_17 : decode cX7_passOn 17 = .ok (.aload_n 0, 1) := by decide +kernel
theorem dX7_passOn_18 : decode cX7_passOn 18 = .ok (.getfield 93, 3) := by decide +kernel
theorem dX7_passOn_21 : decode cX7_passOn 21 = .ok (.if_icmp .ge 62, 3) := by decide +kernel
theorem dX7_passOn_24 : decode cX7_passOn 24 = .ok (.aload_n 0, 1) := by decide +kernel
theorem dX7_passOn_25 : decode cX7_passOn 25 = .ok (.getfield 153, 3) := by decide +kernel
theorem dX7_passOn_28 : decode cX7_passOn 28 = .ok (.ifCond .ne 8, 3) := by decide +kernel
theorem dX7_passOn_31 : decode cX7_passOn 31 = .ok (.iload 4, 2) := by decide +kernel
theorem dX7_passOn_33 : decode cX7_passOn 33 = .ok (.goto 12, 3) := by decide +kernel
theorem dX7_passOn_36 : decode cX7_passOn 36 = .ok (.aload_n 0, 1) := by decide +kernel
theorem dX7_passOn_37 : decode cX7_passOn 37 = .ok (.getfield 93, 3) := by decide +kernel
theorem dX7_passOn_40 : decode cX7_passOn 40 = .ok (.iconst 1, 1) := by decide +kernel
theorem dX7_passOn_41 : decode cX7_passOn 41 = .ok (.isub, 1) := by decide +kernel
theorem dX7_passOn_42 : decode cX7_passOn 42 = .ok (.iload 4, 2) := by decide +kernel
theorem dX7_passOn_44 : decode cX7_passOn 44 = .ok (.isub, 1) := by decide +kernel
theorem dX7_passOn_45 : decode cX7_passOn 45 = .ok (.istore 5, 2) := by decide +kernel
theorem dX7_passOn_47 : decode cX7_passOn 47 = .ok (.aload_n 0, 1) := by decide +kernel
theorem dX7_passOn_48 : decode cX7_passOn 48 = .ok (.getfield 46, 3) := by decide +kernel
theorem dX7_passOn_51 : decode cX7_passOn 51 = .ok (.iload 5, 2) := by decide +kernel
theorem dX7_passOn_53 : decode cX7_passOn 53 = .ok (.iaload, 1) := by decide +kernel
theorem dX7_passOn_54 : decode cX7_passOn 54 = .ok (.iload_n 1, 1) := by decide +kernel
theorem dX7_passOn_55 : decode cX7_passOn 55 = .ok (.if_icmp .ne 22, 3) := by decide +kernel
theorem dX7_passOn_58 : decode cX7_passOn 58 = .ok (.aload_n 0, 1) := by decide +kernel
theorem dX7_passOn_59 : decode cX7_passOn 59 = .ok (.getfield 46, 3) := by decide +kernel
theorem dX7_passOn_62 : decode cX7_passOn 62 = .ok (.iload 5, 2) := by decide +kernel
theorem dX7_passOn_64 : decode cX7_passOn 64 = .ok (.iload_n 3, 1) := by decide +kernel
theorem dX7_passOn_65 : decode cX7_passOn 65 = .ok (.ifCond .le 7, 3) := by decide +kernel
theorem dX7_passOn_68 : decode cX7_passOn 68 = .ok (.iload_n 1, 1) := by decide +kernel
theorem dX7_passOn_69 : decode cX7_passOn 69 = .ok (.goto 4, 3) := by decide +kernel
theorem dX7_passOn_72 : decode cX7_passOn 72 = .ok (.iload_n 2, 1) := by decide +kernel
theorem dX7_passOn_73 : decode cX7_passOn 73 = .ok (.iastore, 1) := by decide +kernel
theorem dX7_passOn_74 : decode cX7_passOn 74 = .ok (.iinc 3 (-1), 3) := by decide +kernel
theorem dX7_passOn_77 : decode cX7_passOn 77 = .ok (.iinc 4 1, 3) := by decide +kernel
theorem dX7_passOn_80 : decode cX7_passOn 80 = .ok (.goto (-65), 3) := by decide +kernel
theorem dX7_passOn_83 : decode cX7_passOn 83 = .ok (.return_, 1) := by decide +kernel
theorem dX7_goNight_0 : decode cX7_goNight 0 = .ok (.iconst 0, 1) := by decide +kernel
theorem dX7_goNight_1 : decode cX7_goNight 1 = .ok (.istore_n 2, 1) := by decide +kernel
theorem dX7_goNight_2 : decode cX7_goNight 2 = .ok (.iload_n 2, 1) := by decide +kernel
theorem dX7_goNight_3 : decode cX7_goNight 3 = .ok (.aload_n 0, 1) := by decide +kernel
theorem dX7_goNight_4 : decode cX7_goNight 4 = .ok (.getfield 93, 3) := by decide +kernel
theorem dX7_goNight_7 : decode cX7_goNight 7 = .ok (.if_icmp .ge 41, 3) := by decide +kernel
theorem dX7_goNight_10 : decode cX7_goNight 10 = .ok (.aload_n 0, 1) := by decide +kernel
theorem dX7_goNight_11 : decode cX7_goNight 11 = .ok (.getfield 46, 3) := by decide +kernel
theorem dX7_goNight_14 : decode cX7_goNight 14 = .ok (.iload_n 2, 1) := by decide +kernel
theorem dX7_goNight_15 : decode cX7_goNight 15 = .ok (.aload_n 0, 1) := by decide +kernel
theorem dX7_goNight_16 : decode cX7_goNight 16 = .ok (.getfield 46, 3) := by decide +kernel
theorem dX7_goNight_19 : decode cX7_goNight 19 = .ok (.iload_n 2, 1) := by decide +kernel
theorem dX7_goNight_20 : decode cX7_goNight 20 = .ok (.iaload, 1) := by decide +kernel
theorem dX7_goNight_21 : decode cX7_goNight 21 = .ok (.aload_n 0, 1) := by decide +kernel
theorem dX7_goNight_22 : decode cX7_goNight 22 = .ok (.getfield 86, 3) := by decide +kernel
theorem dX7_goNight_25 : decode cX7_goNight 25 = .ok (.if_icmp .ne 10, 3) := by decide +kernel
theorem dX7_goNight_28 : decode cX7_goNight 28 = .ok (.aload_n 0, 1) := by decide +kernel
theorem dX7_goNight_29 : decode cX7_goNight 29 = .ok (.getfield 179, 3) := by decide +kernel
theorem dX7_goNight_32 : decode cX7_goNight 32 = .ok (.goto 9, 3) := by decide +kernel
theorem dX7_goNight_35 : decode cX7_goNight 35 = .ok (.aload_n 0, 1) := by decide +kernel
theorem dX7_goNight_36 : decode cX7_goNight 36 = .ok (.getfield 46, 3) := by decide +kernel
theorem dX7_goNight_39 : decode cX7_goNight 39 = .ok (.iload_n 2, 1) := by decide +kernel
theorem dX7_goNight_40 : decode cX7_goNight 40 = .ok (.iaload, 1) := by decide +kernel
theorem dX7_goNight_41 : decode cX7_goNight 41 = .ok (.iastore, 1) := by decide +kernel
theorem dX7_goNight_42 : decode cX7_goNight 42 = .ok (.iinc 2 1, 3) := by decide +kernel
theorem dX7_goNight_45 : decode cX7_goNight 45 = .ok (.goto (-43), 3) := by decide +kernel
theorem dX7_goNight_48 : decode cX7_goNight 48 = .ok (.iconst 0, 1) := by decide +kernel
theorem dX7_goNight_49 : decode cX7_goNight 49 = .ok (.istore_n 2, 1) := by decide +kernel
theorem dX7_goNight_50 : decode cX7_goNight 50 = .ok (.iload_n 2, 1) := by decide +kernel
theorem dX7_goNight_51 : decode cX7_goNight 51 = .ok (.aload_n 0, 1) := by decide +kernel
theorem dX7_goNight_52 : decode cX7_goNight 52 = .ok (.getfield 86, 3) := by decide +kernel
theorem dX7_goNight_55 : decode cX7_goNight 55 = .ok (.if_icmp .ge 51, 3) := by decide +kernel
theorem dX7_goNight_58 : decode cX7_goNight 58 = .ok (.aload_n 0, 1) := by decide +kernel
theorem dX7_goNight_59 : decode cX7_goNight 59 = .ok (.getfield 49, 3) := by decide +kernel
theorem dX7_goNight_62 : decode cX7_goNight 62 = .ok (.iload_n 2, 1) := by decide +kernel
theorem dX7_goNight_63 : decode cX7_goNight 63 = .ok (.iaload, 1) := by decide +kernel
theorem dX7_goNight_64 : decode cX7_goNight 64 = .ok (.aload_n 0, 1) := by decide +kernel
theorem dX7_goNight_65 : decode cX7_goNight 65 = .ok (.getfield 19, 3) := by decide +kernel
theorem dX7_goNight_68 : decode cX7_goNight 68 = .ok (.iload_n 1, 1) := by decide +kernel
theorem dX7_goNight_69 : decode cX7_goNight 69 = .ok (.iaload, 1) := by decide +kernel
theorem dX7_goNight_70 : decode cX7_goNight 70 = .ok (.iadd, 1) := by decide +kernel
theorem dX7_goNight_71 : decode cX7_goNight 71 = .ok (.iconst 2, 1) := by decide +kernel
theorem dX7_goNight_72 : decode cX7_goNight 72 = .ok (.isub, 1) := by decide +kernel
theorem dX7_goNight_73 : decode cX7_goNight 73 = .ok (.istore_n 3, 1) := by decide +kernel
theorem dX7_goNight_74 : decode cX7_goNight 74 = .ok (.aload_n 0, 1) := by decide +kernel
theorem dX7_goNight_75 : decode cX7_goNight 75 = .ok (.getfield 49, 3) := by decide +kernel
theorem dX7_goNight_78 : decode cX7_goNight 78 = .ok (.iload_n 2, 1) := by decide +kernel
theorem dX7_goNight_79 : decode cX7_goNight 79 = .ok (.iload_n 3, 1) := by decide +kernel
theorem dX7_goNight_80 : decode cX7_goNight 80 = .ok (.ifCond .ge 7, 3) := by decide +kernel
theorem dX7_goNight_83 : decode cX7_goNight 83 = .ok (.iconst 0, 1) := by decide +kernel
theorem dX7_goNight_84 : decode cX7_goNight 84 = .ok (.goto 15, 3) := by decide +kernel
theorem dX7_goNight_87 : decode cX7_goNight 87 = .ok (.iload_n 3, 1) := by decide +kernel
theorem dX7_goNight_88 : decode cX7_goNight 88 = .ok (.bipush 9, 2) := by decide +kernel
theorem dX7_goNight_90 : decode cX7_goNight 90 = .ok (.if_icmp .le 8, 3) := by decide +kernel
theorem dX7_goNight_93 : decode cX7_goNight 93 = .ok (.bipush 9, 2) := by decide +kernel
theorem dX7_goNight_95 : decode cX7_goNight 95 = .ok (.goto 4, 3) := by decide +kernel
theorem dX7_goNight_98 : decode cX7_goNight 98 = .ok (.iload_n 3, 1) := by decide +kernel
theorem dX7_goNight_99 : decode cX7_goNight 99 = .ok (.iastore, 1) := by decide +kernel
theorem dX7_goNight_100 : decode cX7_goNight 100 = .ok (.iinc 2 1, 3) := by decide +kernel
theorem dX7_goNight_103 : decode cX7_goNight 103 = .ok (.goto (-53), 3) := by decide +kernel
theorem dX7_goNight_106 : decode cX7_goNight 106 = .ok (.aload_n 0, 1) := by decide +kernel
theorem dX7_goNight_107 : decode cX7_goNight 107 = .ok (.aload_n 0, 1) := by decide +kernel
theorem dX7_goNight_108 : decode cX7_goNight 108 = .ok (.getfield 16, 3) := by decide +kernel
theorem dX7_goNight_111 : decode cX7_goNight 111 = .ok (.iload_n 1, 1) := by decide +kernel
theorem dX7_goNight_112 : decode cX7_goNight 112 = .ok (.iaload, 1) := by decide +kernel
theorem dX7_goNight_113 : decode cX7_goNight 113 = .ok (.ifCond .ne 12, 3) := by decide +kernel
theorem dX7_goNight_116 : decode cX7_goNight 116 = .ok (.aload_n 0, 1) := by decide +kernel
theorem dX7_goNight_117 : decode cX7_goNight 117 = .ok (.getfield 86, 3) := by decide +kernel
theorem dX7_goNight_120 : decode cX7_goNight 120 = .ok (.iconst 1, 1) := by decide +kernel
theorem dX7_goNight_121 : decode cX7_goNight 121 = .ok (.isub, 1) := by decide +kernel
theorem dX7_goNight_122 : decode cX7_goNight 122 = .ok (.goto 4, 3) := by decide +kernel
theorem dX7_goNight_125 : decode cX7_goNight 125 = .ok (.iconst 0, 1) := by decide +kernel
theorem dX7_goNight_126 : decode cX7_goNight 126 = .ok (.putfield 179, 3) := by decide +kernel
theorem dX7_goNight_129 : decode cX7_goNight 129 = .ok (.iconst 0, 1) := by decide +kernel
theorem dX7_goNight_130 : decode cX7_goNight 130 = .ok (.istore_n 2, 1) := by decide +kernel
theorem dX7_goNight_131 : decode cX7_goNight 131 = .ok (.iload_n 2, 1) := by decide +kernel
theorem dX7_goNight_132 : decode cX7_goNight 132 = .ok (.aload_n 0, 1) := by decide +kernel
theorem dX7_goNight_133 : decode cX7_goNight 133 = .ok (.getfield 86, 3) := by decide +kernel
theorem dX7_goNight_136 : decode cX7_goNight 136 = .ok (.if_icmp .ge 73, 3) := by decide +kernel
theorem dX7_goNight_139 : decode cX7_goNight 139 = .ok (.aload_n 0, 1) := by decide +kernel
theorem dX7_goNight_140 : decode cX7_goNight 140 = .ok (.getfield 16, 3) := by decide +kernel
theorem dX7_goNight_143 : decode cX7_goNight 143 = .ok (.iload_n 1, 1) := by decide +kernel
theorem dX7_goNight_144 : decode cX7_goNight 144 = .ok (.iaload, 1) := by decide +kernel
theorem dX7_goNight_145 : decode cX7_goNight 145 = .ok (.ifCond .ne 7, 3) := by decide +kernel
theorem dX7_goNight_148 : decode cX7_goNight 148 = .ok (.iload_n 2, 1) := by decide +kernel
theorem dX7_goNight_149 : decode cX7_goNight 149 = .ok (.goto 11, 3) := by decide +kernel
theorem dX7_goNight_152 : decode cX7_goNight 152 = .ok (.aload_n 0, 1) := by decide +kernel
theorem dX7_goNight_153 : decode cX7_goNight 153 = .ok (.getfield 86, 3) := by decide +kernel
theorem dX7_goNight_156 : decode cX7_goNight 156 = .ok (.iconst 1, 1) := by decide +kernel
theorem dX7_goNight_157 : decode cX7_goNight 157 = .ok (.isub, 1) := by decide +kernel
theorem dX7_goNight_158 : decode cX7_goNight 158 = .ok (.iload_n 2, 1) := by decide +kernel
theorem dX7_goNight_159 : decode cX7_goNight 159 = .ok (.isub, 1) := by decide +kernel
theorem dX7_goNight_160 : decode cX7_goNight 160 = .ok (.istore_n 3, 1) := by decide +kernel
theorem dX7_goNight_161 : decode cX7_goNight 161 = .ok (.aload_n 0, 1) := by decide +kernel
theorem dX7_goNight_162 : decode cX7_goNight 162 = .ok (.getfield 16, 3) := by decide +kernel
theorem dX7_goNight_165 : decode cX7_goNight 165 = .ok (.iload_n 1, 1) := by decide +kernel
theorem dX7_goNight_166 : decode cX7_goNight 166 = .ok (.iaload, 1) := by decide +kernel
theorem dX7_goNight_167 : decode cX7_goNight 167 = .ok (.ifCond .ne 9, 3) := by decide +kernel
theorem dX7_goNight_170 : decode cX7_goNight 170 = .ok (.iload_n 3, 1) := by decide +kernel
theorem dX7_goNight_171 : decode cX7_goNight 171 = .ok (.iconst 1, 1) := by decide +kernel
theorem dX7_goNight_172 : decode cX7_goNight 172 = .ok (.iadd, 1) := by decide +kernel
theorem dX7_goNight_173 : decode cX7_goNight 173 = .ok (.goto 6, 3) := by decide +kernel
theorem dX7_goNight_176 : decode cX7_goNight 176 = .ok (.iload_n 3, 1) := by decide +kernel
theorem dX7_goNight_177 : decode cX7_goNight 177 = .ok (.iconst 1, 1) := by decide +kernel
theorem dX7_goNight_178 : decode cX7_goNight 178 = .ok (.isub, 1) := by decide +kernel
theorem dX7_goNight_179 : decode cX7_goNight 179 = .ok (.istore 4, 2) := by decide +kernel
theorem dX7_goNight_181 : decode cX7_goNight 181 = .ok (.aload_n 0, 1) := by decide +kernel
theorem dX7_goNight_182 : decode cX7_goNight 182 = .ok (.iload_n 3, 1) := by decide +kernel
theorem dX7_goNight_183 : decode cX7_goNight 183 = .ok (.iload_n 3, 1) := by decide +kernel
theorem dX7_goNight_184 : decode cX7_goNight 184 = .ok (.aload_n 0, 1) := by decide +kernel
theorem dX7_goNight_185 : decode cX7_goNight 185 = .ok (.getfield 179, 3) := by decide +kernel
theorem dX7_goNight_188 : decode cX7_goNight 188 = .ok (.if_icmp .ne 10, 3) := by decide +kernel
theorem dX7_goNight_191 : decode cX7_goNight 191 = .ok (.aload_n 0, 1) := by decide +kernel
theorem dX7_goNight_192 : decode cX7_goNight 192 = .ok (.getfield 86, 3) := by decide +kernel
theorem dX7_goNight_195 : decode cX7_goNight 195 = .ok (.goto 5, 3) := by decide +kernel
theorem dX7_goNight_198 : decode cX7_goNight 198 = .ok (.iload 4, 2) := by decide +kernel
theorem dX7_goNight_200 : decode cX7_goNight 200 = .ok (.invokevirtual 182, 3) := by decide +kernel
theorem dX7_goNight_203 : decode cX7_goNight 203 = .ok (.iinc 2 1, 3) := by decide +kernel
theorem dX7_goNight_206 : decode cX7_goNight 206 = .ok (.goto (-75), 3) := by decide +kernel
theorem dX7_goNight_209 : decode cX7_goNight 209 = .ok (.return_, 1) := by decide +kernel
theorem dX7_goNights_0 : decode cX7_goNights 0 = .ok (.aload_n 0, 1) := by decide +kernel
theorem dX7_goNights_1 : decode cX7_goNights 1 = .ok (.invokevirtual 186, 3) := by decide +kernel
theorem dX7_goNights_4 : decode cX7_goNights 4 = .ok (.iconst 0, 1) := by decide +kernel
theorem dX7_goNights_5 : decode cX7_goNights 5 = .ok (.istore_n 2, 1) := by decide +kernel
theorem dX7_goNights_6 : decode cX7_goNights 6 = .ok (.iload_n 2, 1) := by decide +kernel
theorem dX7_goNights_7 : decode cX7_goNights 7 = .ok (.iload_n 1, 1) := by decide +kernel
theorem dX7_goNights_8 : decode cX7_goNights 8 = .ok (.if_icmp .ge 14, 3) := by decide +kernel
theorem dX7_goNights_11 : decode cX7_goNights 11 = .ok (.aload_n 0, 1) := by decide +kernel
theorem dX7_goNights_12 : decode cX7_goNights 12 = .ok (.iload_n 2, 1) := by decide +kernel
theorem dX7_goNights_13 : decode cX7_goNights 13 = .ok (.invokevirtual 189, 3) := by decide +kernel
theorem dX7_goNights_16 : decode cX7_goNights 16 = .ok (.iinc 2 1, 3) := by decide +kernel
theorem dX7_goNights_19 : decode cX7_goNights 19 = .ok (.goto (-13), 3) := by decide +kernel
theorem dX7_goNights_22 : decode cX7_goNights 22 = .ok (.return_, 1) := by decide +kernel
theorem dX7_inBeds_0 : decode cX7_inBeds 0 = .ok (.iconst 0, 1) := by decide +kernel
theorem dX7_inBeds_1 : decode cX7_inBeds 1 = .ok (.istore_n 2, 1) := by decide +kernel
theorem dX7_inBeds_2 : decode cX7_inBeds 2 = .ok (.iconst 0, 1) := by decide +kernel
theorem dX7_inBeds_3 : decode cX7_inBeds 3 = .ok (.istore_n 3, 1) := by decide +kernel
theorem dX7_inBeds_4 : decode cX7_inBeds 4 = .ok (.iload_n 3, 1) := by decide +kernel
theorem dX7_inBeds_5 : decode cX7_inBeds 5 = .ok (.aload_n 0, 1) := by decide +kernel
theorem dX7_inBeds_6 : decode cX7_inBeds 6 = .ok (.getfield 93, 3) := by decide +kernel
theorem dX7_inBeds_9 : decode cX7_inBeds 9 = .ok (.if_icmp .ge 29, 3) := by decide +kernel
theorem dX7_inBeds_12 : decode cX7_inBeds 12 = .ok (.iload_n 2, 1) := by decide +kernel
theorem dX7_inBeds_13 : decode cX7_inBeds 13 = .ok (.aload_n 0, 1) := by decide +kernel
theorem dX7_inBeds_14 : decode cX7_inBeds 14 = .ok (.getfield 46, 3) := by decide +kernel
theorem dX7_inBeds_17 : decode cX7_inBeds 17 = .ok (.iload_n 3, 1) := by decide +kernel
theorem dX7_inBeds_18 : decode cX7_inBeds 18 = .ok (.iaload, 1) := by decide +kernel
theorem dX7_inBeds_19 : decode cX7_inBeds 19 = .ok (.iload_n 1, 1) := by decide +kernel
theorem dX7_inBeds_20 : decode cX7_inBeds 20 = .ok (.if_icmp .ne 9, 3) := by decide +kernel
theorem dX7_inBeds_23 : decode cX7_inBeds 23 = .ok (.iconst 1, 1) := by decide +kernel
theorem dX7_inBeds_24 : decode cX7_inBeds 24 = .ok (.iload_n 3, 1) := by decide +kernel
theorem dX7_inBeds_25 : decode cX7_inBeds 25 = .ok (.ishl, 1) := by decide +kernel
theorem dX7_inBeds_26 : decode cX7_inBeds 26 = .ok (.goto 4, 3) := by decide +kernel
theorem dX7_inBeds_29 : decode cX7_inBeds 29 = .ok (.iconst 0, 1) := by decide +kernel
theorem dX7_inBeds_30 : decode cX7_inBeds 30 = .ok (.ior, 1) := by decide +kernel
theorem dX7_inBeds_31 : decode cX7_inBeds 31 = .ok (.istore_n 2, 1) := by decide +kernel
theorem dX7_inBeds_32 : decode cX7_inBeds 32 = .ok (.iinc 3 1, 3) := by decide +kernel
theorem dX7_inBeds_35 : decode cX7_inBeds 35 = .ok (.goto (-31), 3) := by decide +kernel
theorem dX7_inBeds_38 : decode cX7_inBeds 38 = .ok (.iload_n 2, 1) := by decide +kernel
theorem dX7_inBeds_39 : decode cX7_inBeds 39 = .ok (.ireturn, 1) := by decide +kernel
theorem dX7_where_0 : decode cX7_where 0 = .ok (.aload_n 0, 1) := by decide +kernel
theorem dX7_where_1 : decode cX7_where 1 = .ok (.iload_n 1, 1) := by decide +kernel
theorem dX7_where_2 : decode cX7_where 2 = .ok (.invokevirtual 165, 3) := by decide +kernel
theorem dX7_where_5 : decode cX7_where 5 = .ok (.ifCond .eq 5, 3) := by decide +kernel
theorem dX7_where_8 : decode cX7_where 8 = .ok (.iconst (-1), 1) := by decide +kernel
theorem dX7_where_9 : decode cX7_where 9 = .ok (.ireturn, 1) := by decide +kernel
theorem dX7_where_10 : decode cX7_where 10 = .ok (.iload_n 2, 1) := by decide +kernel
theorem dX7_where_11 : decode cX7_where 11 = .ok (.i2l, 1) := by decide +kernel
theorem dX7_where_12 : decode cX7_where 12 = .ok (.lconst 0, 1) := by decide +kernel
theorem dX7_where_13 : decode cX7_where 13 = .ok (.aload_n 0, 1) := by decide +kernel
theorem dX7_where_14 : decode cX7_where 14 = .ok (.getfield 96, 3) := by decide +kernel
theorem dX7_where_17 : decode cX7_where 17 = .ok (.i2l, 1) := by decide +kernel
theorem dX7_where_18 : decode cX7_where 18 = .ok (.invokestatic 89, 3) := by decide +kernel
theorem dX7_where_21 : decode cX7_where 21 = .ok (.ifCond .ne 6, 3) := by decide +kernel
theorem dX7_where_24 : decode cX7_where 24 = .ok (.bipush (-2), 2) := by decide +kernel
theorem dX7_where_26 : decode cX7_where 26 = .ok (.ireturn, 1) := by decide +kernel
theorem dX7_where_27 : decode cX7_where 27 = .ok (.aload_n 0, 1) := by decide +kernel
theorem dX7_where_28 : decode cX7_where 28 = .ok (.iload_n 2, 1) := by decide +kernel
theorem dX7_where_29 : decode cX7_where 29 = .ok (.invokevirtual 193, 3) := by decide +kernel
theorem dX7_where_32 : decode cX7_where 32 = .ok (.aload_n 0, 1) := by decide +kernel
theorem dX7_where_33 : decode cX7_where 33 = .ok (.getfield 46, 3) := by decide +kernel
theorem dX7_where_36 : decode cX7_where 36 = .ok (.iload_n 1, 1) := by decide +kernel
theorem dX7_where_37 : decode cX7_where 37 = .ok (.iaload, 1) := by decide +kernel
theorem dX7_where_38 : decode cX7_where 38 = .ok (.ireturn, 1) := by decide +kernel
theorem dX7_deep_0 : decode cX7_deep 0 = .ok (.aload_n 0, 1) := by decide +kernel
theorem dX7_deep_1 : decode cX7_deep 1 = .ok (.iload_n 1, 1) := by decide +kernel
theorem dX7_deep_2 : decode cX7_deep 2 = .ok (.invokevirtual 159, 3) := by decide +kernel
theorem dX7_deep_5 : decode cX7_deep 5 = .ok (.ifCond .eq 5, 3) := by decide +kernel
theorem dX7_deep_8 : decode cX7_deep 8 = .ok (.iconst (-1), 1) := by decide +kernel
theorem dX7_deep_9 : decode cX7_deep 9 = .ok (.ireturn, 1) := by decide +kernel
theorem dX7_deep_10 : decode cX7_deep 10 = .ok (.iload_n 2, 1) := by decide +kernel
theorem dX7_deep_11 : decode cX7_deep 11 = .ok (.i2l, 1) := by decide +kernel
theorem dX7_deep_12 : decode cX7_deep 12 = .ok (.lconst 0, 1) := by decide +kernel
theorem dX7_deep_13 : decode cX7_deep 13 = .ok (.aload_n 0, 1) := by decide +kernel
theorem dX7_deep_14 : decode cX7_deep 14 = .ok (.getfield 96, 3) := by decide +kernel
theorem dX7_deep_17 : decode cX7_deep 17 = .ok (.i2l, 1) := by decide +kernel
theorem dX7_deep_18 : decode cX7_deep 18 = .ok (.invokestatic 89, 3) := by decide +kernel
theorem dX7_deep_21 : decode cX7_deep 21 = .ok (.ifCond .ne 6, 3) := by decide +kernel
theorem dX7_deep_24 : decode cX7_deep 24 = .ok (.bipush (-2), 2) := by decide +kernel
theorem dX7_deep_26 : decode cX7_deep 26 = .ok (.ireturn, 1) := by decide +kernel
theorem dX7_deep_27 : decode cX7_deep 27 = .ok (.aload_n 0, 1) := by decide +kernel
theorem dX7_deep_28 : decode cX7_deep 28 = .ok (.iload_n 2, 1) := by decide +kernel
theorem dX7_deep_29 : decode cX7_deep 29 = .ok (.invokevirtual 193, 3) := by decide +kernel
theorem dX7_deep_32 : decode cX7_deep 32 = .ok (.aload_n 0, 1) := by decide +kernel
theorem dX7_deep_33 : decode cX7_deep 33 = .ok (.getfield 49, 3) := by decide +kernel
theorem dX7_deep_36 : decode cX7_deep 36 = .ok (.iload_n 1, 1) := by decide +kernel
theorem dX7_deep_37 : decode cX7_deep 37 = .ok (.iaload, 1) := by decide +kernel
theorem dX7_deep_38 : decode cX7_deep 38 = .ok (.ireturn, 1) := by decide +kernel
theorem dX7_beds_0 : decode cX7_beds 0 = .ok (.aload_n 0, 1) := by decide +kernel
theorem dX7_beds_1 : decode cX7_beds 1 = .ok (.getfield 86, 3) := by decide +kernel
theorem dX7_beds_4 : decode cX7_beds 4 = .ok (.ifCond .eq 17, 3) := by decide +kernel
theorem dX7_beds_7 : decode cX7_beds 7 = .ok (.iload_n 1, 1) := by decide +kernel
theorem dX7_beds_8 : decode cX7_beds 8 = .ok (.i2l, 1) := by decide +kernel
theorem dX7_beds_9 : decode cX7_beds 9 = .ok (.lconst 0, 1) := by decide +kernel
theorem dX7_beds_10 : decode cX7_beds 10 = .ok (.aload_n 0, 1) := by decide +kernel
theorem dX7_beds_11 : decode cX7_beds 11 = .ok (.getfield 86, 3) := by decide +kernel
theorem dX7_beds_14 : decode cX7_beds 14 = .ok (.i2l, 1) := by decide +kernel
theorem dX7_beds_15 : decode cX7_beds 15 = .ok (.invokestatic 89, 3) := by decide +kernel
theorem dX7_beds_18 : decode cX7_beds 18 = .ok (.ifCond .ne 5, 3) := by decide +kernel
theorem dX7_beds_21 : decode cX7_beds 21 = .ok (.iconst (-1), 1) := by decide +kernel
theorem dX7_beds_22 : decode cX7_beds 22 = .ok (.ireturn, 1) := by decide +kernel
theorem dX7_beds_23 : decode cX7_beds 23 = .ok (.iload_n 2, 1) := by decide +kernel
theorem dX7_beds_24 : decode cX7_beds 24 = .ok (.i2l, 1) := by decide +kernel
theorem dX7_beds_25 : decode cX7_beds 25 = .ok (.lconst 0, 1) := by decide +kernel
theorem dX7_beds_26 : decode cX7_beds 26 = .ok (.aload_n 0, 1) := by decide +kernel
theorem dX7_beds_27 : decode cX7_beds 27 = .ok (.getfield 96, 3) := by decide +kernel
theorem dX7_beds_30 : decode cX7_beds 30 = .ok (.i2l, 1) := by decide +kernel
theorem dX7_beds_31 : decode cX7_beds 31 = .ok (.invokestatic 89, 3) := by decide +kernel
theorem dX7_beds_34 : decode cX7_beds 34 = .ok (.ifCond .ne 6, 3) := by decide +kernel
theorem dX7_beds_37 : decode cX7_beds 37 = .ok (.bipush (-2), 2) := by decide +kernel
theorem dX7_beds_39 : decode cX7_beds 39 = .ok (.ireturn, 1) := by decide +kernel
theorem dX7_beds_40 : decode cX7_beds 40 = .ok (.aload_n 0, 1) := by decide +kernel
theorem dX7_beds_41 : decode cX7_beds 41 = .ok (.iload_n 2, 1) := by decide +kernel
theorem dX7_beds_42 : decode cX7_beds 42 = .ok (.invokevirtual 193, 3) := by decide +kernel
theorem dX7_beds_45 : decode cX7_beds 45 = .ok (.aload_n 0, 1) := by decide +kernel
theorem dX7_beds_46 : decode cX7_beds 46 = .ok (.iload_n 1, 1) := by decide +kernel
theorem dX7_beds_47 : decode cX7_beds 47 = .ok (.invokevirtual 196, 3) := by decide +kernel
theorem dX7_beds_50 : decode cX7_beds 50 = .ok (.ireturn, 1) := by decide +kernel
theorem dX7_list_0 : decode cX7_list 0 = .ok (.iload_n 2, 1) := by decide +kernel
theorem dX7_list_1 : decode cX7_list 1 = .ok (.invokestatic 137, 3) := by decide +kernel
theorem dX7_list_4 : decode cX7_list 4 = .ok (.ifCond .eq 9, 3) := by decide +kernel
theorem dX7_list_7 : decode cX7_list 7 = .ok (.aload_n 0, 1) := by decide +kernel
theorem dX7_list_8 : decode cX7_list 8 = .ok (.iconst (-1), 1) := by decide +kernel
theorem dX7_list_9 : decode cX7_list 9 = .ok (.invokevirtual 141, 3) := by decide +kernel
theorem dX7_list_12 : decode cX7_list 12 = .ok (.ireturn, 1) := by decide +kernel
theorem dX7_list_13 : decode cX7_list 13 = .ok (.iload_n 3, 1) := by decide +kernel
theorem dX7_list_14 : decode cX7_list 14 = .ok (.i2l, 1) := by decide +kernel
theorem dX7_list_15 : decode cX7_list 15 = .ok (.lconst 0, 1) := by decide +kernel
theorem dX7_list_16 : decode cX7_list 16 = .ok (.ldc2_w 144, 3) := by decide +kernel
theorem dX7_list_19 : decode cX7_list 19 = .ok (.invokestatic 89, 3) := by decide +kernel
theorem dX7_list_22 : decode cX7_list 22 = .ok (.ifCond .ne 10, 3) := by decide +kernel
theorem dX7_list_25 : decode cX7_list 25 = .ok (.aload_n 0, 1) := by decide +kernel
theorem dX7_list_26 : decode cX7_list 26 = .ok (.bipush (-2), 2) := by decide +kernel
theorem dX7_list_28 : decode cX7_list 28 = .ok (.invokevirtual 141, 3) := by decide +kernel
theorem dX7_list_31 : decode cX7_list 31 = .ok (.ireturn, 1) := by decide +kernel
theorem dX7_list_32 : decode cX7_list 32 = .ok (.aload_n 0, 1) := by decide +kernel
theorem dX7_list_33 : decode cX7_list 33 = .ok (.getfield 86, 3) := by decide +kernel
theorem dX7_list_36 : decode cX7_list 36 = .ok (.ifCond .ne 10, 3) := by decide +kernel
theorem dX7_list_39 : decode cX7_list 39 = .ok (.aload_n 0, 1) := by decide +kernel
theorem dX7_list_40 : decode cX7_list 40 = .ok (.bipush (-3), 2) := by decide +kernel
theorem dX7_list_42 : decode cX7_list 42 = .ok (.invokevirtual 141, 3) := by decide +kernel
theorem dX7_list_45 : decode cX7_list 45 = .ok (.ireturn, 1) := by decide +kernel
theorem dX7_list_46 : decode cX7_list 46 = .ok (.iload_n 1, 1) := by decide +kernel
theorem dX7_list_47 : decode cX7_list 47 = .ok (.i2l, 1) := by decide +kernel
theorem dX7_list_48 : decode cX7_list 48 = .ok (.lconst 0, 1) := by decide +kernel
theorem dX7_list_49 : decode cX7_list 49 = .ok (.aload_n 0, 1) := by decide +kernel
theorem dX7_list_50 : decode cX7_list 50 = .ok (.getfield 96, 3) := by decide +kernel
theorem dX7_list_53 : decode cX7_list 53 = .ok (.i2l, 1) := by decide +kernel
theorem dX7_list_54 : decode cX7_list 54 = .ok (.invokestatic 89, 3) := by decide +kernel
theorem dX7_list_57 : decode cX7_list 57 = .ok (.ifCond .ne 10, 3) := by decide +kernel
theorem dX7_list_60 : decode cX7_list 60 = .ok (.aload_n 0, 1) := by decide +kernel
theorem dX7_list_61 : decode cX7_list 61 = .ok (.bipush (-2), 2) := by decide +kernel
theorem dX7_list_63 : decode cX7_list 63 = .ok (.invokevirtual 141, 3) := by decide +kernel
theorem dX7_list_66 : decode cX7_list 66 = .ok (.ireturn, 1) := by decide +kernel
theorem dX7_list_67 : decode cX7_list 67 = .ok (.aload_n 0, 1) := by decide +kernel
theorem dX7_list_68 : decode cX7_list 68 = .ok (.iload_n 2, 1) := by decide +kernel
theorem dX7_list_69 : decode cX7_list 69 = .ok (.iload_n 3, 1) := by decide +kernel
theorem dX7_list_70 : decode cX7_list 70 = .ok (.iload 4, 2) := by decide +kernel
theorem dX7_list_72 : decode cX7_list 72 = .ok (.iload 5, 2) := by decide +kernel
theorem dX7_list_74 : decode cX7_list 74 = .ok (.i2l, 1) := by decide +kernel
theorem dX7_list_75 : decode cX7_list 75 = .ok (.invokevirtual 146, 3) := by decide +kernel
theorem dX7_list_78 : decode cX7_list 78 = .ok (.istore 6, 2) := by decide +kernel
theorem dX7_list_80 : decode cX7_list 80 = .ok (.iload 6, 2) := by decide +kernel
theorem dX7_list_82 : decode cX7_list 82 = .ok (.ifCond .ge 6, 3) := by decide +kernel
theorem dX7_list_85 : decode cX7_list 85 = .ok (.iload 6, 2) := by decide +kernel
theorem dX7_list_87 : decode cX7_list 87 = .ok (.ireturn, 1) := by decide +kernel
theorem dX7_list_88 : decode cX7_list 88 = .ok (.iload 5, 2) := by decide +kernel
theorem dX7_list_90 : decode cX7_list 90 = .ok (.aload_n 0, 1) := by decide +kernel
theorem dX7_list_91 : decode cX7_list 91 = .ok (.getfield 93, 3) := by decide +kernel
theorem dX7_list_94 : decode cX7_list 94 = .ok (.if_icmp .le 10, 3) := by decide +kernel
theorem dX7_list_97 : decode cX7_list 97 = .ok (.aload_n 0, 1) := by decide +kernel
theorem dX7_list_98 : decode cX7_list 98 = .ok (.bipush (-2), 2) := by decide +kernel
theorem dX7_list_100 : decode cX7_list 100 = .ok (.invokevirtual 141, 3) := by decide +kernel
theorem dX7_list_103 : decode cX7_list 103 = .ok (.ireturn, 1) := by decide +kernel
theorem dX7_list_104 : decode cX7_list 104 = .ok (.aload_n 0, 1) := by decide +kernel
theorem dX7_list_105 : decode cX7_list 105 = .ok (.iload_n 1, 1) := by decide +kernel
theorem dX7_list_106 : decode cX7_list 106 = .ok (.invokevirtual 193, 3) := by decide +kernel
theorem dX7_list_109 : decode cX7_list 109 = .ok (.iconst 0, 1) := by decide +kernel
theorem dX7_list_110 : decode cX7_list 110 = .ok (.istore 7, 2) := by decide +kernel
theorem dX7_list_112 : decode cX7_list 112 = .ok (.iload 7, 2) := by decide +kernel
theorem dX7_list_114 : decode cX7_list 114 = .ok (.iload 5, 2) := by decide +kernel
theorem dX7_list_116 : decode cX7_list 116 = .ok (.if_icmp .ge 41, 3) := by decide +kernel
theorem dX7_list_119 : decode cX7_list 119 = .ok (.aload_n 0, 1) := by decide +kernel
theorem dX7_list_120 : decode cX7_list 120 = .ok (.getfield 67, 3) := by decide +kernel
theorem dX7_list_123 : decode cX7_list 123 = .ok (.bipush 60, 2) := by decide +kernel
theorem dX7_list_125 : decode cX7_list 125 = .ok (.iload_n 2, 1) := by decide +kernel
theorem dX7_list_126 : decode cX7_list 126 = .ok (.imul, 1) := by decide +kernel
theorem dX7_list_127 : decode cX7_list 127 = .ok (.iload 4, 2) := by decide +kernel
theorem dX7_list_129 : decode cX7_list 129 = .ok (.iadd, 1) := by decide +kernel
theorem dX7_list_130 : decode cX7_list 130 = .ok (.iload 7, 2) := by decide +kernel
theorem dX7_list_132 : decode cX7_list 132 = .ok (.iadd, 1) := by decide +kernel
theorem dX7_list_133 : decode cX7_list 133 = .ok (.iaload, 1) := by decide +kernel
theorem dX7_list_134 : decode cX7_list 134 = .ok (.aload_n 0, 1) := by decide +kernel
theorem dX7_list_135 : decode cX7_list 135 = .ok (.getfield 46, 3) := by decide +kernel
theorem dX7_list_138 : decode cX7_list 138 = .ok (.iload 7, 2) := by decide +kernel
theorem dX7_list_140 : decode cX7_list 140 = .ok (.iaload, 1) := by decide +kernel
theorem dX7_list_141 : decode cX7_list 141 = .ok (.if_icmp .eq 10, 3) := by decide +kernel
theorem dX7_list_144 : decode cX7_list 144 = .ok (.aload_n 0, 1) := by decide +kernel
