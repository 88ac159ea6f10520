theorem dX5_innsThatCork_25 : decode cX5_innsThatCork 25 = .ok (.getfield 27, 3) := by decide +kernel
theorem dX5_innsThatCork_28 : decode cX5_innsThatCork 28 = .ok (.getfield 41, 3) := by decide +kernel
theorem dX5_innsThatCork_31 : decode cX5_innsThatCork 31 = .ok (.if_icmp .ge 34, 3) := by decide +kernel
theorem dX5_innsThatCork_34 : decode cX5_innsThatCork 34 = .ok (.aload_n 0, 1) := by decide +kernel
theorem dX5_innsThatCork_35 : decode cX5_innsThatCork 35 = .ok (.getfield 12, 3) := by decide +kernel
theorem dX5_innsThatCork_38 : decode cX5_innsThatCork 38 = .ok (.iload 4, 2) := by decide +kernel
theorem dX5_innsThatCork_40 : decode cX5_innsThatCork 40 = .ok (.putfield 71, 3) := by decide +kernel
theorem dX5_innsThatCork_43 : decode cX5_innsThatCork 43 = .ok (.aload_n 0, 1) := by decide +kernel
theorem dX5_innsThatCork_44 : decode cX5_innsThatCork 44 = .ok (.iload_n 1, 1) := by decide +kernel
theorem dX5_innsThatCork_45 : decode cX5_innsThatCork 45 = .ok (.invokevirtual 67, 3) := by decide +kernel
theorem dX5_innsThatCork_48 : decode cX5_innsThatCork 48 = .ok (.iload_n 2, 1) := by decide +kernel
theorem dX5_innsThatCork_49 : decode cX5_innsThatCork 49 = .ok (.if_icmp .ge 10, 3) := by decide +kernel
theorem dX5_innsThatCork_52 : decode cX5_innsThatCork 52 = .ok (.iload_n 3, 1) := by decide +kernel
theorem dX5_innsThatCork_53 : decode cX5_innsThatCork 53 = .ok (.iconst 1, 1) := by decide +kernel
theorem dX5_innsThatCork_54 : decode cX5_innsThatCork 54 = .ok (.iload 4, 2) := by decide +kernel
theorem dX5_innsThatCork_56 : decode cX5_innsThatCork 56 = .ok (.ishl, 1) := by decide +kernel
theorem dX5_innsThatCork_57 : decode cX5_innsThatCork 57 = .ok (.ior, 1) := by decide +kernel
theorem dX5_innsThatCork_58 : decode cX5_innsThatCork 58 = .ok (.istore_n 3, 1) := by decide +kernel
theorem dX5_innsThatCork_59 : decode cX5_innsThatCork 59 = .ok (.iinc 4 1, 3) := by decide +kernel
theorem dX5_innsThatCork_62 : decode cX5_innsThatCork 62 = .ok (.goto (-40), 3) := by decide +kernel
theorem dX5_innsThatCork_65 : decode cX5_innsThatCork 65 = .ok (.iload_n 3, 1) := by decide +kernel
theorem dX5_innsThatCork_66 : decode cX5_innsThatCork 66 = .ok (.ireturn, 1) := by decide +kernel
theorem dX5_manyOnRoad_0 : decode cX5_manyOnRoad 0 = .ok (.aload_n 0, 1) := by decide +kernel
theorem dX5_manyOnRoad_1 : decode cX5_manyOnRoad 1 = .ok (.getfield 23, 3) := by decide +kernel
theorem dX5_manyOnRoad_4 : decode cX5_manyOnRoad 4 = .ok (.iload_n 1, 1) := by decide +kernel
theorem dX5_manyOnRoad_5 : decode cX5_manyOnRoad 5 = .ok (.iconst 1, 1) := by decide +kernel
theorem dX5_manyOnRoad_6 : decode cX5_manyOnRoad 6 = .ok (.iadd, 1) := by decide +kernel
theorem dX5_manyOnRoad_7 : decode cX5_manyOnRoad 7 = .ok (.invokevirtual 74, 3) := by decide +kernel
theorem dX5_manyOnRoad_10 : decode cX5_manyOnRoad 10 = .ok (.aload_n 0, 1) := by decide +kernel
theorem dX5_manyOnRoad_11 : decode cX5_manyOnRoad 11 = .ok (.getfield 23, 3) := by decide +kernel
theorem dX5_manyOnRoad_14 : decode cX5_manyOnRoad 14 = .ok (.iload_n 1, 1) := by decide +kernel
theorem dX5_manyOnRoad_15 : decode cX5_manyOnRoad 15 = .ok (.iconst 1, 1) := by decide +kernel
theorem dX5_manyOnRoad_16 : decode cX5_manyOnRoad 16 = .ok (.iadd, 1) := by decide +kernel
theorem dX5_manyOnRoad_17 : decode cX5_manyOnRoad 17 = .ok (.invokevirtual 78, 3) := by decide +kernel
theorem dX5_manyOnRoad_20 : decode cX5_manyOnRoad 20 = .ok (.invokestatic 81, 3) := by decide +kernel
theorem dX5_manyOnRoad_23 : decode cX5_manyOnRoad 23 = .ok (.ireturn, 1) := by decide +kernel
theorem dX5_rulesThatFit_0 : decode cX5_rulesThatFit 0 = .ok (.aload_n 0, 1) := by decide +kernel
theorem dX5_rulesThatFit_1 : decode cX5_rulesThatFit 1 = .ok (.getfield 12, 3) := by decide +kernel
theorem dX5_rulesThatFit_4 : decode cX5_rulesThatFit 4 = .ok (.aload_n 0, 1) := by decide +kernel
theorem dX5_rulesThatFit_5 : decode cX5_rulesThatFit 5 = .ok (.getfield 27, 3) := by decide +kernel
theorem dX5_rulesThatFit_8 : decode cX5_rulesThatFit 8 = .ok (.invokevirtual 34, 3) := by decide +kernel
theorem dX5_rulesThatFit_11 : decode cX5_rulesThatFit 11 = .ok (.iconst 0, 1) := by decide +kernel
theorem dX5_rulesThatFit_12 : decode cX5_rulesThatFit 12 = .ok (.istore_n 1, 1) := by decide +kernel
theorem dX5_rulesThatFit_13 : decode cX5_rulesThatFit 13 = .ok (.iconst 0, 1) := by decide +kernel
theorem dX5_rulesThatFit_14 : decode cX5_rulesThatFit 14 = .ok (.istore_n 2, 1) := by decide +kernel
theorem dX5_rulesThatFit_15 : decode cX5_rulesThatFit 15 = .ok (.iload_n 2, 1) := by decide +kernel
theorem dX5_rulesThatFit_16 : decode cX5_rulesThatFit 16 = .ok (.iconst 2, 1) := by decide +kernel
theorem dX5_rulesThatFit_17 : decode cX5_rulesThatFit 17 = .ok (.if_icmp .ge 25, 3) := by decide +kernel
theorem dX5_rulesThatFit_20 : decode cX5_rulesThatFit 20 = .ok (.aload_n 0, 1) := by decide +kernel
theorem dX5_rulesThatFit_21 : decode cX5_rulesThatFit 21 = .ok (.getfield 12, 3) := by decide +kernel
theorem dX5_rulesThatFit_24 : decode cX5_rulesThatFit 24 = .ok (.iload_n 2, 1) := by decide +kernel
theorem dX5_rulesThatFit_25 : decode cX5_rulesThatFit 25 = .ok (.putfield 86, 3) := by decide +kernel
theorem dX5_rulesThatFit_28 : decode cX5_rulesThatFit 28 = .ok (.iload_n 1, 1) := by decide +kernel
theorem dX5_rulesThatFit_29 : decode cX5_rulesThatFit 29 = .ok (.aload_n 0, 1) := by decide +kernel
theorem dX5_rulesThatFit_30 : decode cX5_rulesThatFit 30 = .ok (.iload_n 2, 1) := by decide +kernel
theorem dX5_rulesThatFit_31 : decode cX5_rulesThatFit 31 = .ok (.invokevirtual 89, 3) := by decide +kernel
theorem dX5_rulesThatFit_34 : decode cX5_rulesThatFit 34 = .ok (.ior, 1) := by decide +kernel
theorem dX5_rulesThatFit_35 : decode cX5_rulesThatFit 35 = .ok (.istore_n 1, 1) := by decide +kernel
theorem dX5_rulesThatFit_36 : decode cX5_rulesThatFit 36 = .ok (.iinc 2 1, 3) := by decide +kernel
theorem dX5_rulesThatFit_39 : decode cX5_rulesThatFit 39 = .ok (.goto (-24), 3) := by decide +kernel
theorem dX5_rulesThatFit_42 : decode cX5_rulesThatFit 42 = .ok (.iload_n 1, 1) := by decide +kernel
theorem dX5_rulesThatFit_43 : decode cX5_rulesThatFit 43 = .ok (.ireturn, 1) := by decide +kernel
theorem dX5_kindsThatFit_0 : decode cX5_kindsThatFit 0 = .ok (.aload_n 0, 1) := by decide +kernel
theorem dX5_kindsThatFit_1 : decode cX5_kindsThatFit 1 = .ok (.getfield 12, 3) := by decide +kernel
theorem dX5_kindsThatFit_4 : decode cX5_kindsThatFit 4 = .ok (.aload_n 0, 1) := by decide +kernel
theorem dX5_kindsThatFit_5 : decode cX5_kindsThatFit 5 = .ok (.getfield 27, 3) := by decide +kernel
theorem dX5_kindsThatFit_8 : decode cX5_kindsThatFit 8 = .ok (.invokevirtual 34, 3) := by decide +kernel
theorem dX5_kindsThatFit_11 : decode cX5_kindsThatFit 11 = .ok (.iconst 0, 1) := by decide +kernel
theorem dX5_kindsThatFit_12 : decode cX5_kindsThatFit 12 = .ok (.istore_n 2, 1) := by decide +kernel
theorem dX5_kindsThatFit_13 : decode cX5_kindsThatFit 13 = .ok (.iconst 0, 1) := by decide +kernel
theorem dX5_kindsThatFit_14 : decode cX5_kindsThatFit 14 = .ok (.istore_n 3, 1) := by decide +kernel
theorem dX5_kindsThatFit_15 : decode cX5_kindsThatFit 15 = .ok (.iload_n 3, 1) := by decide +kernel
theorem dX5_kindsThatFit_16 : decode cX5_kindsThatFit 16 = .ok (.iconst 3, 1) := by decide +kernel
theorem dX5_kindsThatFit_17 : decode cX5_kindsThatFit 17 = .ok (.if_icmp .ge 27, 3) := by decide +kernel
theorem dX5_kindsThatFit_20 : decode cX5_kindsThatFit 20 = .ok (.aload_n 0, 1) := by decide +kernel
theorem dX5_kindsThatFit_21 : decode cX5_kindsThatFit 21 = .ok (.getfield 12, 3) := by decide +kernel
theorem dX5_kindsThatFit_24 : decode cX5_kindsThatFit 24 = .ok (.getfield 92, 3) := by decide +kernel
theorem dX5_kindsThatFit_27 : decode cX5_kindsThatFit 27 = .ok (.iload_n 1, 1) := by decide +kernel
theorem dX5_kindsThatFit_28 : decode cX5_kindsThatFit 28 = .ok (.iload_n 3, 1) := by decide +kernel
theorem dX5_kindsThatFit_29 : decode cX5_kindsThatFit 29 = .ok (.iastore, 1) := by decide +kernel
theorem dX5_kindsThatFit_30 : decode cX5_kindsThatFit 30 = .ok (.iload_n 2, 1) := by decide +kernel
theorem dX5_kindsThatFit_31 : decode cX5_kindsThatFit 31 = .ok (.aload_n 0, 1) := by decide +kernel
theorem dX5_kindsThatFit_32 : decode cX5_kindsThatFit 32 = .ok (.iload_n 3, 1) := by decide +kernel
theorem dX5_kindsThatFit_33 : decode cX5_kindsThatFit 33 = .ok (.invokevirtual 89, 3) := by decide +kernel
theorem dX5_kindsThatFit_36 : decode cX5_kindsThatFit 36 = .ok (.ior, 1) := by decide +kernel
theorem dX5_kindsThatFit_37 : decode cX5_kindsThatFit 37 = .ok (.istore_n 2, 1) := by decide +kernel
theorem dX5_kindsThatFit_38 : decode cX5_kindsThatFit 38 = .ok (.iinc 3 1, 3) := by decide +kernel
theorem dX5_kindsThatFit_41 : decode cX5_kindsThatFit 41 = .ok (.goto (-26), 3) := by decide +kernel
theorem dX5_kindsThatFit_44 : decode cX5_kindsThatFit 44 = .ok (.iload_n 2, 1) := by decide +kernel
theorem dX5_kindsThatFit_45 : decode cX5_kindsThatFit 45 = .ok (.ireturn, 1) := by decide +kernel
theorem dX5_depthsThatFit_0 : decode cX5_depthsThatFit 0 = .ok (.aload_n 0, 1) := by decide +kernel
theorem dX5_depthsThatFit_1 : decode cX5_depthsThatFit 1 = .ok (.getfield 12, 3) := by decide +kernel
theorem dX5_depthsThatFit_4 : decode cX5_depthsThatFit 4 = .ok (.aload_n 0, 1) := by decide +kernel
theorem dX5_depthsThatFit_5 : decode cX5_depthsThatFit 5 = .ok (.getfield 27, 3) := by decide +kernel
theorem dX5_depthsThatFit_8 : decode cX5_depthsThatFit 8 = .ok (.invokevirtual 34, 3) := by decide +kernel
theorem dX5_depthsThatFit_11 : decode cX5_depthsThatFit 11 = .ok (.iconst 0, 1) := by decide +kernel
theorem dX5_depthsThatFit_12 : decode cX5_depthsThatFit 12 = .ok (.istore_n 2, 1) := by decide +kernel
theorem dX5_depthsThatFit_13 : decode cX5_depthsThatFit 13 = .ok (.iconst 0, 1) := by decide +kernel
theorem dX5_depthsThatFit_14 : decode cX5_depthsThatFit 14 = .ok (.istore_n 3, 1) := by decide +kernel
theorem dX5_depthsThatFit_15 : decode cX5_depthsThatFit 15 = .ok (.iload_n 3, 1) := by decide +kernel
theorem dX5_depthsThatFit_16 : decode cX5_depthsThatFit 16 = .ok (.bipush 9, 2) := by decide +kernel
theorem dX5_depthsThatFit_18 : decode cX5_depthsThatFit 18 = .ok (.if_icmp .gt 27, 3) := by decide +kernel
theorem dX5_depthsThatFit_21 : decode cX5_depthsThatFit 21 = .ok (.aload_n 0, 1) := by decide +kernel
theorem dX5_depthsThatFit_22 : decode cX5_depthsThatFit 22 = .ok (.getfield 12, 3) := by decide +kernel
theorem dX5_depthsThatFit_25 : decode cX5_depthsThatFit 25 = .ok (.getfield 52, 3) := by decide +kernel
theorem dX5_depthsThatFit_28 : decode cX5_depthsThatFit 28 = .ok (.iload_n 1, 1) := by decide +kernel
theorem dX5_depthsThatFit_29 : decode cX5_depthsThatFit 29 = .ok (.iload_n 3, 1) := by decide +kernel
theorem dX5_depthsThatFit_30 : decode cX5_depthsThatFit 30 = .ok (.iastore, 1) := by decide +kernel
theorem dX5_depthsThatFit_31 : decode cX5_depthsThatFit 31 = .ok (.iload_n 2, 1) := by decide +kernel
theorem dX5_depthsThatFit_32 : decode cX5_depthsThatFit 32 = .ok (.aload_n 0, 1) := by decide +kernel
theorem dX5_depthsThatFit_33 : decode cX5_depthsThatFit 33 = .ok (.iload_n 3, 1) := by decide +kernel
theorem dX5_depthsThatFit_34 : decode cX5_depthsThatFit 34 = .ok (.invokevirtual 89, 3) := by decide +kernel
theorem dX5_depthsThatFit_37 : decode cX5_depthsThatFit 37 = .ok (.ior, 1) := by decide +kernel
theorem dX5_depthsThatFit_38 : decode cX5_depthsThatFit 38 = .ok (.istore_n 2, 1) := by decide +kernel
theorem dX5_depthsThatFit_39 : decode cX5_depthsThatFit 39 = .ok (.iinc 3 1, 3) := by decide +kernel
theorem dX5_depthsThatFit_42 : decode cX5_depthsThatFit 42 = .ok (.goto (-27), 3) := by decide +kernel
theorem dX5_depthsThatFit_45 : decode cX5_depthsThatFit 45 = .ok (.iload_n 2, 1) := by decide +kernel
theorem dX5_depthsThatFit_46 : decode cX5_depthsThatFit 46 = .ok (.ireturn, 1) := by decide +kernel
theorem dX5_fallsThatFit_0 : decode cX5_fallsThatFit 0 = .ok (.aload_n 0, 1) := by decide +kernel
theorem dX5_fallsThatFit_1 : decode cX5_fallsThatFit 1 = .ok (.getfield 12, 3) := by decide +kernel
theorem dX5_fallsThatFit_4 : decode cX5_fallsThatFit 4 = .ok (.aload_n 0, 1) := by decide +kernel
theorem dX5_fallsThatFit_5 : decode cX5_fallsThatFit 5 = .ok (.getfield 27, 3) := by decide +kernel
theorem dX5_fallsThatFit_8 : decode cX5_fallsThatFit 8 = .ok (.invokevirtual 34, 3) := by decide +kernel
theorem dX5_fallsThatFit_11 : decode cX5_fallsThatFit 11 = .ok (.iconst 0, 1) := by decide +kernel
theorem dX5_fallsThatFit_12 : decode cX5_fallsThatFit 12 = .ok (.istore_n 2, 1) := by decide +kernel
theorem dX5_fallsThatFit_13 : decode cX5_fallsThatFit 13 = .ok (.iconst 0, 1) := by decide +kernel
theorem dX5_fallsThatFit_14 : decode cX5_fallsThatFit 14 = .ok (.istore_n 3, 1) := by decide +kernel
theorem dX5_fallsThatFit_15 : decode cX5_fallsThatFit 15 = .ok (.iload_n 3, 1) := by decide +kernel
theorem dX5_fallsThatFit_16 : decode cX5_fallsThatFit 16 = .ok (.iconst 5, 1) := by decide +kernel
theorem dX5_fallsThatFit_17 : decode cX5_fallsThatFit 17 = .ok (.if_icmp .gt 27, 3) := by decide +kernel
theorem dX5_fallsThatFit_20 : decode cX5_fallsThatFit 20 = .ok (.aload_n 0, 1) := by decide +kernel
theorem dX5_fallsThatFit_21 : decode cX5_fallsThatFit 21 = .ok (.getfield 12, 3) := by decide +kernel
theorem dX5_fallsThatFit_24 : decode cX5_fallsThatFit 24 = .ok (.getfield 95, 3) := by decide +kernel
theorem dX5_fallsThatFit_27 : decode cX5_fallsThatFit 27 = .ok (.iload_n 1, 1) := by decide +kernel
theorem dX5_fallsThatFit_28 : decode cX5_fallsThatFit 28 = .ok (.iload_n 3, 1) := by decide +kernel
theorem dX5_fallsThatFit_29 : decode cX5_fallsThatFit 29 = .ok (.iastore, 1) := by decide +kernel
theorem dX5_fallsThatFit_30 : decode cX5_fallsThatFit 30 = .ok (.iload_n 2, 1) := by decide +kernel
theorem dX5_fallsThatFit_31 : decode cX5_fallsThatFit 31 = .ok (.aload_n 0, 1) := by decide +kernel
theorem dX5_fallsThatFit_32 : decode cX5_fallsThatFit 32 = .ok (.iload_n 3, 1) := by decide +kernel
theorem dX5_fallsThatFit_33 : decode cX5_fallsThatFit 33 = .ok (.invokevirtual 89, 3) := by decide +kernel
theorem dX5_fallsThatFit_36 : decode cX5_fallsThatFit 36 = .ok (.ior, 1) := by decide +kernel
theorem dX5_fallsThatFit_37 : decode cX5_fallsThatFit 37 = .ok (.istore_n 2, 1) := by decide +kernel
theorem dX5_fallsThatFit_38 : decode cX5_fallsThatFit 38 = .ok (.iinc 3 1, 3) := by decide +kernel
theorem dX5_fallsThatFit_41 : decode cX5_fallsThatFit 41 = .ok (.goto (-26), 3) := by decide +kernel
theorem dX5_fallsThatFit_44 : decode cX5_fallsThatFit 44 = .ok (.iload_n 2, 1) := by decide +kernel
theorem dX5_fallsThatFit_45 : decode cX5_fallsThatFit 45 = .ok (.ireturn, 1) := by decide +kernel
theorem dX5_bitIfFit_0 : decode cX5_bitIfFit 0 = .ok (.aload_n 0, 1) := by decide +kernel
theorem dX5_bitIfFit_1 : decode cX5_bitIfFit 1 = .ok (.getfield 23, 3) := by decide +kernel
theorem dX5_bitIfFit_4 : decode cX5_bitIfFit 4 = .ok (.aload_n 0, 1) := by decide +kernel
theorem dX5_bitIfFit_5 : decode cX5_bitIfFit 5 = .ok (.getfield 12, 3) := by decide +kernel
theorem dX5_bitIfFit_8 : decode cX5_bitIfFit 8 = .ok (.getfield 98, 3) := by decide +kernel
theorem dX5_bitIfFit_11 : decode cX5_bitIfFit 11 = .ok (.invokevirtual 74, 3) := by decide +kernel
theorem dX5_bitIfFit_14 : decode cX5_bitIfFit 14 = .ok (.aload_n 0, 1) := by decide +kernel
theorem dX5_bitIfFit_15 : decode cX5_bitIfFit 15 = .ok (.getfield 30, 3) := by decide +kernel
theorem dX5_bitIfFit_18 : decode cX5_bitIfFit 18 = .ok (.aload_n 0, 1) := by decide +kernel
theorem dX5_bitIfFit_19 : decode cX5_bitIfFit 19 = .ok (.getfield 23, 3) := by decide +kernel
theorem dX5_bitIfFit_22 : decode cX5_bitIfFit 22 = .ok (.invokevirtual 100, 3) := by decide +kernel
theorem dX5_bitIfFit_25 : decode cX5_bitIfFit 25 = .ok (.ifCond .eq 9, 3) := by decide +kernel
theorem dX5_bitIfFit_28 : decode cX5_bitIfFit 28 = .ok (.iconst 1, 1) := by decide +kernel
theorem dX5_bitIfFit_29 : decode cX5_bitIfFit 29 = .ok (.iload_n 1, 1) := by decide +kernel
theorem dX5_bitIfFit_30 : decode cX5_bitIfFit 30 = .ok (.ishl, 1) := by decide +kernel
theorem dX5_bitIfFit_31 : decode cX5_bitIfFit 31 = .ok (.goto 4, 3) := by decide +kernel
theorem dX5_bitIfFit_34 : decode cX5_bitIfFit 34 = .ok (.iconst 0, 1) := by decide +kernel
theorem dX5_bitIfFit_35 : decode cX5_bitIfFit 35 = .ok (.ireturn, 1) := by decide +kernel
theorem dX5_windsThatMeet_0 : decode cX5_windsThatMeet 0 = .ok (.aload_n 0, 1) := by decide +kernel
theorem dX5_windsThatMeet_1 : decode cX5_windsThatMeet 1 = .ok (.getfield 12, 3) := by decide +kernel
theorem dX5_windsThatMeet_4 : decode cX5_windsThatMeet 4 = .ok (.aload_n 0, 1) := by decide +kernel
theorem dX5_windsThatMeet_5 : decode cX5_windsThatMeet 5 = .ok (.getfield 27, 3) := by decide +kernel
theorem dX5_windsThatMeet_8 : decode cX5_windsThatMeet 8 = .ok (.invokevirtual 34, 3) := by decide +kernel
theorem dX5_windsThatMeet_11 : decode cX5_windsThatMeet 11 = .ok (.aload_n 0, 1) := by decide +kernel
theorem dX5_windsThatMeet_12 : decode cX5_windsThatMeet 12 = .ok (.getfield 23, 3) := by decide +kernel
theorem dX5_windsThatMeet_15 : decode cX5_windsThatMeet 15 = .ok (.invokevirtual 106, 3) := by decide +kernel
theorem dX5_windsThatMeet_18 : decode cX5_windsThatMeet 18 = .ok (.aload_n 0, 1) := by decide +kernel
theorem dX5_windsThatMeet_19 : decode cX5_windsThatMeet 19 = .ok (.getfield 23, 3) := by decide +kernel
theorem dX5_windsThatMeet_22 : decode cX5_windsThatMeet 22 = .ok (.iload_n 1, 1) := by decide +kernel
theorem dX5_windsThatMeet_23 : decode cX5_windsThatMeet 23 = .ok (.iconst 0, 1) := by decide +kernel
theorem dX5_windsThatMeet_24 : decode cX5_windsThatMeet 24 = .ok (.iload_n 2, 1) := by decide +kernel
theorem dX5_windsThatMeet_25 : decode cX5_windsThatMeet 25 = .ok (.invokestatic 109, 3) := by decide +kernel
theorem dX5_windsThatMeet_28 : decode cX5_windsThatMeet 28 = .ok (.ireturn, 1) := by decide +kernel
theorem dX5_meetingWinds_0 : decode cX5_meetingWinds 0 = .ok (.iload_n 2, 1) := by decide +kernel
theorem dX5_meetingWinds_1 : decode cX5_meetingWinds 1 = .ok (.iload_n 3, 1) := by decide +kernel
theorem dX5_meetingWinds_2 : decode cX5_meetingWinds 2 = .ok (.if_icmp .lt 5, 3) := by decide +kernel
theorem dX5_meetingWinds_5 : decode cX5_meetingWinds 5 = .ok (.iconst 0, 1) := by decide +kernel
theorem dX5_meetingWinds_6 : decode cX5_meetingWinds 6 = .ok (.ireturn, 1) := by decide +kernel
theorem dX5_meetingWinds_7 : decode cX5_meetingWinds 7 = .ok (.iconst 0, 1) := by decide +kernel
theorem dX5_meetingWinds_8 : decode cX5_meetingWinds 8 = .ok (.istore 4, 2) := by decide +kernel
theorem dX5_meetingWinds_10 : decode cX5_meetingWinds 10 = .ok (.iconst 0, 1) := by decide +kernel
theorem dX5_meetingWinds_11 : decode cX5_meetingWinds 11 = .ok (.istore 5, 2) := by decide +kernel
theorem dX5_meetingWinds_13 : decode cX5_meetingWinds 13 = .ok (.iload 5, 2) := by decide +kernel
theorem dX5_meetingWinds_15 : decode cX5_meetingWinds 15 = .ok (.iconst 2, 1) := by decide +kernel
theorem dX5_meetingWinds_16 : decode cX5_meetingWinds 16 = .ok (.if_icmp .ge 51, 3) := by decide +kernel
theorem dX5_meetingWinds_19 : decode cX5_meetingWinds 19 = .ok (.aload_n 0, 1) := by decide +kernel
theorem dX5_meetingWinds_20 : decode cX5_meetingWinds 20 = .ok (.iload_n 2, 1) := by decide +kernel
theorem dX5_meetingWinds_21 : decode cX5_meetingWinds 21 = .ok (.iload 5, 2) := by decide +kernel
theorem dX5_meetingWinds_23 : decode cX5_meetingWinds 23 = .ok (.invokevirtual 113, 3) := by decide +kernel
theorem dX5_meetingWinds_26 : decode cX5_meetingWinds 26 = .ok (.iload 4, 2) := by decide +kernel
theorem dX5_meetingWinds_28 : decode cX5_meetingWinds 28 = .ok (.aload_n 0, 1) := by decide +kernel
theorem dX5_meetingWinds_29 : decode cX5_meetingWinds 29 = .ok (.iload_n 1, 1) := by decide +kernel
theorem dX5_meetingWinds_30 : decode cX5_meetingWinds 30 = .ok (.iload_n 2, 1) := by decide +kernel
theorem dX5_meetingWinds_31 : decode cX5_meetingWinds 31 = .ok (.iconst 1, 1) := by decide +kernel
theorem dX5_meetingWinds_32 : decode cX5_meetingWinds 32 = .ok (.iadd, 1) := by decide +kernel
theorem dX5_meetingWinds_33 : decode cX5_meetingWinds 33 = .ok (.invokevirtual 117, 3) := by decide +kernel
theorem dX5_meetingWinds_36 : decode cX5_meetingWinds 36 = .ok (.ifCond .eq 13, 3) := by decide +kernel
theorem dX5_meetingWinds_39 : decode cX5_meetingWinds 39 = .ok (.iconst 1, 1) := by decide +kernel
theorem dX5_meetingWinds_40 : decode cX5_meetingWinds 40 = .ok (.iload_n 3, 1) := by decide +kernel
theorem dX5_meetingWinds_41 : decode cX5_meetingWinds 41 = .ok (.iload_n 2, 1) := by decide +kernel
theorem dX5_meetingWinds_42 : decode cX5_meetingWinds 42 = .ok (.isub, 1) := by decide +kernel
theorem dX5_meetingWinds_43 : decode cX5_meetingWinds 43 = .ok (.iconst 1, 1) := by decide +kernel
theorem dX5_meetingWinds_44 : decode cX5_meetingWinds 44 = .ok (.isub, 1) := by decide +kernel
theorem dX5_meetingWinds_45 : decode cX5_meetingWinds 45 = .ok (.ishl, 1) := by decide +kernel
theorem dX5_meetingWinds_46 : decode cX5_meetingWinds 46 = .ok (.goto 12, 3) := by decide +kernel
theorem dX5_meetingWinds_49 : decode cX5_meetingWinds 49 = .ok (.aload_n 0, 1) := by decide +kernel
theorem dX5_meetingWinds_50 : decode cX5_meetingWinds 50 = .ok (.iload_n 1, 1) := by decide +kernel
theorem dX5_meetingWinds_51 : decode cX5_meetingWinds 51 = .ok (.iload_n 2, 1) := by decide +kernel
theorem dX5_meetingWinds_52 : decode cX5_meetingWinds 52 = .ok (.iconst 1, 1) := by decide +kernel
theorem dX5_meetingWinds_53 : decode cX5_meetingWinds 53 = .ok (.iadd, 1) := by decide +kernel
theorem dX5_meetingWinds_54 : decode cX5_meetingWinds 54 = .ok (.iload_n 3, 1) := by decide +kernel
theorem dX5_meetingWinds_55 : decode cX5_meetingWinds 55 = .ok (.invokestatic 109, 3) := by decide +kernel
theorem dX5_meetingWinds_58 : decode cX5_meetingWinds 58 = .ok (.iadd, 1) := by decide +kernel
theorem dX5_meetingWinds_59 : decode cX5_meetingWinds 59 = .ok (.istore 4, 2) := by decide +kernel
theorem dX5_meetingWinds_61 : decode cX5_meetingWinds 61 = .ok (.iinc 5 1, 3) := by decide +kernel
theorem dX5_meetingWinds_64 : decode cX5_meetingWinds 64 = .ok (.goto (-51), 3) := by decide +kernel
theorem dX5_meetingWinds_67 : decode cX5_meetingWinds 67 = .ok (.iload 4, 2) := by decide +kernel
theorem dX5_meetingWinds_69 : decode cX5_meetingWinds 69 = .ok (.ireturn, 1) := by decide +kernel
theorem dX6_init_0 : decode cX6_init 0 = .ok (.aload_n 0, 1) := by decide +kernel
theorem dX6_init_1 : decode cX6_init 1 = .ok (.invokespecial 3, 3) := by decide +kernel
theorem dX6_init_4 : decode cX6_init 4 = .ok (.aload_n 0, 1) := by decide +kernel
theorem dX6_init_5 : decode cX6_init 5 = .ok (.iconst 4, 1) := by decide +kernel
theorem dX6_init_6 : decode cX6_init 6 = .ok (.anewarray 11, 3) := by decide +kernel
theorem dX6_init_9 : decode cX6_init 9 = .ok (.putfield 13, 3) := by decide +kernel
theorem dX6_init_12 : decode cX6_init 12 = .ok (.aload_n 0, 1) := by decide +kernel
theorem dX6_init_13 : decode cX6_init 13 = .ok (.new 17, 3) := by decide +kernel
theorem dX6_init_16 : decode cX6_init 16 = .ok (.dup, 1) := by decide +kernel
theorem dX6_init_17 : decode cX6_init 17 = .ok (.invokespecial 19, 3) := by decide +kernel
theorem dX6_init_20 : decode cX6_init 20 = .ok (.putfield 20, 3) := by decide +kernel
theorem dX6_init_23 : decode cX6_init 23 = .ok (.aload_n 0, 1) := by decide +kernel
theorem dX6_init_24 : decode cX6_init 24 = .ok (.new 17, 3) := by decide +kernel
theorem dX6_init_27 : decode cX6_init 27 = .ok (.dup, 1) := by decide +kernel
theorem dX6_init_28 : decode cX6_init 28 = .ok (.invokespecial 19, 3) := by decide +kernel
theorem dX6_init_31 : decode cX6_init 31 = .ok (.putfield 24, 3) := by decide +kernel
theorem dX6_init_34 : decode cX6_init 34 = .ok (.aload_n 0, 1) := by decide +kernel
theorem dX6_init_35 : decode cX6_init 35 = .ok (.new 27, 3) := by decide +kernel
theorem dX6_init_38 : decode cX6_init 38 = .ok (.dup, 1) := by decide +kernel
theorem dX6_init_39 : decode cX6_init 39 = .ok (.aload_n 0, 1) := by decide +kernel
theorem dX6_init_40 : decode cX6_init 40 = .ok (.getfield 20, 3) := by decide +kernel
theorem dX6_init_43 : decode cX6_init 43 = .ok (.invokespecial 29, 3) := by decide +kernel
theorem dX6_init_46 : decode cX6_init 46 = .ok (.putfield 32, 3) := by decide +kernel
theorem dX6_init_49 : decode cX6_init 49 = .ok (.aload_n 0, 1) := by decide +kernel
theorem dX6_init_50 : decode cX6_init 50 = .ok (.new 36, 3) := by decide +kernel
theorem dX6_init_53 : decode cX6_init 53 = .ok (.dup, 1) := by decide +kernel
theorem dX6_init_54 : decode cX6_init 54 = .ok (.invokespecial 38, 3) := by decide +kernel
theorem dX6_init_57 : decode cX6_init 57 = .ok (.putfield 39, 3) := by decide +kernel
theorem dX6_init_60 : decode cX6_init 60 = .ok (.aload_n 0, 1) := by decide +kernel
theorem dX6_init_61 : decode cX6_init 61 = .ok (.new 43, 3) := by decide +kernel
theorem dX6_init_64 : decode cX6_init 64 = .ok (.dup, 1) := by decide +kernel
theorem dX6_init_65 : decode cX6_init 65 = .ok (.aload_n 0, 1) := by decide +kernel
theorem dX6_init_66 : decode cX6_init 66 = .ok (.getfield 20, 3) := by decide +kernel
theorem dX6_init_69 : decode cX6_init 69 = .ok (.aload_n 0, 1) := by decide +kernel
theorem dX6_init_70 : decode cX6_init 70 = .ok (.getfield 39, 3) := by decide +kernel
theorem dX6_init_73 : decode cX6_init 73 = .ok (.invokespecial 45, 3) := by decide +kernel
theorem dX6_init_76 : decode cX6_init 76 = .ok (.putfield 48, 3) := by decide +kernel
theorem dX6_init_79 : decode cX6_init 79 = .ok (.aload_n 0, 1) := by decide +kernel
theorem dX6_init_80 : decode cX6_init 80 = .ok (.iconst 0, 1) := by decide +kernel
theorem dX6_init_81 : decode cX6_init 81 = .ok (.putfield 52, 3) := by decide +kernel
theorem dX6_init_84 : decode cX6_init 84 = .ok (.aload_n 0, 1) := by decide +kernel
theorem dX6_init_85 : decode cX6_init 85 = .ok (.iconst 0, 1) := by decide +kernel
theorem dX6_init_86 : decode cX6_init 86 = .ok (.putfield 56, 3) := by decide +kernel
theorem dX6_init_89 : decode cX6_init 89 = .ok (.iconst 0, 1) := by decide +kernel
theorem dX6_init_90 : decode cX6_init 90 = .ok (.istore_n 1, 1) := by decide +kernel
theorem dX6_init_91 : decode cX6_init 91 = .ok (.iload_n 1, 1) := by decide +kernel
theorem dX6_init_92 : decode cX6_init 92 = .ok (.iconst 4, 1) := by decide +kernel
theorem dX6_init_93 : decode cX6_init 93 = .ok (.if_icmp .ge 22, 3) := by decide +kernel
theorem dX6_init_96 : decode cX6_init 96 = .ok (.aload_n 0, 1) := by decide +kernel
theorem dX6_init_97 : decode cX6_init 97 = .ok (.getfield 13, 3) := by decide +kernel
theorem dX6_init_100 : decode cX6_init 100 = .ok (.iload_n 1, 1) := by decide +kernel
theorem dX6_init_101 : decode cX6_init 101 = .ok (.new 11, 3) := by decide +kernel
theorem dX6_init_104 : decode cX6_init 104 = .ok (.dup, 1) := by decide +kernel
theorem dX6_init_105 : decode cX6_init 105 = .ok (.invokespecial 59, 3) := by decide +kernel
theorem dX6_init_108 : decode cX6_init 108 = .ok (.aastore, 1) := by decide +kernel
theorem dX6_init_109 : decode cX6_init 109 = .ok (.iinc 1 1, 3) := by decide +kernel
theorem dX6_init_112 : decode cX6_init 112 = .ok (.goto (-21), 3) := by decide +kernel
theorem dX6_init_115 : decode cX6_init 115 = .ok (.return_, 1) := by decide +kernel
theorem dX6_ridge_0 : decode cX6_ridge 0 = .ok (.aload_n 0, 1) := by decide +kernel
theorem dX6_ridge_1 : decode cX6_ridge 1 = .ok (.iconst 0, 1) := by decide +kernel
theorem dX6_ridge_2 : decode cX6_ridge 2 = .ok (.putfield 52, 3) := by decide +kernel
theorem dX6_ridge_5 : decode cX6_ridge 5 = .ok (.iload_n 1, 1) := by decide +kernel
theorem dX6_ridge_6 : decode cX6_ridge 6 = .ok (.invokestatic 60, 3) := by decide +kernel
theorem dX6_ridge_9 : decode cX6_ridge 9 = .ok (.ifCond .ne 5, 3) := by decide +kernel
theorem dX6_ridge_12 : decode cX6_ridge 12 = .ok (.iconst (-1), 1) := by decide +kernel
theorem dX6_ridge_13 : decode cX6_ridge 13 = .ok (.ireturn, 1) := by decide +kernel
theorem dX6_ridge_14 : decode cX6_ridge 14 = .ok (.iload_n 2, 1) := by decide +kernel
theorem dX6_ridge_15 : decode cX6_ridge 15 = .ok (.invokestatic 64, 3) := by decide +kernel
theorem dX6_ridge_18 : decode cX6_ridge 18 = .ok (.ifCond .ne 6, 3) := by decide +kernel
theorem dX6_ridge_21 : decode cX6_ridge 21 = .ok (.bipush (-2), 2) := by decide +kernel
theorem dX6_ridge_23 : decode cX6_ridge 23 = .ok (.ireturn, 1) := by decide +kernel
theorem dX6_ridge_24 : decode cX6_ridge 24 = .ok (.aload_n 0, 1) := by decide +kernel
theorem dX6_ridge_25 : decode cX6_ridge 25 = .ok (.getfield 13, 3) := by decide +kernel
theorem dX6_ridge_28 : decode cX6_ridge 28 = .ok (.iload_n 1, 1) := by decide +kernel
theorem dX6_ridge_29 : decode cX6_ridge 29 = .ok (.aaload, 1) := by decide +kernel
theorem dX6_ridge_30 : decode cX6_ridge 30 = .ok (.iload_n 2, 1) := by decide +kernel
theorem dX6_ridge_31 : decode cX6_ridge 31 = .ok (.iload_n 3, 1) := by decide +kernel
theorem dX6_ridge_32 : decode cX6_ridge 32 = .ok (.iload 4, 2) := by decide +kernel
theorem dX6_ridge_34 : decode cX6_ridge 34 = .ok (.invokevirtual 67, 3) := by decide +kernel
theorem dX6_ridge_37 : decode cX6_ridge 37 = .ok (.istore 5, 2) := by decide +kernel
theorem dX6_ridge_39 : decode cX6_ridge 39 = .ok (.iload 5, 2) := by decide +kernel
theorem dX6_ridge_41 : decode cX6_ridge 41 = .ok (.ifCond .eq 10, 3) := by decide +kernel
theorem dX6_ridge_44 : decode cX6_ridge 44 = .ok (.aload_n 0, 1) := by decide +kernel
theorem dX6_ridge_45 : decode cX6_ridge 45 = .ok (.iload 5, 2) := by decide +kernel
theorem dX6_ridge_47 : decode cX6_ridge 47 = .ok (.invokevirtual 71, 3) := by decide +kernel
theorem dX6_ridge_50 : decode cX6_ridge 50 = .ok (.ireturn, 1) := by decide +kernel
theorem dX6_ridge_51 : decode cX6_ridge 51 = .ok (.new 75, 3) := by decide +kernel
theorem dX6_ridge_54 : decode cX6_ridge 54 = .ok (.dup, 1) := by decide +kernel
theorem dX6_ridge_55 : decode cX6_ridge 55 = .ok (.aload_n 0, 1) := by decide +kernel
theorem dX6_ridge_56 : decode cX6_ridge 56 = .ok (.getfield 13, 3) := by decide +kernel
theorem dX6_ridge_59 : decode cX6_ridge 59 = .ok (.iload_n 1, 1) := by decide +kernel
theorem dX6_ridge_60 : decode cX6_ridge 60 = .ok (.aaload, 1) := by decide +kernel
theorem dX6_ridge_61 : decode cX6_ridge 61 = .ok (.iload_n 3, 1) := by decide +kernel
theorem dX6_ridge_62 : decode cX6_ridge 62 = .ok (.iload 4, 2) := by decide +kernel
theorem dX6_ridge_64 : decode cX6_ridge 64 = .ok (.invokespecial 77, 3) := by decide +kernel
theorem dX6_ridge_67 : decode cX6_ridge 67 = .ok (.astore 6, 2) := by decide +kernel
theorem dX6_ridge_69 : decode cX6_ridge 69 = .ok (.aload 6, 2) := by decide +kernel
theorem dX6_ridge_71 : decode cX6_ridge 71 = .ok (.aload_n 0, 1) := by decide +kernel
theorem dX6_ridge_72 : decode cX6_ridge 72 = .ok (.getfield 24, 3) := by decide +kernel
theorem dX6_ridge_75 : decode cX6_ridge 75 = .ok (.invokevirtual 80, 3) := by decide +kernel
theorem dX6_ridge_78 : decode cX6_ridge 78 = .ok (.ifCond .ne 12, 3) := by decide +kernel
theorem dX6_ridge_81 : decode cX6_ridge 81 = .ok (.bipush (-100), 2) := by decide +kernel
theorem dX6_ridge_83 : decode cX6_ridge 83 = .ok (.aload 6, 2) := by decide +kernel
theorem dX6_ridge_85 : decode cX6_ridge 85 = .ok (.invokevirtual 84, 3) := by decide +kernel
theorem dX6_ridge_88 : decode cX6_ridge 88 = .ok (.isub, 1) := by decide +kernel
theorem dX6_ridge_89 : decode cX6_ridge 89 = .ok (.ireturn, 1) := by decide +kernel
theorem dX6_ridge_90 : decode cX6_ridge 90 = .ok (.aload_n 0, 1) := by decide +kernel
theorem dX6_ridge_91 : decode cX6_ridge 91 = .ok (.getfield 20, 3) := by decide +kernel
theorem dX6_ridge_94 : decode cX6_ridge 94 = .ok (.aload_n 0, 1) := by decide +kernel
theorem dX6_ridge_95 : decode cX6_ridge 95 = .ok (.getfield 24, 3) := by decide +kernel
theorem dX6_ridge_98 : decode cX6_ridge 98 = .ok (.invokevirtual 88, 3) := by decide +kernel
theorem dX6_ridge_101 : decode cX6_ridge 101 = .ok (.aload_n 0, 1) := by decide +kernel
theorem dX6_ridge_102 : decode cX6_ridge 102 = .ok (.getfield 39, 3) := by decide +kernel
theorem dX6_ridge_105 : decode cX6_ridge 105 = .ok (.invokevirtual 91, 3) := by decide +kernel
theorem dX6_ridge_108 : decode cX6_ridge 108 = .ok (.aload_n 0, 1) := by decide +kernel
theorem dX6_ridge_109 : decode cX6_ridge 109 = .ok (.getfield 20, 3) := by decide +kernel
theorem dX6_ridge_112 : decode cX6_ridge 112 = .ok (.getfield 94, 3) := by decide +kernel
theorem dX6_ridge_115 : decode cX6_ridge 115 = .ok (.ireturn, 1) := by decide +kernel
theorem dX6_ofInn_0 : decode cX6_ofInn 0 = .ok (.aload_n 0, 1) := by decide +kernel
theorem dX6_ofInn_1 : decode cX6_ofInn 1 = .ok (.getfield 20, 3) := by decide +kernel
theorem dX6_ofInn_4 : decode cX6_ofInn 4 = .ok (.iload_n 1, 1) := by decide +kernel
theorem dX6_ofInn_5 : decode cX6_ofInn 5 = .ok (.invokevirtual 97, 3) := by decide +kernel
theorem dX6_ofInn_8 : decode cX6_ofInn 8 = .ok (.ifCond .ne 5, 3) := by decide +kernel
theorem dX6_ofInn_11 : decode cX6_ofInn 11 = .ok (.iconst (-1), 1) := by decide +kernel
theorem dX6_ofInn_12 : decode cX6_ofInn 12 = .ok (.ireturn, 1) := by decide +kernel
theorem dX6_ofInn_13 : decode cX6_ofInn 13 = .ok (.iload_n 2, 1) := by decide +kernel
theorem dX6_ofInn_14 : decode cX6_ofInn 14 = .ok (.tableswitch 64 0 2 #[26, 36, 46], 26) := by decide +kernel
theorem dX6_ofInn_40 : decode cX6_ofInn 40 = .ok (.aload_n 0, 1) := by decide +kernel
theorem dX6_ofInn_41 : decode cX6_ofInn 41 = .ok (.getfield 20, 3) := by decide +kernel
theorem dX6_ofInn_44 : decode cX6_ofInn 44 = .ok (.getfield 100, 3) := by decide +kernel
theorem dX6_ofInn_47 : decode cX6_ofInn 47 = .ok (.iload_n 1, 1) := by decide +kernel
theorem dX6_ofInn_48 : decode cX6_ofInn 48 = .ok (.iaload, 1) := by decide +kernel
theorem dX6_ofInn_49 : decode cX6_ofInn 49 = .ok (.ireturn, 1) := by decide +kernel
theorem dX6_ofInn_50 : decode cX6_ofInn 50 = .ok (.aload_n 0, 1) := by decide +kernel
theorem dX6_ofInn_51 : decode cX6_ofInn 51 = .ok (.getfield 20, 3) := by decide +kernel
theorem dX6_ofInn_54 : decode cX6_ofInn 54 = .ok (.getfield 104, 3) := by decide +kernel
theorem dX6_ofInn_57 : decode cX6_ofInn 57 = .ok (.iload_n 1, 1) := by decide +kernel
theorem dX6_ofInn_58 : decode cX6_ofInn 58 = .ok (.iaload, 1) := by decide +kernel
theorem dX6_ofInn_59 : decode cX6_ofInn 59 = .ok (.ireturn, 1) := by decide +kernel
theorem dX6_ofInn_60 : decode cX6_ofInn 60 = .ok (.aload_n 0, 1) := by decide +kernel
theorem dX6_ofInn_61 : decode cX6_ofInn 61 = .ok (.getfield 20, 3) := by decide +kernel
theorem dX6_ofInn_64 : decode cX6_ofInn 64 = .ok (.iload_n 1, 1) := by decide +kernel
theorem dX6_ofInn_65 : decode cX6_ofInn 65 = .ok (.aload_n 0, 1) := by decide +kernel
theorem dX6_ofInn_66 : decode cX6_ofInn 66 = .ok (.getfield 20, 3) := by decide +kernel
theorem dX6_ofInn_69 : decode cX6_ofInn 69 = .ok (.getfield 104, 3) := by decide +kernel
theorem dX6_ofInn_72 : decode cX6_ofInn 72 = .ok (.iload_n 1, 1) := by decide +kernel
theorem dX6_ofInn_73 : decode cX6_ofInn 73 = .ok (.iaload, 1) := by decide +kernel
theorem dX6_ofInn_74 : decode cX6_ofInn 74 = .ok (.invokevirtual 107, 3) := by decide +kernel
theorem dX6_ofInn_77 : decode cX6_ofInn 77 = .ok (.ireturn, 1) := by decide +kernel
theorem dX6_ofInn_78 : decode cX6_ofInn 78 = .ok (.bipush (-2), 2) := by decide +kernel
theorem dX6_ofInn_80 : decode cX6_ofInn 80 = .ok (.ireturn, 1) := by decide +kernel
theorem dX6_ofGuest_0 : decode cX6_ofGuest 0 = .ok (.aload_n 0, 1) := by decide +kernel
theorem dX6_ofGuest_1 : decode cX6_ofGuest 1 = .ok (.getfield 20, 3) := by decide +kernel
theorem dX6_ofGuest_4 : decode cX6_ofGuest 4 = .ok (.iload_n 1, 1) := by decide +kernel
theorem dX6_ofGuest_5 : decode cX6_ofGuest 5 = .ok (.invokevirtual 111, 3) := by decide +kernel
theorem dX6_ofGuest_8 : decode cX6_ofGuest 8 = .ok (.ifCond .ne 5, 3) := by decide +kernel
theorem dX6_ofGuest_11 : decode cX6_ofGuest 11 = .ok (.iconst (-1), 1) := by decide +kernel
theorem dX6_ofGuest_12 : decode cX6_ofGuest 12 = .ok (.ireturn, 1) := by decide +kernel
theorem dX6_ofGuest_13 : decode cX6_ofGuest 13 = .ok (.iload_n 2, 1) := by decide +kernel
theorem dX6_ofGuest_14 : decode cX6_ofGuest 14 = .ok (.lookupswitch 46 #[(0, 26), (1, 36)], 26) := by decide +kernel
theorem dX6_ofGuest_40 : decode cX6_ofGuest 40 = .ok (.aload_n 0, 1) := by decide +kernel
theorem dX6_ofGuest_41 : decode cX6_ofGuest 41 = .ok (.getfield 20, 3) := by decide +kernel
theorem dX6_ofGuest_44 : decode cX6_ofGuest 44 = .ok (.getfield 114, 3) := by decide +kernel
theorem dX6_ofGuest_47 : decode cX6_ofGuest 47 = .ok (.iload_n 1, 1) := by decide +kernel
theorem dX6_ofGuest_48 : decode cX6_ofGuest 48 = .ok (.iaload, 1) := by decide +kernel
theorem dX6_ofGuest_49 : decode cX6_ofGuest 49 = .ok (.ireturn, 1) := by decide +kernel
theorem dX6_ofGuest_50 : decode cX6_ofGuest 50 = .ok (.aload_n 0, 1) := by decide +kernel
theorem dX6_ofGuest_51 : decode cX6_ofGuest 51 = .ok (.getfield 20, 3) := by decide +kernel
theorem dX6_ofGuest_54 : decode cX6_ofGuest 54 = .ok (.getfield 117, 3) := by decide +kernel
theorem dX6_ofGuest_57 : decode cX6_ofGuest 57 = .ok (.iload_n 1, 1) := by decide +kernel
theorem dX6_ofGuest_58 : decode cX6_ofGuest 58 = .ok (.iaload, 1) := by decide +kernel
theorem dX6_ofGuest_59 : decode cX6_ofGuest 59 = .ok (.ireturn, 1) := by decide +kernel
theorem dX6_ofGuest_60 : decode cX6_ofGuest 60 = .ok (.bipush (-2), 2) := by decide +kernel
theorem dX6_ofGuest_62 : decode cX6_ofGuest 62 = .ok (.ireturn, 1) := by decide +kernel
theorem dX6_ofNight_0 : decode cX6_ofNight 0 = .ok (.aload_n 0, 1) := by decide +kernel
theorem dX6_ofNight_1 : decode cX6_ofNight 1 = .ok (.getfield 20, 3) := by decide +kernel
theorem dX6_ofNight_4 : decode cX6_ofNight 4 = .ok (.invokevirtual 120, 3) := by decide +kernel
theorem dX6_ofNight_7 : decode cX6_ofNight 7 = .ok (.ifCond .ne 6, 3) := by decide +kernel
theorem dX6_ofNight_10 : decode cX6_ofNight 10 = .ok (.bipush (-3), 2) := by decide +kernel
theorem dX6_ofNight_12 : decode cX6_ofNight 12 = .ok (.ireturn, 1) := by decide +kernel
theorem dX6_ofNight_13 : decode cX6_ofNight 13 = .ok (.aload_n 0, 1) := by decide +kernel
theorem dX6_ofNight_14 : decode cX6_ofNight 14 = .ok (.getfield 20, 3) := by decide +kernel
theorem dX6_ofNight_17 : decode cX6_ofNight 17 = .ok (.iload_n 1, 1) := by decide +kernel
theorem dX6_ofNight_18 : decode cX6_ofNight 18 = .ok (.invokevirtual 124, 3) := by decide +kernel
theorem dX6_ofNight_21 : decode cX6_ofNight 21 = .ok (.ifCond .ne 6, 3) := by decide +kernel
theorem dX6_ofNight_24 : decode cX6_ofNight 24 = .ok (.bipush (-2), 2) := by decide +kernel
theorem dX6_ofNight_26 : decode cX6_ofNight 26 = .ok (.ireturn, 1) := by decide +kernel
theorem dX6_ofNight_27 : decode cX6_ofNight 27 = .ok (.iload_n 2, 1) := by decide +kernel
theorem dX6_ofNight_28 : decode cX6_ofNight 28 = .ok (.lookupswitch 48 #[(0, 28), (1, 38)], 28) := by decide +kernel
theorem dX6_ofNight_56 : decode cX6_ofNight 56 = .ok (.aload_n 0, 1) := by decide +kernel
theorem dX6_ofNight_57 : decode cX6_ofNight 57 = .ok (.getfield 20, 3) := by decide +kernel
theorem dX6_ofNight_60 : decode cX6_ofNight 60 = .ok (.getfield 127, 3) := by decide +kernel
theorem dX6_ofNight_63 : decode cX6_ofNight 63 = .ok (.iload_n 1, 1) := by decide +kernel
theorem dX6_ofNight_64 : decode cX6_ofNight 64 = .ok (.iaload, 1) := by decide +kernel
theorem dX6_ofNight_65 : decode cX6_ofNight 65 = .ok (.ireturn, 1) := by decide +kernel
theorem dX6_ofNight_66 : decode cX6_ofNight 66 = .ok (.aload_n 0, 1) := by decide +kernel
theorem dX6_ofNight_67 : decode cX6_ofNight 67 = .ok (.getfield 20, 3) := by decide +kernel
theorem dX6_ofNight_70 : decode cX6_ofNight 70 = .ok (.getfield 130, 3) := by decide +kernel
theorem dX6_ofNight_73 : decode cX6_ofNight 73 = .ok (.iload_n 1, 1) := by decide +kernel
theorem dX6_ofNight_74 : decode cX6_ofNight 74 = .ok (.iaload, 1) := by decide +kernel
theorem dX6_ofNight_75 : decode cX6_ofNight 75 = .ok (.ireturn, 1) := by decide +kernel
theorem dX6_ofNight_76 : decode cX6_ofNight 76 = .ok (.bipush (-2), 2) := by decide +kernel
theorem dX6_ofNight_78 : decode cX6_ofNight 78 = .ok (.ireturn, 1) := by decide +kernel
theorem dX6_rule_0 : decode cX6_rule 0 = .ok (.iload_n 1, 1) := by decide +kernel
theorem dX6_rule_1 : decode cX6_rule 1 = .ok (.ifCond .lt 8, 3) := by decide +kernel
theorem dX6_rule_4 : decode cX6_rule 4 = .ok (.iload_n 1, 1) := by decide +kernel
theorem dX6_rule_5 : decode cX6_rule 5 = .ok (.iconst 2, 1) := by decide +kernel
theorem dX6_rule_6 : decode cX6_rule 6 = .ok (.if_icmp .lt 6, 3) := by decide +kernel
theorem dX6_rule_9 : decode cX6_rule 9 = .ok (.bipush (-2), 2) := by decide +kernel
theorem dX6_rule_11 : decode cX6_rule 11 = .ok (.ireturn, 1) := by decide +kernel
theorem dX6_rule_12 : decode cX6_rule 12 = .ok (.aload_n 0, 1) := by decide +kernel
theorem dX6_rule_13 : decode cX6_rule 13 = .ok (.getfield 20, 3) := by decide +kernel
theorem dX6_rule_16 : decode cX6_rule 16 = .ok (.invokevirtual 120, 3) := by decide +kernel
theorem dX6_rule_19 : decode cX6_rule 19 = .ok (.ifCond .ne 6, 3) := by decide +kernel
theorem dX6_rule_22 : decode cX6_rule 22 = .ok (.bipush (-3), 2) := by decide +kernel
theorem dX6_rule_24 : decode cX6_rule 24 = .ok (.ireturn, 1) := by decide +kernel
theorem dX6_rule_25 : decode cX6_rule 25 = .ok (.aload_n 0, 1) := by decide +kernel
theorem dX6_rule_26 : decode cX6_rule 26 = .ok (.getfield 20, 3) := by decide +kernel
theorem dX6_rule_29 : decode cX6_rule 29 = .ok (.getfield 133, 3) := by decide +kernel
theorem dX6_rule_32 : decode cX6_rule 32 = .ok (.istore_n 2, 1) := by decide +kernel
theorem dX6_rule_33 : decode cX6_rule 33 = .ok (.aload_n 0, 1) := by decide +kernel
theorem dX6_rule_34 : decode cX6_rule 34 = .ok (.getfield 20, 3) := by decide +kernel
theorem dX6_rule_37 : decode cX6_rule 37 = .ok (.iload_n 1, 1) := by decide +kernel
theorem dX6_rule_38 : decode cX6_rule 38 = .ok (.putfield 133, 3) := by decide +kernel
theorem dX6_rule_41 : decode cX6_rule 41 = .ok (.iload_n 2, 1) := by decide +kernel
theorem dX6_rule_42 : decode cX6_rule 42 = .ok (.ireturn, 1) := by decide +kernel
theorem dX6_fall_0 : decode cX6_fall 0 = .ok (.aload_n 0, 1) := by decide +kernel
theorem dX6_fall_1 : decode cX6_fall 1 = .ok (.getfield 20, 3) := by decide +kernel
theorem dX6_fall_4 : decode cX6_fall 4 = .ok (.invokevirtual 120, 3) := by decide +kernel
theorem dX6_fall_7 : decode cX6_fall 7 = .ok (.ifCond .ne 6, 3) := by decide +kernel
theorem dX6_fall_10 : decode cX6_fall 10 = .ok (.bipush (-3), 2) := by decide +kernel
theorem dX6_fall_12 : decode cX6_fall 12 = .ok (.ireturn, 1) := by decide +kernel
theorem dX6_fall_13 : decode cX6_fall 13 = .ok (.aload_n 0, 1) := by decide +kernel
theorem dX6_fall_14 : decode cX6_fall 14 = .ok (.getfield 20, 3) := by decide +kernel
theorem dX6_fall_17 : decode cX6_fall 17 = .ok (.iload_n 1, 1) := by decide +kernel
theorem dX6_fall_18 : decode cX6_fall 18 = .ok (.invokevirtual 124, 3) := by decide +kernel
theorem dX6_fall_21 : decode cX6_fall 21 = .ok (.ifCond .eq 12, 3) := by decide +kernel
theorem dX6_fall_24 : decode cX6_fall 24 = .ok (.iload_n 2, 1) := by decide +kernel
theorem dX6_fall_25 : decode cX6_fall 25 = .ok (.ifCond .lt 8, 3) := by decide +kernel
theorem dX6_fall_28 : decode cX6_fall 28 = .ok (.iload_n 2, 1) := by decide +kernel
theorem dX6_fall_29 : decode cX6_fall 29 = .ok (.iconst 5, 1) := by decide +kernel
theorem dX6_fall_30 : decode cX6_fall 30 = .ok (.if_icmp .le 6, 3) := by decide +kernel
theorem dX6_fall_33 : decode cX6_fall 33 = .ok (.bipush (-2), 2) := by decide +kernel
theorem dX6_fall_35 : decode cX6_fall 35 = .ok (.ireturn, 1) := by decide +kernel
theorem dX6_fall_36 : decode cX6_fall 36 = .ok (.aload_n 0, 1) := by decide +kernel
theorem dX6_fall_37 : decode cX6_fall 37 = .ok (.getfield 20, 3) := by decide +kernel
theorem dX6_fall_40 : decode cX6_fall 40 = .ok (.getfield 130, 3) := by decide +kernel
theorem dX6_fall_43 : decode cX6_fall 43 = .ok (.iload_n 1, 1) := by decide +kernel
theorem dX6_fall_44 : decode cX6_fall 44 = .ok (.iaload, 1) := by decide +kernel
theorem dX6_fall_45 : decode cX6_fall 45 = .ok (.istore_n 3, 1) := by decide +kernel
theorem dX6_fall_46 : decode cX6_fall 46 = .ok (.aload_n 0, 1) := by decide +kernel
theorem dX6_fall_47 : decode cX6_fall 47 = .ok (.getfield 20, 3) := by decide +kernel
theorem dX6_fall_50 : decode cX6_fall 50 = .ok (.getfield 130, 3) := by decide +kernel
theorem dX6_fall_53 : decode cX6_fall 53 = .ok (.iload_n 1, 1) := by decide +kernel
theorem dX6_fall_54 : decode cX6_fall 54 = .ok (.iload_n 2, 1) := by decide +kernel
theorem dX6_fall_55 : decode cX6_fall 55 = .ok (.iastore, 1) := by decide +kernel
theorem dX6_fall_56 : decode cX6_fall 56 = .ok (.iload_n 3, 1) := by decide +kernel
theorem dX6_fall_57 : decode cX6_fall 57 = .ok (.ireturn, 1) := by decide +kernel
theorem dX6_gust_0 : decode cX6_gust 0 = .ok (.aload_n 0, 1) := by decide +kernel
theorem dX6_gust_1 : decode cX6_gust 1 = .ok (.getfield 20, 3) := by decide +kernel
theorem dX6_gust_4 : decode cX6_gust 4 = .ok (.invokevirtual 120, 3) := by decide +kernel
theorem dX6_gust_7 : decode cX6_gust 7 = .ok (.ifCond .ne 6, 3) := by decide +kernel
theorem dX6_gust_10 : decode cX6_gust 10 = .ok (.bipush (-3), 2) := by decide +kernel
theorem dX6_gust_12 : decode cX6_gust 12 = .ok (.ireturn, 1) := by decide +kernel
theorem dX6_gust_13 : decode cX6_gust 13 = .ok (.aload_n 0, 1) := by decide +kernel
theorem dX6_gust_14 : decode cX6_gust 14 = .ok (.getfield 20, 3) := by decide +kernel
theorem dX6_gust_17 : decode cX6_gust 17 = .ok (.iload_n 1, 1) := by decide +kernel
theorem dX6_gust_18 : decode cX6_gust 18 = .ok (.invokevirtual 124, 3) := by decide +kernel
theorem dX6_gust_21 : decode cX6_gust 21 = .ok (.ifCond .ne 6, 3) := by decide +kernel
theorem dX6_gust_24 : decode cX6_gust 24 = .ok (.bipush (-2), 2) := by decide +kernel
theorem dX6_gust_26 : decode cX6_gust 26 = .ok (.ireturn, 1) := by decide +kernel
theorem dX6_gust_27 : decode cX6_gust 27 = .ok (.iload_n 2, 1) := by decide +kernel
theorem dX6_gust_28 : decode cX6_gust 28 = .ok (.ifCond .eq 7, 3) := by decide +kernel
theorem dX6_gust_31 : decode cX6_gust 31 = .ok (.iconst 1, 1) := by decide +kernel
theorem dX6_gust_32 : decode cX6_gust 32 = .ok (.goto 4, 3) := by decide +kernel
theorem dX6_gust_35 : decode cX6_gust 35 = .ok (.iconst 0, 1) := by decide +kernel
theorem dX6_gust_36 : decode cX6_gust 36 = .ok (.istore_n 3, 1) := by decide +kernel
theorem dX6_gust_37 : decode cX6_gust 37 = .ok (.aload_n 0, 1) := by decide +kernel
theorem dX6_gust_38 : decode cX6_gust 38 = .ok (.getfield 20, 3) := by decide +kernel
theorem dX6_gust_41 : decode cX6_gust 41 = .ok (.getfield 127, 3) := by decide +kernel
theorem dX6_gust_44 : decode cX6_gust 44 = .ok (.iload_n 1, 1) := by decide +kernel
theorem dX6_gust_45 : decode cX6_gust 45 = .ok (.iaload, 1) := by decide +kernel
theorem dX6_gust_46 : decode cX6_gust 46 = .ok (.iload_n 3, 1) := by decide +kernel
theorem dX6_gust_47 : decode cX6_gust 47 = .ok (.if_icmp .ne 7, 3) := by decide +kernel
theorem dX6_gust_50 : decode cX6_gust 50 = .ok (.iconst 0, 1) := by decide +kernel
theorem dX6_gust_51 : decode cX6_gust 51 = .ok (.goto 4, 3) := by decide +kernel
theorem dX6_gust_54 : decode cX6_gust 54 = .ok (.iconst 1, 1) := by decide +kernel
theorem dX6_gust_55 : decode cX6_gust 55 = .ok (.istore 4, 2) := by decide +kernel
theorem dX6_gust_57 : decode cX6_gust 57 = .ok (.aload_n 0, 1) := by decide +kernel
theorem dX6_gust_58 : decode cX6_gust 58 = .ok (.getfield 20, 3) := by decide +kernel
theorem dX6_gust_61 : decode cX6_gust 61 = .ok (.getfield 127, 3) := by decide +kernel
theorem dX6_gust_64 : decode cX6_gust 64 = .ok (.iload_n 1, 1) := by decide +kernel
theorem dX6_gust_65 : decode cX6_gust 65 = .ok (.iload_n 3, 1) := by decide +kernel
theorem dX6_gust_66 : decode cX6_gust 66 = .ok (.iastore, 1) := by decide +kernel
theorem dX6_gust_67 : decode cX6_gust 67 = .ok (.iload 4, 2) := by decide +kernel
theorem dX6_gust_69 : decode cX6_gust 69 = .ok (.ireturn, 1) := by decide +kernel
theorem dX6_lodge_0 : decode cX6_lodge 0 = .ok (.aload_n 0, 1) := by decide +kernel
theorem dX6_lodge_1 : decode cX6_lodge 1 = .ok (.getfield 20, 3) := by decide +kernel
theorem dX6_lodge_4 : decode cX6_lodge 4 = .ok (.iload_n 1, 1) := by decide +kernel
theorem dX6_lodge_5 : decode cX6_lodge 5 = .ok (.invokevirtual 111, 3) := by decide +kernel
theorem dX6_lodge_8 : decode cX6_lodge 8 = .ok (.ifCond .eq 14, 3) := by decide +kernel
theorem dX6_lodge_11 : decode cX6_lodge 11 = .ok (.aload_n 0, 1) := by decide +kernel
theorem dX6_lodge_12 : decode cX6_lodge 12 = .ok (.getfield 20, 3) := by decide +kernel
theorem dX6_lodge_15 : decode cX6_lodge 15 = .ok (.iload_n 2, 1) := by decide +kernel
theorem dX6_lodge_16 : decode cX6_lodge 16 = .ok (.invokevirtual 97, 3) := by decide +kernel
theorem dX6_lodge_19 : decode cX6_lodge 19 = .ok (.ifCond .ne 5, 3) := by decide +kernel
theorem dX6_lodge_22 : decode cX6_lodge 22 = .ok (.iconst (-1), 1) := by decide +kernel
theorem dX6_lodge_23 : decode cX6_lodge 23 = .ok (.ireturn, 1) := by decide +kernel
theorem dX6_lodge_24 : decode cX6_lodge 24 = .ok (.aload_n 0, 1) := by decide +kernel
theorem dX6_lodge_25 : decode cX6_lodge 25 = .ok (.getfield 20, 3) := by decide +kernel
theorem dX6_lodge_28 : decode cX6_lodge 28 = .ok (.getfield 117, 3) := by decide +kernel
theorem dX6_lodge_31 : decode cX6_lodge 31 = .ok (.iload_n 1, 1) := by decide +kernel
theorem dX6_lodge_32 : decode cX6_lodge 32 = .ok (.iaload, 1) := by decide +kernel
theorem dX6_lodge_33 : decode cX6_lodge 33 = .ok (.istore_n 3, 1) := by decide +kernel
theorem dX6_lodge_34 : decode cX6_lodge 34 = .ok (.aload_n 0, 1) := by decide +kernel
theorem dX6_lodge_35 : decode cX6_lodge 35 = .ok (.getfield 20, 3) := by decide +kernel
theorem dX6_lodge_38 : decode cX6_lodge 38 = .ok (.getfield 117, 3) := by decide +kernel
theorem dX6_lodge_41 : decode cX6_lodge 41 = .ok (.iload_n 1, 1) := by decide +kernel
theorem dX6_lodge_42 : decode cX6_lodge 42 = .ok (.iload_n 2, 1) := by decide +kernel
theorem dX6_lodge_43 : decode cX6_lodge 43 = .ok (.iastore, 1) := by decide +kernel
theorem dX6_lodge_44 : decode cX6_lodge 44 = .ok (.iload_n 3, 1) := by decide +kernel
theorem dX6_lodge_45 : decode cX6_lodge 45 = .ok (.ireturn, 1) := by decide +kernel
theorem dX6_sweep_0 : decode cX6_sweep 0 = .ok (.aload_n 0, 1) := by decide +kernel
theorem dX6_sweep_1 : decode cX6_sweep 1 = .ok (.getfield 20, 3) := by decide +kernel
theorem dX6_sweep_4 : decode cX6_sweep 4 = .ok (.iload_n 1, 1) := by decide +kernel
theorem dX6_sweep_5 : decode cX6_sweep 5 = .ok (.invokevirtual 97, 3) := by decide +kernel
theorem dX6_sweep_8 : decode cX6_sweep 8 = .ok (.ifCond .ne 5, 3) := by decide +kernel
theorem dX6_sweep_11 : decode cX6_sweep 11 = .ok (.iconst (-1), 1) := by decide +kernel
theorem dX6_sweep_12 : decode cX6_sweep 12 = .ok (.ireturn, 1) := by decide +kernel
theorem dX6_sweep_13 : decode cX6_sweep 13 = .ok (.iload_n 2, 1) := by decide +kernel
theorem dX6_sweep_14 : decode cX6_sweep 14 = .ok (.ifCond .eq 9, 3) := by decide +kernel
theorem dX6_sweep_17 : decode cX6_sweep 17 = .ok (.iload_n 1, 1) := by decide +kernel
theorem dX6_sweep_18 : decode cX6_sweep 18 = .ok (.iconst 1, 1) := by decide +kernel
theorem dX6_sweep_19 : decode cX6_sweep 19 = .ok (.iadd, 1) := by decide +kernel
theorem dX6_sweep_20 : decode cX6_sweep 20 = .ok (.goto 6, 3) := by decide +kernel
theorem dX6_sweep_23 : decode cX6_sweep 23 = .ok (.iload_n 1, 1) := by decide +kernel
theorem dX6_sweep_24 : decode cX6_sweep 24 = .ok (.iconst 1, 1) := by decide +kernel
theorem dX6_sweep_25 : decode cX6_sweep 25 = .ok (.isub, 1) := by decide +kernel
theorem dX6_sweep_26 : decode cX6_sweep 26 = .ok (.istore 4, 2) := by decide +kernel
theorem dX6_sweep_28 : decode cX6_sweep 28 = .ok (.aload_n 0, 1) := by decide +kernel
theorem dX6_sweep_29 : decode cX6_sweep 29 = .ok (.getfield 20, 3) := by decide +kernel
theorem dX6_sweep_32 : decode cX6_sweep 32 = .ok (.iload 4, 2) := by decide +kernel
theorem dX6_sweep_34 : decode cX6_sweep 34 = .ok (.invokevirtual 97, 3) := by decide +kernel
theorem dX6_sweep_37 : decode cX6_sweep 37 = .ok (.ifCond .ne 5, 3) := by decide +kernel
theorem dX6_sweep_40 : decode cX6_sweep 40 = .ok (.iconst (-1), 1) := by decide +kernel
theorem dX6_sweep_41 : decode cX6_sweep 41 = .ok (.ireturn, 1) := by decide +kernel
theorem dX6_sweep_42 : decode cX6_sweep 42 = .ok (.iload_n 3, 1) := by decide +kernel
theorem dX6_sweep_43 : decode cX6_sweep 43 = .ok (.ifCond .lt 9, 3) := by decide +kernel
theorem dX6_sweep_46 : decode cX6_sweep 46 = .ok (.iload_n 3, 1) := by decide +kernel
theorem dX6_sweep_47 : decode cX6_sweep 47 = .ok (.bipush 9, 2) := by decide +kernel
theorem dX6_sweep_49 : decode cX6_sweep 49 = .ok (.if_icmp .le 6, 3) := by decide +kernel
theorem dX6_sweep_52 : decode cX6_sweep 52 = .ok (.bipush (-2), 2) := by decide +kernel
theorem dX6_sweep_54 : decode cX6_sweep 54 = .ok (.ireturn, 1) := by decide +kernel
theorem dX6_sweep_55 : decode cX6_sweep 55 = .ok (.aload_n 0, 1) := by decide +kernel
theorem dX6_sweep_56 : decode cX6_sweep 56 = .ok (.getfield 20, 3) := by decide +kernel
theorem dX6_sweep_59 : decode cX6_sweep 59 = .ok (.iload_n 1, 1) := by decide +kernel
theorem dX6_sweep_60 : decode cX6_sweep 60 = .ok (.iload 4, 2) := by decide +kernel
theorem dX6_sweep_62 : decode cX6_sweep 62 = .ok (.iload_n 3, 1) := by decide +kernel
theorem dX6_sweep_63 : decode cX6_sweep 63 = .ok (.invokevirtual 136, 3) := by decide +kernel
theorem dX6_sweep_66 : decode cX6_sweep 66 = .ok (.ireturn, 1) := by decide +kernel
theorem dX6_where_0 : decode cX6_where 0 = .ok (.aload_n 0, 1) := by decide +kernel
theorem dX6_where_1 : decode cX6_where 1 = .ok (.getfield 20, 3) := by decide +kernel
theorem dX6_where_4 : decode cX6_where 4 = .ok (.iload_n 1, 1) := by decide +kernel
theorem dX6_where_5 : decode cX6_where 5 = .ok (.invokevirtual 111, 3) := by decide +kernel
theorem dX6_where_8 : decode cX6_where 8 = .ok (.ifCond .ne 5, 3) := by decide +kernel
theorem dX6_where_11 : decode cX6_where 11 = .ok (.iconst (-1), 1) := by decide +kernel
theorem dX6_where_12 : decode cX6_where 12 = .ok (.ireturn, 1) := by decide +kernel
theorem dX6_where_13 : decode cX6_where 13 = .ok (.aload_n 0, 1) := by decide +kernel
theorem dX6_where_14 : decode cX6_where 14 = .ok (.getfield 20, 3) := by decide +kernel
theorem dX6_where_17 : decode cX6_where 17 = .ok (.iload_n 2, 1) := by decide +kernel
theorem dX6_where_18 : decode cX6_where 18 = .ok (.invokevirtual 139, 3) := by decide +kernel
theorem dX6_where_21 : decode cX6_where 21 = .ok (.ifCond .ne 6, 3) := by decide +kernel
theorem dX6_where_24 : decode cX6_where 24 = .ok (.bipush (-2), 2) := by decide +kernel
theorem dX6_where_26 : decode cX6_where 26 = .ok (.ireturn, 1) := by decide +kernel
theorem dX6_where_27 : decode cX6_where 27 = .ok (.aload_n 0, 1) := by decide +kernel
theorem dX6_where_28 : decode cX6_where 28 = .ok (.getfield 32, 3) := by decide +kernel
theorem dX6_where_31 : decode cX6_where 31 = .ok (.iload_n 2, 1) := by decide +kernel
theorem dX6_where_32 : decode cX6_where 32 = .ok (.invokevirtual 142, 3) := by decide +kernel
theorem dX6_where_35 : decode cX6_where 35 = .ok (.aload_n 0, 1) := by decide +kernel
theorem dX6_where_36 : decode cX6_where 36 = .ok (.getfield 32, 3) := by decide +kernel
theorem dX6_where_39 : decode cX6_where 39 = .ok (.iload_n 1, 1) := by decide +kernel
theorem dX6_where_40 : decode cX6_where 40 = .ok (.iload_n 2, 1) := by decide +kernel
theorem dX6_where_41 : decode cX6_where 41 = .ok (.invokevirtual 146, 3) := by decide +kernel
theorem dX6_where_44 : decode cX6_where 44 = .ok (.ireturn, 1) := by decide +kernel
theorem dX6_deep_0 : decode cX6_deep 0 = .ok (.aload_n 0, 1) := by decide +kernel
theorem dX6_deep_1 : decode cX6_deep 1 = .ok (.getfield 20, 3) := by decide +kernel
theorem dX6_deep_4 : decode cX6_deep 4 = .ok (.iload_n 1, 1) := by decide +kernel
theorem dX6_deep_5 : decode cX6_deep 5 = .ok (.invokevirtual 97, 3) := by decide +kernel
theorem dX6_deep_8 : decode cX6_deep 8 = .ok (.ifCond .ne 5, 3) := by decide +kernel
theorem dX6_deep_11 : decode cX6_deep 11 = .ok (.iconst (-1), 1) := by decide +kernel
theorem dX6_deep_12 : decode cX6_deep 12 = .ok (.ireturn, 1) := by decide +kernel
theorem dX6_deep_13 : decode cX6_deep 13 = .ok (.aload_n 0, 1) := by decide +kernel
theorem dX6_deep_14 : decode cX6_deep 14 = .ok (.getfield 20, 3) := by decide +kernel
theorem dX6_deep_17 : decode cX6_deep 17 = .ok (.iload_n 2, 1) := by decide +kernel
theorem dX6_deep_18 : decode cX6_deep 18 = .ok (.invokevirtual 139, 3) := by decide +kernel
theorem dX6_deep_21 : decode cX6_deep 21 = .ok (.ifCond .ne 6, 3) := by decide +kernel
theorem dX6_deep_24 : decode cX6_deep 24 = .ok (.bipush (-2), 2) := by decide +kernel
theorem dX6_deep_26 : decode cX6_deep 26 = .ok (.ireturn, 1) := by decide +kernel
theorem dX6_deep_27 : decode cX6_deep 27 = .ok (.aload_n 0, 1) := by decide +kernel
theorem dX6_deep_28 : decode cX6_deep 28 = .ok (.getfield 32, 3) := by decide +kernel
theorem dX6_deep_31 : decode cX6_deep 31 = .ok (.iload_n 2, 1) := by decide +kernel
theorem dX6_deep_32 : decode cX6_deep 32 = .ok (.invokevirtual 142, 3) := by decide +kernel
theorem dX6_deep_35 : decode cX6_deep 35 = .ok (.aload_n 0, 1) := by decide +kernel
theorem dX6_deep_36 : decode cX6_deep 36 = .ok (.getfield 32, 3) := by decide +kernel
theorem dX6_deep_39 : decode cX6_deep 39 = .ok (.getfield 149, 3) := by decide +kernel
theorem dX6_deep_42 : decode cX6_deep 42 = .ok (.iload_n 2, 1) := by decide +kernel
theorem dX6_deep_43 : decode cX6_deep 43 = .ok (.aaload, 1) := by decide +kernel
theorem dX6_deep_44 : decode cX6_deep 44 = .ok (.iload_n 1, 1) := by decide +kernel
theorem dX6_deep_45 : decode cX6_deep 45 = .ok (.iaload, 1) := by decide +kernel
theorem dX6_deep_46 : decode cX6_deep 46 = .ok (.ireturn, 1) := by decide +kernel
theorem dX6_beds_0 : decode cX6_beds 0 = .ok (.aload_n 0, 1) := by decide +kernel
theorem dX6_beds_1 : decode cX6_beds 1 = .ok (.getfield 20, 3) := by decide +kernel
theorem dX6_beds_4 : decode cX6_beds 4 = .ok (.iload_n 1, 1) := by decide +kernel
theorem dX6_beds_5 : decode cX6_beds 5 = .ok (.invokevirtual 152, 3) := by decide +kernel
theorem dX6_beds_8 : decode cX6_beds 8 = .ok (.ifCond .ne 5, 3) := by decide +kernel
theorem dX6_beds_11 : decode cX6_beds 11 = .ok (.iconst (-1), 1) := by decide +kernel
theorem dX6_beds_12 : decode cX6_beds 12 = .ok (.ireturn, 1) := by decide +kernel
theorem dX6_beds_13 : decode cX6_beds 13 = .ok (.aload_n 0, 1) := by decide +kernel
theorem dX6_beds_14 : decode cX6_beds 14 = .ok (.getfield 20, 3) := by decide +kernel
theorem dX6_beds_17 : decode cX6_beds 17 = .ok (.iload_n 2, 1) := by decide +kernel
theorem dX6_beds_18 : decode cX6_beds 18 = .ok (.invokevirtual 139, 3) := by decide +kernel
theorem dX6_beds_21 : decode cX6_beds 21 = .ok (.ifCond .ne 6, 3) := by decide +kernel
theorem dX6_beds_24 : decode cX6_beds 24 = .ok (.bipush (-2), 2) := by decide +kernel
theorem dX6_beds_26 : decode cX6_beds 26 = .ok (.ireturn, 1) := by decide +kernel
theorem dX6_beds_27 : decode cX6_beds 27 = .ok (.aload_n 0, 1) := by decide +kernel
theorem dX6_beds_28 : decode cX6_beds 28 = .ok (.getfield 32, 3) := by decide +kernel
theorem dX6_beds_31 : decode cX6_beds 31 = .ok (.iload_n 2, 1) := by decide +kernel
theorem dX6_beds_32 : decode cX6_beds 32 = .ok (.invokevirtual 142, 3) := by decide +kernel
theorem dX6_beds_35 : decode cX6_beds 35 = .ok (.aload_n 0, 1) := by decide +kernel
theorem dX6_beds_36 : decode cX6_beds 36 = .ok (.getfield 32, 3) := by decide +kernel
theorem dX6_beds_39 : decode cX6_beds 39 = .ok (.getfield 155, 3) := by decide +kernel
theorem dX6_beds_42 : decode cX6_beds 42 = .ok (.iload_n 2, 1) := by decide +kernel
theorem dX6_beds_43 : decode cX6_beds 43 = .ok (.aaload, 1) := by decide +kernel
theorem dX6_beds_44 : decode cX6_beds 44 = .ok (.iload_n 1, 1) := by decide +kernel
theorem dX6_beds_45 : decode cX6_beds 45 = .ok (.iaload, 1) := by decide +kernel
theorem dX6_beds_46 : decode cX6_beds 46 = .ok (.ireturn, 1) := by decide +kernel
theorem dX6_list_0 : decode cX6_list 0 = .ok (.aload_n 0, 1) := by decide +kernel
theorem dX6_list_1 : decode cX6_list 1 = .ok (.iconst 0, 1) := by decide +kernel
theorem dX6_list_2 : decode cX6_list 2 = .ok (.putfield 52, 3) := by decide +kernel
theorem dX6_list_5 : decode cX6_list 5 = .ok (.iload_n 2, 1) := by decide +kernel
theorem dX6_list_6 : decode cX6_list 6 = .ok (.invokestatic 60, 3) := by decide +kernel
theorem dX6_list_9 : decode cX6_list 9 = .ok (.ifCond .ne 5, 3) := by decide +kernel
theorem dX6_list_12 : decode cX6_list 12 = .ok (.iconst (-1), 1) := by decide +kernel
theorem dX6_list_13 : decode cX6_list 13 = .ok (.ireturn, 1) := by decide +kernel
theorem dX6_list_14 : decode cX6_list 14 = .ok (.iload_n 3, 1) := by decide +kernel
theorem dX6_list_15 : decode cX6_list 15 = .ok (.invokestatic 64, 3) := by decide +kernel
theorem dX6_list_18 : decode cX6_list 18 = .ok (.ifCond .ne 6, 3) := by decide +kernel
theorem dX6_list_21 : decode cX6_list 21 = .ok (.bipush (-2), 2) := by decide +kernel
theorem dX6_list_23 : decode cX6_list 23 = .ok (.ireturn, 1) := by decide +kernel
theorem dX6_list_24 : decode cX6_list 24 = .ok (.aload_n 0, 1) := by decide +kernel
theorem dX6_list_25 : decode cX6_list 25 = .ok (.getfield 20, 3) := by decide +kernel
theorem dX6_list_28 : decode cX6_list 28 = .ok (.invokevirtual 120, 3) := by decide +kernel
theorem dX6_list_31 : decode cX6_list 31 = .ok (.ifCond .ne 6, 3) := by decide +kernel
theorem dX6_list_34 : decode cX6_list 34 = .ok (.bipush (-3), 2) := by decide +kernel
theorem dX6_list_36 : decode cX6_list 36 = .ok (.ireturn, 1) := by decide +kernel
theorem dX6_list_37 : decode cX6_list 37 = .ok (.aload_n 0, 1) := by decide +kernel
theorem dX6_list_38 : decode cX6_list 38 = .ok (.getfield 20, 3) := by decide +kernel
theorem dX6_list_41 : decode cX6_list 41 = .ok (.iload_n 1, 1) := by decide +kernel
theorem dX6_list_42 : decode cX6_list 42 = .ok (.invokevirtual 139, 3) := by decide +kernel
theorem dX6_list_45 : decode cX6_list 45 = .ok (.ifCond .ne 6, 3) := by decide +kernel
theorem dX6_list_48 : decode cX6_list 48 = .ok (.bipush (-2), 2) := by decide +kernel
theorem dX6_list_50 : decode cX6_list 50 = .ok (.ireturn, 1) := by decide +kernel
theorem dX6_list_51 : decode cX6_list 51 = .ok (.aload_n 0, 1) := by decide +kernel
theorem dX6_list_52 : decode cX6_list 52 = .ok (.getfield 13, 3) := by decide +kernel
theorem dX6_list_55 : decode cX6_list 55 = .ok (.iload_n 2, 1) := by decide +kernel
theorem dX6_list_56 : decode cX6_list 56 = .ok (.aaload, 1) := by decide +kernel
theorem dX6_list_57 : decode cX6_list 57 = .ok (.iload_n 3, 1) := by decide +kernel
theorem dX6_list_58 : decode cX6_list 58 = .ok (.iload 4, 2) := by decide +kernel
theorem dX6_list_60 : decode cX6_list 60 = .ok (.iload 5, 2) := by decide +kernel
theorem dX6_list_62 : decode cX6_list 62 = .ok (.invokevirtual 67, 3) := by decide +kernel
theorem dX6_list_65 : decode cX6_list 65 = .ok (.istore 6, 2) := by decide +kernel
theorem dX6_list_67 : decode cX6_list 67 = .ok (.iload 6, 2) := by decide +kernel
theorem dX6_list_69 : decode cX6_list 69 = .ok (.ifCond .eq 10, 3) := by decide +kernel
theorem dX6_list_72 : decode cX6_list 72 = .ok (.aload_n 0, 1) := by decide +kernel
theorem dX6_list_73 : decode cX6_list 73 = .ok (.iload 6, 2) := by decide +kernel
theorem dX6_list_75 : decode cX6_list 75 = .ok (.invokevirtual 71, 3) := by decide +kernel
