theorem dX2_keepsBy_4 : decode cX2_keepsBy 4 = .ok (.iload_n 1, 1) := by decide +kernel
theorem dX2_keepsBy_5 : decode cX2_keepsBy 5 = .ok (.iaload, 1) := by decide +kernel
theorem dX2_keepsBy_6 : decode cX2_keepsBy 6 = .ok (.lookupswitch 36 #[(1, 32), (2, 26)], 26) := by decide +kernel
theorem dX2_keepsBy_32 : decode cX2_keepsBy 32 = .ok (.iconst 2, 1) := by decide +kernel
theorem dX2_keepsBy_33 : decode cX2_keepsBy 33 = .ok (.iload_n 2, 1) := by decide +kernel
theorem dX2_keepsBy_34 : decode cX2_keepsBy 34 = .ok (.iconst 1, 1) := by decide +kernel
theorem dX2_keepsBy_35 : decode cX2_keepsBy 35 = .ok (.iadd, 1) := by decide +kernel
theorem dX2_keepsBy_36 : decode cX2_keepsBy 36 = .ok (.imul, 1) := by decide +kernel
theorem dX2_keepsBy_37 : decode cX2_keepsBy 37 = .ok (.ireturn, 1) := by decide +kernel
theorem dX2_keepsBy_38 : decode cX2_keepsBy 38 = .ok (.iload_n 2, 1) := by decide +kernel
theorem dX2_keepsBy_39 : decode cX2_keepsBy 39 = .ok (.iconst 1, 1) := by decide +kernel
theorem dX2_keepsBy_40 : decode cX2_keepsBy 40 = .ok (.iadd, 1) := by decide +kernel
theorem dX2_keepsBy_41 : decode cX2_keepsBy 41 = .ok (.ireturn, 1) := by decide +kernel
theorem dX2_keepsBy_42 : decode cX2_keepsBy 42 = .ok (.iload_n 2, 1) := by decide +kernel
theorem dX2_keepsBy_43 : decode cX2_keepsBy 43 = .ok (.ireturn, 1) := by decide +kernel
theorem dX2_roomBy_0 : decode cX2_roomBy 0 = .ok (.aload_n 0, 1) := by decide +kernel
theorem dX2_roomBy_1 : decode cX2_roomBy 1 = .ok (.iload_n 1, 1) := by decide +kernel
theorem dX2_roomBy_2 : decode cX2_roomBy 2 = .ok (.iload_n 2, 1) := by decide +kernel
theorem dX2_roomBy_3 : decode cX2_roomBy 3 = .ok (.invokevirtual 56, 3) := by decide +kernel
theorem dX2_roomBy_6 : decode cX2_roomBy 6 = .ok (.istore_n 3, 1) := by decide +kernel
theorem dX2_roomBy_7 : decode cX2_roomBy 7 = .ok (.iload_n 1, 1) := by decide +kernel
theorem dX2_roomBy_8 : decode cX2_roomBy 8 = .ok (.aload_n 0, 1) := by decide +kernel
theorem dX2_roomBy_9 : decode cX2_roomBy 9 = .ok (.getfield 43, 3) := by decide +kernel
theorem dX2_roomBy_12 : decode cX2_roomBy 12 = .ok (.if_icmp .ne 9, 3) := by decide +kernel
theorem dX2_roomBy_15 : decode cX2_roomBy 15 = .ok (.iload_n 3, 1) := by decide +kernel
theorem dX2_roomBy_16 : decode cX2_roomBy 16 = .ok (.iconst 1, 1) := by decide +kernel
theorem dX2_roomBy_17 : decode cX2_roomBy 17 = .ok (.iadd, 1) := by decide +kernel
theorem dX2_roomBy_18 : decode cX2_roomBy 18 = .ok (.goto 4, 3) := by decide +kernel
theorem dX2_roomBy_21 : decode cX2_roomBy 21 = .ok (.iload_n 3, 1) := by decide +kernel
theorem dX2_roomBy_22 : decode cX2_roomBy 22 = .ok (.ireturn, 1) := by decide +kernel
theorem dX2_sweepOver_0 : decode cX2_sweepOver 0 = .ok (.iload_n 3, 1) := by decide +kernel
theorem dX2_sweepOver_1 : decode cX2_sweepOver 1 = .ok (.aload_n 0, 1) := by decide +kernel
theorem dX2_sweepOver_2 : decode cX2_sweepOver 2 = .ok (.getfield 19, 3) := by decide +kernel
theorem dX2_sweepOver_5 : decode cX2_sweepOver 5 = .ok (.iload_n 1, 1) := by decide +kernel
theorem dX2_sweepOver_6 : decode cX2_sweepOver 6 = .ok (.iaload, 1) := by decide +kernel
theorem dX2_sweepOver_7 : decode cX2_sweepOver 7 = .ok (.invokestatic 60, 3) := by decide +kernel
theorem dX2_sweepOver_10 : decode cX2_sweepOver 10 = .ok (.istore 4, 2) := by decide +kernel
theorem dX2_sweepOver_12 : decode cX2_sweepOver 12 = .ok (.iload 4, 2) := by decide +kernel
theorem dX2_sweepOver_14 : decode cX2_sweepOver 14 = .ok (.bipush 9, 2) := by decide +kernel
theorem dX2_sweepOver_16 : decode cX2_sweepOver 16 = .ok (.aload_n 0, 1) := by decide +kernel
theorem dX2_sweepOver_17 : decode cX2_sweepOver 17 = .ok (.getfield 19, 3) := by decide +kernel
theorem dX2_sweepOver_20 : decode cX2_sweepOver 20 = .ok (.iload_n 2, 1) := by decide +kernel
theorem dX2_sweepOver_21 : decode cX2_sweepOver 21 = .ok (.iaload, 1) := by decide +kernel
theorem dX2_sweepOver_22 : decode cX2_sweepOver 22 = .ok (.isub, 1) := by decide +kernel
theorem dX2_sweepOver_23 : decode cX2_sweepOver 23 = .ok (.invokestatic 60, 3) := by decide +kernel
theorem dX2_sweepOver_26 : decode cX2_sweepOver 26 = .ok (.istore 5, 2) := by decide +kernel
theorem dX2_sweepOver_28 : decode cX2_sweepOver 28 = .ok (.aload_n 0, 1) := by decide +kernel
theorem dX2_sweepOver_29 : decode cX2_sweepOver 29 = .ok (.getfield 19, 3) := by decide +kernel
theorem dX2_sweepOver_32 : decode cX2_sweepOver 32 = .ok (.iload_n 1, 1) := by decide +kernel
theorem dX2_sweepOver_33 : decode cX2_sweepOver 33 = .ok (.dup2, 1) := by decide +kernel
theorem dX2_sweepOver_34 : decode cX2_sweepOver 34 = .ok (.iaload, 1) := by decide +kernel
theorem dX2_sweepOver_35 : decode cX2_sweepOver 35 = .ok (.iload 4, 2) := by decide +kernel
theorem dX2_sweepOver_37 : decode cX2_sweepOver 37 = .ok (.isub, 1) := by decide +kernel
theorem dX2_sweepOver_38 : decode cX2_sweepOver 38 = .ok (.iastore, 1) := by decide +kernel
theorem dX2_sweepOver_39 : decode cX2_sweepOver 39 = .ok (.aload_n 0, 1) := by decide +kernel
theorem dX2_sweepOver_40 : decode cX2_sweepOver 40 = .ok (.getfield 19, 3) := by decide +kernel
theorem dX2_sweepOver_43 : decode cX2_sweepOver 43 = .ok (.iload_n 2, 1) := by decide +kernel
theorem dX2_sweepOver_44 : decode cX2_sweepOver 44 = .ok (.dup2, 1) := by decide +kernel
theorem dX2_sweepOver_45 : decode cX2_sweepOver 45 = .ok (.iaload, 1) := by decide +kernel
theorem dX2_sweepOver_46 : decode cX2_sweepOver 46 = .ok (.iload 5, 2) := by decide +kernel
theorem dX2_sweepOver_48 : decode cX2_sweepOver 48 = .ok (.iadd, 1) := by decide +kernel
theorem dX2_sweepOver_49 : decode cX2_sweepOver 49 = .ok (.iastore, 1) := by decide +kernel
theorem dX2_sweepOver_50 : decode cX2_sweepOver 50 = .ok (.iload 5, 2) := by decide +kernel
theorem dX2_sweepOver_52 : decode cX2_sweepOver 52 = .ok (.ireturn, 1) := by decide +kernel
theorem dX3_init_0 : decode cX3_init 0 = .ok (.aload_n 0, 1) := by decide +kernel
theorem dX3_init_1 : decode cX3_init 1 = .ok (.invokespecial 3, 3) := by decide +kernel
theorem dX3_init_4 : decode cX3_init 4 = .ok (.aload_n 0, 1) := by decide +kernel
theorem dX3_init_5 : decode cX3_init 5 = .ok (.bipush 60, 2) := by decide +kernel
theorem dX3_init_7 : decode cX3_init 7 = .ok (.newarray .int, 2) := by decide +kernel
theorem dX3_init_9 : decode cX3_init 9 = .ok (.putfield 9, 3) := by decide +kernel
theorem dX3_init_12 : decode cX3_init 12 = .ok (.aload_n 0, 1) := by decide +kernel
theorem dX3_init_13 : decode cX3_init 13 = .ok (.iconst (-1), 1) := by decide +kernel
theorem dX3_init_14 : decode cX3_init 14 = .ok (.putfield 15, 3) := by decide +kernel
theorem dX3_init_17 : decode cX3_init 17 = .ok (.aload_n 0, 1) := by decide +kernel
theorem dX3_init_18 : decode cX3_init 18 = .ok (.iconst 0, 1) := by decide +kernel
theorem dX3_init_19 : decode cX3_init 19 = .ok (.putfield 19, 3) := by decide +kernel
theorem dX3_init_22 : decode cX3_init 22 = .ok (.return_, 1) := by decide +kernel
theorem dX3_renew_0 : decode cX3_renew 0 = .ok (.aload_n 0, 1) := by decide +kernel
theorem dX3_renew_1 : decode cX3_renew 1 = .ok (.iload_n 1, 1) := by decide +kernel
theorem dX3_renew_2 : decode cX3_renew 2 = .ok (.putfield 15, 3) := by decide +kernel
theorem dX3_renew_5 : decode cX3_renew 5 = .ok (.aload_n 0, 1) := by decide +kernel
theorem dX3_renew_6 : decode cX3_renew 6 = .ok (.iload_n 2, 1) := by decide +kernel
theorem dX3_renew_7 : decode cX3_renew 7 = .ok (.putfield 19, 3) := by decide +kernel
theorem dX3_renew_10 : decode cX3_renew 10 = .ok (.iconst 0, 1) := by decide +kernel
theorem dX3_renew_11 : decode cX3_renew 11 = .ok (.istore_n 3, 1) := by decide +kernel
theorem dX3_renew_12 : decode cX3_renew 12 = .ok (.iload_n 3, 1) := by decide +kernel
theorem dX3_renew_13 : decode cX3_renew 13 = .ok (.bipush 60, 2) := by decide +kernel
theorem dX3_renew_15 : decode cX3_renew 15 = .ok (.if_icmp .ge 16, 3) := by decide +kernel
theorem dX3_renew_18 : decode cX3_renew 18 = .ok (.aload_n 0, 1) := by decide +kernel
theorem dX3_renew_19 : decode cX3_renew 19 = .ok (.getfield 9, 3) := by decide +kernel
theorem dX3_renew_22 : decode cX3_renew 22 = .ok (.iload_n 3, 1) := by decide +kernel
theorem dX3_renew_23 : decode cX3_renew 23 = .ok (.iconst 0, 1) := by decide +kernel
theorem dX3_renew_24 : decode cX3_renew 24 = .ok (.iastore, 1) := by decide +kernel
theorem dX3_renew_25 : decode cX3_renew 25 = .ok (.iinc 3 1, 3) := by decide +kernel
theorem dX3_renew_28 : decode cX3_renew 28 = .ok (.goto (-16), 3) := by decide +kernel
theorem dX3_renew_31 : decode cX3_renew 31 = .ok (.return_, 1) := by decide +kernel
theorem dX3_clear_0 : decode cX3_clear 0 = .ok (.aload_n 0, 1) := by decide +kernel
theorem dX3_clear_1 : decode cX3_clear 1 = .ok (.iconst (-1), 1) := by decide +kernel
theorem dX3_clear_2 : decode cX3_clear 2 = .ok (.putfield 15, 3) := by decide +kernel
theorem dX3_clear_5 : decode cX3_clear 5 = .ok (.aload_n 0, 1) := by decide +kernel
theorem dX3_clear_6 : decode cX3_clear 6 = .ok (.iconst 0, 1) := by decide +kernel
theorem dX3_clear_7 : decode cX3_clear 7 = .ok (.putfield 19, 3) := by decide +kernel
theorem dX3_clear_10 : decode cX3_clear 10 = .ok (.return_, 1) := by decide +kernel
theorem dX3_isThere_0 : decode cX3_isThere 0 = .ok (.aload_n 0, 1) := by decide +kernel
theorem dX3_isThere_1 : decode cX3_isThere 1 = .ok (.getfield 15, 3) := by decide +kernel
theorem dX3_isThere_4 : decode cX3_isThere 4 = .ok (.iconst (-1), 1) := by decide +kernel
theorem dX3_isThere_5 : decode cX3_isThere 5 = .ok (.if_icmp .eq 7, 3) := by decide +kernel
theorem dX3_isThere_8 : decode cX3_isThere 8 = .ok (.iconst 1, 1) := by decide +kernel
theorem dX3_isThere_9 : decode cX3_isThere 9 = .ok (.goto 4, 3) := by decide +kernel
theorem dX3_isThere_12 : decode cX3_isThere 12 = .ok (.iconst 0, 1) := by decide +kernel
theorem dX3_isThere_13 : decode cX3_isThere 13 = .ok (.ireturn, 1) := by decide +kernel
theorem dX3_hasCell_0 : decode cX3_hasCell 0 = .ok (.iload_n 1, 1) := by decide +kernel
theorem dX3_hasCell_1 : decode cX3_hasCell 1 = .ok (.ifCond .lt 15, 3) := by decide +kernel
theorem dX3_hasCell_4 : decode cX3_hasCell 4 = .ok (.iload_n 1, 1) := by decide +kernel
theorem dX3_hasCell_5 : decode cX3_hasCell 5 = .ok (.aload_n 0, 1) := by decide +kernel
theorem dX3_hasCell_6 : decode cX3_hasCell 6 = .ok (.getfield 19, 3) := by decide +kernel
theorem dX3_hasCell_9 : decode cX3_hasCell 9 = .ok (.if_icmp .ge 7, 3) := by decide +kernel
theorem dX3_hasCell_12 : decode cX3_hasCell 12 = .ok (.iconst 1, 1) := by decide +kernel
theorem dX3_hasCell_13 : decode cX3_hasCell 13 = .ok (.goto 4, 3) := by decide +kernel
theorem dX3_hasCell_16 : decode cX3_hasCell 16 = .ok (.iconst 0, 1) := by decide +kernel
theorem dX3_hasCell_17 : decode cX3_hasCell 17 = .ok (.ireturn, 1) := by decide +kernel
theorem dX3_hasCells_0 : decode cX3_hasCells 0 = .ok (.iload_n 1, 1) := by decide +kernel
theorem dX3_hasCells_1 : decode cX3_hasCells 1 = .ok (.ifCond .lt 29, 3) := by decide +kernel
theorem dX3_hasCells_4 : decode cX3_hasCells 4 = .ok (.iload_n 1, 1) := by decide +kernel
theorem dX3_hasCells_5 : decode cX3_hasCells 5 = .ok (.aload_n 0, 1) := by decide +kernel
theorem dX3_hasCells_6 : decode cX3_hasCells 6 = .ok (.getfield 19, 3) := by decide +kernel
theorem dX3_hasCells_9 : decode cX3_hasCells 9 = .ok (.if_icmp .gt 21, 3) := by decide +kernel
theorem dX3_hasCells_12 : decode cX3_hasCells 12 = .ok (.iload_n 2, 1) := by decide +kernel
theorem dX3_hasCells_13 : decode cX3_hasCells 13 = .ok (.ifCond .lt 17, 3) := by decide +kernel
theorem dX3_hasCells_16 : decode cX3_hasCells 16 = .ok (.iload_n 2, 1) := by decide +kernel
theorem dX3_hasCells_17 : decode cX3_hasCells 17 = .ok (.aload_n 0, 1) := by decide +kernel
theorem dX3_hasCells_18 : decode cX3_hasCells 18 = .ok (.getfield 19, 3) := by decide +kernel
theorem dX3_hasCells_21 : decode cX3_hasCells 21 = .ok (.iload_n 1, 1) := by decide +kernel
theorem dX3_hasCells_22 : decode cX3_hasCells 22 = .ok (.isub, 1) := by decide +kernel
theorem dX3_hasCells_23 : decode cX3_hasCells 23 = .ok (.if_icmp .gt 7, 3) := by decide +kernel
theorem dX3_hasCells_26 : decode cX3_hasCells 26 = .ok (.iconst 1, 1) := by decide +kernel
theorem dX3_hasCells_27 : decode cX3_hasCells 27 = .ok (.goto 4, 3) := by decide +kernel
theorem dX3_hasCells_30 : decode cX3_hasCells 30 = .ok (.iconst 0, 1) := by decide +kernel
theorem dX3_hasCells_31 : decode cX3_hasCells 31 = .ok (.ireturn, 1) := by decide +kernel
theorem dX3_write_0 : decode cX3_write 0 = .ok (.aload_n 0, 1) := by decide +kernel
theorem dX3_write_1 : decode cX3_write 1 = .ok (.getfield 9, 3) := by decide +kernel
theorem dX3_write_4 : decode cX3_write 4 = .ok (.iload_n 1, 1) := by decide +kernel
theorem dX3_write_5 : decode cX3_write 5 = .ok (.aload_n 0, 1) := by decide +kernel
theorem dX3_write_6 : decode cX3_write 6 = .ok (.getfield 15, 3) := by decide +kernel
theorem dX3_write_9 : decode cX3_write 9 = .ok (.ifCond .ne 8, 3) := by decide +kernel
theorem dX3_write_12 : decode cX3_write 12 = .ok (.iload_n 2, 1) := by decide +kernel
theorem dX3_write_13 : decode cX3_write 13 = .ok (.i2b, 1) := by decide +kernel
theorem dX3_write_14 : decode cX3_write 14 = .ok (.goto 17, 3) := by decide +kernel
theorem dX3_write_17 : decode cX3_write 17 = .ok (.aload_n 0, 1) := by decide +kernel
theorem dX3_write_18 : decode cX3_write 18 = .ok (.getfield 15, 3) := by decide +kernel
theorem dX3_write_21 : decode cX3_write 21 = .ok (.iconst 1, 1) := by decide +kernel
theorem dX3_write_22 : decode cX3_write 22 = .ok (.if_icmp .ne 8, 3) := by decide +kernel
theorem dX3_write_25 : decode cX3_write 25 = .ok (.iload_n 2, 1) := by decide +kernel
theorem dX3_write_26 : decode cX3_write 26 = .ok (.i2s, 1) := by decide +kernel
theorem dX3_write_27 : decode cX3_write 27 = .ok (.goto 4, 3) := by decide +kernel
theorem dX3_write_30 : decode cX3_write 30 = .ok (.iload_n 2, 1) := by decide +kernel
theorem dX3_write_31 : decode cX3_write 31 = .ok (.iastore, 1) := by decide +kernel
theorem dX3_write_32 : decode cX3_write 32 = .ok (.return_, 1) := by decide +kernel
theorem dX3_faultOfCell_0 : decode cX3_faultOfCell 0 = .ok (.aload_n 0, 1) := by decide +kernel
theorem dX3_faultOfCell_1 : decode cX3_faultOfCell 1 = .ok (.iload_n 1, 1) := by decide +kernel
theorem dX3_faultOfCell_2 : decode cX3_faultOfCell 2 = .ok (.invokevirtual 22, 3) := by decide +kernel
theorem dX3_faultOfCell_5 : decode cX3_faultOfCell 5 = .ok (.istore_n 3, 1) := by decide +kernel
theorem dX3_faultOfCell_6 : decode cX3_faultOfCell 6 = .ok (.iload_n 3, 1) := by decide +kernel
theorem dX3_faultOfCell_7 : decode cX3_faultOfCell 7 = .ok (.ifCond .eq 5, 3) := by decide +kernel
theorem dX3_faultOfCell_10 : decode cX3_faultOfCell 10 = .ok (.iload_n 3, 1) := by decide +kernel
theorem dX3_faultOfCell_11 : decode cX3_faultOfCell 11 = .ok (.ireturn, 1) := by decide +kernel
theorem dX3_faultOfCell_12 : decode cX3_faultOfCell 12 = .ok (.aload_n 0, 1) := by decide +kernel
theorem dX3_faultOfCell_13 : decode cX3_faultOfCell 13 = .ok (.iload_n 2, 1) := by decide +kernel
theorem dX3_faultOfCell_14 : decode cX3_faultOfCell 14 = .ok (.invokevirtual 26, 3) := by decide +kernel
theorem dX3_faultOfCell_17 : decode cX3_faultOfCell 17 = .ok (.ifCond .eq 7, 3) := by decide +kernel
theorem dX3_faultOfCell_20 : decode cX3_faultOfCell 20 = .ok (.iconst 0, 1) := by decide +kernel
theorem dX3_faultOfCell_21 : decode cX3_faultOfCell 21 = .ok (.goto 4, 3) := by decide +kernel
theorem dX3_faultOfCell_24 : decode cX3_faultOfCell 24 = .ok (.iconst 3, 1) := by decide +kernel
theorem dX3_faultOfCell_25 : decode cX3_faultOfCell 25 = .ok (.ireturn, 1) := by decide +kernel
theorem dX3_faultOfRow_0 : decode cX3_faultOfRow 0 = .ok (.aload_n 0, 1) := by decide +kernel
theorem dX3_faultOfRow_1 : decode cX3_faultOfRow 1 = .ok (.iload_n 1, 1) := by decide +kernel
theorem dX3_faultOfRow_2 : decode cX3_faultOfRow 2 = .ok (.invokevirtual 22, 3) := by decide +kernel
theorem dX3_faultOfRow_5 : decode cX3_faultOfRow 5 = .ok (.istore 4, 2) := by decide +kernel
theorem dX3_faultOfRow_7 : decode cX3_faultOfRow 7 = .ok (.iload 4, 2) := by decide +kernel
theorem dX3_faultOfRow_9 : decode cX3_faultOfRow 9 = .ok (.ifCond .eq 6, 3) := by decide +kernel
theorem dX3_faultOfRow_12 : decode cX3_faultOfRow 12 = .ok (.iload 4, 2) := by decide +kernel
theorem dX3_faultOfRow_14 : decode cX3_faultOfRow 14 = .ok (.ireturn, 1) := by decide +kernel
theorem dX3_faultOfRow_15 : decode cX3_faultOfRow 15 = .ok (.iload_n 3, 1) := by decide +kernel
theorem dX3_faultOfRow_16 : decode cX3_faultOfRow 16 = .ok (.ifCond .ge 5, 3) := by decide +kernel
theorem dX3_faultOfRow_19 : decode cX3_faultOfRow 19 = .ok (.iconst 4, 1) := by decide +kernel
theorem dX3_faultOfRow_20 : decode cX3_faultOfRow 20 = .ok (.ireturn, 1) := by decide +kernel
theorem dX3_faultOfRow_21 : decode cX3_faultOfRow 21 = .ok (.aload_n 0, 1) := by decide +kernel
theorem dX3_faultOfRow_22 : decode cX3_faultOfRow 22 = .ok (.iload_n 2, 1) := by decide +kernel
theorem dX3_faultOfRow_23 : decode cX3_faultOfRow 23 = .ok (.iload_n 3, 1) := by decide +kernel
theorem dX3_faultOfRow_24 : decode cX3_faultOfRow 24 = .ok (.invokevirtual 30, 3) := by decide +kernel
theorem dX3_faultOfRow_27 : decode cX3_faultOfRow 27 = .ok (.ifCond .eq 7, 3) := by decide +kernel
theorem dX3_faultOfRow_30 : decode cX3_faultOfRow 30 = .ok (.iconst 0, 1) := by decide +kernel
theorem dX3_faultOfRow_31 : decode cX3_faultOfRow 31 = .ok (.goto 4, 3) := by decide +kernel
theorem dX3_faultOfRow_34 : decode cX3_faultOfRow 34 = .ok (.iconst 3, 1) := by decide +kernel
theorem dX3_faultOfRow_35 : decode cX3_faultOfRow 35 = .ok (.ireturn, 1) := by decide +kernel
theorem dX3_faultOfLane_0 : decode cX3_faultOfLane 0 = .ok (.aload_n 0, 1) := by decide +kernel
theorem dX3_faultOfLane_1 : decode cX3_faultOfLane 1 = .ok (.invokevirtual 34, 3) := by decide +kernel
theorem dX3_faultOfLane_4 : decode cX3_faultOfLane 4 = .ok (.ifCond .ne 5, 3) := by decide +kernel
theorem dX3_faultOfLane_7 : decode cX3_faultOfLane 7 = .ok (.iconst 1, 1) := by decide +kernel
theorem dX3_faultOfLane_8 : decode cX3_faultOfLane 8 = .ok (.ireturn, 1) := by decide +kernel
theorem dX3_faultOfLane_9 : decode cX3_faultOfLane 9 = .ok (.aload_n 0, 1) := by decide +kernel
theorem dX3_faultOfLane_10 : decode cX3_faultOfLane 10 = .ok (.getfield 15, 3) := by decide +kernel
theorem dX3_faultOfLane_13 : decode cX3_faultOfLane 13 = .ok (.iload_n 1, 1) := by decide +kernel
theorem dX3_faultOfLane_14 : decode cX3_faultOfLane 14 = .ok (.if_icmp .ne 7, 3) := by decide +kernel
theorem dX3_faultOfLane_17 : decode cX3_faultOfLane 17 = .ok (.iconst 0, 1) := by decide +kernel
theorem dX3_faultOfLane_18 : decode cX3_faultOfLane 18 = .ok (.goto 4, 3) := by decide +kernel
theorem dX3_faultOfLane_21 : decode cX3_faultOfLane 21 = .ok (.iconst 2, 1) := by decide +kernel
theorem dX3_faultOfLane_22 : decode cX3_faultOfLane 22 = .ok (.ireturn, 1) := by decide +kernel
theorem dX4_init_0 : decode cX4_init 0 = .ok (.aload_n 0, 1) := by decide +kernel
theorem dX4_init_1 : decode cX4_init 1 = .ok (.invokespecial 3, 3) := by decide +kernel
theorem dX4_init_4 : decode cX4_init 4 = .ok (.aload_n 0, 1) := by decide +kernel
theorem dX4_init_5 : decode cX4_init 5 = .ok (.iconst 0, 1) := by decide +kernel
theorem dX4_init_6 : decode cX4_init 6 = .ok (.putfield 9, 3) := by decide +kernel
theorem dX4_init_9 : decode cX4_init 9 = .ok (.aload_n 0, 1) := by decide +kernel
theorem dX4_init_10 : decode cX4_init 10 = .ok (.aload_n 1, 1) := by decide +kernel
theorem dX4_init_11 : decode cX4_init 11 = .ok (.getfield 15, 3) := by decide +kernel
theorem dX4_init_14 : decode cX4_init 14 = .ok (.putfield 21, 3) := by decide +kernel
theorem dX4_init_17 : decode cX4_init 17 = .ok (.aload_n 0, 1) := by decide +kernel
theorem dX4_init_18 : decode cX4_init 18 = .ok (.iload_n 2, 1) := by decide +kernel
theorem dX4_init_19 : decode cX4_init 19 = .ok (.putfield 24, 3) := by decide +kernel
theorem dX4_init_22 : decode cX4_init 22 = .ok (.aload_n 0, 1) := by decide +kernel
theorem dX4_init_23 : decode cX4_init 23 = .ok (.iload_n 3, 1) := by decide +kernel
theorem dX4_init_24 : decode cX4_init 24 = .ok (.putfield 27, 3) := by decide +kernel
theorem dX4_init_27 : decode cX4_init 27 = .ok (.return_, 1) := by decide +kernel
theorem dX4_place_0 : decode cX4_place 0 = .ok (.aload_n 0, 1) := by decide +kernel
theorem dX4_place_1 : decode cX4_place 1 = .ok (.getfield 9, 3) := by decide +kernel
theorem dX4_place_4 : decode cX4_place 4 = .ok (.ireturn, 1) := by decide +kernel
theorem dX4_readInto_0 : decode cX4_readInto 0 = .ok (.aload_n 1, 1) := by decide +kernel
theorem dX4_readInto_1 : decode cX4_readInto 1 = .ok (.invokevirtual 30, 3) := by decide +kernel
theorem dX4_readInto_4 : decode cX4_readInto 4 = .ok (.aload_n 0, 1) := by decide +kernel
theorem dX4_readInto_5 : decode cX4_readInto 5 = .ok (.bipush 105, 2) := by decide +kernel
theorem dX4_readInto_7 : decode cX4_readInto 7 = .ok (.invokevirtual 35, 3) := by decide +kernel
theorem dX4_readInto_10 : decode cX4_readInto 10 = .ok (.ifCond .eq 51, 3) := by decide +kernel
theorem dX4_readInto_13 : decode cX4_readInto 13 = .ok (.aload_n 0, 1) := by decide +kernel
theorem dX4_readInto_14 : decode cX4_readInto 14 = .ok (.aload_n 1, 1) := by decide +kernel
theorem dX4_readInto_15 : decode cX4_readInto 15 = .ok (.invokevirtual 39, 3) := by decide +kernel
theorem dX4_readInto_18 : decode cX4_readInto 18 = .ok (.ifCond .eq 43, 3) := by decide +kernel
theorem dX4_readInto_21 : decode cX4_readInto 21 = .ok (.aload_n 0, 1) := by decide +kernel
theorem dX4_readInto_22 : decode cX4_readInto 22 = .ok (.bipush 59, 2) := by decide +kernel
theorem dX4_readInto_24 : decode cX4_readInto 24 = .ok (.invokevirtual 35, 3) := by decide +kernel
theorem dX4_readInto_27 : decode cX4_readInto 27 = .ok (.ifCond .eq 34, 3) := by decide +kernel
theorem dX4_readInto_30 : decode cX4_readInto 30 = .ok (.aload_n 0, 1) := by decide +kernel
theorem dX4_readInto_31 : decode cX4_readInto 31 = .ok (.aload_n 1, 1) := by decide +kernel
theorem dX4_readInto_32 : decode cX4_readInto 32 = .ok (.invokevirtual 43, 3) := by decide +kernel
theorem dX4_readInto_35 : decode cX4_readInto 35 = .ok (.ifCond .eq 26, 3) := by decide +kernel
theorem dX4_readInto_38 : decode cX4_readInto 38 = .ok (.aload_n 0, 1) := by decide +kernel
theorem dX4_readInto_39 : decode cX4_readInto 39 = .ok (.aload_n 1, 1) := by decide +kernel
theorem dX4_readInto_40 : decode cX4_readInto 40 = .ok (.invokevirtual 46, 3) := by decide +kernel
theorem dX4_readInto_43 : decode cX4_readInto 43 = .ok (.ifCond .eq 18, 3) := by decide +kernel
theorem dX4_readInto_46 : decode cX4_readInto 46 = .ok (.aload_n 0, 1) := by decide +kernel
theorem dX4_readInto_47 : decode cX4_readInto 47 = .ok (.getfield 9, 3) := by decide +kernel
theorem dX4_readInto_50 : decode cX4_readInto 50 = .ok (.aload_n 0, 1) := by decide +kernel
theorem dX4_readInto_51 : decode cX4_readInto 51 = .ok (.getfield 27, 3) := by decide +kernel
theorem dX4_readInto_54 : decode cX4_readInto 54 = .ok (.if_icmp .ne 7, 3) := by decide +kernel
theorem dX4_readInto_57 : decode cX4_readInto 57 = .ok (.iconst 1, 1) := by decide +kernel
theorem dX4_readInto_58 : decode cX4_readInto 58 = .ok (.goto 4, 3) := by decide +kernel
theorem dX4_readInto_61 : decode cX4_readInto 61 = .ok (.iconst 0, 1) := by decide +kernel
theorem dX4_readInto_62 : decode cX4_readInto 62 = .ok (.ireturn, 1) := by decide +kernel
theorem dX4_readInns_0 : decode cX4_readInns 0 = .ok (.aload_n 1, 1) := by decide +kernel
theorem dX4_readInns_1 : decode cX4_readInns 1 = .ok (.getfield 49, 3) := by decide +kernel
theorem dX4_readInns_4 : decode cX4_readInns 4 = .ok (.bipush 6, 2) := by decide +kernel
theorem dX4_readInns_6 : decode cX4_readInns 6 = .ok (.if_icmp .ge 70, 3) := by decide +kernel
theorem dX4_readInns_9 : decode cX4_readInns 9 = .ok (.aload_n 0, 1) := by decide +kernel
theorem dX4_readInns_10 : decode cX4_readInns 10 = .ok (.bipush 44, 2) := by decide +kernel
theorem dX4_readInns_12 : decode cX4_readInns 12 = .ok (.invokevirtual 35, 3) := by decide +kernel
theorem dX4_readInns_15 : decode cX4_readInns 15 = .ok (.ifCond .eq 61, 3) := by decide +kernel
theorem dX4_readInns_18 : decode cX4_readInns 18 = .ok (.aload_n 0, 1) := by decide +kernel
theorem dX4_readInns_19 : decode cX4_readInns 19 = .ok (.invokevirtual 52, 3) := by decide +kernel
theorem dX4_readInns_22 : decode cX4_readInns 22 = .ok (.istore_n 2, 1) := by decide +kernel
theorem dX4_readInns_23 : decode cX4_readInns 23 = .ok (.iload_n 2, 1) := by decide +kernel
theorem dX4_readInns_24 : decode cX4_readInns 24 = .ok (.ifCond .ge 5, 3) := by decide +kernel
theorem dX4_readInns_27 : decode cX4_readInns 27 = .ok (.iconst 0, 1) := by decide +kernel
theorem dX4_readInns_28 : decode cX4_readInns 28 = .ok (.ireturn, 1) := by decide +kernel
theorem dX4_readInns_29 : decode cX4_readInns 29 = .ok (.aload_n 0, 1) := by decide +kernel
theorem dX4_readInns_30 : decode cX4_readInns 30 = .ok (.bipush 9, 2) := by decide +kernel
theorem dX4_readInns_32 : decode cX4_readInns 32 = .ok (.invokevirtual 56, 3) := by decide +kernel
theorem dX4_readInns_35 : decode cX4_readInns 35 = .ok (.istore_n 3, 1) := by decide +kernel
theorem dX4_readInns_36 : decode cX4_readInns 36 = .ok (.iload_n 3, 1) := by decide +kernel
theorem dX4_readInns_37 : decode cX4_readInns 37 = .ok (.iconst (-1), 1) := by decide +kernel
theorem dX4_readInns_38 : decode cX4_readInns 38 = .ok (.if_icmp .ne 5, 3) := by decide +kernel
theorem dX4_readInns_41 : decode cX4_readInns 41 = .ok (.iconst 0, 1) := by decide +kernel
theorem dX4_readInns_42 : decode cX4_readInns 42 = .ok (.ireturn, 1) := by decide +kernel
theorem dX4_readInns_43 : decode cX4_readInns 43 = .ok (.aload_n 1, 1) := by decide +kernel
theorem dX4_readInns_44 : decode cX4_readInns 44 = .ok (.getfield 60, 3) := by decide +kernel
theorem dX4_readInns_47 : decode cX4_readInns 47 = .ok (.aload_n 1, 1) := by decide +kernel
theorem dX4_readInns_48 : decode cX4_readInns 48 = .ok (.getfield 49, 3) := by decide +kernel
theorem dX4_readInns_51 : decode cX4_readInns 51 = .ok (.iload_n 2, 1) := by decide +kernel
theorem dX4_readInns_52 : decode cX4_readInns 52 = .ok (.iastore, 1) := by decide +kernel
theorem dX4_readInns_53 : decode cX4_readInns 53 = .ok (.aload_n 1, 1) := by decide +kernel
theorem dX4_readInns_54 : decode cX4_readInns 54 = .ok (.getfield 63, 3) := by decide +kernel
theorem dX4_readInns_57 : decode cX4_readInns 57 = .ok (.aload_n 1, 1) := by decide +kernel
theorem dX4_readInns_58 : decode cX4_readInns 58 = .ok (.getfield 49, 3) := by decide +kernel
theorem dX4_readInns_61 : decode cX4_readInns 61 = .ok (.iload_n 3, 1) := by decide +kernel
theorem dX4_readInns_62 : decode cX4_readInns 62 = .ok (.iastore, 1) := by decide +kernel
theorem dX4_readInns_63 : decode cX4_readInns 63 = .ok (.aload_n 1, 1) := by decide +kernel
theorem dX4_readInns_64 : decode cX4_readInns 64 = .ok (.dup, 1) := by decide +kernel
theorem dX4_readInns_65 : decode cX4_readInns 65 = .ok (.getfield 49, 3) := by decide +kernel
theorem dX4_readInns_68 : decode cX4_readInns 68 = .ok (.iconst 1, 1) := by decide +kernel
theorem dX4_readInns_69 : decode cX4_readInns 69 = .ok (.iadd, 1) := by decide +kernel
theorem dX4_readInns_70 : decode cX4_readInns 70 = .ok (.putfield 49, 3) := by decide +kernel
theorem dX4_readInns_73 : decode cX4_readInns 73 = .ok (.goto (-73), 3) := by decide +kernel
theorem dX4_readInns_76 : decode cX4_readInns 76 = .ok (.aload_n 1, 1) := by decide +kernel
theorem dX4_readInns_77 : decode cX4_readInns 77 = .ok (.getfield 49, 3) := by decide +kernel
theorem dX4_readInns_80 : decode cX4_readInns 80 = .ok (.iconst 2, 1) := by decide +kernel
theorem dX4_readInns_81 : decode cX4_readInns 81 = .ok (.if_icmp .lt 7, 3) := by decide +kernel
theorem dX4_readInns_84 : decode cX4_readInns 84 = .ok (.iconst 1, 1) := by decide +kernel
theorem dX4_readInns_85 : decode cX4_readInns 85 = .ok (.goto 4, 3) := by decide +kernel
theorem dX4_readInns_88 : decode cX4_readInns 88 = .ok (.iconst 0, 1) := by decide +kernel
theorem dX4_readInns_89 : decode cX4_readInns 89 = .ok (.ireturn, 1) := by decide +kernel
theorem dX4_readNights_0 : decode cX4_readNights 0 = .ok (.aload_n 1, 1) := by decide +kernel
theorem dX4_readNights_1 : decode cX4_readNights 1 = .ok (.getfield 66, 3) := by decide +kernel
theorem dX4_readNights_4 : decode cX4_readNights 4 = .ok (.bipush 8, 2) := by decide +kernel
theorem dX4_readNights_6 : decode cX4_readNights 6 = .ok (.if_icmp .ge 87, 3) := by decide +kernel
theorem dX4_readNights_9 : decode cX4_readNights 9 = .ok (.aload_n 0, 1) := by decide +kernel
theorem dX4_readNights_10 : decode cX4_readNights 10 = .ok (.bipush 62, 2) := by decide +kernel
theorem dX4_readNights_12 : decode cX4_readNights 12 = .ok (.invokevirtual 35, 3) := by decide +kernel
theorem dX4_readNights_15 : decode cX4_readNights 15 = .ok (.ifCond .eq 7, 3) := by decide +kernel
theorem dX4_readNights_18 : decode cX4_readNights 18 = .ok (.iconst 0, 1) := by decide +kernel
theorem dX4_readNights_19 : decode cX4_readNights 19 = .ok (.goto 18, 3) := by decide +kernel
theorem dX4_readNights_22 : decode cX4_readNights 22 = .ok (.aload_n 0, 1) := by decide +kernel
theorem dX4_readNights_23 : decode cX4_readNights 23 = .ok (.bipush 60, 2) := by decide +kernel
theorem dX4_readNights_25 : decode cX4_readNights 25 = .ok (.invokevirtual 35, 3) := by decide +kernel
theorem dX4_readNights_28 : decode cX4_readNights 28 = .ok (.ifCond .eq 7, 3) := by decide +kernel
theorem dX4_readNights_31 : decode cX4_readNights 31 = .ok (.iconst 1, 1) := by decide +kernel
theorem dX4_readNights_32 : decode cX4_readNights 32 = .ok (.goto 5, 3) := by decide +kernel
theorem dX4_readNights_35 : decode cX4_readNights 35 = .ok (.bipush (-9), 2) := by decide +kernel
theorem dX4_readNights_37 : decode cX4_readNights 37 = .ok (.istore_n 2, 1) := by decide +kernel
theorem dX4_readNights_38 : decode cX4_readNights 38 = .ok (.iload_n 2, 1) := by decide +kernel
theorem dX4_readNights_39 : decode cX4_readNights 39 = .ok (.bipush (-9), 2) := by decide +kernel
theorem dX4_readNights_41 : decode cX4_readNights 41 = .ok (.if_icmp .ne 6, 3) := by decide +kernel
theorem dX4_readNights_44 : decode cX4_readNights 44 = .ok (.goto 49, 3) := by decide +kernel
theorem dX4_readNights_47 : decode cX4_readNights 47 = .ok (.aload_n 0, 1) := by decide +kernel
theorem dX4_readNights_48 : decode cX4_readNights 48 = .ok (.iconst 5, 1) := by decide +kernel
theorem dX4_readNights_49 : decode cX4_readNights 49 = .ok (.invokevirtual 56, 3) := by decide +kernel
theorem dX4_readNights_52 : decode cX4_readNights 52 = .ok (.istore_n 3, 1) := by decide +kernel
theorem dX4_readNights_53 : decode cX4_readNights 53 = .ok (.iload_n 3, 1) := by decide +kernel
theorem dX4_readNights_54 : decode cX4_readNights 54 = .ok (.iconst (-1), 1) := by decide +kernel
theorem dX4_readNights_55 : decode cX4_readNights 55 = .ok (.if_icmp .ne 5, 3) := by decide +kernel
theorem dX4_readNights_58 : decode cX4_readNights 58 = .ok (.iconst 0, 1) := by decide +kernel
theorem dX4_readNights_59 : decode cX4_readNights 59 = .ok (.ireturn, 1) := by decide +kernel
theorem dX4_readNights_60 : decode cX4_readNights 60 = .ok (.aload_n 1, 1) := by decide +kernel
theorem dX4_readNights_61 : decode cX4_readNights 61 = .ok (.getfield 69, 3) := by decide +kernel
theorem dX4_readNights_64 : decode cX4_readNights 64 = .ok (.aload_n 1, 1) := by decide +kernel
theorem dX4_readNights_65 : decode cX4_readNights 65 = .ok (.getfield 66, 3) := by decide +kernel
theorem dX4_readNights_68 : decode cX4_readNights 68 = .ok (.iload_n 2, 1) := by decide +kernel
theorem dX4_readNights_69 : decode cX4_readNights 69 = .ok (.iastore, 1) := by decide +kernel
theorem dX4_readNights_70 : decode cX4_readNights 70 = .ok (.aload_n 1, 1) := by decide +kernel
theorem dX4_readNights_71 : decode cX4_readNights 71 = .ok (.getfield 72, 3) := by decide +kernel
theorem dX4_readNights_74 : decode cX4_readNights 74 = .ok (.aload_n 1, 1) := by decide +kernel
theorem dX4_readNights_75 : decode cX4_readNights 75 = .ok (.getfield 66, 3) := by decide +kernel
theorem dX4_readNights_78 : decode cX4_readNights 78 = .ok (.iload_n 3, 1) := by decide +kernel
theorem dX4_readNights_79 : decode cX4_readNights 79 = .ok (.iastore, 1) := by decide +kernel
theorem dX4_readNights_80 : decode cX4_readNights 80 = .ok (.aload_n 1, 1) := by decide +kernel
theorem dX4_readNights_81 : decode cX4_readNights 81 = .ok (.dup, 1) := by decide +kernel
theorem dX4_readNights_82 : decode cX4_readNights 82 = .ok (.getfield 66, 3) := by decide +kernel
theorem dX4_readNights_85 : decode cX4_readNights 85 = .ok (.iconst 1, 1) := by decide +kernel
theorem dX4_readNights_86 : decode cX4_readNights 86 = .ok (.iadd, 1) := by decide +kernel
theorem dX4_readNights_87 : decode cX4_readNights 87 = .ok (.putfield 66, 3) := by decide +kernel
theorem dX4_readNights_90 : decode cX4_readNights 90 = .ok (.goto (-90), 3) := by decide +kernel
theorem dX4_readNights_93 : decode cX4_readNights 93 = .ok (.aload_n 1, 1) := by decide +kernel
theorem dX4_readNights_94 : decode cX4_readNights 94 = .ok (.getfield 66, 3) := by decide +kernel
theorem dX4_readNights_97 : decode cX4_readNights 97 = .ok (.ifCond .le 7, 3) := by decide +kernel
theorem dX4_readNights_100 : decode cX4_readNights 100 = .ok (.iconst 1, 1) := by decide +kernel
theorem dX4_readNights_101 : decode cX4_readNights 101 = .ok (.goto 4, 3) := by decide +kernel
theorem dX4_readNights_104 : decode cX4_readNights 104 = .ok (.iconst 0, 1) := by decide +kernel
theorem dX4_readNights_105 : decode cX4_readNights 105 = .ok (.ireturn, 1) := by decide +kernel
theorem dX4_readGuests_0 : decode cX4_readGuests 0 = .ok (.aload_n 1, 1) := by decide +kernel
theorem dX4_readGuests_1 : decode cX4_readGuests 1 = .ok (.getfield 75, 3) := by decide +kernel
theorem dX4_readGuests_4 : decode cX4_readGuests 4 = .ok (.bipush 8, 2) := by decide +kernel
theorem dX4_readGuests_6 : decode cX4_readGuests 6 = .ok (.if_icmp .ge 76, 3) := by decide +kernel
theorem dX4_readGuests_9 : decode cX4_readGuests 9 = .ok (.aload_n 0, 1) := by decide +kernel
theorem dX4_readGuests_10 : decode cX4_readGuests 10 = .ok (.bipush 43, 2) := by decide +kernel
theorem dX4_readGuests_12 : decode cX4_readGuests 12 = .ok (.invokevirtual 35, 3) := by decide +kernel
theorem dX4_readGuests_15 : decode cX4_readGuests 15 = .ok (.ifCond .eq 67, 3) := by decide +kernel
theorem dX4_readGuests_18 : decode cX4_readGuests 18 = .ok (.aload_n 0, 1) := by decide +kernel
theorem dX4_readGuests_19 : decode cX4_readGuests 19 = .ok (.iconst 3, 1) := by decide +kernel
theorem dX4_readGuests_20 : decode cX4_readGuests 20 = .ok (.invokevirtual 56, 3) := by decide +kernel
theorem dX4_readGuests_23 : decode cX4_readGuests 23 = .ok (.istore_n 2, 1) := by decide +kernel
theorem dX4_readGuests_24 : decode cX4_readGuests 24 = .ok (.iload_n 2, 1) := by decide +kernel
theorem dX4_readGuests_25 : decode cX4_readGuests 25 = .ok (.iconst (-1), 1) := by decide +kernel
theorem dX4_readGuests_26 : decode cX4_readGuests 26 = .ok (.if_icmp .ne 5, 3) := by decide +kernel
theorem dX4_readGuests_29 : decode cX4_readGuests 29 = .ok (.iconst 0, 1) := by decide +kernel
theorem dX4_readGuests_30 : decode cX4_readGuests 30 = .ok (.ireturn, 1) := by decide +kernel
theorem dX4_readGuests_31 : decode cX4_readGuests 31 = .ok (.aload_n 0, 1) := by decide +kernel
theorem dX4_readGuests_32 : decode cX4_readGuests 32 = .ok (.aload_n 1, 1) := by decide +kernel
theorem dX4_readGuests_33 : decode cX4_readGuests 33 = .ok (.getfield 49, 3) := by decide +kernel
theorem dX4_readGuests_36 : decode cX4_readGuests 36 = .ok (.iconst 1, 1) := by decide +kernel
theorem dX4_readGuests_37 : decode cX4_readGuests 37 = .ok (.isub, 1) := by decide +kernel
theorem dX4_readGuests_38 : decode cX4_readGuests 38 = .ok (.invokevirtual 56, 3) := by decide +kernel
theorem dX4_readGuests_41 : decode cX4_readGuests 41 = .ok (.istore_n 3, 1) := by decide +kernel
theorem dX4_readGuests_42 : decode cX4_readGuests 42 = .ok (.iload_n 3, 1) := by decide +kernel
theorem dX4_readGuests_43 : decode cX4_readGuests 43 = .ok (.iconst (-1), 1) := by decide +kernel
theorem dX4_readGuests_44 : decode cX4_readGuests 44 = .ok (.if_icmp .ne 5, 3) := by decide +kernel
theorem dX4_readGuests_47 : decode cX4_readGuests 47 = .ok (.iconst 0, 1) := by decide +kernel
theorem dX4_readGuests_48 : decode cX4_readGuests 48 = .ok (.ireturn, 1) := by decide +kernel
theorem dX4_readGuests_49 : decode cX4_readGuests 49 = .ok (.aload_n 1, 1) := by decide +kernel
theorem dX4_readGuests_50 : decode cX4_readGuests 50 = .ok (.getfield 78, 3) := by decide +kernel
theorem dX4_readGuests_53 : decode cX4_readGuests 53 = .ok (.aload_n 1, 1) := by decide +kernel
theorem dX4_readGuests_54 : decode cX4_readGuests 54 = .ok (.getfield 75, 3) := by decide +kernel
theorem dX4_readGuests_57 : decode cX4_readGuests 57 = .ok (.iload_n 2, 1) := by decide +kernel
theorem dX4_readGuests_58 : decode cX4_readGuests 58 = .ok (.iastore, 1) := by decide +kernel
theorem dX4_readGuests_59 : decode cX4_readGuests 59 = .ok (.aload_n 1, 1) := by decide +kernel
theorem dX4_readGuests_60 : decode cX4_readGuests 60 = .ok (.getfield 81, 3) := by decide +kernel
theorem dX4_readGuests_63 : decode cX4_readGuests 63 = .ok (.aload_n 1, 1) := by decide +kernel
theorem dX4_readGuests_64 : decode cX4_readGuests 64 = .ok (.getfield 75, 3) := by decide +kernel
theorem dX4_readGuests_67 : decode cX4_readGuests 67 = .ok (.iload_n 3, 1) := by decide +kernel
theorem dX4_readGuests_68 : decode cX4_readGuests 68 = .ok (.iastore, 1) := by decide +kernel
theorem dX4_readGuests_69 : decode cX4_readGuests 69 = .ok (.aload_n 1, 1) := by decide +kernel
theorem dX4_readGuests_70 : decode cX4_readGuests 70 = .ok (.dup, 1) := by decide +kernel
theorem dX4_readGuests_71 : decode cX4_readGuests 71 = .ok (.getfield 75, 3) := by decide +kernel
theorem dX4_readGuests_74 : decode cX4_readGuests 74 = .ok (.iconst 1, 1) := by decide +kernel
theorem dX4_readGuests_75 : decode cX4_readGuests 75 = .ok (.iadd, 1) := by decide +kernel
theorem dX4_readGuests_76 : decode cX4_readGuests 76 = .ok (.putfield 75, 3) := by decide +kernel
theorem dX4_readGuests_79 : decode cX4_readGuests 79 = .ok (.goto (-79), 3) := by decide +kernel
theorem dX4_readGuests_82 : decode cX4_readGuests 82 = .ok (.aload_n 1, 1) := by decide +kernel
theorem dX4_readGuests_83 : decode cX4_readGuests 83 = .ok (.getfield 75, 3) := by decide +kernel
theorem dX4_readGuests_86 : decode cX4_readGuests 86 = .ok (.ifCond .le 7, 3) := by decide +kernel
theorem dX4_readGuests_89 : decode cX4_readGuests 89 = .ok (.iconst 1, 1) := by decide +kernel
theorem dX4_readGuests_90 : decode cX4_readGuests 90 = .ok (.goto 4, 3) := by decide +kernel
theorem dX4_readGuests_93 : decode cX4_readGuests 93 = .ok (.iconst 0, 1) := by decide +kernel
theorem dX4_readGuests_94 : decode cX4_readGuests 94 = .ok (.ireturn, 1) := by decide +kernel
theorem dX4_takeKind_0 : decode cX4_takeKind 0 = .ok (.aload_n 0, 1) := by decide +kernel
theorem dX4_takeKind_1 : decode cX4_takeKind 1 = .ok (.bipush 110, 2) := by decide +kernel
theorem dX4_takeKind_3 : decode cX4_takeKind 3 = .ok (.invokevirtual 35, 3) := by decide +kernel
theorem dX4_takeKind_6 : decode cX4_takeKind 6 = .ok (.ifCond .eq 7, 3) := by decide +kernel
theorem dX4_takeKind_9 : decode cX4_takeKind 9 = .ok (.iconst 0, 1) := by decide +kernel
theorem dX4_takeKind_10 : decode cX4_takeKind 10 = .ok (.goto 31, 3) := by decide +kernel
theorem dX4_takeKind_13 : decode cX4_takeKind 13 = .ok (.aload_n 0, 1) := by decide +kernel
theorem dX4_takeKind_14 : decode cX4_takeKind 14 = .ok (.bipush 108, 2) := by decide +kernel
theorem dX4_takeKind_16 : decode cX4_takeKind 16 = .ok (.invokevirtual 35, 3) := by decide +kernel
theorem dX4_takeKind_19 : decode cX4_takeKind 19 = .ok (.ifCond .eq 7, 3) := by decide +kernel
theorem dX4_takeKind_22 : decode cX4_takeKind 22 = .ok (.iconst 1, 1) := by decide +kernel
theorem dX4_takeKind_23 : decode cX4_takeKind 23 = .ok (.goto 18, 3) := by decide +kernel
theorem dX4_takeKind_26 : decode cX4_takeKind 26 = .ok (.aload_n 0, 1) := by decide +kernel
theorem dX4_takeKind_27 : decode cX4_takeKind 27 = .ok (.bipush 99, 2) := by decide +kernel
theorem dX4_takeKind_29 : decode cX4_takeKind 29 = .ok (.invokevirtual 35, 3) := by decide +kernel
theorem dX4_takeKind_32 : decode cX4_takeKind 32 = .ok (.ifCond .eq 7, 3) := by decide +kernel
theorem dX4_takeKind_35 : decode cX4_takeKind 35 = .ok (.iconst 2, 1) := by decide +kernel
theorem dX4_takeKind_36 : decode cX4_takeKind 36 = .ok (.goto 5, 3) := by decide +kernel
theorem dX4_takeKind_39 : decode cX4_takeKind 39 = .ok (.bipush (-9), 2) := by decide +kernel
theorem dX4_takeKind_41 : decode cX4_takeKind 41 = .ok (.ireturn, 1) := by decide +kernel
theorem dX4_takes_0 : decode cX4_takes 0 = .ok (.aload_n 0, 1) := by decide +kernel
theorem dX4_takes_1 : decode cX4_takes 1 = .ok (.getfield 9, 3) := by decide +kernel
theorem dX4_takes_4 : decode cX4_takes 4 = .ok (.aload_n 0, 1) := by decide +kernel
theorem dX4_takes_5 : decode cX4_takes 5 = .ok (.getfield 27, 3) := by decide +kernel
theorem dX4_takes_8 : decode cX4_takes 8 = .ok (.if_icmp .ge 21, 3) := by decide +kernel
theorem dX4_takes_11 : decode cX4_takes 11 = .ok (.aload_n 0, 1) := by decide +kernel
theorem dX4_takes_12 : decode cX4_takes 12 = .ok (.getfield 21, 3) := by decide +kernel
theorem dX4_takes_15 : decode cX4_takes 15 = .ok (.aload_n 0, 1) := by decide +kernel
theorem dX4_takes_16 : decode cX4_takes 16 = .ok (.getfield 24, 3) := by decide +kernel
theorem dX4_takes_19 : decode cX4_takes 19 = .ok (.aload_n 0, 1) := by decide +kernel
theorem dX4_takes_20 : decode cX4_takes 20 = .ok (.getfield 9, 3) := by decide +kernel
theorem dX4_takes_23 : decode cX4_takes 23 = .ok (.iadd, 1) := by decide +kernel
theorem dX4_takes_24 : decode cX4_takes 24 = .ok (.iaload, 1) := by decide +kernel
theorem dX4_takes_25 : decode cX4_takes 25 = .ok (.iload_n 1, 1) := by decide +kernel
theorem dX4_takes_26 : decode cX4_takes 26 = .ok (.if_icmp .eq 5, 3) := by decide +kernel
theorem dX4_takes_29 : decode cX4_takes 29 = .ok (.iconst 0, 1) := by decide +kernel
theorem dX4_takes_30 : decode cX4_takes 30 = .ok (.ireturn, 1) := by decide +kernel
theorem dX4_takes_31 : decode cX4_takes 31 = .ok (.aload_n 0, 1) := by decide +kernel
theorem dX4_takes_32 : decode cX4_takes 32 = .ok (.dup, 1) := by decide +kernel
theorem dX4_takes_33 : decode cX4_takes 33 = .ok (.getfield 9, 3) := by decide +kernel
theorem dX4_takes_36 : decode cX4_takes 36 = .ok (.iconst 1, 1) := by decide +kernel
theorem dX4_takes_37 : decode cX4_takes 37 = .ok (.iadd, 1) := by decide +kernel
theorem dX4_takes_38 : decode cX4_takes 38 = .ok (.putfield 9, 3) := by decide +kernel
theorem dX4_takes_41 : decode cX4_takes 41 = .ok (.iconst 1, 1) := by decide +kernel
theorem dX4_takes_42 : decode cX4_takes 42 = .ok (.ireturn, 1) := by decide +kernel
theorem dX4_takeDigit_0 : decode cX4_takeDigit 0 = .ok (.aload_n 0, 1) := by decide +kernel
theorem dX4_takeDigit_1 : decode cX4_takeDigit 1 = .ok (.getfield 9, 3) := by decide +kernel
theorem dX4_takeDigit_4 : decode cX4_takeDigit 4 = .ok (.aload_n 0, 1) := by decide +kernel
theorem dX4_takeDigit_5 : decode cX4_takeDigit 5 = .ok (.getfield 27, 3) := by decide +kernel
theorem dX4_takeDigit_8 : decode cX4_takeDigit 8 = .ok (.if_icmp .ge 43, 3) := by decide +kernel
theorem dX4_takeDigit_11 : decode cX4_takeDigit 11 = .ok (.aload_n 0, 1) := by decide +kernel
theorem dX4_takeDigit_12 : decode cX4_takeDigit 12 = .ok (.getfield 21, 3) := by decide +kernel
theorem dX4_takeDigit_15 : decode cX4_takeDigit 15 = .ok (.aload_n 0, 1) := by decide +kernel
theorem dX4_takeDigit_16 : decode cX4_takeDigit 16 = .ok (.getfield 24, 3) := by decide +kernel
theorem dX4_takeDigit_19 : decode cX4_takeDigit 19 = .ok (.aload_n 0, 1) := by decide +kernel
theorem dX4_takeDigit_20 : decode cX4_takeDigit 20 = .ok (.getfield 9, 3) := by decide +kernel
theorem dX4_takeDigit_23 : decode cX4_takeDigit 23 = .ok (.iadd, 1) := by decide +kernel
theorem dX4_takeDigit_24 : decode cX4_takeDigit 24 = .ok (.iaload, 1) := by decide +kernel
theorem dX4_takeDigit_25 : decode cX4_takeDigit 25 = .ok (.bipush 48, 2) := by decide +kernel
theorem dX4_takeDigit_27 : decode cX4_takeDigit 27 = .ok (.if_icmp .lt 24, 3) := by decide +kernel
theorem dX4_takeDigit_30 : decode cX4_takeDigit 30 = .ok (.aload_n 0, 1) := by decide +kernel
theorem dX4_takeDigit_31 : decode cX4_takeDigit 31 = .ok (.getfield 21, 3) := by decide +kernel
theorem dX4_takeDigit_34 : decode cX4_takeDigit 34 = .ok (.aload_n 0, 1) := by decide +kernel
theorem dX4_takeDigit_35 : decode cX4_takeDigit 35 = .ok (.getfield 24, 3) := by decide +kernel
theorem dX4_takeDigit_38 : decode cX4_takeDigit 38 = .ok (.aload_n 0, 1) := by decide +kernel
theorem dX4_takeDigit_39 : decode cX4_takeDigit 39 = .ok (.getfield 9, 3) := by decide +kernel
theorem dX4_takeDigit_42 : decode cX4_takeDigit 42 = .ok (.iadd, 1) := by decide +kernel
theorem dX4_takeDigit_43 : decode cX4_takeDigit 43 = .ok (.iaload, 1) := by decide +kernel
theorem dX4_takeDigit_44 : decode cX4_takeDigit 44 = .ok (.bipush 48, 2) := by decide +kernel
theorem dX4_takeDigit_46 : decode cX4_takeDigit 46 = .ok (.iload_n 1, 1) := by decide +kernel
theorem dX4_takeDigit_47 : decode cX4_takeDigit 47 = .ok (.iadd, 1) := by decide +kernel
theorem dX4_takeDigit_48 : decode cX4_takeDigit 48 = .ok (.if_icmp .le 5, 3) := by decide +kernel
theorem dX4_takeDigit_51 : decode cX4_takeDigit 51 = .ok (.iconst (-1), 1) := by decide +kernel
theorem dX4_takeDigit_52 : decode cX4_takeDigit 52 = .ok (.ireturn, 1) := by decide +kernel
theorem dX4_takeDigit_53 : decode cX4_takeDigit 53 = .ok (.aload_n 0, 1) := by decide +kernel
theorem dX4_takeDigit_54 : decode cX4_takeDigit 54 = .ok (.getfield 21, 3) := by decide +kernel
theorem dX4_takeDigit_57 : decode cX4_takeDigit 57 = .ok (.aload_n 0, 1) := by decide +kernel
theorem dX4_takeDigit_58 : decode cX4_takeDigit 58 = .ok (.getfield 24, 3) := by decide +kernel
theorem dX4_takeDigit_61 : decode cX4_takeDigit 61 = .ok (.aload_n 0, 1) := by decide +kernel
theorem dX4_takeDigit_62 : decode cX4_takeDigit 62 = .ok (.getfield 9, 3) := by decide +kernel
theorem dX4_takeDigit_65 : decode cX4_takeDigit 65 = .ok (.iadd, 1) := by decide +kernel
theorem dX4_takeDigit_66 : decode cX4_takeDigit 66 = .ok (.iaload, 1) := by decide +kernel
theorem dX4_takeDigit_67 : decode cX4_takeDigit 67 = .ok (.bipush 48, 2) := by decide +kernel
theorem dX4_takeDigit_69 : decode cX4_takeDigit 69 = .ok (.isub, 1) := by decide +kernel
theorem dX4_takeDigit_70 : decode cX4_takeDigit 70 = .ok (.istore_n 2, 1) := by decide +kernel
theorem dX4_takeDigit_71 : decode cX4_takeDigit 71 = .ok (.aload_n 0, 1) := by decide +kernel
theorem dX4_takeDigit_72 : decode cX4_takeDigit 72 = .ok (.dup, 1) := by decide +kernel
theorem dX4_takeDigit_73 : decode cX4_takeDigit 73 = .ok (.getfield 9, 3) := by decide +kernel
theorem dX4_takeDigit_76 : decode cX4_takeDigit 76 = .ok (.iconst 1, 1) := by decide +kernel
theorem dX4_takeDigit_77 : decode cX4_takeDigit 77 = .ok (.iadd, 1) := by decide +kernel
theorem dX4_takeDigit_78 : decode cX4_takeDigit 78 = .ok (.putfield 9, 3) := by decide +kernel
theorem dX4_takeDigit_81 : decode cX4_takeDigit 81 = .ok (.iload_n 2, 1) := by decide +kernel
theorem dX4_takeDigit_82 : decode cX4_takeDigit 82 = .ok (.ireturn, 1) := by decide +kernel
theorem dX5_init_0 : decode cX5_init 0 = .ok (.aload_n 0, 1) := by decide +kernel
theorem dX5_init_1 : decode cX5_init 1 = .ok (.invokespecial 3, 3) := by decide +kernel
theorem dX5_init_4 : decode cX5_init 4 = .ok (.aload_n 0, 1) := by decide +kernel
theorem dX5_init_5 : decode cX5_init 5 = .ok (.new 9, 3) := by decide +kernel
theorem dX5_init_8 : decode cX5_init 8 = .ok (.dup, 1) := by decide +kernel
theorem dX5_init_9 : decode cX5_init 9 = .ok (.invokespecial 11, 3) := by decide +kernel
theorem dX5_init_12 : decode cX5_init 12 = .ok (.putfield 12, 3) := by decide +kernel
theorem dX5_init_15 : decode cX5_init 15 = .ok (.aload_n 0, 1) := by decide +kernel
theorem dX5_init_16 : decode cX5_init 16 = .ok (.new 18, 3) := by decide +kernel
theorem dX5_init_19 : decode cX5_init 19 = .ok (.dup, 1) := by decide +kernel
theorem dX5_init_20 : decode cX5_init 20 = .ok (.aload_n 0, 1) := by decide +kernel
theorem dX5_init_21 : decode cX5_init 21 = .ok (.getfield 12, 3) := by decide +kernel
theorem dX5_init_24 : decode cX5_init 24 = .ok (.invokespecial 20, 3) := by decide +kernel
theorem dX5_init_27 : decode cX5_init 27 = .ok (.putfield 23, 3) := by decide +kernel
theorem dX5_init_30 : decode cX5_init 30 = .ok (.aload_n 0, 1) := by decide +kernel
theorem dX5_init_31 : decode cX5_init 31 = .ok (.aload_n 1, 1) := by decide +kernel
theorem dX5_init_32 : decode cX5_init 32 = .ok (.putfield 27, 3) := by decide +kernel
theorem dX5_init_35 : decode cX5_init 35 = .ok (.aload_n 0, 1) := by decide +kernel
theorem dX5_init_36 : decode cX5_init 36 = .ok (.aload_n 2, 1) := by decide +kernel
theorem dX5_init_37 : decode cX5_init 37 = .ok (.putfield 30, 3) := by decide +kernel
theorem dX5_init_40 : decode cX5_init 40 = .ok (.return_, 1) := by decide +kernel
theorem dX5_leastSweep_0 : decode cX5_leastSweep 0 = .ok (.aload_n 0, 1) := by decide +kernel
theorem dX5_leastSweep_1 : decode cX5_leastSweep 1 = .ok (.getfield 12, 3) := by decide +kernel
theorem dX5_leastSweep_4 : decode cX5_leastSweep 4 = .ok (.aload_n 0, 1) := by decide +kernel
theorem dX5_leastSweep_5 : decode cX5_leastSweep 5 = .ok (.getfield 27, 3) := by decide +kernel
theorem dX5_leastSweep_8 : decode cX5_leastSweep 8 = .ok (.invokevirtual 34, 3) := by decide +kernel
theorem dX5_leastSweep_11 : decode cX5_leastSweep 11 = .ok (.aload_n 0, 1) := by decide +kernel
theorem dX5_leastSweep_12 : decode cX5_leastSweep 12 = .ok (.getfield 23, 3) := by decide +kernel
theorem dX5_leastSweep_15 : decode cX5_leastSweep 15 = .ok (.iload_n 1, 1) := by decide +kernel
theorem dX5_leastSweep_16 : decode cX5_leastSweep 16 = .ok (.invokevirtual 37, 3) := by decide +kernel
theorem dX5_leastSweep_19 : decode cX5_leastSweep 19 = .ok (.ifCond .eq 14, 3) := by decide +kernel
theorem dX5_leastSweep_22 : decode cX5_leastSweep 22 = .ok (.iload_n 2, 1) := by decide +kernel
theorem dX5_leastSweep_23 : decode cX5_leastSweep 23 = .ok (.ifCond .ne 7, 3) := by decide +kernel
theorem dX5_leastSweep_26 : decode cX5_leastSweep 26 = .ok (.iconst 0, 1) := by decide +kernel
theorem dX5_leastSweep_27 : decode cX5_leastSweep 27 = .ok (.goto 5, 3) := by decide +kernel
theorem dX5_leastSweep_30 : decode cX5_leastSweep 30 = .ok (.bipush (-9), 2) := by decide +kernel
theorem dX5_leastSweep_32 : decode cX5_leastSweep 32 = .ok (.ireturn, 1) := by decide +kernel
theorem dX5_leastSweep_33 : decode cX5_leastSweep 33 = .ok (.iconst 1, 1) := by decide +kernel
theorem dX5_leastSweep_34 : decode cX5_leastSweep 34 = .ok (.istore_n 3, 1) := by decide +kernel
theorem dX5_leastSweep_35 : decode cX5_leastSweep 35 = .ok (.iload_n 3, 1) := by decide +kernel
theorem dX5_leastSweep_36 : decode cX5_leastSweep 36 = .ok (.bipush 9, 2) := by decide +kernel
theorem dX5_leastSweep_38 : decode cX5_leastSweep 38 = .ok (.if_icmp .gt 85, 3) := by decide +kernel
theorem dX5_leastSweep_41 : decode cX5_leastSweep 41 = .ok (.iconst 0, 1) := by decide +kernel
theorem dX5_leastSweep_42 : decode cX5_leastSweep 42 = .ok (.istore 4, 2) := by decide +kernel
theorem dX5_leastSweep_44 : decode cX5_leastSweep 44 = .ok (.iload 4, 2) := by decide +kernel
theorem dX5_leastSweep_46 : decode cX5_leastSweep 46 = .ok (.aload_n 0, 1) := by decide +kernel
theorem dX5_leastSweep_47 : decode cX5_leastSweep 47 = .ok (.getfield 27, 3) := by decide +kernel
theorem dX5_leastSweep_50 : decode cX5_leastSweep 50 = .ok (.getfield 41, 3) := by decide +kernel
theorem dX5_leastSweep_53 : decode cX5_leastSweep 53 = .ok (.if_icmp .ge 64, 3) := by decide +kernel
theorem dX5_leastSweep_56 : decode cX5_leastSweep 56 = .ok (.iload 4, 2) := by decide +kernel
theorem dX5_leastSweep_58 : decode cX5_leastSweep 58 = .ok (.iconst 1, 1) := by decide +kernel
theorem dX5_leastSweep_59 : decode cX5_leastSweep 59 = .ok (.isub, 1) := by decide +kernel
theorem dX5_leastSweep_60 : decode cX5_leastSweep 60 = .ok (.istore 5, 2) := by decide +kernel
theorem dX5_leastSweep_62 : decode cX5_leastSweep 62 = .ok (.iload 5, 2) := by decide +kernel
theorem dX5_leastSweep_64 : decode cX5_leastSweep 64 = .ok (.iload 4, 2) := by decide +kernel
theorem dX5_leastSweep_66 : decode cX5_leastSweep 66 = .ok (.iconst 1, 1) := by decide +kernel
theorem dX5_leastSweep_67 : decode cX5_leastSweep 67 = .ok (.iadd, 1) := by decide +kernel
theorem dX5_leastSweep_68 : decode cX5_leastSweep 68 = .ok (.if_icmp .gt 43, 3) := by decide +kernel
theorem dX5_leastSweep_71 : decode cX5_leastSweep 71 = .ok (.aload_n 0, 1) := by decide +kernel
theorem dX5_leastSweep_72 : decode cX5_leastSweep 72 = .ok (.iload 4, 2) := by decide +kernel
theorem dX5_leastSweep_74 : decode cX5_leastSweep 74 = .ok (.iload 5, 2) := by decide +kernel
theorem dX5_leastSweep_76 : decode cX5_leastSweep 76 = .ok (.iload_n 3, 1) := by decide +kernel
theorem dX5_leastSweep_77 : decode cX5_leastSweep 77 = .ok (.iload_n 1, 1) := by decide +kernel
theorem dX5_leastSweep_78 : decode cX5_leastSweep 78 = .ok (.invokevirtual 45, 3) := by decide +kernel
theorem dX5_leastSweep_81 : decode cX5_leastSweep 81 = .ok (.ifCond .eq 24, 3) := by decide +kernel
theorem dX5_leastSweep_84 : decode cX5_leastSweep 84 = .ok (.iload_n 2, 1) := by decide +kernel
theorem dX5_leastSweep_85 : decode cX5_leastSweep 85 = .ok (.ifCond .ne 7, 3) := by decide +kernel
theorem dX5_leastSweep_88 : decode cX5_leastSweep 88 = .ok (.iload_n 3, 1) := by decide +kernel
theorem dX5_leastSweep_89 : decode cX5_leastSweep 89 = .ok (.goto 15, 3) := by decide +kernel
theorem dX5_leastSweep_92 : decode cX5_leastSweep 92 = .ok (.iload_n 2, 1) := by decide +kernel
theorem dX5_leastSweep_93 : decode cX5_leastSweep 93 = .ok (.iconst 1, 1) := by decide +kernel
theorem dX5_leastSweep_94 : decode cX5_leastSweep 94 = .ok (.if_icmp .ne 8, 3) := by decide +kernel
theorem dX5_leastSweep_97 : decode cX5_leastSweep 97 = .ok (.iload 4, 2) := by decide +kernel
theorem dX5_leastSweep_99 : decode cX5_leastSweep 99 = .ok (.goto 5, 3) := by decide +kernel
theorem dX5_leastSweep_102 : decode cX5_leastSweep 102 = .ok (.iload 5, 2) := by decide +kernel
theorem dX5_leastSweep_104 : decode cX5_leastSweep 104 = .ok (.ireturn, 1) := by decide +kernel
theorem dX5_leastSweep_105 : decode cX5_leastSweep 105 = .ok (.iinc 5 2, 3) := by decide +kernel
theorem dX5_leastSweep_108 : decode cX5_leastSweep 108 = .ok (.goto (-46), 3) := by decide +kernel
theorem dX5_leastSweep_111 : decode cX5_leastSweep 111 = .ok (.iinc 4 1, 3) := by decide +kernel
theorem dX5_leastSweep_114 : decode cX5_leastSweep 114 = .ok (.goto (-70), 3) := by decide +kernel
theorem dX5_leastSweep_117 : decode cX5_leastSweep 117 = .ok (.iinc 3 1, 3) := by decide +kernel
theorem dX5_leastSweep_120 : decode cX5_leastSweep 120 = .ok (.goto (-85), 3) := by decide +kernel
theorem dX5_leastSweep_123 : decode cX5_leastSweep 123 = .ok (.bipush (-9), 2) := by decide +kernel
theorem dX5_leastSweep_125 : decode cX5_leastSweep 125 = .ok (.ireturn, 1) := by decide +kernel
theorem dX5_sweepEmptiesRoad_0 : decode cX5_sweepEmptiesRoad 0 = .ok (.aload_n 0, 1) := by decide +kernel
theorem dX5_sweepEmptiesRoad_1 : decode cX5_sweepEmptiesRoad 1 = .ok (.getfield 27, 3) := by decide +kernel
theorem dX5_sweepEmptiesRoad_4 : decode cX5_sweepEmptiesRoad 4 = .ok (.iload_n 2, 1) := by decide +kernel
theorem dX5_sweepEmptiesRoad_5 : decode cX5_sweepEmptiesRoad 5 = .ok (.invokevirtual 49, 3) := by decide +kernel
theorem dX5_sweepEmptiesRoad_8 : decode cX5_sweepEmptiesRoad 8 = .ok (.ifCond .eq 16, 3) := by decide +kernel
theorem dX5_sweepEmptiesRoad_11 : decode cX5_sweepEmptiesRoad 11 = .ok (.iload_n 3, 1) := by decide +kernel
theorem dX5_sweepEmptiesRoad_12 : decode cX5_sweepEmptiesRoad 12 = .ok (.aload_n 0, 1) := by decide +kernel
theorem dX5_sweepEmptiesRoad_13 : decode cX5_sweepEmptiesRoad 13 = .ok (.getfield 27, 3) := by decide +kernel
theorem dX5_sweepEmptiesRoad_16 : decode cX5_sweepEmptiesRoad 16 = .ok (.getfield 52, 3) := by decide +kernel
theorem dX5_sweepEmptiesRoad_19 : decode cX5_sweepEmptiesRoad 19 = .ok (.iload_n 1, 1) := by decide +kernel
theorem dX5_sweepEmptiesRoad_20 : decode cX5_sweepEmptiesRoad 20 = .ok (.iaload, 1) := by decide +kernel
theorem dX5_sweepEmptiesRoad_21 : decode cX5_sweepEmptiesRoad 21 = .ok (.if_icmp .le 5, 3) := by decide +kernel
theorem dX5_sweepEmptiesRoad_24 : decode cX5_sweepEmptiesRoad 24 = .ok (.iconst 0, 1) := by decide +kernel
theorem dX5_sweepEmptiesRoad_25 : decode cX5_sweepEmptiesRoad 25 = .ok (.ireturn, 1) := by decide +kernel
theorem dX5_sweepEmptiesRoad_26 : decode cX5_sweepEmptiesRoad 26 = .ok (.aload_n 0, 1) := by decide +kernel
theorem dX5_sweepEmptiesRoad_27 : decode cX5_sweepEmptiesRoad 27 = .ok (.getfield 12, 3) := by decide +kernel
theorem dX5_sweepEmptiesRoad_30 : decode cX5_sweepEmptiesRoad 30 = .ok (.aload_n 0, 1) := by decide +kernel
theorem dX5_sweepEmptiesRoad_31 : decode cX5_sweepEmptiesRoad 31 = .ok (.getfield 27, 3) := by decide +kernel
theorem dX5_sweepEmptiesRoad_34 : decode cX5_sweepEmptiesRoad 34 = .ok (.invokevirtual 34, 3) := by decide +kernel
theorem dX5_sweepEmptiesRoad_37 : decode cX5_sweepEmptiesRoad 37 = .ok (.aload_n 0, 1) := by decide +kernel
theorem dX5_sweepEmptiesRoad_38 : decode cX5_sweepEmptiesRoad 38 = .ok (.getfield 12, 3) := by decide +kernel
theorem dX5_sweepEmptiesRoad_41 : decode cX5_sweepEmptiesRoad 41 = .ok (.iload_n 1, 1) := by decide +kernel
theorem dX5_sweepEmptiesRoad_42 : decode cX5_sweepEmptiesRoad 42 = .ok (.iload_n 2, 1) := by decide +kernel
theorem dX5_sweepEmptiesRoad_43 : decode cX5_sweepEmptiesRoad 43 = .ok (.iload_n 3, 1) := by decide +kernel
theorem dX5_sweepEmptiesRoad_44 : decode cX5_sweepEmptiesRoad 44 = .ok (.invokevirtual 56, 3) := by decide +kernel
theorem dX5_sweepEmptiesRoad_47 : decode cX5_sweepEmptiesRoad 47 = .ok (.pop, 1) := by decide +kernel
theorem dX5_sweepEmptiesRoad_48 : decode cX5_sweepEmptiesRoad 48 = .ok (.aload_n 0, 1) := by decide +kernel
theorem dX5_sweepEmptiesRoad_49 : decode cX5_sweepEmptiesRoad 49 = .ok (.getfield 23, 3) := by decide +kernel
theorem dX5_sweepEmptiesRoad_52 : decode cX5_sweepEmptiesRoad 52 = .ok (.iload 4, 2) := by decide +kernel
theorem dX5_sweepEmptiesRoad_54 : decode cX5_sweepEmptiesRoad 54 = .ok (.invokevirtual 37, 3) := by decide +kernel
theorem dX5_sweepEmptiesRoad_57 : decode cX5_sweepEmptiesRoad 57 = .ok (.ireturn, 1) := by decide +kernel
theorem dX5_firstTurn_0 : decode cX5_firstTurn 0 = .ok (.aload_n 0, 1) := by decide +kernel
theorem dX5_firstTurn_1 : decode cX5_firstTurn 1 = .ok (.getfield 12, 3) := by decide +kernel
theorem dX5_firstTurn_4 : decode cX5_firstTurn 4 = .ok (.aload_n 0, 1) := by decide +kernel
theorem dX5_firstTurn_5 : decode cX5_firstTurn 5 = .ok (.getfield 27, 3) := by decide +kernel
theorem dX5_firstTurn_8 : decode cX5_firstTurn 8 = .ok (.invokevirtual 34, 3) := by decide +kernel
theorem dX5_firstTurn_11 : decode cX5_firstTurn 11 = .ok (.aload_n 0, 1) := by decide +kernel
theorem dX5_firstTurn_12 : decode cX5_firstTurn 12 = .ok (.getfield 23, 3) := by decide +kernel
theorem dX5_firstTurn_15 : decode cX5_firstTurn 15 = .ok (.iload_n 1, 1) := by decide +kernel
theorem dX5_firstTurn_16 : decode cX5_firstTurn 16 = .ok (.iload_n 2, 1) := by decide +kernel
theorem dX5_firstTurn_17 : decode cX5_firstTurn 17 = .ok (.invokevirtual 60, 3) := by decide +kernel
theorem dX5_firstTurn_20 : decode cX5_firstTurn 20 = .ok (.bipush (-9), 2) := by decide +kernel
theorem dX5_firstTurn_22 : decode cX5_firstTurn 22 = .ok (.if_icmp .eq 6, 3) := by decide +kernel
theorem dX5_firstTurn_25 : decode cX5_firstTurn 25 = .ok (.bipush (-9), 2) := by decide +kernel
theorem dX5_firstTurn_27 : decode cX5_firstTurn 27 = .ok (.ireturn, 1) := by decide +kernel
theorem dX5_firstTurn_28 : decode cX5_firstTurn 28 = .ok (.iconst 0, 1) := by decide +kernel
theorem dX5_firstTurn_29 : decode cX5_firstTurn 29 = .ok (.istore_n 3, 1) := by decide +kernel
theorem dX5_firstTurn_30 : decode cX5_firstTurn 30 = .ok (.iload_n 3, 1) := by decide +kernel
theorem dX5_firstTurn_31 : decode cX5_firstTurn 31 = .ok (.iload_n 2, 1) := by decide +kernel
theorem dX5_firstTurn_32 : decode cX5_firstTurn 32 = .ok (.if_icmp .ge 69, 3) := by decide +kernel
theorem dX5_firstTurn_35 : decode cX5_firstTurn 35 = .ok (.aload_n 0, 1) := by decide +kernel
theorem dX5_firstTurn_36 : decode cX5_firstTurn 36 = .ok (.getfield 12, 3) := by decide +kernel
theorem dX5_firstTurn_39 : decode cX5_firstTurn 39 = .ok (.getfield 64, 3) := by decide +kernel
theorem dX5_firstTurn_42 : decode cX5_firstTurn 42 = .ok (.iload_n 3, 1) := by decide +kernel
theorem dX5_firstTurn_43 : decode cX5_firstTurn 43 = .ok (.aload_n 0, 1) := by decide +kernel
theorem dX5_firstTurn_44 : decode cX5_firstTurn 44 = .ok (.getfield 27, 3) := by decide +kernel
theorem dX5_firstTurn_47 : decode cX5_firstTurn 47 = .ok (.getfield 64, 3) := by decide +kernel
theorem dX5_firstTurn_50 : decode cX5_firstTurn 50 = .ok (.iload_n 3, 1) := by decide +kernel
theorem dX5_firstTurn_51 : decode cX5_firstTurn 51 = .ok (.iaload, 1) := by decide +kernel
theorem dX5_firstTurn_52 : decode cX5_firstTurn 52 = .ok (.ifCond .ne 7, 3) := by decide +kernel
theorem dX5_firstTurn_55 : decode cX5_firstTurn 55 = .ok (.iconst 1, 1) := by decide +kernel
theorem dX5_firstTurn_56 : decode cX5_firstTurn 56 = .ok (.goto 4, 3) := by decide +kernel
theorem dX5_firstTurn_59 : decode cX5_firstTurn 59 = .ok (.iconst 0, 1) := by decide +kernel
theorem dX5_firstTurn_60 : decode cX5_firstTurn 60 = .ok (.iastore, 1) := by decide +kernel
theorem dX5_firstTurn_61 : decode cX5_firstTurn 61 = .ok (.aload_n 0, 1) := by decide +kernel
theorem dX5_firstTurn_62 : decode cX5_firstTurn 62 = .ok (.getfield 23, 3) := by decide +kernel
theorem dX5_firstTurn_65 : decode cX5_firstTurn 65 = .ok (.iload_n 1, 1) := by decide +kernel
theorem dX5_firstTurn_66 : decode cX5_firstTurn 66 = .ok (.iload_n 2, 1) := by decide +kernel
theorem dX5_firstTurn_67 : decode cX5_firstTurn 67 = .ok (.invokevirtual 60, 3) := by decide +kernel
theorem dX5_firstTurn_70 : decode cX5_firstTurn 70 = .ok (.bipush (-9), 2) := by decide +kernel
theorem dX5_firstTurn_72 : decode cX5_firstTurn 72 = .ok (.if_icmp .eq 5, 3) := by decide +kernel
theorem dX5_firstTurn_75 : decode cX5_firstTurn 75 = .ok (.iload_n 3, 1) := by decide +kernel
theorem dX5_firstTurn_76 : decode cX5_firstTurn 76 = .ok (.ireturn, 1) := by decide +kernel
theorem dX5_firstTurn_77 : decode cX5_firstTurn 77 = .ok (.aload_n 0, 1) := by decide +kernel
theorem dX5_firstTurn_78 : decode cX5_firstTurn 78 = .ok (.getfield 12, 3) := by decide +kernel
theorem dX5_firstTurn_81 : decode cX5_firstTurn 81 = .ok (.getfield 64, 3) := by decide +kernel
theorem dX5_firstTurn_84 : decode cX5_firstTurn 84 = .ok (.iload_n 3, 1) := by decide +kernel
theorem dX5_firstTurn_85 : decode cX5_firstTurn 85 = .ok (.aload_n 0, 1) := by decide +kernel
theorem dX5_firstTurn_86 : decode cX5_firstTurn 86 = .ok (.getfield 27, 3) := by decide +kernel
theorem dX5_firstTurn_89 : decode cX5_firstTurn 89 = .ok (.getfield 64, 3) := by decide +kernel
theorem dX5_firstTurn_92 : decode cX5_firstTurn 92 = .ok (.iload_n 3, 1) := by decide +kernel
theorem dX5_firstTurn_93 : decode cX5_firstTurn 93 = .ok (.iaload, 1) := by decide +kernel
theorem dX5_firstTurn_94 : decode cX5_firstTurn 94 = .ok (.iastore, 1) := by decide +kernel
theorem dX5_firstTurn_95 : decode cX5_firstTurn 95 = .ok (.iinc 3 1, 3) := by decide +kernel
theorem dX5_firstTurn_98 : decode cX5_firstTurn 98 = .ok (.goto (-68), 3) := by decide +kernel
theorem dX5_firstTurn_101 : decode cX5_firstTurn 101 = .ok (.bipush (-9), 2) := by decide +kernel
theorem dX5_firstTurn_103 : decode cX5_firstTurn 103 = .ok (.ireturn, 1) := by decide +kernel
theorem dX5_innsThatCork_0 : decode cX5_innsThatCork 0 = .ok (.aload_n 0, 1) := by decide +kernel
theorem dX5_innsThatCork_1 : decode cX5_innsThatCork 1 = .ok (.getfield 12, 3) := by decide +kernel
theorem dX5_innsThatCork_4 : decode cX5_innsThatCork 4 = .ok (.aload_n 0, 1) := by decide +kernel
theorem dX5_innsThatCork_5 : decode cX5_innsThatCork 5 = .ok (.getfield 27, 3) := by decide +kernel
theorem dX5_innsThatCork_8 : decode cX5_innsThatCork 8 = .ok (.invokevirtual 34, 3) := by decide +kernel
theorem dX5_innsThatCork_11 : decode cX5_innsThatCork 11 = .ok (.aload_n 0, 1) := by decide +kernel
theorem dX5_innsThatCork_12 : decode cX5_innsThatCork 12 = .ok (.iload_n 1, 1) := by decide +kernel
theorem dX5_innsThatCork_13 : decode cX5_innsThatCork 13 = .ok (.invokevirtual 67, 3) := by decide +kernel
theorem dX5_innsThatCork_16 : decode cX5_innsThatCork 16 = .ok (.istore_n 2, 1) := by decide +kernel
theorem dX5_innsThatCork_17 : decode cX5_innsThatCork 17 = .ok (.iconst 0, 1) := by decide +kernel
theorem dX5_innsThatCork_18 : decode cX5_innsThatCork 18 = .ok (.istore_n 3, 1) := by decide +kernel
theorem dX5_innsThatCork_19 : decode cX5_innsThatCork 19 = .ok (.iconst 0, 1) := by decide +kernel
theorem dX5_innsThatCork_20 : decode cX5_innsThatCork 20 = .ok (.istore 4, 2) := by decide +kernel
theorem dX5_innsThatCork_22 : decode cX5_innsThatCork 22 = .ok (.iload 4, 2) := by decide +kernel
theorem dX5_innsThatCork_24 : decode cX5_innsThatCork 24 = .ok (.aload_n 0, 1) := by decide +kernel
