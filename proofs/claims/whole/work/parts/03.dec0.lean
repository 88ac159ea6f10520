theorem dX0_init_0 : decode cX0_init 0 = .ok (.aload_n 0, 1) := by decide +kernel
theorem dX0_init_1 : decode cX0_init 1 = .ok (.invokespecial 3, 3) := by decide +kernel
theorem dX0_init_4 : decode cX0_init 4 = .ok (.aload_n 0, 1) := by decide +kernel
theorem dX0_init_5 : decode cX0_init 5 = .ok (.bipush 9, 2) := by decide +kernel
theorem dX0_init_7 : decode cX0_init 7 = .ok (.bipush 6, 2) := by decide +kernel
theorem dX0_init_9 : decode cX0_init 9 = .ok (.multianewarray 9 2, 4) := by decide +kernel
theorem dX0_init_13 : decode cX0_init 13 = .ok (.putfield 11, 3) := by decide +kernel
theorem dX0_init_16 : decode cX0_init 16 = .ok (.aload_n 0, 1) := by decide +kernel
theorem dX0_init_17 : decode cX0_init 17 = .ok (.bipush 9, 2) := by decide +kernel
theorem dX0_init_19 : decode cX0_init 19 = .ok (.bipush 7, 2) := by decide +kernel
theorem dX0_init_21 : decode cX0_init 21 = .ok (.multianewarray 9 2, 4) := by decide +kernel
theorem dX0_init_25 : decode cX0_init 25 = .ok (.putfield 16, 3) := by decide +kernel
theorem dX0_init_28 : decode cX0_init 28 = .ok (.aload_n 0, 1) := by decide +kernel
theorem dX0_init_29 : decode cX0_init 29 = .ok (.bipush 9, 2) := by decide +kernel
theorem dX0_init_31 : decode cX0_init 31 = .ok (.newarray .int, 2) := by decide +kernel
theorem dX0_init_33 : decode cX0_init 33 = .ok (.putfield 19, 3) := by decide +kernel
theorem dX0_init_36 : decode cX0_init 36 = .ok (.aload_n 0, 1) := by decide +kernel
theorem dX0_init_37 : decode cX0_init 37 = .ok (.aload_n 1, 1) := by decide +kernel
theorem dX0_init_38 : decode cX0_init 38 = .ok (.putfield 23, 3) := by decide +kernel
theorem dX0_init_41 : decode cX0_init 41 = .ok (.return_, 1) := by decide +kernel
theorem dX0_run_0 : decode cX0_run 0 = .ok (.aload_n 0, 1) := by decide +kernel
theorem dX0_run_1 : decode cX0_run 1 = .ok (.invokevirtual 27, 3) := by decide +kernel
theorem dX0_run_4 : decode cX0_run 4 = .ok (.iconst 0, 1) := by decide +kernel
theorem dX0_run_5 : decode cX0_run 5 = .ok (.istore_n 2, 1) := by decide +kernel
theorem dX0_run_6 : decode cX0_run 6 = .ok (.iload_n 2, 1) := by decide +kernel
theorem dX0_run_7 : decode cX0_run 7 = .ok (.iload_n 1, 1) := by decide +kernel
theorem dX0_run_8 : decode cX0_run 8 = .ok (.if_icmp .ge 23, 3) := by decide +kernel
theorem dX0_run_11 : decode cX0_run 11 = .ok (.aload_n 0, 1) := by decide +kernel
theorem dX0_run_12 : decode cX0_run 12 = .ok (.iload_n 2, 1) := by decide +kernel
theorem dX0_run_13 : decode cX0_run 13 = .ok (.aload_n 0, 1) := by decide +kernel
theorem dX0_run_14 : decode cX0_run 14 = .ok (.getfield 23, 3) := by decide +kernel
theorem dX0_run_17 : decode cX0_run 17 = .ok (.getfield 30, 3) := by decide +kernel
theorem dX0_run_20 : decode cX0_run 20 = .ok (.iload_n 2, 1) := by decide +kernel
theorem dX0_run_21 : decode cX0_run 21 = .ok (.iaload, 1) := by decide +kernel
theorem dX0_run_22 : decode cX0_run 22 = .ok (.invokevirtual 35, 3) := by decide +kernel
theorem dX0_run_25 : decode cX0_run 25 = .ok (.iinc 2 1, 3) := by decide +kernel
theorem dX0_run_28 : decode cX0_run 28 = .ok (.goto (-22), 3) := by decide +kernel
theorem dX0_run_31 : decode cX0_run 31 = .ok (.return_, 1) := by decide +kernel
theorem dX0_begin_0 : decode cX0_begin 0 = .ok (.aload_n 0, 1) := by decide +kernel
theorem dX0_begin_1 : decode cX0_begin 1 = .ok (.getfield 19, 3) := by decide +kernel
theorem dX0_begin_4 : decode cX0_begin 4 = .ok (.iconst 0, 1) := by decide +kernel
theorem dX0_begin_5 : decode cX0_begin 5 = .ok (.iconst 0, 1) := by decide +kernel
theorem dX0_begin_6 : decode cX0_begin 6 = .ok (.iastore, 1) := by decide +kernel
theorem dX0_begin_7 : decode cX0_begin 7 = .ok (.iconst 0, 1) := by decide +kernel
theorem dX0_begin_8 : decode cX0_begin 8 = .ok (.istore_n 1, 1) := by decide +kernel
theorem dX0_begin_9 : decode cX0_begin 9 = .ok (.iload_n 1, 1) := by decide +kernel
theorem dX0_begin_10 : decode cX0_begin 10 = .ok (.aload_n 0, 1) := by decide +kernel
theorem dX0_begin_11 : decode cX0_begin 11 = .ok (.getfield 23, 3) := by decide +kernel
theorem dX0_begin_14 : decode cX0_begin 14 = .ok (.getfield 39, 3) := by decide +kernel
theorem dX0_begin_17 : decode cX0_begin 17 = .ok (.if_icmp .ge 26, 3) := by decide +kernel
theorem dX0_begin_20 : decode cX0_begin 20 = .ok (.aload_n 0, 1) := by decide +kernel
theorem dX0_begin_21 : decode cX0_begin 21 = .ok (.getfield 11, 3) := by decide +kernel
theorem dX0_begin_24 : decode cX0_begin 24 = .ok (.iconst 0, 1) := by decide +kernel
theorem dX0_begin_25 : decode cX0_begin 25 = .ok (.aaload, 1) := by decide +kernel
theorem dX0_begin_26 : decode cX0_begin 26 = .ok (.iload_n 1, 1) := by decide +kernel
theorem dX0_begin_27 : decode cX0_begin 27 = .ok (.aload_n 0, 1) := by decide +kernel
theorem dX0_begin_28 : decode cX0_begin 28 = .ok (.getfield 23, 3) := by decide +kernel
theorem dX0_begin_31 : decode cX0_begin 31 = .ok (.getfield 43, 3) := by decide +kernel
theorem dX0_begin_34 : decode cX0_begin 34 = .ok (.iload_n 1, 1) := by decide +kernel
theorem dX0_begin_35 : decode cX0_begin 35 = .ok (.iaload, 1) := by decide +kernel
theorem dX0_begin_36 : decode cX0_begin 36 = .ok (.iastore, 1) := by decide +kernel
theorem dX0_begin_37 : decode cX0_begin 37 = .ok (.iinc 1 1, 3) := by decide +kernel
theorem dX0_begin_40 : decode cX0_begin 40 = .ok (.goto (-31), 3) := by decide +kernel
theorem dX0_begin_43 : decode cX0_begin 43 = .ok (.iconst 0, 1) := by decide +kernel
theorem dX0_begin_44 : decode cX0_begin 44 = .ok (.istore_n 1, 1) := by decide +kernel
theorem dX0_begin_45 : decode cX0_begin 45 = .ok (.iload_n 1, 1) := by decide +kernel
theorem dX0_begin_46 : decode cX0_begin 46 = .ok (.aload_n 0, 1) := by decide +kernel
theorem dX0_begin_47 : decode cX0_begin 47 = .ok (.getfield 23, 3) := by decide +kernel
theorem dX0_begin_50 : decode cX0_begin 50 = .ok (.getfield 39, 3) := by decide +kernel
theorem dX0_begin_53 : decode cX0_begin 53 = .ok (.if_icmp .gt 18, 3) := by decide +kernel
theorem dX0_begin_56 : decode cX0_begin 56 = .ok (.aload_n 0, 1) := by decide +kernel
theorem dX0_begin_57 : decode cX0_begin 57 = .ok (.getfield 16, 3) := by decide +kernel
theorem dX0_begin_60 : decode cX0_begin 60 = .ok (.iconst 0, 1) := by decide +kernel
theorem dX0_begin_61 : decode cX0_begin 61 = .ok (.aaload, 1) := by decide +kernel
theorem dX0_begin_62 : decode cX0_begin 62 = .ok (.iload_n 1, 1) := by decide +kernel
theorem dX0_begin_63 : decode cX0_begin 63 = .ok (.iconst 0, 1) := by decide +kernel
theorem dX0_begin_64 : decode cX0_begin 64 = .ok (.iastore, 1) := by decide +kernel
theorem dX0_begin_65 : decode cX0_begin 65 = .ok (.iinc 1 1, 3) := by decide +kernel
theorem dX0_begin_68 : decode cX0_begin 68 = .ok (.goto (-23), 3) := by decide +kernel
theorem dX0_begin_71 : decode cX0_begin 71 = .ok (.iconst 0, 1) := by decide +kernel
theorem dX0_begin_72 : decode cX0_begin 72 = .ok (.istore_n 1, 1) := by decide +kernel
theorem dX0_begin_73 : decode cX0_begin 73 = .ok (.iload_n 1, 1) := by decide +kernel
theorem dX0_begin_74 : decode cX0_begin 74 = .ok (.aload_n 0, 1) := by decide +kernel
theorem dX0_begin_75 : decode cX0_begin 75 = .ok (.getfield 23, 3) := by decide +kernel
theorem dX0_begin_78 : decode cX0_begin 78 = .ok (.getfield 45, 3) := by decide +kernel
theorem dX0_begin_81 : decode cX0_begin 81 = .ok (.if_icmp .ge 31, 3) := by decide +kernel
theorem dX0_begin_84 : decode cX0_begin 84 = .ok (.aload_n 0, 1) := by decide +kernel
theorem dX0_begin_85 : decode cX0_begin 85 = .ok (.getfield 16, 3) := by decide +kernel
theorem dX0_begin_88 : decode cX0_begin 88 = .ok (.iconst 0, 1) := by decide +kernel
theorem dX0_begin_89 : decode cX0_begin 89 = .ok (.aaload, 1) := by decide +kernel
theorem dX0_begin_90 : decode cX0_begin 90 = .ok (.aload_n 0, 1) := by decide +kernel
theorem dX0_begin_91 : decode cX0_begin 91 = .ok (.getfield 23, 3) := by decide +kernel
theorem dX0_begin_94 : decode cX0_begin 94 = .ok (.getfield 47, 3) := by decide +kernel
theorem dX0_begin_97 : decode cX0_begin 97 = .ok (.iload_n 1, 1) := by decide +kernel
theorem dX0_begin_98 : decode cX0_begin 98 = .ok (.iaload, 1) := by decide +kernel
theorem dX0_begin_99 : decode cX0_begin 99 = .ok (.dup2, 1) := by decide +kernel
theorem dX0_begin_100 : decode cX0_begin 100 = .ok (.iaload, 1) := by decide +kernel
theorem dX0_begin_101 : decode cX0_begin 101 = .ok (.iconst 1, 1) := by decide +kernel
theorem dX0_begin_102 : decode cX0_begin 102 = .ok (.iload_n 1, 1) := by decide +kernel
theorem dX0_begin_103 : decode cX0_begin 103 = .ok (.ishl, 1) := by decide +kernel
theorem dX0_begin_104 : decode cX0_begin 104 = .ok (.ior, 1) := by decide +kernel
theorem dX0_begin_105 : decode cX0_begin 105 = .ok (.iastore, 1) := by decide +kernel
theorem dX0_begin_106 : decode cX0_begin 106 = .ok (.iinc 1 1, 3) := by decide +kernel
theorem dX0_begin_109 : decode cX0_begin 109 = .ok (.goto (-36), 3) := by decide +kernel
theorem dX0_begin_112 : decode cX0_begin 112 = .ok (.return_, 1) := by decide +kernel
theorem dX0_pass_0 : decode cX0_pass 0 = .ok (.aload_n 0, 1) := by decide +kernel
theorem dX0_pass_1 : decode cX0_pass 1 = .ok (.iload_n 1, 1) := by decide +kernel
theorem dX0_pass_2 : decode cX0_pass 2 = .ok (.invokevirtual 50, 3) := by decide +kernel
theorem dX0_pass_5 : decode cX0_pass 5 = .ok (.aload_n 0, 1) := by decide +kernel
theorem dX0_pass_6 : decode cX0_pass 6 = .ok (.getfield 23, 3) := by decide +kernel
theorem dX0_pass_9 : decode cX0_pass 9 = .ok (.getfield 39, 3) := by decide +kernel
theorem dX0_pass_12 : decode cX0_pass 12 = .ok (.istore_n 3, 1) := by decide +kernel
theorem dX0_pass_13 : decode cX0_pass 13 = .ok (.aload_n 0, 1) := by decide +kernel
theorem dX0_pass_14 : decode cX0_pass 14 = .ok (.getfield 16, 3) := by decide +kernel
theorem dX0_pass_17 : decode cX0_pass 17 = .ok (.iload_n 1, 1) := by decide +kernel
theorem dX0_pass_18 : decode cX0_pass 18 = .ok (.aaload, 1) := by decide +kernel
theorem dX0_pass_19 : decode cX0_pass 19 = .ok (.astore 4, 2) := by decide +kernel
theorem dX0_pass_21 : decode cX0_pass 21 = .ok (.aload_n 0, 1) := by decide +kernel
theorem dX0_pass_22 : decode cX0_pass 22 = .ok (.getfield 16, 3) := by decide +kernel
theorem dX0_pass_25 : decode cX0_pass 25 = .ok (.iload_n 1, 1) := by decide +kernel
theorem dX0_pass_26 : decode cX0_pass 26 = .ok (.iconst 1, 1) := by decide +kernel
theorem dX0_pass_27 : decode cX0_pass 27 = .ok (.iadd, 1) := by decide +kernel
theorem dX0_pass_28 : decode cX0_pass 28 = .ok (.aaload, 1) := by decide +kernel
theorem dX0_pass_29 : decode cX0_pass 29 = .ok (.astore 5, 2) := by decide +kernel
theorem dX0_pass_31 : decode cX0_pass 31 = .ok (.iconst 0, 1) := by decide +kernel
theorem dX0_pass_32 : decode cX0_pass 32 = .ok (.istore 6, 2) := by decide +kernel
theorem dX0_pass_34 : decode cX0_pass 34 = .ok (.iconst 0, 1) := by decide +kernel
theorem dX0_pass_35 : decode cX0_pass 35 = .ok (.istore 7, 2) := by decide +kernel
theorem dX0_pass_37 : decode cX0_pass 37 = .ok (.iload 7, 2) := by decide +kernel
theorem dX0_pass_39 : decode cX0_pass 39 = .ok (.iload_n 3, 1) := by decide +kernel
theorem dX0_pass_40 : decode cX0_pass 40 = .ok (.if_icmp .ge 99, 3) := by decide +kernel
theorem dX0_pass_43 : decode cX0_pass 43 = .ok (.iload_n 2, 1) := by decide +kernel
theorem dX0_pass_44 : decode cX0_pass 44 = .ok (.ifCond .ne 8, 3) := by decide +kernel
theorem dX0_pass_47 : decode cX0_pass 47 = .ok (.iload 7, 2) := by decide +kernel
theorem dX0_pass_49 : decode cX0_pass 49 = .ok (.goto 9, 3) := by decide +kernel
theorem dX0_pass_52 : decode cX0_pass 52 = .ok (.iload_n 3, 1) := by decide +kernel
theorem dX0_pass_53 : decode cX0_pass 53 = .ok (.iconst 1, 1) := by decide +kernel
theorem dX0_pass_54 : decode cX0_pass 54 = .ok (.isub, 1) := by decide +kernel
theorem dX0_pass_55 : decode cX0_pass 55 = .ok (.iload 7, 2) := by decide +kernel
theorem dX0_pass_57 : decode cX0_pass 57 = .ok (.isub, 1) := by decide +kernel
theorem dX0_pass_58 : decode cX0_pass 58 = .ok (.istore 8, 2) := by decide +kernel
theorem dX0_pass_60 : decode cX0_pass 60 = .ok (.aload 4, 2) := by decide +kernel
theorem dX0_pass_62 : decode cX0_pass 62 = .ok (.iload 8, 2) := by decide +kernel
theorem dX0_pass_64 : decode cX0_pass 64 = .ok (.iaload, 1) := by decide +kernel
theorem dX0_pass_65 : decode cX0_pass 65 = .ok (.iload 6, 2) := by decide +kernel
theorem dX0_pass_67 : decode cX0_pass 67 = .ok (.ior, 1) := by decide +kernel
theorem dX0_pass_68 : decode cX0_pass 68 = .ok (.istore 9, 2) := by decide +kernel
theorem dX0_pass_70 : decode cX0_pass 70 = .ok (.iload 8, 2) := by decide +kernel
theorem dX0_pass_72 : decode cX0_pass 72 = .ok (.aload_n 0, 1) := by decide +kernel
theorem dX0_pass_73 : decode cX0_pass 73 = .ok (.getfield 19, 3) := by decide +kernel
theorem dX0_pass_76 : decode cX0_pass 76 = .ok (.iload_n 1, 1) := by decide +kernel
theorem dX0_pass_77 : decode cX0_pass 77 = .ok (.iaload, 1) := by decide +kernel
theorem dX0_pass_78 : decode cX0_pass 78 = .ok (.if_icmp .ne 12, 3) := by decide +kernel
theorem dX0_pass_81 : decode cX0_pass 81 = .ok (.iload 9, 2) := by decide +kernel
theorem dX0_pass_83 : decode cX0_pass 83 = .ok (.aload 4, 2) := by decide +kernel
theorem dX0_pass_85 : decode cX0_pass 85 = .ok (.iload_n 3, 1) := by decide +kernel
theorem dX0_pass_86 : decode cX0_pass 86 = .ok (.iaload, 1) := by decide +kernel
theorem dX0_pass_87 : decode cX0_pass 87 = .ok (.ior, 1) := by decide +kernel
theorem dX0_pass_88 : decode cX0_pass 88 = .ok (.istore 9, 2) := by decide +kernel
theorem dX0_pass_90 : decode cX0_pass 90 = .ok (.aload 5, 2) := by decide +kernel
theorem dX0_pass_92 : decode cX0_pass 92 = .ok (.iload 8, 2) := by decide +kernel
theorem dX0_pass_94 : decode cX0_pass 94 = .ok (.aload_n 0, 1) := by decide +kernel
theorem dX0_pass_95 : decode cX0_pass 95 = .ok (.iload 9, 2) := by decide +kernel
theorem dX0_pass_97 : decode cX0_pass 97 = .ok (.aload_n 0, 1) := by decide +kernel
theorem dX0_pass_98 : decode cX0_pass 98 = .ok (.getfield 23, 3) := by decide +kernel
theorem dX0_pass_101 : decode cX0_pass 101 = .ok (.iload 8, 2) := by decide +kernel
theorem dX0_pass_103 : decode cX0_pass 103 = .ok (.aload_n 0, 1) := by decide +kernel
theorem dX0_pass_104 : decode cX0_pass 104 = .ok (.getfield 11, 3) := by decide +kernel
theorem dX0_pass_107 : decode cX0_pass 107 = .ok (.iload_n 1, 1) := by decide +kernel
theorem dX0_pass_108 : decode cX0_pass 108 = .ok (.iconst 1, 1) := by decide +kernel
theorem dX0_pass_109 : decode cX0_pass 109 = .ok (.iadd, 1) := by decide +kernel
theorem dX0_pass_110 : decode cX0_pass 110 = .ok (.aaload, 1) := by decide +kernel
theorem dX0_pass_111 : decode cX0_pass 111 = .ok (.iload 8, 2) := by decide +kernel
theorem dX0_pass_113 : decode cX0_pass 113 = .ok (.iaload, 1) := by decide +kernel
theorem dX0_pass_114 : decode cX0_pass 114 = .ok (.invokevirtual 54, 3) := by decide +kernel
theorem dX0_pass_117 : decode cX0_pass 117 = .ok (.invokevirtual 58, 3) := by decide +kernel
theorem dX0_pass_120 : decode cX0_pass 120 = .ok (.iastore, 1) := by decide +kernel
theorem dX0_pass_121 : decode cX0_pass 121 = .ok (.iload 9, 2) := by decide +kernel
theorem dX0_pass_123 : decode cX0_pass 123 = .ok (.aload 5, 2) := by decide +kernel
theorem dX0_pass_125 : decode cX0_pass 125 = .ok (.iload 8, 2) := by decide +kernel
theorem dX0_pass_127 : decode cX0_pass 127 = .ok (.iaload, 1) := by decide +kernel
theorem dX0_pass_128 : decode cX0_pass 128 = .ok (.iconst (-1), 1) := by decide +kernel
theorem dX0_pass_129 : decode cX0_pass 129 = .ok (.ixor, 1) := by decide +kernel
theorem dX0_pass_130 : decode cX0_pass 130 = .ok (.iand, 1) := by decide +kernel
theorem dX0_pass_131 : decode cX0_pass 131 = .ok (.istore 6, 2) := by decide +kernel
theorem dX0_pass_133 : decode cX0_pass 133 = .ok (.iinc 7 1, 3) := by decide +kernel
theorem dX0_pass_136 : decode cX0_pass 136 = .ok (.goto (-99), 3) := by decide +kernel
theorem dX0_pass_139 : decode cX0_pass 139 = .ok (.aload 5, 2) := by decide +kernel
theorem dX0_pass_141 : decode cX0_pass 141 = .ok (.iload_n 3, 1) := by decide +kernel
theorem dX0_pass_142 : decode cX0_pass 142 = .ok (.iload 6, 2) := by decide +kernel
theorem dX0_pass_144 : decode cX0_pass 144 = .ok (.iastore, 1) := by decide +kernel
theorem dX0_pass_145 : decode cX0_pass 145 = .ok (.aload_n 0, 1) := by decide +kernel
theorem dX0_pass_146 : decode cX0_pass 146 = .ok (.getfield 19, 3) := by decide +kernel
theorem dX0_pass_149 : decode cX0_pass 149 = .ok (.iload_n 1, 1) := by decide +kernel
theorem dX0_pass_150 : decode cX0_pass 150 = .ok (.iconst 1, 1) := by decide +kernel
theorem dX0_pass_151 : decode cX0_pass 151 = .ok (.iadd, 1) := by decide +kernel
theorem dX0_pass_152 : decode cX0_pass 152 = .ok (.iload_n 2, 1) := by decide +kernel
theorem dX0_pass_153 : decode cX0_pass 153 = .ok (.ifCond .ne 9, 3) := by decide +kernel
theorem dX0_pass_156 : decode cX0_pass 156 = .ok (.iload_n 3, 1) := by decide +kernel
theorem dX0_pass_157 : decode cX0_pass 157 = .ok (.iconst 1, 1) := by decide +kernel
theorem dX0_pass_158 : decode cX0_pass 158 = .ok (.isub, 1) := by decide +kernel
theorem dX0_pass_159 : decode cX0_pass 159 = .ok (.goto 4, 3) := by decide +kernel
theorem dX0_pass_162 : decode cX0_pass 162 = .ok (.iconst 0, 1) := by decide +kernel
theorem dX0_pass_163 : decode cX0_pass 163 = .ok (.iastore, 1) := by decide +kernel
theorem dX0_pass_164 : decode cX0_pass 164 = .ok (.return_, 1) := by decide +kernel
theorem dX0_snow_0 : decode cX0_snow 0 = .ok (.aload_n 0, 1) := by decide +kernel
theorem dX0_snow_1 : decode cX0_snow 1 = .ok (.getfield 23, 3) := by decide +kernel
theorem dX0_snow_4 : decode cX0_snow 4 = .ok (.getfield 61, 3) := by decide +kernel
theorem dX0_snow_7 : decode cX0_snow 7 = .ok (.iload_n 1, 1) := by decide +kernel
theorem dX0_snow_8 : decode cX0_snow 8 = .ok (.iaload, 1) := by decide +kernel
theorem dX0_snow_9 : decode cX0_snow 9 = .ok (.iconst 2, 1) := by decide +kernel
theorem dX0_snow_10 : decode cX0_snow 10 = .ok (.isub, 1) := by decide +kernel
theorem dX0_snow_11 : decode cX0_snow 11 = .ok (.istore_n 2, 1) := by decide +kernel
theorem dX0_snow_12 : decode cX0_snow 12 = .ok (.iconst 0, 1) := by decide +kernel
theorem dX0_snow_13 : decode cX0_snow 13 = .ok (.istore_n 3, 1) := by decide +kernel
theorem dX0_snow_14 : decode cX0_snow 14 = .ok (.iload_n 3, 1) := by decide +kernel
theorem dX0_snow_15 : decode cX0_snow 15 = .ok (.aload_n 0, 1) := by decide +kernel
theorem dX0_snow_16 : decode cX0_snow 16 = .ok (.getfield 23, 3) := by decide +kernel
theorem dX0_snow_19 : decode cX0_snow 19 = .ok (.getfield 39, 3) := by decide +kernel
theorem dX0_snow_22 : decode cX0_snow 22 = .ok (.if_icmp .ge 42, 3) := by decide +kernel
theorem dX0_snow_25 : decode cX0_snow 25 = .ok (.aload_n 0, 1) := by decide +kernel
theorem dX0_snow_26 : decode cX0_snow 26 = .ok (.getfield 11, 3) := by decide +kernel
theorem dX0_snow_29 : decode cX0_snow 29 = .ok (.iload_n 1, 1) := by decide +kernel
theorem dX0_snow_30 : decode cX0_snow 30 = .ok (.aaload, 1) := by decide +kernel
theorem dX0_snow_31 : decode cX0_snow 31 = .ok (.iload_n 3, 1) := by decide +kernel
theorem dX0_snow_32 : decode cX0_snow 32 = .ok (.iaload, 1) := by decide +kernel
theorem dX0_snow_33 : decode cX0_snow 33 = .ok (.iload_n 2, 1) := by decide +kernel
theorem dX0_snow_34 : decode cX0_snow 34 = .ok (.iadd, 1) := by decide +kernel
theorem dX0_snow_35 : decode cX0_snow 35 = .ok (.istore 4, 2) := by decide +kernel
theorem dX0_snow_37 : decode cX0_snow 37 = .ok (.aload_n 0, 1) := by decide +kernel
theorem dX0_snow_38 : decode cX0_snow 38 = .ok (.getfield 11, 3) := by decide +kernel
theorem dX0_snow_41 : decode cX0_snow 41 = .ok (.iload_n 1, 1) := by decide +kernel
theorem dX0_snow_42 : decode cX0_snow 42 = .ok (.iconst 1, 1) := by decide +kernel
theorem dX0_snow_43 : decode cX0_snow 43 = .ok (.iadd, 1) := by decide +kernel
theorem dX0_snow_44 : decode cX0_snow 44 = .ok (.aaload, 1) := by decide +kernel
theorem dX0_snow_45 : decode cX0_snow 45 = .ok (.iload_n 3, 1) := by decide +kernel
theorem dX0_snow_46 : decode cX0_snow 46 = .ok (.iconst 0, 1) := by decide +kernel
theorem dX0_snow_47 : decode cX0_snow 47 = .ok (.bipush 9, 2) := by decide +kernel
theorem dX0_snow_49 : decode cX0_snow 49 = .ok (.iload 4, 2) := by decide +kernel
theorem dX0_snow_51 : decode cX0_snow 51 = .ok (.invokestatic 64, 3) := by decide +kernel
theorem dX0_snow_54 : decode cX0_snow 54 = .ok (.invokestatic 69, 3) := by decide +kernel
theorem dX0_snow_57 : decode cX0_snow 57 = .ok (.iastore, 1) := by decide +kernel
theorem dX0_snow_58 : decode cX0_snow 58 = .ok (.iinc 3 1, 3) := by decide +kernel
theorem dX0_snow_61 : decode cX0_snow 61 = .ok (.goto (-47), 3) := by decide +kernel
theorem dX0_snow_64 : decode cX0_snow 64 = .ok (.return_, 1) := by decide +kernel
theorem dX0_keptOf_0 : decode cX0_keptOf 0 = .ok (.iload_n 1, 1) := by decide +kernel
theorem dX0_keptOf_1 : decode cX0_keptOf 1 = .ok (.invokestatic 72, 3) := by decide +kernel
theorem dX0_keptOf_4 : decode cX0_keptOf 4 = .ok (.istore_n 3, 1) := by decide +kernel
theorem dX0_keptOf_5 : decode cX0_keptOf 5 = .ok (.iload_n 2, 1) := by decide +kernel
theorem dX0_keptOf_6 : decode cX0_keptOf 6 = .ok (.iload_n 3, 1) := by decide +kernel
theorem dX0_keptOf_7 : decode cX0_keptOf 7 = .ok (.invokestatic 64, 3) := by decide +kernel
theorem dX0_keptOf_10 : decode cX0_keptOf 10 = .ok (.istore 4, 2) := by decide +kernel
theorem dX0_keptOf_12 : decode cX0_keptOf 12 = .ok (.aload_n 0, 1) := by decide +kernel
theorem dX0_keptOf_13 : decode cX0_keptOf 13 = .ok (.getfield 23, 3) := by decide +kernel
theorem dX0_keptOf_16 : decode cX0_keptOf 16 = .ok (.getfield 78, 3) := by decide +kernel
theorem dX0_keptOf_19 : decode cX0_keptOf 19 = .ok (.ifCond .ne 16, 3) := by decide +kernel
theorem dX0_keptOf_22 : decode cX0_keptOf 22 = .ok (.iload_n 1, 1) := by decide +kernel
theorem dX0_keptOf_23 : decode cX0_keptOf 23 = .ok (.iload_n 1, 1) := by decide +kernel
theorem dX0_keptOf_24 : decode cX0_keptOf 24 = .ok (.iload 4, 2) := by decide +kernel
theorem dX0_keptOf_26 : decode cX0_keptOf 26 = .ok (.invokestatic 81, 3) := by decide +kernel
theorem dX0_keptOf_29 : decode cX0_keptOf 29 = .ok (.iconst (-1), 1) := by decide +kernel
theorem dX0_keptOf_30 : decode cX0_keptOf 30 = .ok (.ixor, 1) := by decide +kernel
theorem dX0_keptOf_31 : decode cX0_keptOf 31 = .ok (.iand, 1) := by decide +kernel
theorem dX0_keptOf_32 : decode cX0_keptOf 32 = .ok (.goto 11, 3) := by decide +kernel
theorem dX0_keptOf_35 : decode cX0_keptOf 35 = .ok (.iload_n 1, 1) := by decide +kernel
theorem dX0_keptOf_36 : decode cX0_keptOf 36 = .ok (.iload_n 3, 1) := by decide +kernel
theorem dX0_keptOf_37 : decode cX0_keptOf 37 = .ok (.iload 4, 2) := by decide +kernel
theorem dX0_keptOf_39 : decode cX0_keptOf 39 = .ok (.isub, 1) := by decide +kernel
theorem dX0_keptOf_40 : decode cX0_keptOf 40 = .ok (.invokestatic 81, 3) := by decide +kernel
theorem dX0_keptOf_43 : decode cX0_keptOf 43 = .ok (.ireturn, 1) := by decide +kernel
theorem dX0_withoutLeast_0 : decode cX0_withoutLeast 0 = .ok (.iload_n 0, 1) := by decide +kernel
theorem dX0_withoutLeast_1 : decode cX0_withoutLeast 1 = .ok (.istore_n 2, 1) := by decide +kernel
theorem dX0_withoutLeast_2 : decode cX0_withoutLeast 2 = .ok (.iconst 0, 1) := by decide +kernel
theorem dX0_withoutLeast_3 : decode cX0_withoutLeast 3 = .ok (.istore_n 3, 1) := by decide +kernel
theorem dX0_withoutLeast_4 : decode cX0_withoutLeast 4 = .ok (.iload_n 3, 1) := by decide +kernel
theorem dX0_withoutLeast_5 : decode cX0_withoutLeast 5 = .ok (.iload_n 1, 1) := by decide +kernel
theorem dX0_withoutLeast_6 : decode cX0_withoutLeast 6 = .ok (.if_icmp .ge 15, 3) := by decide +kernel
theorem dX0_withoutLeast_9 : decode cX0_withoutLeast 9 = .ok (.iload_n 2, 1) := by decide +kernel
theorem dX0_withoutLeast_10 : decode cX0_withoutLeast 10 = .ok (.iload_n 2, 1) := by decide +kernel
theorem dX0_withoutLeast_11 : decode cX0_withoutLeast 11 = .ok (.iconst 1, 1) := by decide +kernel
theorem dX0_withoutLeast_12 : decode cX0_withoutLeast 12 = .ok (.isub, 1) := by decide +kernel
theorem dX0_withoutLeast_13 : decode cX0_withoutLeast 13 = .ok (.iand, 1) := by decide +kernel
theorem dX0_withoutLeast_14 : decode cX0_withoutLeast 14 = .ok (.istore_n 2, 1) := by decide +kernel
theorem dX0_withoutLeast_15 : decode cX0_withoutLeast 15 = .ok (.iinc 3 1, 3) := by decide +kernel
theorem dX0_withoutLeast_18 : decode cX0_withoutLeast 18 = .ok (.goto (-14), 3) := by decide +kernel
theorem dX0_withoutLeast_21 : decode cX0_withoutLeast 21 = .ok (.iload_n 2, 1) := by decide +kernel
theorem dX0_withoutLeast_22 : decode cX0_withoutLeast 22 = .ok (.ireturn, 1) := by decide +kernel
theorem dX0_onRoad_0 : decode cX0_onRoad 0 = .ok (.aload_n 0, 1) := by decide +kernel
theorem dX0_onRoad_1 : decode cX0_onRoad 1 = .ok (.getfield 16, 3) := by decide +kernel
theorem dX0_onRoad_4 : decode cX0_onRoad 4 = .ok (.iload_n 1, 1) := by decide +kernel
theorem dX0_onRoad_5 : decode cX0_onRoad 5 = .ok (.aaload, 1) := by decide +kernel
theorem dX0_onRoad_6 : decode cX0_onRoad 6 = .ok (.aload_n 0, 1) := by decide +kernel
theorem dX0_onRoad_7 : decode cX0_onRoad 7 = .ok (.getfield 23, 3) := by decide +kernel
theorem dX0_onRoad_10 : decode cX0_onRoad 10 = .ok (.getfield 39, 3) := by decide +kernel
theorem dX0_onRoad_13 : decode cX0_onRoad 13 = .ok (.iaload, 1) := by decide +kernel
theorem dX0_onRoad_14 : decode cX0_onRoad 14 = .ok (.ireturn, 1) := by decide +kernel
theorem dX0_placeOf_0 : decode cX0_placeOf 0 = .ok (.iconst 0, 1) := by decide +kernel
theorem dX0_placeOf_1 : decode cX0_placeOf 1 = .ok (.istore_n 3, 1) := by decide +kernel
theorem dX0_placeOf_2 : decode cX0_placeOf 2 = .ok (.iload_n 3, 1) := by decide +kernel
theorem dX0_placeOf_3 : decode cX0_placeOf 3 = .ok (.aload_n 0, 1) := by decide +kernel
theorem dX0_placeOf_4 : decode cX0_placeOf 4 = .ok (.getfield 23, 3) := by decide +kernel
theorem dX0_placeOf_7 : decode cX0_placeOf 7 = .ok (.getfield 39, 3) := by decide +kernel
theorem dX0_placeOf_10 : decode cX0_placeOf 10 = .ok (.if_icmp .ge 19, 3) := by decide +kernel
theorem dX0_placeOf_13 : decode cX0_placeOf 13 = .ok (.aload_n 0, 1) := by decide +kernel
theorem dX0_placeOf_14 : decode cX0_placeOf 14 = .ok (.iload_n 1, 1) := by decide +kernel
theorem dX0_placeOf_15 : decode cX0_placeOf 15 = .ok (.iload_n 3, 1) := by decide +kernel
theorem dX0_placeOf_16 : decode cX0_placeOf 16 = .ok (.iload_n 2, 1) := by decide +kernel
theorem dX0_placeOf_17 : decode cX0_placeOf 17 = .ok (.invokevirtual 84, 3) := by decide +kernel
theorem dX0_placeOf_20 : decode cX0_placeOf 20 = .ok (.ifCond .ne 9, 3) := by decide +kernel
theorem dX0_placeOf_23 : decode cX0_placeOf 23 = .ok (.iinc 3 1, 3) := by decide +kernel
theorem dX0_placeOf_26 : decode cX0_placeOf 26 = .ok (.goto (-24), 3) := by decide +kernel
theorem dX0_placeOf_29 : decode cX0_placeOf 29 = .ok (.iload_n 3, 1) := by decide +kernel
theorem dX0_placeOf_30 : decode cX0_placeOf 30 = .ok (.ireturn, 1) := by decide +kernel
theorem dX0_isAt_0 : decode cX0_isAt 0 = .ok (.aload_n 0, 1) := by decide +kernel
theorem dX0_isAt_1 : decode cX0_isAt 1 = .ok (.getfield 16, 3) := by decide +kernel
theorem dX0_isAt_4 : decode cX0_isAt 4 = .ok (.iload_n 3, 1) := by decide +kernel
theorem dX0_isAt_5 : decode cX0_isAt 5 = .ok (.aaload, 1) := by decide +kernel
theorem dX0_isAt_6 : decode cX0_isAt 6 = .ok (.iload_n 2, 1) := by decide +kernel
theorem dX0_isAt_7 : decode cX0_isAt 7 = .ok (.iaload, 1) := by decide +kernel
theorem dX0_isAt_8 : decode cX0_isAt 8 = .ok (.iload_n 1, 1) := by decide +kernel
theorem dX0_isAt_9 : decode cX0_isAt 9 = .ok (.ishr, 1) := by decide +kernel
theorem dX0_isAt_10 : decode cX0_isAt 10 = .ok (.iconst 1, 1) := by decide +kernel
theorem dX0_isAt_11 : decode cX0_isAt 11 = .ok (.iand, 1) := by decide +kernel
theorem dX0_isAt_12 : decode cX0_isAt 12 = .ok (.iconst 1, 1) := by decide +kernel
theorem dX0_isAt_13 : decode cX0_isAt 13 = .ok (.if_icmp .ne 7, 3) := by decide +kernel
theorem dX0_isAt_16 : decode cX0_isAt 16 = .ok (.iconst 1, 1) := by decide +kernel
theorem dX0_isAt_17 : decode cX0_isAt 17 = .ok (.goto 4, 3) := by decide +kernel
theorem dX0_isAt_20 : decode cX0_isAt 20 = .ok (.iconst 0, 1) := by decide +kernel
theorem dX0_isAt_21 : decode cX0_isAt 21 = .ok (.ireturn, 1) := by decide +kernel
theorem dX0_isMeeting_0 : decode cX0_isMeeting 0 = .ok (.iconst 0, 1) := by decide +kernel
theorem dX0_isMeeting_1 : decode cX0_isMeeting 1 = .ok (.istore_n 3, 1) := by decide +kernel
theorem dX0_isMeeting_2 : decode cX0_isMeeting 2 = .ok (.iload_n 3, 1) := by decide +kernel
theorem dX0_isMeeting_3 : decode cX0_isMeeting 3 = .ok (.aload_n 0, 1) := by decide +kernel
theorem dX0_isMeeting_4 : decode cX0_isMeeting 4 = .ok (.getfield 23, 3) := by decide +kernel
theorem dX0_isMeeting_7 : decode cX0_isMeeting 7 = .ok (.getfield 39, 3) := by decide +kernel
theorem dX0_isMeeting_10 : decode cX0_isMeeting 10 = .ok (.if_icmp .ge 25, 3) := by decide +kernel
theorem dX0_isMeeting_13 : decode cX0_isMeeting 13 = .ok (.aload_n 0, 1) := by decide +kernel
theorem dX0_isMeeting_14 : decode cX0_isMeeting 14 = .ok (.getfield 16, 3) := by decide +kernel
theorem dX0_isMeeting_17 : decode cX0_isMeeting 17 = .ok (.iload_n 2, 1) := by decide +kernel
theorem dX0_isMeeting_18 : decode cX0_isMeeting 18 = .ok (.aaload, 1) := by decide +kernel
theorem dX0_isMeeting_19 : decode cX0_isMeeting 19 = .ok (.iload_n 3, 1) := by decide +kernel
theorem dX0_isMeeting_20 : decode cX0_isMeeting 20 = .ok (.iaload, 1) := by decide +kernel
theorem dX0_isMeeting_21 : decode cX0_isMeeting 21 = .ok (.iload_n 1, 1) := by decide +kernel
theorem dX0_isMeeting_22 : decode cX0_isMeeting 22 = .ok (.iand, 1) := by decide +kernel
theorem dX0_isMeeting_23 : decode cX0_isMeeting 23 = .ok (.iload_n 1, 1) := by decide +kernel
theorem dX0_isMeeting_24 : decode cX0_isMeeting 24 = .ok (.if_icmp .ne 5, 3) := by decide +kernel
theorem dX0_isMeeting_27 : decode cX0_isMeeting 27 = .ok (.iconst 1, 1) := by decide +kernel
theorem dX0_isMeeting_28 : decode cX0_isMeeting 28 = .ok (.ireturn, 1) := by decide +kernel
theorem dX0_isMeeting_29 : decode cX0_isMeeting 29 = .ok (.iinc 3 1, 3) := by decide +kernel
theorem dX0_isMeeting_32 : decode cX0_isMeeting 32 = .ok (.goto (-30), 3) := by decide +kernel
theorem dX0_isMeeting_35 : decode cX0_isMeeting 35 = .ok (.iconst 0, 1) := by decide +kernel
theorem dX0_isMeeting_36 : decode cX0_isMeeting 36 = .ok (.ireturn, 1) := by decide +kernel
theorem dX0_firstMeeting_0 : decode cX0_firstMeeting 0 = .ok (.aload_n 0, 1) := by decide +kernel
theorem dX0_firstMeeting_1 : decode cX0_firstMeeting 1 = .ok (.invokevirtual 27, 3) := by decide +kernel
theorem dX0_firstMeeting_4 : decode cX0_firstMeeting 4 = .ok (.iconst 0, 1) := by decide +kernel
theorem dX0_firstMeeting_5 : decode cX0_firstMeeting 5 = .ok (.istore_n 3, 1) := by decide +kernel
theorem dX0_firstMeeting_6 : decode cX0_firstMeeting 6 = .ok (.iload_n 3, 1) := by decide +kernel
theorem dX0_firstMeeting_7 : decode cX0_firstMeeting 7 = .ok (.iload_n 2, 1) := by decide +kernel
theorem dX0_firstMeeting_8 : decode cX0_firstMeeting 8 = .ok (.if_icmp .ge 36, 3) := by decide +kernel
theorem dX0_firstMeeting_11 : decode cX0_firstMeeting 11 = .ok (.aload_n 0, 1) := by decide +kernel
theorem dX0_firstMeeting_12 : decode cX0_firstMeeting 12 = .ok (.iload_n 3, 1) := by decide +kernel
theorem dX0_firstMeeting_13 : decode cX0_firstMeeting 13 = .ok (.aload_n 0, 1) := by decide +kernel
theorem dX0_firstMeeting_14 : decode cX0_firstMeeting 14 = .ok (.getfield 23, 3) := by decide +kernel
theorem dX0_firstMeeting_17 : decode cX0_firstMeeting 17 = .ok (.getfield 30, 3) := by decide +kernel
theorem dX0_firstMeeting_20 : decode cX0_firstMeeting 20 = .ok (.iload_n 3, 1) := by decide +kernel
theorem dX0_firstMeeting_21 : decode cX0_firstMeeting 21 = .ok (.iaload, 1) := by decide +kernel
theorem dX0_firstMeeting_22 : decode cX0_firstMeeting 22 = .ok (.invokevirtual 35, 3) := by decide +kernel
theorem dX0_firstMeeting_25 : decode cX0_firstMeeting 25 = .ok (.aload_n 0, 1) := by decide +kernel
theorem dX0_firstMeeting_26 : decode cX0_firstMeeting 26 = .ok (.iload_n 1, 1) := by decide +kernel
theorem dX0_firstMeeting_27 : decode cX0_firstMeeting 27 = .ok (.iload_n 3, 1) := by decide +kernel
theorem dX0_firstMeeting_28 : decode cX0_firstMeeting 28 = .ok (.iconst 1, 1) := by decide +kernel
theorem dX0_firstMeeting_29 : decode cX0_firstMeeting 29 = .ok (.iadd, 1) := by decide +kernel
theorem dX0_firstMeeting_30 : decode cX0_firstMeeting 30 = .ok (.invokevirtual 88, 3) := by decide +kernel
theorem dX0_firstMeeting_33 : decode cX0_firstMeeting 33 = .ok (.ifCond .eq 5, 3) := by decide +kernel
theorem dX0_firstMeeting_36 : decode cX0_firstMeeting 36 = .ok (.iload_n 3, 1) := by decide +kernel
theorem dX0_firstMeeting_37 : decode cX0_firstMeeting 37 = .ok (.ireturn, 1) := by decide +kernel
theorem dX0_firstMeeting_38 : decode cX0_firstMeeting 38 = .ok (.iinc 3 1, 3) := by decide +kernel
theorem dX0_firstMeeting_41 : decode cX0_firstMeeting 41 = .ok (.goto (-35), 3) := by decide +kernel
theorem dX0_firstMeeting_44 : decode cX0_firstMeeting 44 = .ok (.bipush (-9), 2) := by decide +kernel
theorem dX0_firstMeeting_46 : decode cX0_firstMeeting 46 = .ok (.ireturn, 1) := by decide +kernel
theorem dX0_leaveRoadEmpty_0 : decode cX0_leaveRoadEmpty 0 = .ok (.aload_n 0, 1) := by decide +kernel
theorem dX0_leaveRoadEmpty_1 : decode cX0_leaveRoadEmpty 1 = .ok (.invokevirtual 27, 3) := by decide +kernel
theorem dX0_leaveRoadEmpty_4 : decode cX0_leaveRoadEmpty 4 = .ok (.iconst 0, 1) := by decide +kernel
theorem dX0_leaveRoadEmpty_5 : decode cX0_leaveRoadEmpty 5 = .ok (.istore_n 2, 1) := by decide +kernel
theorem dX0_leaveRoadEmpty_6 : decode cX0_leaveRoadEmpty 6 = .ok (.iload_n 2, 1) := by decide +kernel
theorem dX0_leaveRoadEmpty_7 : decode cX0_leaveRoadEmpty 7 = .ok (.iload_n 1, 1) := by decide +kernel
theorem dX0_leaveRoadEmpty_8 : decode cX0_leaveRoadEmpty 8 = .ok (.if_icmp .ge 35, 3) := by decide +kernel
theorem dX0_leaveRoadEmpty_11 : decode cX0_leaveRoadEmpty 11 = .ok (.aload_n 0, 1) := by decide +kernel
theorem dX0_leaveRoadEmpty_12 : decode cX0_leaveRoadEmpty 12 = .ok (.iload_n 2, 1) := by decide +kernel
theorem dX0_leaveRoadEmpty_13 : decode cX0_leaveRoadEmpty 13 = .ok (.aload_n 0, 1) := by decide +kernel
theorem dX0_leaveRoadEmpty_14 : decode cX0_leaveRoadEmpty 14 = .ok (.getfield 23, 3) := by decide +kernel
theorem dX0_leaveRoadEmpty_17 : decode cX0_leaveRoadEmpty 17 = .ok (.getfield 30, 3) := by decide +kernel
theorem dX0_leaveRoadEmpty_20 : decode cX0_leaveRoadEmpty 20 = .ok (.iload_n 2, 1) := by decide +kernel
theorem dX0_leaveRoadEmpty_21 : decode cX0_leaveRoadEmpty 21 = .ok (.iaload, 1) := by decide +kernel
theorem dX0_leaveRoadEmpty_22 : decode cX0_leaveRoadEmpty 22 = .ok (.invokevirtual 35, 3) := by decide +kernel
theorem dX0_leaveRoadEmpty_25 : decode cX0_leaveRoadEmpty 25 = .ok (.aload_n 0, 1) := by decide +kernel
theorem dX0_leaveRoadEmpty_26 : decode cX0_leaveRoadEmpty 26 = .ok (.iload_n 2, 1) := by decide +kernel
theorem dX0_leaveRoadEmpty_27 : decode cX0_leaveRoadEmpty 27 = .ok (.iconst 1, 1) := by decide +kernel
theorem dX0_leaveRoadEmpty_28 : decode cX0_leaveRoadEmpty 28 = .ok (.iadd, 1) := by decide +kernel
theorem dX0_leaveRoadEmpty_29 : decode cX0_leaveRoadEmpty 29 = .ok (.invokevirtual 92, 3) := by decide +kernel
theorem dX0_leaveRoadEmpty_32 : decode cX0_leaveRoadEmpty 32 = .ok (.ifCond .eq 5, 3) := by decide +kernel
theorem dX0_leaveRoadEmpty_35 : decode cX0_leaveRoadEmpty 35 = .ok (.iconst 0, 1) := by decide +kernel
theorem dX0_leaveRoadEmpty_36 : decode cX0_leaveRoadEmpty 36 = .ok (.ireturn, 1) := by decide +kernel
theorem dX0_leaveRoadEmpty_37 : decode cX0_leaveRoadEmpty 37 = .ok (.iinc 2 1, 3) := by decide +kernel
theorem dX0_leaveRoadEmpty_40 : decode cX0_leaveRoadEmpty 40 = .ok (.goto (-34), 3) := by decide +kernel
theorem dX0_leaveRoadEmpty_43 : decode cX0_leaveRoadEmpty 43 = .ok (.iconst 1, 1) := by decide +kernel
theorem dX0_leaveRoadEmpty_44 : decode cX0_leaveRoadEmpty 44 = .ok (.ireturn, 1) := by decide +kernel
theorem dX1_init_0 : decode cX1_init 0 = .ok (.aload_n 0, 1) := by decide +kernel
theorem dX1_init_1 : decode cX1_init 1 = .ok (.invokespecial 3, 3) := by decide +kernel
theorem dX1_init_4 : decode cX1_init 4 = .ok (.aload_n 0, 1) := by decide +kernel
theorem dX1_init_5 : decode cX1_init 5 = .ok (.iconst 0, 1) := by decide +kernel
theorem dX1_init_6 : decode cX1_init 6 = .ok (.putfield 9, 3) := by decide +kernel
theorem dX1_init_9 : decode cX1_init 9 = .ok (.aload_n 0, 1) := by decide +kernel
theorem dX1_init_10 : decode cX1_init 10 = .ok (.bipush 8, 2) := by decide +kernel
theorem dX1_init_12 : decode cX1_init 12 = .ok (.newarray .int, 2) := by decide +kernel
theorem dX1_init_14 : decode cX1_init 14 = .ok (.putfield 15, 3) := by decide +kernel
theorem dX1_init_17 : decode cX1_init 17 = .ok (.aload_n 0, 1) := by decide +kernel
theorem dX1_init_18 : decode cX1_init 18 = .ok (.bipush 8, 2) := by decide +kernel
theorem dX1_init_20 : decode cX1_init 20 = .ok (.newarray .int, 2) := by decide +kernel
theorem dX1_init_22 : decode cX1_init 22 = .ok (.putfield 19, 3) := by decide +kernel
theorem dX1_init_25 : decode cX1_init 25 = .ok (.aload_n 0, 1) := by decide +kernel
theorem dX1_init_26 : decode cX1_init 26 = .ok (.bipush 8, 2) := by decide +kernel
theorem dX1_init_28 : decode cX1_init 28 = .ok (.newarray .int, 2) := by decide +kernel
theorem dX1_init_30 : decode cX1_init 30 = .ok (.putfield 22, 3) := by decide +kernel
theorem dX1_init_33 : decode cX1_init 33 = .ok (.return_, 1) := by decide +kernel
theorem dX1_clear_0 : decode cX1_clear 0 = .ok (.aload_n 0, 1) := by decide +kernel
theorem dX1_clear_1 : decode cX1_clear 1 = .ok (.iconst 0, 1) := by decide +kernel
theorem dX1_clear_2 : decode cX1_clear 2 = .ok (.putfield 9, 3) := by decide +kernel
theorem dX1_clear_5 : decode cX1_clear 5 = .ok (.return_, 1) := by decide +kernel
theorem dX1_add_0 : decode cX1_add 0 = .ok (.aload_n 0, 1) := by decide +kernel
theorem dX1_add_1 : decode cX1_add 1 = .ok (.getfield 15, 3) := by decide +kernel
theorem dX1_add_4 : decode cX1_add 4 = .ok (.aload_n 0, 1) := by decide +kernel
theorem dX1_add_5 : decode cX1_add 5 = .ok (.getfield 9, 3) := by decide +kernel
theorem dX1_add_8 : decode cX1_add 8 = .ok (.iload_n 1, 1) := by decide +kernel
theorem dX1_add_9 : decode cX1_add 9 = .ok (.iastore, 1) := by decide +kernel
theorem dX1_add_10 : decode cX1_add 10 = .ok (.aload_n 0, 1) := by decide +kernel
theorem dX1_add_11 : decode cX1_add 11 = .ok (.getfield 19, 3) := by decide +kernel
theorem dX1_add_14 : decode cX1_add 14 = .ok (.aload_n 0, 1) := by decide +kernel
theorem dX1_add_15 : decode cX1_add 15 = .ok (.getfield 9, 3) := by decide +kernel
theorem dX1_add_18 : decode cX1_add 18 = .ok (.iload_n 2, 1) := by decide +kernel
theorem dX1_add_19 : decode cX1_add 19 = .ok (.iastore, 1) := by decide +kernel
theorem dX1_add_20 : decode cX1_add 20 = .ok (.aload_n 0, 1) := by decide +kernel
theorem dX1_add_21 : decode cX1_add 21 = .ok (.getfield 22, 3) := by decide +kernel
theorem dX1_add_24 : decode cX1_add 24 = .ok (.aload_n 0, 1) := by decide +kernel
theorem dX1_add_25 : decode cX1_add 25 = .ok (.getfield 9, 3) := by decide +kernel
theorem dX1_add_28 : decode cX1_add 28 = .ok (.iload_n 3, 1) := by decide +kernel
theorem dX1_add_29 : decode cX1_add 29 = .ok (.iastore, 1) := by decide +kernel
theorem dX1_add_30 : decode cX1_add 30 = .ok (.aload_n 0, 1) := by decide +kernel
theorem dX1_add_31 : decode cX1_add 31 = .ok (.dup, 1) := by decide +kernel
theorem dX1_add_32 : decode cX1_add 32 = .ok (.getfield 9, 3) := by decide +kernel
theorem dX1_add_35 : decode cX1_add 35 = .ok (.iconst 1, 1) := by decide +kernel
theorem dX1_add_36 : decode cX1_add 36 = .ok (.iadd, 1) := by decide +kernel
theorem dX1_add_37 : decode cX1_add 37 = .ok (.putfield 9, 3) := by decide +kernel
theorem dX1_add_40 : decode cX1_add 40 = .ok (.aload_n 0, 1) := by decide +kernel
theorem dX1_add_41 : decode cX1_add 41 = .ok (.getfield 9, 3) := by decide +kernel
theorem dX1_add_44 : decode cX1_add 44 = .ok (.iconst 1, 1) := by decide +kernel
theorem dX1_add_45 : decode cX1_add 45 = .ok (.isub, 1) := by decide +kernel
theorem dX1_add_46 : decode cX1_add 46 = .ok (.ireturn, 1) := by decide +kernel
theorem dX1_areSo_0 : decode cX1_areSo 0 = .ok (.iconst 0, 1) := by decide +kernel
theorem dX1_areSo_1 : decode cX1_areSo 1 = .ok (.istore_n 2, 1) := by decide +kernel
theorem dX1_areSo_2 : decode cX1_areSo 2 = .ok (.iload_n 2, 1) := by decide +kernel
theorem dX1_areSo_3 : decode cX1_areSo 3 = .ok (.aload_n 0, 1) := by decide +kernel
theorem dX1_areSo_4 : decode cX1_areSo 4 = .ok (.getfield 9, 3) := by decide +kernel
theorem dX1_areSo_7 : decode cX1_areSo 7 = .ok (.if_icmp .ge 38, 3) := by decide +kernel
theorem dX1_areSo_10 : decode cX1_areSo 10 = .ok (.aload_n 1, 1) := by decide +kernel
theorem dX1_areSo_11 : decode cX1_areSo 11 = .ok (.aload_n 0, 1) := by decide +kernel
theorem dX1_areSo_12 : decode cX1_areSo 12 = .ok (.getfield 15, 3) := by decide +kernel
theorem dX1_areSo_15 : decode cX1_areSo 15 = .ok (.iload_n 2, 1) := by decide +kernel
theorem dX1_areSo_16 : decode cX1_areSo 16 = .ok (.iaload, 1) := by decide +kernel
theorem dX1_areSo_17 : decode cX1_areSo 17 = .ok (.aload_n 0, 1) := by decide +kernel
theorem dX1_areSo_18 : decode cX1_areSo 18 = .ok (.getfield 19, 3) := by decide +kernel
theorem dX1_areSo_21 : decode cX1_areSo 21 = .ok (.iload_n 2, 1) := by decide +kernel
theorem dX1_areSo_22 : decode cX1_areSo 22 = .ok (.iaload, 1) := by decide +kernel
theorem dX1_areSo_23 : decode cX1_areSo 23 = .ok (.aload_n 0, 1) := by decide +kernel
theorem dX1_areSo_24 : decode cX1_areSo 24 = .ok (.getfield 22, 3) := by decide +kernel
theorem dX1_areSo_27 : decode cX1_areSo 27 = .ok (.iload_n 2, 1) := by decide +kernel
theorem dX1_areSo_28 : decode cX1_areSo 28 = .ok (.iaload, 1) := by decide +kernel
theorem dX1_areSo_29 : decode cX1_areSo 29 = .ok (.iconst 1, 1) := by decide +kernel
theorem dX1_areSo_30 : decode cX1_areSo 30 = .ok (.iadd, 1) := by decide +kernel
theorem dX1_areSo_31 : decode cX1_areSo 31 = .ok (.invokevirtual 25, 3) := by decide +kernel
theorem dX1_areSo_34 : decode cX1_areSo 34 = .ok (.ifCond .ne 5, 3) := by decide +kernel
theorem dX1_areSo_37 : decode cX1_areSo 37 = .ok (.iconst 0, 1) := by decide +kernel
theorem dX1_areSo_38 : decode cX1_areSo 38 = .ok (.ireturn, 1) := by decide +kernel
theorem dX1_areSo_39 : decode cX1_areSo 39 = .ok (.iinc 2 1, 3) := by decide +kernel
theorem dX1_areSo_42 : decode cX1_areSo 42 = .ok (.goto (-40), 3) := by decide +kernel
theorem dX1_areSo_45 : decode cX1_areSo 45 = .ok (.iconst 1, 1) := by decide +kernel
theorem dX1_areSo_46 : decode cX1_areSo 46 = .ok (.ireturn, 1) := by decide +kernel
theorem dX2_init_0 : decode cX2_init 0 = .ok (.aload_n 0, 1) := by decide +kernel
theorem dX2_init_1 : decode cX2_init 1 = .ok (.invokespecial 3, 3) := by decide +kernel
theorem dX2_init_4 : decode cX2_init 4 = .ok (.aload_n 0, 1) := by decide +kernel
theorem dX2_init_5 : decode cX2_init 5 = .ok (.iconst 0, 1) := by decide +kernel
theorem dX2_init_6 : decode cX2_init 6 = .ok (.putfield 9, 3) := by decide +kernel
theorem dX2_init_9 : decode cX2_init 9 = .ok (.aload_n 0, 1) := by decide +kernel
theorem dX2_init_10 : decode cX2_init 10 = .ok (.bipush 6, 2) := by decide +kernel
theorem dX2_init_12 : decode cX2_init 12 = .ok (.newarray .int, 2) := by decide +kernel
theorem dX2_init_14 : decode cX2_init 14 = .ok (.putfield 15, 3) := by decide +kernel
theorem dX2_init_17 : decode cX2_init 17 = .ok (.aload_n 0, 1) := by decide +kernel
theorem dX2_init_18 : decode cX2_init 18 = .ok (.bipush 6, 2) := by decide +kernel
theorem dX2_init_20 : decode cX2_init 20 = .ok (.newarray .int, 2) := by decide +kernel
theorem dX2_init_22 : decode cX2_init 22 = .ok (.putfield 19, 3) := by decide +kernel
theorem dX2_init_25 : decode cX2_init 25 = .ok (.aload_n 0, 1) := by decide +kernel
theorem dX2_init_26 : decode cX2_init 26 = .ok (.iconst 0, 1) := by decide +kernel
theorem dX2_init_27 : decode cX2_init 27 = .ok (.putfield 22, 3) := by decide +kernel
theorem dX2_init_30 : decode cX2_init 30 = .ok (.aload_n 0, 1) := by decide +kernel
theorem dX2_init_31 : decode cX2_init 31 = .ok (.bipush 8, 2) := by decide +kernel
theorem dX2_init_33 : decode cX2_init 33 = .ok (.newarray .int, 2) := by decide +kernel
theorem dX2_init_35 : decode cX2_init 35 = .ok (.putfield 25, 3) := by decide +kernel
theorem dX2_init_38 : decode cX2_init 38 = .ok (.aload_n 0, 1) := by decide +kernel
theorem dX2_init_39 : decode cX2_init 39 = .ok (.bipush 8, 2) := by decide +kernel
theorem dX2_init_41 : decode cX2_init 41 = .ok (.newarray .int, 2) := by decide +kernel
theorem dX2_init_43 : decode cX2_init 43 = .ok (.putfield 28, 3) := by decide +kernel
theorem dX2_init_46 : decode cX2_init 46 = .ok (.aload_n 0, 1) := by decide +kernel
theorem dX2_init_47 : decode cX2_init 47 = .ok (.iconst 0, 1) := by decide +kernel
theorem dX2_init_48 : decode cX2_init 48 = .ok (.putfield 31, 3) := by decide +kernel
theorem dX2_init_51 : decode cX2_init 51 = .ok (.aload_n 0, 1) := by decide +kernel
theorem dX2_init_52 : decode cX2_init 52 = .ok (.bipush 8, 2) := by decide +kernel
theorem dX2_init_54 : decode cX2_init 54 = .ok (.newarray .int, 2) := by decide +kernel
theorem dX2_init_56 : decode cX2_init 56 = .ok (.putfield 34, 3) := by decide +kernel
theorem dX2_init_59 : decode cX2_init 59 = .ok (.aload_n 0, 1) := by decide +kernel
theorem dX2_init_60 : decode cX2_init 60 = .ok (.bipush 8, 2) := by decide +kernel
theorem dX2_init_62 : decode cX2_init 62 = .ok (.newarray .int, 2) := by decide +kernel
theorem dX2_init_64 : decode cX2_init 64 = .ok (.putfield 37, 3) := by decide +kernel
theorem dX2_init_67 : decode cX2_init 67 = .ok (.aload_n 0, 1) := by decide +kernel
theorem dX2_init_68 : decode cX2_init 68 = .ok (.iconst 0, 1) := by decide +kernel
theorem dX2_init_69 : decode cX2_init 69 = .ok (.putfield 40, 3) := by decide +kernel
theorem dX2_init_72 : decode cX2_init 72 = .ok (.aload_n 0, 1) := by decide +kernel
theorem dX2_init_73 : decode cX2_init 73 = .ok (.bipush (-9), 2) := by decide +kernel
theorem dX2_init_75 : decode cX2_init 75 = .ok (.putfield 43, 3) := by decide +kernel
theorem dX2_init_78 : decode cX2_init 78 = .ok (.return_, 1) := by decide +kernel
theorem dX2_clear_0 : decode cX2_clear 0 = .ok (.aload_n 0, 1) := by decide +kernel
theorem dX2_clear_1 : decode cX2_clear 1 = .ok (.iconst 0, 1) := by decide +kernel
theorem dX2_clear_2 : decode cX2_clear 2 = .ok (.putfield 9, 3) := by decide +kernel
theorem dX2_clear_5 : decode cX2_clear 5 = .ok (.aload_n 0, 1) := by decide +kernel
theorem dX2_clear_6 : decode cX2_clear 6 = .ok (.iconst 0, 1) := by decide +kernel
theorem dX2_clear_7 : decode cX2_clear 7 = .ok (.putfield 22, 3) := by decide +kernel
theorem dX2_clear_10 : decode cX2_clear 10 = .ok (.aload_n 0, 1) := by decide +kernel
theorem dX2_clear_11 : decode cX2_clear 11 = .ok (.iconst 0, 1) := by decide +kernel
theorem dX2_clear_12 : decode cX2_clear 12 = .ok (.putfield 31, 3) := by decide +kernel
theorem dX2_clear_15 : decode cX2_clear 15 = .ok (.aload_n 0, 1) := by decide +kernel
theorem dX2_clear_16 : decode cX2_clear 16 = .ok (.iconst 0, 1) := by decide +kernel
theorem dX2_clear_17 : decode cX2_clear 17 = .ok (.putfield 40, 3) := by decide +kernel
theorem dX2_clear_20 : decode cX2_clear 20 = .ok (.aload_n 0, 1) := by decide +kernel
theorem dX2_clear_21 : decode cX2_clear 21 = .ok (.bipush (-9), 2) := by decide +kernel
theorem dX2_clear_23 : decode cX2_clear 23 = .ok (.putfield 43, 3) := by decide +kernel
theorem dX2_clear_26 : decode cX2_clear 26 = .ok (.return_, 1) := by decide +kernel
theorem dX2_become_0 : decode cX2_become 0 = .ok (.aload_n 0, 1) := by decide +kernel
theorem dX2_become_1 : decode cX2_become 1 = .ok (.aload_n 1, 1) := by decide +kernel
theorem dX2_become_2 : decode cX2_become 2 = .ok (.getfield 9, 3) := by decide +kernel
theorem dX2_become_5 : decode cX2_become 5 = .ok (.putfield 9, 3) := by decide +kernel
theorem dX2_become_8 : decode cX2_become 8 = .ok (.aload_n 0, 1) := by decide +kernel
theorem dX2_become_9 : decode cX2_become 9 = .ok (.aload_n 1, 1) := by decide +kernel
theorem dX2_become_10 : decode cX2_become 10 = .ok (.getfield 22, 3) := by decide +kernel
theorem dX2_become_13 : decode cX2_become 13 = .ok (.putfield 22, 3) := by decide +kernel
theorem dX2_become_16 : decode cX2_become 16 = .ok (.aload_n 0, 1) := by decide +kernel
theorem dX2_become_17 : decode cX2_become 17 = .ok (.aload_n 1, 1) := by decide +kernel
theorem dX2_become_18 : decode cX2_become 18 = .ok (.getfield 31, 3) := by decide +kernel
theorem dX2_become_21 : decode cX2_become 21 = .ok (.putfield 31, 3) := by decide +kernel
theorem dX2_become_24 : decode cX2_become 24 = .ok (.aload_n 0, 1) := by decide +kernel
theorem dX2_become_25 : decode cX2_become 25 = .ok (.aload_n 1, 1) := by decide +kernel
theorem dX2_become_26 : decode cX2_become 26 = .ok (.getfield 40, 3) := by decide +kernel
theorem dX2_become_29 : decode cX2_become 29 = .ok (.putfield 40, 3) := by decide +kernel
theorem dX2_become_32 : decode cX2_become 32 = .ok (.aload_n 0, 1) := by decide +kernel
theorem dX2_become_33 : decode cX2_become 33 = .ok (.aload_n 1, 1) := by decide +kernel
theorem dX2_become_34 : decode cX2_become 34 = .ok (.getfield 43, 3) := by decide +kernel
theorem dX2_become_37 : decode cX2_become 37 = .ok (.putfield 43, 3) := by decide +kernel
theorem dX2_become_40 : decode cX2_become 40 = .ok (.aload_n 1, 1) := by decide +kernel
theorem dX2_become_41 : decode cX2_become 41 = .ok (.getfield 15, 3) := by decide +kernel
theorem dX2_become_44 : decode cX2_become 44 = .ok (.iconst 0, 1) := by decide +kernel
theorem dX2_become_45 : decode cX2_become 45 = .ok (.aload_n 0, 1) := by decide +kernel
theorem dX2_become_46 : decode cX2_become 46 = .ok (.getfield 15, 3) := by decide +kernel
theorem dX2_become_49 : decode cX2_become 49 = .ok (.iconst 0, 1) := by decide +kernel
theorem dX2_become_50 : decode cX2_become 50 = .ok (.bipush 6, 2) := by decide +kernel
theorem dX2_become_52 : decode cX2_become 52 = .ok (.invokestatic 46, 3) := by decide +kernel
theorem dX2_become_55 : decode cX2_become 55 = .ok (.aload_n 1, 1) := by decide +kernel
theorem dX2_become_56 : decode cX2_become 56 = .ok (.getfield 19, 3) := by decide +kernel
theorem dX2_become_59 : decode cX2_become 59 = .ok (.iconst 0, 1) := by decide +kernel
theorem dX2_become_60 : decode cX2_become 60 = .ok (.aload_n 0, 1) := by decide +kernel
theorem dX2_become_61 : decode cX2_become 61 = .ok (.getfield 19, 3) := by decide +kernel
theorem dX2_become_64 : decode cX2_become 64 = .ok (.iconst 0, 1) := by decide +kernel
theorem dX2_become_65 : decode cX2_become 65 = .ok (.bipush 6, 2) := by decide +kernel
theorem dX2_become_67 : decode cX2_become 67 = .ok (.invokestatic 46, 3) := by decide +kernel
theorem dX2_become_70 : decode cX2_become 70 = .ok (.aload_n 1, 1) := by decide +kernel
theorem dX2_become_71 : decode cX2_become 71 = .ok (.getfield 25, 3) := by decide +kernel
theorem dX2_become_74 : decode cX2_become 74 = .ok (.iconst 0, 1) := by decide +kernel
theorem dX2_become_75 : decode cX2_become 75 = .ok (.aload_n 0, 1) := by decide +kernel
theorem dX2_become_76 : decode cX2_become 76 = .ok (.getfield 25, 3) := by decide +kernel
theorem dX2_become_79 : decode cX2_become 79 = .ok (.iconst 0, 1) := by decide +kernel
theorem dX2_become_80 : decode cX2_become 80 = .ok (.bipush 8, 2) := by decide +kernel
theorem dX2_become_82 : decode cX2_become 82 = .ok (.invokestatic 46, 3) := by decide +kernel
theorem dX2_become_85 : decode cX2_become 85 = .ok (.aload_n 1, 1) := by decide +kernel
theorem dX2_become_86 : decode cX2_become 86 = .ok (.getfield 28, 3) := by decide +kernel
theorem dX2_become_89 : decode cX2_become 89 = .ok (.iconst 0, 1) := by decide +kernel
theorem dX2_become_90 : decode cX2_become 90 = .ok (.aload_n 0, 1) := by decide +kernel
theorem dX2_become_91 : decode cX2_become 91 = .ok (.getfield 28, 3) := by decide +kernel
theorem dX2_become_94 : decode cX2_become 94 = .ok (.iconst 0, 1) := by decide +kernel
theorem dX2_become_95 : decode cX2_become 95 = .ok (.bipush 8, 2) := by decide +kernel
theorem dX2_become_97 : decode cX2_become 97 = .ok (.invokestatic 46, 3) := by decide +kernel
theorem dX2_become_100 : decode cX2_become 100 = .ok (.aload_n 1, 1) := by decide +kernel
theorem dX2_become_101 : decode cX2_become 101 = .ok (.getfield 34, 3) := by decide +kernel
theorem dX2_become_104 : decode cX2_become 104 = .ok (.iconst 0, 1) := by decide +kernel
theorem dX2_become_105 : decode cX2_become 105 = .ok (.aload_n 0, 1) := by decide +kernel
theorem dX2_become_106 : decode cX2_become 106 = .ok (.getfield 34, 3) := by decide +kernel
theorem dX2_become_109 : decode cX2_become 109 = .ok (.iconst 0, 1) := by decide +kernel
theorem dX2_become_110 : decode cX2_become 110 = .ok (.bipush 8, 2) := by decide +kernel
theorem dX2_become_112 : decode cX2_become 112 = .ok (.invokestatic 46, 3) := by decide +kernel
theorem dX2_become_115 : decode cX2_become 115 = .ok (.aload_n 1, 1) := by decide +kernel
theorem dX2_become_116 : decode cX2_become 116 = .ok (.getfield 37, 3) := by decide +kernel
theorem dX2_become_119 : decode cX2_become 119 = .ok (.iconst 0, 1) := by decide +kernel
theorem dX2_become_120 : decode cX2_become 120 = .ok (.aload_n 0, 1) := by decide +kernel
theorem dX2_become_121 : decode cX2_become 121 = .ok (.getfield 37, 3) := by decide +kernel
theorem dX2_become_124 : decode cX2_become 124 = .ok (.iconst 0, 1) := by decide +kernel
theorem dX2_become_125 : decode cX2_become 125 = .ok (.bipush 8, 2) := by decide +kernel
theorem dX2_become_127 : decode cX2_become 127 = .ok (.invokestatic 46, 3) := by decide +kernel
theorem dX2_become_130 : decode cX2_become 130 = .ok (.return_, 1) := by decide +kernel
theorem dX2_stands_0 : decode cX2_stands 0 = .ok (.aload_n 0, 1) := by decide +kernel
theorem dX2_stands_1 : decode cX2_stands 1 = .ok (.getfield 9, 3) := by decide +kernel
theorem dX2_stands_4 : decode cX2_stands 4 = .ok (.ifCond .le 7, 3) := by decide +kernel
theorem dX2_stands_7 : decode cX2_stands 7 = .ok (.iconst 1, 1) := by decide +kernel
theorem dX2_stands_8 : decode cX2_stands 8 = .ok (.goto 4, 3) := by decide +kernel
theorem dX2_stands_11 : decode cX2_stands 11 = .ok (.iconst 0, 1) := by decide +kernel
theorem dX2_stands_12 : decode cX2_stands 12 = .ok (.ireturn, 1) := by decide +kernel
theorem dX2_hasInn_0 : decode cX2_hasInn 0 = .ok (.iload_n 1, 1) := by decide +kernel
theorem dX2_hasInn_1 : decode cX2_hasInn 1 = .ok (.ifCond .lt 15, 3) := by decide +kernel
theorem dX2_hasInn_4 : decode cX2_hasInn 4 = .ok (.iload_n 1, 1) := by decide +kernel
theorem dX2_hasInn_5 : decode cX2_hasInn 5 = .ok (.aload_n 0, 1) := by decide +kernel
theorem dX2_hasInn_6 : decode cX2_hasInn 6 = .ok (.getfield 9, 3) := by decide +kernel
theorem dX2_hasInn_9 : decode cX2_hasInn 9 = .ok (.if_icmp .ge 7, 3) := by decide +kernel
theorem dX2_hasInn_12 : decode cX2_hasInn 12 = .ok (.iconst 1, 1) := by decide +kernel
theorem dX2_hasInn_13 : decode cX2_hasInn 13 = .ok (.goto 4, 3) := by decide +kernel
theorem dX2_hasInn_16 : decode cX2_hasInn 16 = .ok (.iconst 0, 1) := by decide +kernel
theorem dX2_hasInn_17 : decode cX2_hasInn 17 = .ok (.ireturn, 1) := by decide +kernel
theorem dX2_hasInnOrRoad_0 : decode cX2_hasInnOrRoad 0 = .ok (.aload_n 0, 1) := by decide +kernel
theorem dX2_hasInnOrRoad_1 : decode cX2_hasInnOrRoad 1 = .ok (.invokevirtual 52, 3) := by decide +kernel
theorem dX2_hasInnOrRoad_4 : decode cX2_hasInnOrRoad 4 = .ok (.ifCond .eq 19, 3) := by decide +kernel
theorem dX2_hasInnOrRoad_7 : decode cX2_hasInnOrRoad 7 = .ok (.iload_n 1, 1) := by decide +kernel
theorem dX2_hasInnOrRoad_8 : decode cX2_hasInnOrRoad 8 = .ok (.ifCond .lt 15, 3) := by decide +kernel
theorem dX2_hasInnOrRoad_11 : decode cX2_hasInnOrRoad 11 = .ok (.iload_n 1, 1) := by decide +kernel
theorem dX2_hasInnOrRoad_12 : decode cX2_hasInnOrRoad 12 = .ok (.aload_n 0, 1) := by decide +kernel
theorem dX2_hasInnOrRoad_13 : decode cX2_hasInnOrRoad 13 = .ok (.getfield 9, 3) := by decide +kernel
theorem dX2_hasInnOrRoad_16 : decode cX2_hasInnOrRoad 16 = .ok (.if_icmp .gt 7, 3) := by decide +kernel
theorem dX2_hasInnOrRoad_19 : decode cX2_hasInnOrRoad 19 = .ok (.iconst 1, 1) := by decide +kernel
theorem dX2_hasInnOrRoad_20 : decode cX2_hasInnOrRoad 20 = .ok (.goto 4, 3) := by decide +kernel
theorem dX2_hasInnOrRoad_23 : decode cX2_hasInnOrRoad 23 = .ok (.iconst 0, 1) := by decide +kernel
theorem dX2_hasInnOrRoad_24 : decode cX2_hasInnOrRoad 24 = .ok (.ireturn, 1) := by decide +kernel
theorem dX2_hasGuest_0 : decode cX2_hasGuest 0 = .ok (.iload_n 1, 1) := by decide +kernel
theorem dX2_hasGuest_1 : decode cX2_hasGuest 1 = .ok (.ifCond .lt 15, 3) := by decide +kernel
theorem dX2_hasGuest_4 : decode cX2_hasGuest 4 = .ok (.iload_n 1, 1) := by decide +kernel
theorem dX2_hasGuest_5 : decode cX2_hasGuest 5 = .ok (.aload_n 0, 1) := by decide +kernel
theorem dX2_hasGuest_6 : decode cX2_hasGuest 6 = .ok (.getfield 31, 3) := by decide +kernel
theorem dX2_hasGuest_9 : decode cX2_hasGuest 9 = .ok (.if_icmp .ge 7, 3) := by decide +kernel
theorem dX2_hasGuest_12 : decode cX2_hasGuest 12 = .ok (.iconst 1, 1) := by decide +kernel
theorem dX2_hasGuest_13 : decode cX2_hasGuest 13 = .ok (.goto 4, 3) := by decide +kernel
theorem dX2_hasGuest_16 : decode cX2_hasGuest 16 = .ok (.iconst 0, 1) := by decide +kernel
theorem dX2_hasGuest_17 : decode cX2_hasGuest 17 = .ok (.ireturn, 1) := by decide +kernel
theorem dX2_hasNight_0 : decode cX2_hasNight 0 = .ok (.iload_n 1, 1) := by decide +kernel
theorem dX2_hasNight_1 : decode cX2_hasNight 1 = .ok (.ifCond .lt 15, 3) := by decide +kernel
theorem dX2_hasNight_4 : decode cX2_hasNight 4 = .ok (.iload_n 1, 1) := by decide +kernel
theorem dX2_hasNight_5 : decode cX2_hasNight 5 = .ok (.aload_n 0, 1) := by decide +kernel
theorem dX2_hasNight_6 : decode cX2_hasNight 6 = .ok (.getfield 22, 3) := by decide +kernel
theorem dX2_hasNight_9 : decode cX2_hasNight 9 = .ok (.if_icmp .ge 7, 3) := by decide +kernel
theorem dX2_hasNight_12 : decode cX2_hasNight 12 = .ok (.iconst 1, 1) := by decide +kernel
theorem dX2_hasNight_13 : decode cX2_hasNight 13 = .ok (.goto 4, 3) := by decide +kernel
theorem dX2_hasNight_16 : decode cX2_hasNight 16 = .ok (.iconst 0, 1) := by decide +kernel
theorem dX2_hasNight_17 : decode cX2_hasNight 17 = .ok (.ireturn, 1) := by decide +kernel
theorem dX2_countsNights_0 : decode cX2_countsNights 0 = .ok (.iload_n 1, 1) := by decide +kernel
theorem dX2_countsNights_1 : decode cX2_countsNights 1 = .ok (.ifCond .lt 15, 3) := by decide +kernel
theorem dX2_countsNights_4 : decode cX2_countsNights 4 = .ok (.iload_n 1, 1) := by decide +kernel
theorem dX2_countsNights_5 : decode cX2_countsNights 5 = .ok (.aload_n 0, 1) := by decide +kernel
theorem dX2_countsNights_6 : decode cX2_countsNights 6 = .ok (.getfield 22, 3) := by decide +kernel
theorem dX2_countsNights_9 : decode cX2_countsNights 9 = .ok (.if_icmp .gt 7, 3) := by decide +kernel
theorem dX2_countsNights_12 : decode cX2_countsNights 12 = .ok (.iconst 1, 1) := by decide +kernel
theorem dX2_countsNights_13 : decode cX2_countsNights 13 = .ok (.goto 4, 3) := by decide +kernel
theorem dX2_countsNights_16 : decode cX2_countsNights 16 = .ok (.iconst 0, 1) := by decide +kernel
theorem dX2_countsNights_17 : decode cX2_countsNights 17 = .ok (.ireturn, 1) := by decide +kernel
theorem dX2_membersOf_0 : decode cX2_membersOf 0 = .ok (.iconst 0, 1) := by decide +kernel
theorem dX2_membersOf_1 : decode cX2_membersOf 1 = .ok (.istore_n 2, 1) := by decide +kernel
theorem dX2_membersOf_2 : decode cX2_membersOf 2 = .ok (.iconst 0, 1) := by decide +kernel
theorem dX2_membersOf_3 : decode cX2_membersOf 3 = .ok (.istore_n 3, 1) := by decide +kernel
theorem dX2_membersOf_4 : decode cX2_membersOf 4 = .ok (.iload_n 3, 1) := by decide +kernel
theorem dX2_membersOf_5 : decode cX2_membersOf 5 = .ok (.aload_n 0, 1) := by decide +kernel
theorem dX2_membersOf_6 : decode cX2_membersOf 6 = .ok (.getfield 31, 3) := by decide +kernel
theorem dX2_membersOf_9 : decode cX2_membersOf 9 = .ok (.if_icmp .ge 25, 3) := by decide +kernel
theorem dX2_membersOf_12 : decode cX2_membersOf 12 = .ok (.aload_n 0, 1) := by decide +kernel
theorem dX2_membersOf_13 : decode cX2_membersOf 13 = .ok (.getfield 34, 3) := by decide +kernel
theorem dX2_membersOf_16 : decode cX2_membersOf 16 = .ok (.iload_n 3, 1) := by decide +kernel
theorem dX2_membersOf_17 : decode cX2_membersOf 17 = .ok (.iaload, 1) := by decide +kernel
theorem dX2_membersOf_18 : decode cX2_membersOf 18 = .ok (.iload_n 1, 1) := by decide +kernel
theorem dX2_membersOf_19 : decode cX2_membersOf 19 = .ok (.if_icmp .ne 9, 3) := by decide +kernel
theorem dX2_membersOf_22 : decode cX2_membersOf 22 = .ok (.iload_n 2, 1) := by decide +kernel
theorem dX2_membersOf_23 : decode cX2_membersOf 23 = .ok (.iconst 1, 1) := by decide +kernel
theorem dX2_membersOf_24 : decode cX2_membersOf 24 = .ok (.iload_n 3, 1) := by decide +kernel
theorem dX2_membersOf_25 : decode cX2_membersOf 25 = .ok (.ishl, 1) := by decide +kernel
theorem dX2_membersOf_26 : decode cX2_membersOf 26 = .ok (.ior, 1) := by decide +kernel
theorem dX2_membersOf_27 : decode cX2_membersOf 27 = .ok (.istore_n 2, 1) := by decide +kernel
theorem dX2_membersOf_28 : decode cX2_membersOf 28 = .ok (.iinc 3 1, 3) := by decide +kernel
theorem dX2_membersOf_31 : decode cX2_membersOf 31 = .ok (.goto (-27), 3) := by decide +kernel
theorem dX2_membersOf_34 : decode cX2_membersOf 34 = .ok (.iload_n 2, 1) := by decide +kernel
theorem dX2_membersOf_35 : decode cX2_membersOf 35 = .ok (.ireturn, 1) := by decide +kernel
theorem dX2_keepsBy_0 : decode cX2_keepsBy 0 = .ok (.aload_n 0, 1) := by decide +kernel
theorem dX2_keepsBy_1 : decode cX2_keepsBy 1 = .ok (.getfield 15, 3) := by decide +kernel
