theorem dX7_init_89 : decode cX7_init 89 = .ok (.putfield 40, 3) := by decide +kernel
theorem dX7_init_92 : decode cX7_init 92 = .ok (.aload_n 0, 1) := by decide +kernel
theorem dX7_init_93 : decode cX7_init 93 = .ok (.bipush 8, 2) := by decide +kernel
theorem dX7_init_95 : decode cX7_init 95 = .ok (.newarray .int, 2) := by decide +kernel
theorem dX7_init_97 : decode cX7_init 97 = .ok (.putfield 43, 3) := by decide +kernel
theorem dX7_init_100 : decode cX7_init 100 = .ok (.aload_n 0, 1) := by decide +kernel
theorem dX7_init_101 : decode cX7_init 101 = .ok (.bipush 8, 2) := by decide +kernel
theorem dX7_init_103 : decode cX7_init 103 = .ok (.newarray .int, 2) := by decide +kernel
theorem dX7_init_105 : decode cX7_init 105 = .ok (.putfield 46, 3) := by decide +kernel
theorem dX7_init_108 : decode cX7_init 108 = .ok (.aload_n 0, 1) := by decide +kernel
theorem dX7_init_109 : decode cX7_init 109 = .ok (.bipush 6, 2) := by decide +kernel
theorem dX7_init_111 : decode cX7_init 111 = .ok (.newarray .int, 2) := by decide +kernel
theorem dX7_init_113 : decode cX7_init 113 = .ok (.putfield 49, 3) := by decide +kernel
theorem dX7_init_116 : decode cX7_init 116 = .ok (.aload_n 0, 1) := by decide +kernel
theorem dX7_init_117 : decode cX7_init 117 = .ok (.bipush 8, 2) := by decide +kernel
theorem dX7_init_119 : decode cX7_init 119 = .ok (.newarray .int, 2) := by decide +kernel
theorem dX7_init_121 : decode cX7_init 121 = .ok (.putfield 52, 3) := by decide +kernel
theorem dX7_init_124 : decode cX7_init 124 = .ok (.aload_n 0, 1) := by decide +kernel
theorem dX7_init_125 : decode cX7_init 125 = .ok (.bipush 8, 2) := by decide +kernel
theorem dX7_init_127 : decode cX7_init 127 = .ok (.newarray .int, 2) := by decide +kernel
theorem dX7_init_129 : decode cX7_init 129 = .ok (.putfield 55, 3) := by decide +kernel
theorem dX7_init_132 : decode cX7_init 132 = .ok (.aload_n 0, 1) := by decide +kernel
theorem dX7_init_133 : decode cX7_init 133 = .ok (.bipush 8, 2) := by decide +kernel
theorem dX7_init_135 : decode cX7_init 135 = .ok (.newarray .int, 2) := by decide +kernel
theorem dX7_init_137 : decode cX7_init 137 = .ok (.putfield 58, 3) := by decide +kernel
theorem dX7_init_140 : decode cX7_init 140 = .ok (.aload_n 0, 1) := by decide +kernel
theorem dX7_init_141 : decode cX7_init 141 = .ok (.iconst 4, 1) := by decide +kernel
theorem dX7_init_142 : decode cX7_init 142 = .ok (.newarray .int, 2) := by decide +kernel
theorem dX7_init_144 : decode cX7_init 144 = .ok (.putfield 61, 3) := by decide +kernel
theorem dX7_init_147 : decode cX7_init 147 = .ok (.aload_n 0, 1) := by decide +kernel
theorem dX7_init_148 : decode cX7_init 148 = .ok (.iconst 4, 1) := by decide +kernel
theorem dX7_init_149 : decode cX7_init 149 = .ok (.newarray .int, 2) := by decide +kernel
theorem dX7_init_151 : decode cX7_init 151 = .ok (.putfield 64, 3) := by decide +kernel
theorem dX7_init_154 : decode cX7_init 154 = .ok (.aload_n 0, 1) := by decide +kernel
theorem dX7_init_155 : decode cX7_init 155 = .ok (.sipush 240, 3) := by decide +kernel
theorem dX7_init_158 : decode cX7_init 158 = .ok (.newarray .int, 2) := by decide +kernel
theorem dX7_init_160 : decode cX7_init 160 = .ok (.putfield 67, 3) := by decide +kernel
theorem dX7_init_163 : decode cX7_init 163 = .ok (.aload_n 0, 1) := by decide +kernel
theorem dX7_init_164 : decode cX7_init 164 = .ok (.bipush 60, 2) := by decide +kernel
theorem dX7_init_166 : decode cX7_init 166 = .ok (.newarray .int, 2) := by decide +kernel
theorem dX7_init_168 : decode cX7_init 168 = .ok (.putfield 70, 3) := by decide +kernel
theorem dX7_init_171 : decode cX7_init 171 = .ok (.iconst 0, 1) := by decide +kernel
theorem dX7_init_172 : decode cX7_init 172 = .ok (.istore_n 1, 1) := by decide +kernel
theorem dX7_init_173 : decode cX7_init 173 = .ok (.iload_n 1, 1) := by decide +kernel
theorem dX7_init_174 : decode cX7_init 174 = .ok (.iconst 4, 1) := by decide +kernel
theorem dX7_init_175 : decode cX7_init 175 = .ok (.if_icmp .ge 16, 3) := by decide +kernel
theorem dX7_init_178 : decode cX7_init 178 = .ok (.aload_n 0, 1) := by decide +kernel
theorem dX7_init_179 : decode cX7_init 179 = .ok (.getfield 61, 3) := by decide +kernel
theorem dX7_init_182 : decode cX7_init 182 = .ok (.iload_n 1, 1) := by decide +kernel
theorem dX7_init_183 : decode cX7_init 183 = .ok (.iconst (-1), 1) := by decide +kernel
theorem dX7_init_184 : decode cX7_init 184 = .ok (.iastore, 1) := by decide +kernel
theorem dX7_init_185 : decode cX7_init 185 = .ok (.iinc 1 1, 3) := by decide +kernel
theorem dX7_init_188 : decode cX7_init 188 = .ok (.goto (-15), 3) := by decide +kernel
theorem dX7_init_191 : decode cX7_init 191 = .ok (.aload_n 0, 1) := by decide +kernel
theorem dX7_init_192 : decode cX7_init 192 = .ok (.bipush (-9), 2) := by decide +kernel
theorem dX7_init_194 : decode cX7_init 194 = .ok (.putfield 73, 3) := by decide +kernel
theorem dX7_init_197 : decode cX7_init 197 = .ok (.return_, 1) := by decide +kernel
theorem dX7_in_0 : decode cX7_in 0 = .ok (.lload_n 0, 1) := by decide +kernel
theorem dX7_in_1 : decode cX7_in 1 = .ok (.lload_n 2, 1) := by decide +kernel
theorem dX7_in_2 : decode cX7_in 2 = .ok (.lcmp, 1) := by decide +kernel
theorem dX7_in_3 : decode cX7_in 3 = .ok (.ifCond .lt 14, 3) := by decide +kernel
theorem dX7_in_6 : decode cX7_in 6 = .ok (.lload_n 0, 1) := by decide +kernel
theorem dX7_in_7 : decode cX7_in 7 = .ok (.lload 4, 2) := by decide +kernel
theorem dX7_in_9 : decode cX7_in 9 = .ok (.lcmp, 1) := by decide +kernel
theorem dX7_in_10 : decode cX7_in 10 = .ok (.ifCond .gt 7, 3) := by decide +kernel
theorem dX7_in_13 : decode cX7_in 13 = .ok (.iconst 1, 1) := by decide +kernel
theorem dX7_in_14 : decode cX7_in 14 = .ok (.goto 4, 3) := by decide +kernel
theorem dX7_in_17 : decode cX7_in 17 = .ok (.iconst 0, 1) := by decide +kernel
theorem dX7_in_18 : decode cX7_in 18 = .ok (.ireturn, 1) := by decide +kernel
theorem dX7_lost_0 : decode cX7_lost 0 = .ok (.ldc2_w 77, 3) := by decide +kernel
theorem dX7_lost_3 : decode cX7_lost 3 = .ok (.lreturn, 1) := by decide +kernel
theorem dX7_share_0 : decode cX7_share 0 = .ok (.lload_n 0, 1) := by decide +kernel
theorem dX7_share_1 : decode cX7_share 1 = .ok (.lstore 5, 2) := by decide +kernel
theorem dX7_share_3 : decode cX7_share 3 = .ok (.lload_n 2, 1) := by decide +kernel
theorem dX7_share_4 : decode cX7_share 4 = .ok (.lstore 7, 2) := by decide +kernel
theorem dX7_share_6 : decode cX7_share 6 = .ok (.lload 7, 2) := by decide +kernel
theorem dX7_share_8 : decode cX7_share 8 = .ok (.lconst 0, 1) := by decide +kernel
theorem dX7_share_9 : decode cX7_share 9 = .ok (.lcmp, 1) := by decide +kernel
theorem dX7_share_10 : decode cX7_share 10 = .ok (.ifCond .eq 21, 3) := by decide +kernel
theorem dX7_share_13 : decode cX7_share 13 = .ok (.lload 5, 2) := by decide +kernel
theorem dX7_share_15 : decode cX7_share 15 = .ok (.lload 7, 2) := by decide +kernel
theorem dX7_share_17 : decode cX7_share 17 = .ok (.lrem, 1) := by decide +kernel
theorem dX7_share_18 : decode cX7_share 18 = .ok (.lstore 9, 2) := by decide +kernel
theorem dX7_share_20 : decode cX7_share 20 = .ok (.lload 7, 2) := by decide +kernel
theorem dX7_share_22 : decode cX7_share 22 = .ok (.lstore 5, 2) := by decide +kernel
theorem dX7_share_24 : decode cX7_share 24 = .ok (.lload 9, 2) := by decide +kernel
theorem dX7_share_26 : decode cX7_share 26 = .ok (.lstore 7, 2) := by decide +kernel
theorem dX7_share_28 : decode cX7_share 28 = .ok (.goto (-22), 3) := by decide +kernel
theorem dX7_share_31 : decode cX7_share 31 = .ok (.iload 4, 2) := by decide +kernel
theorem dX7_share_33 : decode cX7_share 33 = .ok (.ifCond .ne 7, 3) := by decide +kernel
theorem dX7_share_36 : decode cX7_share 36 = .ok (.lload_n 0, 1) := by decide +kernel
theorem dX7_share_37 : decode cX7_share 37 = .ok (.goto 4, 3) := by decide +kernel
theorem dX7_share_40 : decode cX7_share 40 = .ok (.lload_n 2, 1) := by decide +kernel
theorem dX7_share_41 : decode cX7_share 41 = .ok (.lload 5, 2) := by decide +kernel
theorem dX7_share_43 : decode cX7_share 43 = .ok (.ldiv, 1) := by decide +kernel
theorem dX7_share_44 : decode cX7_share 44 = .ok (.lreturn, 1) := by decide +kernel
theorem dX7_refused_0 : decode cX7_refused 0 = .ok (.aload_n 0, 1) := by decide +kernel
theorem dX7_refused_1 : decode cX7_refused 1 = .ok (.iconst 0, 1) := by decide +kernel
theorem dX7_refused_2 : decode cX7_refused 2 = .ok (.putfield 79, 3) := by decide +kernel
theorem dX7_refused_5 : decode cX7_refused 5 = .ok (.iload_n 1, 1) := by decide +kernel
theorem dX7_refused_6 : decode cX7_refused 6 = .ok (.ireturn, 1) := by decide +kernel
theorem dX7_failed_0 : decode cX7_failed 0 = .ok (.aload_n 0, 1) := by decide +kernel
theorem dX7_failed_1 : decode cX7_failed 1 = .ok (.iload_n 1, 1) := by decide +kernel
theorem dX7_failed_2 : decode cX7_failed 2 = .ok (.putfield 79, 3) := by decide +kernel
theorem dX7_failed_5 : decode cX7_failed 5 = .ok (.bipush (-10), 2) := by decide +kernel
theorem dX7_failed_7 : decode cX7_failed 7 = .ok (.iload_n 1, 1) := by decide +kernel
theorem dX7_failed_8 : decode cX7_failed 8 = .ok (.isub, 1) := by decide +kernel
theorem dX7_failed_9 : decode cX7_failed 9 = .ok (.ireturn, 1) := by decide +kernel
theorem dX7_failedLong_0 : decode cX7_failedLong 0 = .ok (.aload_n 0, 1) := by decide +kernel
theorem dX7_failedLong_1 : decode cX7_failedLong 1 = .ok (.iload_n 1, 1) := by decide +kernel
theorem dX7_failedLong_2 : decode cX7_failedLong 2 = .ok (.putfield 79, 3) := by decide +kernel
theorem dX7_failedLong_5 : decode cX7_failedLong 5 = .ok (.invokestatic 82, 3) := by decide +kernel
theorem dX7_failedLong_8 : decode cX7_failedLong 8 = .ok (.lreturn, 1) := by decide +kernel
theorem dX7_noInn_0 : decode cX7_noInn 0 = .ok (.iload_n 1, 1) := by decide +kernel
theorem dX7_noInn_1 : decode cX7_noInn 1 = .ok (.i2l, 1) := by decide +kernel
theorem dX7_noInn_2 : decode cX7_noInn 2 = .ok (.lconst 0, 1) := by decide +kernel
theorem dX7_noInn_3 : decode cX7_noInn 3 = .ok (.aload_n 0, 1) := by decide +kernel
theorem dX7_noInn_4 : decode cX7_noInn 4 = .ok (.getfield 86, 3) := by decide +kernel
theorem dX7_noInn_7 : decode cX7_noInn 7 = .ok (.i2l, 1) := by decide +kernel
theorem dX7_noInn_8 : decode cX7_noInn 8 = .ok (.lconst 1, 1) := by decide +kernel
theorem dX7_noInn_9 : decode cX7_noInn 9 = .ok (.lsub, 1) := by decide +kernel
theorem dX7_noInn_10 : decode cX7_noInn 10 = .ok (.invokestatic 89, 3) := by decide +kernel
theorem dX7_noInn_13 : decode cX7_noInn 13 = .ok (.ifCond .ne 7, 3) := by decide +kernel
theorem dX7_noInn_16 : decode cX7_noInn 16 = .ok (.iconst 1, 1) := by decide +kernel
theorem dX7_noInn_17 : decode cX7_noInn 17 = .ok (.goto 4, 3) := by decide +kernel
theorem dX7_noInn_20 : decode cX7_noInn 20 = .ok (.iconst 0, 1) := by decide +kernel
theorem dX7_noInn_21 : decode cX7_noInn 21 = .ok (.ireturn, 1) := by decide +kernel
theorem dX7_noGuest_0 : decode cX7_noGuest 0 = .ok (.iload_n 1, 1) := by decide +kernel
theorem dX7_noGuest_1 : decode cX7_noGuest 1 = .ok (.i2l, 1) := by decide +kernel
theorem dX7_noGuest_2 : decode cX7_noGuest 2 = .ok (.lconst 0, 1) := by decide +kernel
theorem dX7_noGuest_3 : decode cX7_noGuest 3 = .ok (.aload_n 0, 1) := by decide +kernel
theorem dX7_noGuest_4 : decode cX7_noGuest 4 = .ok (.getfield 93, 3) := by decide +kernel
theorem dX7_noGuest_7 : decode cX7_noGuest 7 = .ok (.i2l, 1) := by decide +kernel
theorem dX7_noGuest_8 : decode cX7_noGuest 8 = .ok (.lconst 1, 1) := by decide +kernel
theorem dX7_noGuest_9 : decode cX7_noGuest 9 = .ok (.lsub, 1) := by decide +kernel
theorem dX7_noGuest_10 : decode cX7_noGuest 10 = .ok (.invokestatic 89, 3) := by decide +kernel
theorem dX7_noGuest_13 : decode cX7_noGuest 13 = .ok (.ifCond .ne 7, 3) := by decide +kernel
theorem dX7_noGuest_16 : decode cX7_noGuest 16 = .ok (.iconst 1, 1) := by decide +kernel
theorem dX7_noGuest_17 : decode cX7_noGuest 17 = .ok (.goto 4, 3) := by decide +kernel
theorem dX7_noGuest_20 : decode cX7_noGuest 20 = .ok (.iconst 0, 1) := by decide +kernel
theorem dX7_noGuest_21 : decode cX7_noGuest 21 = .ok (.ireturn, 1) := by decide +kernel
theorem dX7_noNight_0 : decode cX7_noNight 0 = .ok (.iload_n 1, 1) := by decide +kernel
theorem dX7_noNight_1 : decode cX7_noNight 1 = .ok (.i2l, 1) := by decide +kernel
theorem dX7_noNight_2 : decode cX7_noNight 2 = .ok (.lconst 0, 1) := by decide +kernel
theorem dX7_noNight_3 : decode cX7_noNight 3 = .ok (.aload_n 0, 1) := by decide +kernel
theorem dX7_noNight_4 : decode cX7_noNight 4 = .ok (.getfield 96, 3) := by decide +kernel
theorem dX7_noNight_7 : decode cX7_noNight 7 = .ok (.i2l, 1) := by decide +kernel
theorem dX7_noNight_8 : decode cX7_noNight 8 = .ok (.lconst 1, 1) := by decide +kernel
theorem dX7_noNight_9 : decode cX7_noNight 9 = .ok (.lsub, 1) := by decide +kernel
theorem dX7_noNight_10 : decode cX7_noNight 10 = .ok (.invokestatic 89, 3) := by decide +kernel
theorem dX7_noNight_13 : decode cX7_noNight 13 = .ok (.ifCond .ne 7, 3) := by decide +kernel
theorem dX7_noNight_16 : decode cX7_noNight 16 = .ok (.iconst 1, 1) := by decide +kernel
theorem dX7_noNight_17 : decode cX7_noNight 17 = .ok (.goto 4, 3) := by decide +kernel
theorem dX7_noNight_20 : decode cX7_noNight 20 = .ok (.iconst 0, 1) := by decide +kernel
theorem dX7_noNight_21 : decode cX7_noNight 21 = .ok (.ireturn, 1) := by decide +kernel
theorem dX7_codeAt_0 : decode cX7_codeAt 0 = .ok (.aload_n 0, 1) := by decide +kernel
theorem dX7_codeAt_1 : decode cX7_codeAt 1 = .ok (.getfield 99, 3) := by decide +kernel
theorem dX7_codeAt_4 : decode cX7_codeAt 4 = .ok (.iload_n 2, 1) := by decide +kernel
theorem dX7_codeAt_5 : decode cX7_codeAt 5 = .ok (.if_icmp .ge 17, 3) := by decide +kernel
theorem dX7_codeAt_8 : decode cX7_codeAt 8 = .ok (.aload_n 0, 1) := by decide +kernel
theorem dX7_codeAt_9 : decode cX7_codeAt 9 = .ok (.getfield 67, 3) := by decide +kernel
theorem dX7_codeAt_12 : decode cX7_codeAt 12 = .ok (.iload_n 1, 1) := by decide +kernel
theorem dX7_codeAt_13 : decode cX7_codeAt 13 = .ok (.aload_n 0, 1) := by decide +kernel
theorem dX7_codeAt_14 : decode cX7_codeAt 14 = .ok (.getfield 99, 3) := by decide +kernel
theorem dX7_codeAt_17 : decode cX7_codeAt 17 = .ok (.iadd, 1) := by decide +kernel
theorem dX7_codeAt_18 : decode cX7_codeAt 18 = .ok (.iaload, 1) := by decide +kernel
theorem dX7_codeAt_19 : decode cX7_codeAt 19 = .ok (.goto 5, 3) := by decide +kernel
theorem dX7_codeAt_22 : decode cX7_codeAt 22 = .ok (.bipush (-9), 2) := by decide +kernel
theorem dX7_codeAt_24 : decode cX7_codeAt 24 = .ok (.ireturn, 1) := by decide +kernel
theorem dX7_figure_0 : decode cX7_figure 0 = .ok (.aload_n 0, 1) := by decide +kernel
theorem dX7_figure_1 : decode cX7_figure 1 = .ok (.iload_n 1, 1) := by decide +kernel
theorem dX7_figure_2 : decode cX7_figure 2 = .ok (.iload_n 2, 1) := by decide +kernel
theorem dX7_figure_3 : decode cX7_figure 3 = .ok (.invokevirtual 102, 3) := by decide +kernel
theorem dX7_figure_6 : decode cX7_figure 6 = .ok (.bipush 48, 2) := by decide +kernel
theorem dX7_figure_8 : decode cX7_figure 8 = .ok (.isub, 1) := by decide +kernel
theorem dX7_figure_9 : decode cX7_figure 9 = .ok (.istore 5, 2) := by decide +kernel
theorem dX7_figure_11 : decode cX7_figure 11 = .ok (.iload 5, 2) := by decide +kernel
theorem dX7_figure_13 : decode cX7_figure 13 = .ok (.i2l, 1) := by decide +kernel
theorem dX7_figure_14 : decode cX7_figure 14 = .ok (.iload_n 3, 1) := by decide +kernel
theorem dX7_figure_15 : decode cX7_figure 15 = .ok (.i2l, 1) := by decide +kernel
theorem dX7_figure_16 : decode cX7_figure 16 = .ok (.iload 4, 2) := by decide +kernel
theorem dX7_figure_18 : decode cX7_figure 18 = .ok (.i2l, 1) := by decide +kernel
theorem dX7_figure_19 : decode cX7_figure 19 = .ok (.invokestatic 89, 3) := by decide +kernel
theorem dX7_figure_22 : decode cX7_figure 22 = .ok (.istore 6, 2) := by decide +kernel
theorem dX7_figure_24 : decode cX7_figure 24 = .ok (.aload_n 0, 1) := by decide +kernel
theorem dX7_figure_25 : decode cX7_figure 25 = .ok (.dup, 1) := by decide +kernel
theorem dX7_figure_26 : decode cX7_figure 26 = .ok (.getfield 99, 3) := by decide +kernel
theorem dX7_figure_29 : decode cX7_figure 29 = .ok (.iload 6, 2) := by decide +kernel
theorem dX7_figure_31 : decode cX7_figure 31 = .ok (.ifCond .eq 7, 3) := by decide +kernel
theorem dX7_figure_34 : decode cX7_figure 34 = .ok (.iconst 1, 1) := by decide +kernel
theorem dX7_figure_35 : decode cX7_figure 35 = .ok (.goto 4, 3) := by decide +kernel
theorem dX7_figure_38 : decode cX7_figure 38 = .ok (.iconst 0, 1) := by decide +kernel
theorem dX7_figure_39 : decode cX7_figure 39 = .ok (.iadd, 1) := by decide +kernel
theorem dX7_figure_40 : decode cX7_figure 40 = .ok (.putfield 99, 3) := by decide +kernel
theorem dX7_figure_43 : decode cX7_figure 43 = .ok (.iload 6, 2) := by decide +kernel
theorem dX7_figure_45 : decode cX7_figure 45 = .ok (.ifCond .eq 8, 3) := by decide +kernel
theorem dX7_figure_48 : decode cX7_figure 48 = .ok (.iload 5, 2) := by decide +kernel
theorem dX7_figure_50 : decode cX7_figure 50 = .ok (.goto 5, 3) := by decide +kernel
theorem dX7_figure_53 : decode cX7_figure 53 = .ok (.bipush (-9), 2) := by decide +kernel
theorem dX7_figure_55 : decode cX7_figure 55 = .ok (.ireturn, 1) := by decide +kernel
theorem dX7_readsInn_0 : decode cX7_readsInn 0 = .ok (.aload_n 0, 1) := by decide +kernel
theorem dX7_readsInn_1 : decode cX7_readsInn 1 = .ok (.getfield 106, 3) := by decide +kernel
theorem dX7_readsInn_4 : decode cX7_readsInn 4 = .ok (.bipush 6, 2) := by decide +kernel
theorem dX7_readsInn_6 : decode cX7_readsInn 6 = .ok (.if_icmp .eq 14, 3) := by decide +kernel
theorem dX7_readsInn_9 : decode cX7_readsInn 9 = .ok (.aload_n 0, 1) := by decide +kernel
theorem dX7_readsInn_10 : decode cX7_readsInn 10 = .ok (.iload_n 1, 1) := by decide +kernel
theorem dX7_readsInn_11 : decode cX7_readsInn 11 = .ok (.iload_n 2, 1) := by decide +kernel
theorem dX7_readsInn_12 : decode cX7_readsInn 12 = .ok (.invokevirtual 102, 3) := by decide +kernel
theorem dX7_readsInn_15 : decode cX7_readsInn 15 = .ok (.bipush 44, 2) := by decide +kernel
theorem dX7_readsInn_17 : decode cX7_readsInn 17 = .ok (.if_icmp .eq 5, 3) := by decide +kernel
theorem dX7_readsInn_20 : decode cX7_readsInn 20 = .ok (.iconst 0, 1) := by decide +kernel
theorem dX7_readsInn_21 : decode cX7_readsInn 21 = .ok (.ireturn, 1) := by decide +kernel
theorem dX7_readsInn_22 : decode cX7_readsInn 22 = .ok (.aload_n 0, 1) := by decide +kernel
theorem dX7_readsInn_23 : decode cX7_readsInn 23 = .ok (.dup, 1) := by decide +kernel
theorem dX7_readsInn_24 : decode cX7_readsInn 24 = .ok (.getfield 99, 3) := by decide +kernel
theorem dX7_readsInn_27 : decode cX7_readsInn 27 = .ok (.iconst 1, 1) := by decide +kernel
theorem dX7_readsInn_28 : decode cX7_readsInn 28 = .ok (.iadd, 1) := by decide +kernel
theorem dX7_readsInn_29 : decode cX7_readsInn 29 = .ok (.putfield 99, 3) := by decide +kernel
theorem dX7_readsInn_32 : decode cX7_readsInn 32 = .ok (.aload_n 0, 1) := by decide +kernel
theorem dX7_readsInn_33 : decode cX7_readsInn 33 = .ok (.iload_n 1, 1) := by decide +kernel
theorem dX7_readsInn_34 : decode cX7_readsInn 34 = .ok (.iload_n 2, 1) := by decide +kernel
theorem dX7_readsInn_35 : decode cX7_readsInn 35 = .ok (.invokevirtual 102, 3) := by decide +kernel
theorem dX7_readsInn_38 : decode cX7_readsInn 38 = .ok (.istore_n 3, 1) := by decide +kernel
theorem dX7_readsInn_39 : decode cX7_readsInn 39 = .ok (.iload_n 3, 1) := by decide +kernel
theorem dX7_readsInn_40 : decode cX7_readsInn 40 = .ok (.bipush 110, 2) := by decide +kernel
theorem dX7_readsInn_42 : decode cX7_readsInn 42 = .ok (.if_icmp .eq 17, 3) := by decide +kernel
theorem dX7_readsInn_45 : decode cX7_readsInn 45 = .ok (.iload_n 3, 1) := by decide +kernel
theorem dX7_readsInn_46 : decode cX7_readsInn 46 = .ok (.bipush 108, 2) := by decide +kernel
theorem dX7_readsInn_48 : decode cX7_readsInn 48 = .ok (.if_icmp .eq 11, 3) := by decide +kernel
theorem dX7_readsInn_51 : decode cX7_readsInn 51 = .ok (.iload_n 3, 1) := by decide +kernel
theorem dX7_readsInn_52 : decode cX7_readsInn 52 = .ok (.bipush 99, 2) := by decide +kernel
theorem dX7_readsInn_54 : decode cX7_readsInn 54 = .ok (.if_icmp .eq 5, 3) := by decide +kernel
theorem dX7_readsInn_57 : decode cX7_readsInn 57 = .ok (.iconst 0, 1) := by decide +kernel
theorem dX7_readsInn_58 : decode cX7_readsInn 58 = .ok (.ireturn, 1) := by decide +kernel
theorem dX7_readsInn_59 : decode cX7_readsInn 59 = .ok (.aload_n 0, 1) := by decide +kernel
theorem dX7_readsInn_60 : decode cX7_readsInn 60 = .ok (.dup, 1) := by decide +kernel
theorem dX7_readsInn_61 : decode cX7_readsInn 61 = .ok (.getfield 99, 3) := by decide +kernel
theorem dX7_readsInn_64 : decode cX7_readsInn 64 = .ok (.iconst 1, 1) := by decide +kernel
theorem dX7_readsInn_65 : decode cX7_readsInn 65 = .ok (.iadd, 1) := by decide +kernel
theorem dX7_readsInn_66 : decode cX7_readsInn 66 = .ok (.putfield 99, 3) := by decide +kernel
theorem dX7_readsInn_69 : decode cX7_readsInn 69 = .ok (.aload_n 0, 1) := by decide +kernel
theorem dX7_readsInn_70 : decode cX7_readsInn 70 = .ok (.iload_n 1, 1) := by decide +kernel
theorem dX7_readsInn_71 : decode cX7_readsInn 71 = .ok (.iload_n 2, 1) := by decide +kernel
theorem dX7_readsInn_72 : decode cX7_readsInn 72 = .ok (.iconst 0, 1) := by decide +kernel
theorem dX7_readsInn_73 : decode cX7_readsInn 73 = .ok (.bipush 9, 2) := by decide +kernel
theorem dX7_readsInn_75 : decode cX7_readsInn 75 = .ok (.invokevirtual 109, 3) := by decide +kernel
theorem dX7_readsInn_78 : decode cX7_readsInn 78 = .ok (.istore 4, 2) := by decide +kernel
theorem dX7_readsInn_80 : decode cX7_readsInn 80 = .ok (.iload 4, 2) := by decide +kernel
theorem dX7_readsInn_82 : decode cX7_readsInn 82 = .ok (.ifCond .ge 5, 3) := by decide +kernel
theorem dX7_readsInn_85 : decode cX7_readsInn 85 = .ok (.iconst 0, 1) := by decide +kernel
theorem dX7_readsInn_86 : decode cX7_readsInn 86 = .ok (.ireturn, 1) := by decide +kernel
theorem dX7_readsInn_87 : decode cX7_readsInn 87 = .ok (.aload_n 0, 1) := by decide +kernel
theorem dX7_readsInn_88 : decode cX7_readsInn 88 = .ok (.getfield 28, 3) := by decide +kernel
theorem dX7_readsInn_91 : decode cX7_readsInn 91 = .ok (.aload_n 0, 1) := by decide +kernel
theorem dX7_readsInn_92 : decode cX7_readsInn 92 = .ok (.getfield 106, 3) := by decide +kernel
theorem dX7_readsInn_95 : decode cX7_readsInn 95 = .ok (.iload_n 3, 1) := by decide +kernel
theorem dX7_readsInn_96 : decode cX7_readsInn 96 = .ok (.bipush 110, 2) := by decide +kernel
theorem dX7_readsInn_98 : decode cX7_readsInn 98 = .ok (.if_icmp .ne 7, 3) := by decide +kernel
theorem dX7_readsInn_101 : decode cX7_readsInn 101 = .ok (.iconst 0, 1) := by decide +kernel
theorem dX7_readsInn_102 : decode cX7_readsInn 102 = .ok (.goto 14, 3) := by decide +kernel
theorem dX7_readsInn_105 : decode cX7_readsInn 105 = .ok (.iload_n 3, 1) := by decide +kernel
theorem dX7_readsInn_106 : decode cX7_readsInn 106 = .ok (.bipush 108, 2) := by decide +kernel
theorem dX7_readsInn_108 : decode cX7_readsInn 108 = .ok (.if_icmp .ne 7, 3) := by decide +kernel
theorem dX7_readsInn_111 : decode cX7_readsInn 111 = .ok (.iconst 1, 1) := by decide +kernel
theorem dX7_readsInn_112 : decode cX7_readsInn 112 = .ok (.goto 4, 3) := by decide +kernel
theorem dX7_readsInn_115 : decode cX7_readsInn 115 = .ok (.iconst 2, 1) := by decide +kernel
theorem dX7_readsInn_116 : decode cX7_readsInn 116 = .ok (.iastore, 1) := by decide +kernel
theorem dX7_readsInn_117 : decode cX7_readsInn 117 = .ok (.aload_n 0, 1) := by decide +kernel
theorem dX7_readsInn_118 : decode cX7_readsInn 118 = .ok (.getfield 31, 3) := by decide +kernel
theorem dX7_readsInn_121 : decode cX7_readsInn 121 = .ok (.aload_n 0, 1) := by decide +kernel
theorem dX7_readsInn_122 : decode cX7_readsInn 122 = .ok (.getfield 106, 3) := by decide +kernel
theorem dX7_readsInn_125 : decode cX7_readsInn 125 = .ok (.iload 4, 2) := by decide +kernel
theorem dX7_readsInn_127 : decode cX7_readsInn 127 = .ok (.iastore, 1) := by decide +kernel
theorem dX7_readsInn_128 : decode cX7_readsInn 128 = .ok (.aload_n 0, 1) := by decide +kernel
theorem dX7_readsInn_129 : decode cX7_readsInn 129 = .ok (.dup, 1) := by decide +kernel
theorem dX7_readsInn_130 : decode cX7_readsInn 130 = .ok (.getfield 106, 3) := by decide +kernel
theorem dX7_readsInn_133 : decode cX7_readsInn 133 = .ok (.iconst 1, 1) := by decide +kernel
theorem dX7_readsInn_134 : decode cX7_readsInn 134 = .ok (.iadd, 1) := by decide +kernel
theorem dX7_readsInn_135 : decode cX7_readsInn 135 = .ok (.putfield 106, 3) := by decide +kernel
theorem dX7_readsInn_138 : decode cX7_readsInn 138 = .ok (.iconst 1, 1) := by decide +kernel
theorem dX7_readsInn_139 : decode cX7_readsInn 139 = .ok (.ireturn, 1) := by decide +kernel
theorem dX7_readsNight_0 : decode cX7_readsNight 0 = .ok (.aload_n 0, 1) := by decide +kernel
theorem dX7_readsNight_1 : decode cX7_readsNight 1 = .ok (.iload_n 1, 1) := by decide +kernel
theorem dX7_readsNight_2 : decode cX7_readsNight 2 = .ok (.iload_n 2, 1) := by decide +kernel
theorem dX7_readsNight_3 : decode cX7_readsNight 3 = .ok (.invokevirtual 102, 3) := by decide +kernel
theorem dX7_readsNight_6 : decode cX7_readsNight 6 = .ok (.istore_n 3, 1) := by decide +kernel
theorem dX7_readsNight_7 : decode cX7_readsNight 7 = .ok (.aload_n 0, 1) := by decide +kernel
theorem dX7_readsNight_8 : decode cX7_readsNight 8 = .ok (.getfield 113, 3) := by decide +kernel
theorem dX7_readsNight_11 : decode cX7_readsNight 11 = .ok (.bipush 8, 2) := by decide +kernel
theorem dX7_readsNight_13 : decode cX7_readsNight 13 = .ok (.if_icmp .eq 15, 3) := by decide +kernel
theorem dX7_readsNight_16 : decode cX7_readsNight 16 = .ok (.iload_n 3, 1) := by decide +kernel
theorem dX7_readsNight_17 : decode cX7_readsNight 17 = .ok (.bipush 62, 2) := by decide +kernel
theorem dX7_readsNight_19 : decode cX7_readsNight 19 = .ok (.if_icmp .eq 11, 3) := by decide +kernel
theorem dX7_readsNight_22 : decode cX7_readsNight 22 = .ok (.iload_n 3, 1) := by decide +kernel
theorem dX7_readsNight_23 : decode cX7_readsNight 23 = .ok (.bipush 60, 2) := by decide +kernel
theorem dX7_readsNight_25 : decode cX7_readsNight 25 = .ok (.if_icmp .eq 5, 3) := by decide +kernel
theorem dX7_readsNight_28 : decode cX7_readsNight 28 = .ok (.iconst 0, 1) := by decide +kernel
theorem dX7_readsNight_29 : decode cX7_readsNight 29 = .ok (.ireturn, 1) := by decide +kernel
theorem dX7_readsNight_30 : decode cX7_readsNight 30 = .ok (.aload_n 0, 1) := by decide +kernel
theorem dX7_readsNight_31 : decode cX7_readsNight 31 = .ok (.dup, 1) := by decide +kernel
theorem dX7_readsNight_32 : decode cX7_readsNight 32 = .ok (.getfield 99, 3) := by decide +kernel
theorem dX7_readsNight_35 : decode cX7_readsNight 35 = .ok (.iconst 1, 1) := by decide +kernel
theorem dX7_readsNight_36 : decode cX7_readsNight 36 = .ok (.iadd, 1) := by decide +kernel
theorem dX7_readsNight_37 : decode cX7_readsNight 37 = .ok (.putfield 99, 3) := by decide +kernel
theorem dX7_readsNight_40 : decode cX7_readsNight 40 = .ok (.aload_n 0, 1) := by decide +kernel
theorem dX7_readsNight_41 : decode cX7_readsNight 41 = .ok (.iload_n 1, 1) := by decide +kernel
theorem dX7_readsNight_42 : decode cX7_readsNight 42 = .ok (.iload_n 2, 1) := by decide +kernel
theorem dX7_readsNight_43 : decode cX7_readsNight 43 = .ok (.iconst 0, 1) := by decide +kernel
theorem dX7_readsNight_44 : decode cX7_readsNight 44 = .ok (.iconst 5, 1) := by decide +kernel
theorem dX7_readsNight_45 : decode cX7_readsNight 45 = .ok (.invokevirtual 109, 3) := by decide +kernel
theorem dX7_readsNight_48 : decode cX7_readsNight 48 = .ok (.istore 4, 2) := by decide +kernel
theorem dX7_readsNight_50 : decode cX7_readsNight 50 = .ok (.iload 4, 2) := by decide +kernel
theorem dX7_readsNight_52 : decode cX7_readsNight 52 = .ok (.ifCond .ge 5, 3) := by decide +kernel
theorem dX7_readsNight_55 : decode cX7_readsNight 55 = .ok (.iconst 0, 1) := by decide +kernel
theorem dX7_readsNight_56 : decode cX7_readsNight 56 = .ok (.ireturn, 1) := by decide +kernel
theorem dX7_readsNight_57 : decode cX7_readsNight 57 = .ok (.aload_n 0, 1) := by decide +kernel
theorem dX7_readsNight_58 : decode cX7_readsNight 58 = .ok (.getfield 34, 3) := by decide +kernel
theorem dX7_readsNight_61 : decode cX7_readsNight 61 = .ok (.aload_n 0, 1) := by decide +kernel
theorem dX7_readsNight_62 : decode cX7_readsNight 62 = .ok (.getfield 113, 3) := by decide +kernel
theorem dX7_readsNight_65 : decode cX7_readsNight 65 = .ok (.iload_n 3, 1) := by decide +kernel
theorem dX7_readsNight_66 : decode cX7_readsNight 66 = .ok (.bipush 62, 2) := by decide +kernel
theorem dX7_readsNight_68 : decode cX7_readsNight 68 = .ok (.if_icmp .ne 7, 3) := by decide +kernel
theorem dX7_readsNight_71 : decode cX7_readsNight 71 = .ok (.iconst 0, 1) := by decide +kernel
theorem dX7_readsNight_72 : decode cX7_readsNight 72 = .ok (.goto 4, 3) := by decide +kernel
theorem dX7_readsNight_75 : decode cX7_readsNight 75 = .ok (.iconst 1, 1) := by decide +kernel
theorem dX7_readsNight_76 : decode cX7_readsNight 76 = .ok (.iastore, 1) := by decide +kernel
theorem dX7_readsNight_77 : decode cX7_readsNight 77 = .ok (.aload_n 0, 1) := by decide +kernel
theorem dX7_readsNight_78 : decode cX7_readsNight 78 = .ok (.getfield 37, 3) := by decide +kernel
theorem dX7_readsNight_81 : decode cX7_readsNight 81 = .ok (.aload_n 0, 1) := by decide +kernel
theorem dX7_readsNight_82 : decode cX7_readsNight 82 = .ok (.getfield 113, 3) := by decide +kernel
theorem dX7_readsNight_85 : decode cX7_readsNight 85 = .ok (.iload 4, 2) := by decide +kernel
theorem dX7_readsNight_87 : decode cX7_readsNight 87 = .ok (.iastore, 1) := by decide +kernel
theorem dX7_readsNight_88 : decode cX7_readsNight 88 = .ok (.aload_n 0, 1) := by decide +kernel
theorem dX7_readsNight_89 : decode cX7_readsNight 89 = .ok (.dup, 1) := by decide +kernel
theorem dX7_readsNight_90 : decode cX7_readsNight 90 = .ok (.getfield 113, 3) := by decide +kernel
theorem dX7_readsNight_93 : decode cX7_readsNight 93 = .ok (.iconst 1, 1) := by decide +kernel
theorem dX7_readsNight_94 : decode cX7_readsNight 94 = .ok (.iadd, 1) := by decide +kernel
theorem dX7_readsNight_95 : decode cX7_readsNight 95 = .ok (.putfield 113, 3) := by decide +kernel
theorem dX7_readsNight_98 : decode cX7_readsNight 98 = .ok (.iconst 1, 1) := by decide +kernel
theorem dX7_readsNight_99 : decode cX7_readsNight 99 = .ok (.ireturn, 1) := by decide +kernel
theorem dX7_readsGuest_0 : decode cX7_readsGuest 0 = .ok (.aload_n 0, 1) := by decide +kernel
theorem dX7_readsGuest_1 : decode cX7_readsGuest 1 = .ok (.getfield 116, 3) := by decide +kernel
theorem dX7_readsGuest_4 : decode cX7_readsGuest 4 = .ok (.bipush 8, 2) := by decide +kernel
theorem dX7_readsGuest_6 : decode cX7_readsGuest 6 = .ok (.if_icmp .eq 14, 3) := by decide +kernel
theorem dX7_readsGuest_9 : decode cX7_readsGuest 9 = .ok (.aload_n 0, 1) := by decide +kernel
theorem dX7_readsGuest_10 : decode cX7_readsGuest 10 = .ok (.iload_n 1, 1) := by decide +kernel
theorem dX7_readsGuest_11 : decode cX7_readsGuest 11 = .ok (.iload_n 2, 1) := by decide +kernel
theorem dX7_readsGuest_12 : decode cX7_readsGuest 12 = .ok (.invokevirtual 102, 3) := by decide +kernel
theorem dX7_readsGuest_15 : decode cX7_readsGuest 15 = .ok (.bipush 43, 2) := by decide +kernel
theorem dX7_readsGuest_17 : decode cX7_readsGuest 17 = .ok (.if_icmp .eq 5, 3) := by decide +kernel
theorem dX7_readsGuest_20 : decode cX7_readsGuest 20 = .ok (.iconst 0, 1) := by decide +kernel
theorem dX7_readsGuest_21 : decode cX7_readsGuest 21 = .ok (.ireturn, 1) := by decide +kernel
theorem dX7_readsGuest_22 : decode cX7_readsGuest 22 = .ok (.aload_n 0, 1) := by decide +kernel
theorem dX7_readsGuest_23 : decode cX7_readsGuest 23 = .ok (.dup, 1) := by decide +kernel
theorem dX7_readsGuest_24 : decode cX7_readsGuest 24 = .ok (.getfield 99, 3) := by decide +kernel
theorem dX7_readsGuest_27 : decode cX7_readsGuest 27 = .ok (.iconst 1, 1) := by decide +kernel
theorem dX7_readsGuest_28 : decode cX7_readsGuest 28 = .ok (.iadd, 1) := by decide +kernel
theorem dX7_readsGuest_29 : decode cX7_readsGuest 29 = .ok (.putfield 99, 3) := by decide +kernel
theorem dX7_readsGuest_32 : decode cX7_readsGuest 32 = .ok (.aload_n 0, 1) := by decide +kernel
theorem dX7_readsGuest_33 : decode cX7_readsGuest 33 = .ok (.iload_n 1, 1) := by decide +kernel
theorem dX7_readsGuest_34 : decode cX7_readsGuest 34 = .ok (.iload_n 2, 1) := by decide +kernel
theorem dX7_readsGuest_35 : decode cX7_readsGuest 35 = .ok (.iconst 0, 1) := by decide +kernel
theorem dX7_readsGuest_36 : decode cX7_readsGuest 36 = .ok (.iconst 3, 1) := by decide +kernel
theorem dX7_readsGuest_37 : decode cX7_readsGuest 37 = .ok (.invokevirtual 109, 3) := by decide +kernel
theorem dX7_readsGuest_40 : decode cX7_readsGuest 40 = .ok (.istore_n 3, 1) := by decide +kernel
theorem dX7_readsGuest_41 : decode cX7_readsGuest 41 = .ok (.iload_n 3, 1) := by decide +kernel
theorem dX7_readsGuest_42 : decode cX7_readsGuest 42 = .ok (.ifCond .ge 8, 3) := by decide +kernel
theorem dX7_readsGuest_45 : decode cX7_readsGuest 45 = .ok (.bipush (-9), 2) := by decide +kernel
theorem dX7_readsGuest_47 : decode cX7_readsGuest 47 = .ok (.goto 16, 3) := by decide +kernel
theorem dX7_readsGuest_50 : decode cX7_readsGuest 50 = .ok (.aload_n 0, 1) := by decide +kernel
theorem dX7_readsGuest_51 : decode cX7_readsGuest 51 = .ok (.iload_n 1, 1) := by decide +kernel
theorem dX7_readsGuest_52 : decode cX7_readsGuest 52 = .ok (.iload_n 2, 1) := by decide +kernel
theorem dX7_readsGuest_53 : decode cX7_readsGuest 53 = .ok (.iconst 0, 1) := by decide +kernel
theorem dX7_readsGuest_54 : decode cX7_readsGuest 54 = .ok (.aload_n 0, 1) := by decide +kernel
theorem dX7_readsGuest_55 : decode cX7_readsGuest 55 = .ok (.getfield 106, 3) := by decide +kernel
theorem dX7_readsGuest_58 : decode cX7_readsGuest 58 = .ok (.iconst 1, 1) := by decide +kernel
theorem dX7_readsGuest_59 : decode cX7_readsGuest 59 = .ok (.isub, 1) := by decide +kernel
theorem dX7_readsGuest_60 : decode cX7_readsGuest 60 = .ok (.invokevirtual 109, 3) := by decide +kernel
theorem dX7_readsGuest_63 : decode cX7_readsGuest 63 = .ok (.istore 4, 2) := by decide +kernel
theorem dX7_readsGuest_65 : decode cX7_readsGuest 65 = .ok (.iload 4, 2) := by decide +kernel
theorem dX7_readsGuest_67 : decode cX7_readsGuest 67 = .ok (.ifCond .ge 5, 3) := by decide +kernel
theorem dX7_readsGuest_70 : decode cX7_readsGuest 70 = .ok (.iconst 0, 1) := by decide +kernel
theorem dX7_readsGuest_71 : decode cX7_readsGuest 71 = .ok (.ireturn, 1) := by decide +kernel
theorem dX7_readsGuest_72 : decode cX7_readsGuest 72 = .ok (.aload_n 0, 1) := by decide +kernel
theorem dX7_readsGuest_73 : decode cX7_readsGuest 73 = .ok (.getfield 40, 3) := by decide +kernel
theorem dX7_readsGuest_76 : decode cX7_readsGuest 76 = .ok (.aload_n 0, 1) := by decide +kernel
theorem dX7_readsGuest_77 : decode cX7_readsGuest 77 = .ok (.getfield 116, 3) := by decide +kernel
theorem dX7_readsGuest_80 : decode cX7_readsGuest 80 = .ok (.iload_n 3, 1) := by decide +kernel
theorem dX7_readsGuest_81 : decode cX7_readsGuest 81 = .ok (.iastore, 1) := by decide +kernel
theorem dX7_readsGuest_82 : decode cX7_readsGuest 82 = .ok (.aload_n 0, 1) := by decide +kernel
theorem dX7_readsGuest_83 : decode cX7_readsGuest 83 = .ok (.getfield 43, 3) := by decide +kernel
theorem dX7_readsGuest_86 : decode cX7_readsGuest 86 = .ok (.aload_n 0, 1) := by decide +kernel
theorem dX7_readsGuest_87 : decode cX7_readsGuest 87 = .ok (.getfield 116, 3) := by decide +kernel
theorem dX7_readsGuest_90 : decode cX7_readsGuest 90 = .ok (.iload 4, 2) := by decide +kernel
theorem dX7_readsGuest_92 : decode cX7_readsGuest 92 = .ok (.iastore, 1) := by decide +kernel
theorem dX7_readsGuest_93 : decode cX7_readsGuest 93 = .ok (.aload_n 0, 1) := by decide +kernel
theorem dX7_readsGuest_94 : decode cX7_readsGuest 94 = .ok (.dup, 1) := by decide +kernel
theorem dX7_readsGuest_95 : decode cX7_readsGuest 95 = .ok (.getfield 116, 3) := by decide +kernel
theorem dX7_readsGuest_98 : decode cX7_readsGuest 98 = .ok (.iconst 1, 1) := by decide +kernel
theorem dX7_readsGuest_99 : decode cX7_readsGuest 99 = .ok (.iadd, 1) := by decide +kernel
theorem dX7_readsGuest_100 : decode cX7_readsGuest 100 = .ok (.putfield 116, 3) := by decide +kernel
theorem dX7_readsGuest_103 : decode cX7_readsGuest 103 = .ok (.iconst 1, 1) := by decide +kernel
theorem dX7_readsGuest_104 : decode cX7_readsGuest 104 = .ok (.ireturn, 1) := by decide +kernel
theorem dX7_readsRidge_0 : decode cX7_readsRidge 0 = .ok (.aload_n 0, 1) := by decide +kernel
theorem dX7_readsRidge_1 : decode cX7_readsRidge 1 = .ok (.iconst 0, 1) := by decide +kernel
theorem dX7_readsRidge_2 : decode cX7_readsRidge 2 = .ok (.putfield 99, 3) := by decide +kernel
theorem dX7_readsRidge_5 : decode cX7_readsRidge 5 = .ok (.aload_n 0, 1) := by decide +kernel
theorem dX7_readsRidge_6 : decode cX7_readsRidge 6 = .ok (.iconst 0, 1) := by decide +kernel
theorem dX7_readsRidge_7 : decode cX7_readsRidge 7 = .ok (.putfield 106, 3) := by decide +kernel
theorem dX7_readsRidge_10 : decode cX7_readsRidge 10 = .ok (.aload_n 0, 1) := by decide +kernel
theorem dX7_readsRidge_11 : decode cX7_readsRidge 11 = .ok (.iconst 0, 1) := by decide +kernel
theorem dX7_readsRidge_12 : decode cX7_readsRidge 12 = .ok (.putfield 113, 3) := by decide +kernel
theorem dX7_readsRidge_15 : decode cX7_readsRidge 15 = .ok (.aload_n 0, 1) := by decide +kernel
theorem dX7_readsRidge_16 : decode cX7_readsRidge 16 = .ok (.iconst 0, 1) := by decide +kernel
theorem dX7_readsRidge_17 : decode cX7_readsRidge 17 = .ok (.putfield 116, 3) := by decide +kernel
theorem dX7_readsRidge_20 : decode cX7_readsRidge 20 = .ok (.aload_n 0, 1) := by decide +kernel
theorem dX7_readsRidge_21 : decode cX7_readsRidge 21 = .ok (.iload_n 1, 1) := by decide +kernel
theorem dX7_readsRidge_22 : decode cX7_readsRidge 22 = .ok (.iload_n 2, 1) := by decide +kernel
theorem dX7_readsRidge_23 : decode cX7_readsRidge 23 = .ok (.invokevirtual 102, 3) := by decide +kernel
theorem dX7_readsRidge_26 : decode cX7_readsRidge 26 = .ok (.bipush 105, 2) := by decide +kernel
theorem dX7_readsRidge_28 : decode cX7_readsRidge 28 = .ok (.if_icmp .ne 7, 3) := by decide +kernel
theorem dX7_readsRidge_31 : decode cX7_readsRidge 31 = .ok (.iconst 1, 1) := by decide +kernel
theorem dX7_readsRidge_32 : decode cX7_readsRidge 32 = .ok (.goto 4, 3) := by decide +kernel
theorem dX7_readsRidge_35 : decode cX7_readsRidge 35 = .ok (.iconst 0, 1) := by decide +kernel
theorem dX7_readsRidge_36 : decode cX7_readsRidge 36 = .ok (.istore_n 3, 1) := by decide +kernel
theorem dX7_readsRidge_37 : decode cX7_readsRidge 37 = .ok (.aload_n 0, 1) := by decide +kernel
theorem dX7_readsRidge_38 : decode cX7_readsRidge 38 = .ok (.dup, 1) := by decide +kernel
theorem dX7_readsRidge_39 : decode cX7_readsRidge 39 = .ok (.getfield 99, 3) := by decide +kernel
theorem dX7_readsRidge_42 : decode cX7_readsRidge 42 = .ok (.iload_n 3, 1) := by decide +kernel
theorem dX7_readsRidge_43 : decode cX7_readsRidge 43 = .ok (.ifCond .eq 7, 3) := by decide +kernel
theorem dX7_readsRidge_46 : decode cX7_readsRidge 46 = .ok (.iconst 1, 1) := by decide +kernel
theorem dX7_readsRidge_47 : decode cX7_readsRidge 47 = .ok (.goto 4, 3) := by decide +kernel
theorem dX7_readsRidge_50 : decode cX7_readsRidge 50 = .ok (.iconst 0, 1) := by decide +kernel
theorem dX7_readsRidge_51 : decode cX7_readsRidge 51 = .ok (.iadd, 1) := by decide +kernel
theorem dX7_readsRidge_52 : decode cX7_readsRidge 52 = .ok (.putfield 99, 3) := by decide +kernel
theorem dX7_readsRidge_55 : decode cX7_readsRidge 55 = .ok (.iload_n 3, 1) := by decide +kernel
theorem dX7_readsRidge_56 : decode cX7_readsRidge 56 = .ok (.ifCond .eq 32, 3) := by decide +kernel
theorem dX7_readsRidge_59 : decode cX7_readsRidge 59 = .ok (.aload_n 0, 1) := by decide +kernel
theorem dX7_readsRidge_60 : decode cX7_readsRidge 60 = .ok (.getfield 106, 3) := by decide +kernel
theorem dX7_readsRidge_63 : decode cX7_readsRidge 63 = .ok (.iconst 2, 1) := by decide +kernel
theorem dX7_readsRidge_64 : decode cX7_readsRidge 64 = .ok (.if_icmp .lt 14, 3) := by decide +kernel
theorem dX7_readsRidge_67 : decode cX7_readsRidge 67 = .ok (.aload_n 0, 1) := by decide +kernel
theorem dX7_readsRidge_68 : decode cX7_readsRidge 68 = .ok (.iload_n 1, 1) := by decide +kernel
theorem dX7_readsRidge_69 : decode cX7_readsRidge 69 = .ok (.iload_n 2, 1) := by decide +kernel
theorem dX7_readsRidge_70 : decode cX7_readsRidge 70 = .ok (.invokevirtual 102, 3) := by decide +kernel
theorem dX7_readsRidge_73 : decode cX7_readsRidge 73 = .ok (.bipush 44, 2) := by decide +kernel
theorem dX7_readsRidge_75 : decode cX7_readsRidge 75 = .ok (.if_icmp .ne 13, 3) := by decide +kernel
theorem dX7_readsRidge_78 : decode cX7_readsRidge 78 = .ok (.aload_n 0, 1) := by decide +kernel
theorem dX7_readsRidge_79 : decode cX7_readsRidge 79 = .ok (.iload_n 1, 1) := by decide +kernel
theorem dX7_readsRidge_80 : decode cX7_readsRidge 80 = .ok (.iload_n 2, 1) := by decide +kernel
theorem dX7_readsRidge_81 : decode cX7_readsRidge 81 = .ok (.invokevirtual 119, 3) := by decide +kernel
theorem dX7_readsRidge_84 : decode cX7_readsRidge 84 = .ok (.istore_n 3, 1) := by decide +kernel
theorem dX7_readsRidge_85 : decode cX7_readsRidge 85 = .ok (.goto (-30), 3) := by decide +kernel
theorem dX7_readsRidge_88 : decode cX7_readsRidge 88 = .ok (.iload_n 3, 1) := by decide +kernel
theorem dX7_readsRidge_89 : decode cX7_readsRidge 89 = .ok (.ifCond .eq 18, 3) := by decide +kernel
theorem dX7_readsRidge_92 : decode cX7_readsRidge 92 = .ok (.aload_n 0, 1) := by decide +kernel
theorem dX7_readsRidge_93 : decode cX7_readsRidge 93 = .ok (.iload_n 1, 1) := by decide +kernel
theorem dX7_readsRidge_94 : decode cX7_readsRidge 94 = .ok (.iload_n 2, 1) := by decide +kernel
theorem dX7_readsRidge_95 : decode cX7_readsRidge 95 = .ok (.invokevirtual 102, 3) := by decide +kernel
theorem dX7_readsRidge_98 : decode cX7_readsRidge 98 = .ok (.bipush 59, 2) := by decide +kernel
theorem dX7_readsRidge_100 : decode cX7_readsRidge 100 = .ok (.if_icmp .ne 7, 3) := by decide +kernel
theorem dX7_readsRidge_103 : decode cX7_readsRidge 103 = .ok (.iconst 1, 1) := by decide +kernel
theorem dX7_readsRidge_104 : decode cX7_readsRidge 104 = .ok (.goto 4, 3) := by decide +kernel
theorem dX7_readsRidge_107 : decode cX7_readsRidge 107 = .ok (.iconst 0, 1) := by decide +kernel
theorem dX7_readsRidge_108 : decode cX7_readsRidge 108 = .ok (.istore_n 3, 1) := by decide +kernel
theorem dX7_readsRidge_109 : decode cX7_readsRidge 109 = .ok (.aload_n 0, 1) := by decide +kernel
theorem dX7_readsRidge_110 : decode cX7_readsRidge 110 = .ok (.dup, 1) := by decide +kernel
theorem dX7_readsRidge_111 : decode cX7_readsRidge 111 = .ok (.getfield 99, 3) := by decide +kernel
theorem dX7_readsRidge_114 : decode cX7_readsRidge 114 = .ok (.iload_n 3, 1) := by decide +kernel
theorem dX7_readsRidge_115 : decode cX7_readsRidge 115 = .ok (.ifCond .eq 7, 3) := by decide +kernel
theorem dX7_readsRidge_118 : decode cX7_readsRidge 118 = .ok (.iconst 1, 1) := by decide +kernel
theorem dX7_readsRidge_119 : decode cX7_readsRidge 119 = .ok (.goto 4, 3) := by decide +kernel
theorem dX7_readsRidge_122 : decode cX7_readsRidge 122 = .ok (.iconst 0, 1) := by decide +kernel
theorem dX7_readsRidge_123 : decode cX7_readsRidge 123 = .ok (.iadd, 1) := by decide +kernel
theorem dX7_readsRidge_124 : decode cX7_readsRidge 124 = .ok (.putfield 99, 3) := by decide +kernel
theorem dX7_readsRidge_127 : decode cX7_readsRidge 127 = .ok (.iload_n 3, 1) := by decide +kernel
theorem dX7_readsRidge_128 : decode cX7_readsRidge 128 = .ok (.ifCond .eq 42, 3) := by decide +kernel
theorem dX7_readsRidge_131 : decode cX7_readsRidge 131 = .ok (.aload_n 0, 1) := by decide +kernel
theorem dX7_readsRidge_132 : decode cX7_readsRidge 132 = .ok (.getfield 113, 3) := by decide +kernel
theorem dX7_readsRidge_135 : decode cX7_readsRidge 135 = .ok (.ifCond .eq 25, 3) := by decide +kernel
theorem dX7_readsRidge_138 : decode cX7_readsRidge 138 = .ok (.aload_n 0, 1) := by decide +kernel
theorem dX7_readsRidge_139 : decode cX7_readsRidge 139 = .ok (.iload_n 1, 1) := by decide +kernel
theorem dX7_readsRidge_140 : decode cX7_readsRidge 140 = .ok (.iload_n 2, 1) := by decide +kernel
theorem dX7_readsRidge_141 : decode cX7_readsRidge 141 = .ok (.invokevirtual 102, 3) := by decide +kernel
theorem dX7_readsRidge_144 : decode cX7_readsRidge 144 = .ok (.bipush 62, 2) := by decide +kernel
theorem dX7_readsRidge_146 : decode cX7_readsRidge 146 = .ok (.if_icmp .eq 14, 3) := by decide +kernel
theorem dX7_readsRidge_149 : decode cX7_readsRidge 149 = .ok (.aload_n 0, 1) := by decide +kernel
theorem dX7_readsRidge_150 : decode cX7_readsRidge 150 = .ok (.iload_n 1, 1) := by decide +kernel
theorem dX7_readsRidge_151 : decode cX7_readsRidge 151 = .ok (.iload_n 2, 1) := by decide +kernel
theorem dX7_readsRidge_152 : decode cX7_readsRidge 152 = .ok (.invokevirtual 102, 3) := by decide +kernel
theorem dX7_readsRidge_155 : decode cX7_readsRidge 155 = .ok (.bipush 60, 2) := by decide +kernel
theorem dX7_readsRidge_157 : decode cX7_readsRidge 157 = .ok (.if_icmp .ne 13, 3) := by decide +kernel
theorem dX7_readsRidge_160 : decode cX7_readsRidge 160 = .ok (.aload_n 0, 1) := by decide +kernel
theorem dX7_readsRidge_161 : decode cX7_readsRidge 161 = .ok (.iload_n 1, 1) := by decide +kernel
theorem dX7_readsRidge_162 : decode cX7_readsRidge 162 = .ok (.iload_n 2, 1) := by decide +kernel
theorem dX7_readsRidge_163 : decode cX7_readsRidge 163 = .ok (.invokevirtual 123, 3) := by decide +kernel
theorem dX7_readsRidge_166 : decode cX7_readsRidge 166 = .ok (.istore_n 3, 1) := by decide +kernel
theorem dX7_readsRidge_167 : decode cX7_readsRidge 167 = .ok (.goto (-40), 3) := by decide +kernel
theorem dX7_readsRidge_170 : decode cX7_readsRidge 170 = .ok (.iload_n 3, 1) := by decide +kernel
theorem dX7_readsRidge_171 : decode cX7_readsRidge 171 = .ok (.ifCond .eq 28, 3) := by decide +kernel
theorem dX7_readsRidge_174 : decode cX7_readsRidge 174 = .ok (.aload_n 0, 1) := by decide +kernel
theorem dX7_readsRidge_175 : decode cX7_readsRidge 175 = .ok (.getfield 116, 3) := by decide +kernel
theorem dX7_readsRidge_178 : decode cX7_readsRidge 178 = .ok (.ifCond .eq 11, 3) := by decide +kernel
theorem dX7_readsRidge_181 : decode cX7_readsRidge 181 = .ok (.aload_n 0, 1) := by decide +kernel
theorem dX7_readsRidge_182 : decode cX7_readsRidge 182 = .ok (.getfield 99, 3) := by decide +kernel
theorem dX7_readsRidge_185 : decode cX7_readsRidge 185 = .ok (.iload_n 2, 1) := by decide +kernel
theorem dX7_readsRidge_186 : decode cX7_readsRidge 186 = .ok (.if_icmp .ge 13, 3) := by decide +kernel
theorem dX7_readsRidge_189 : decode cX7_readsRidge 189 = .ok (.aload_n 0, 1) := by decide +kernel
theorem dX7_readsRidge_190 : decode cX7_readsRidge 190 = .ok (.iload_n 1, 1) := by decide +kernel
theorem dX7_readsRidge_191 : decode cX7_readsRidge 191 = .ok (.iload_n 2, 1) := by decide +kernel
theorem dX7_readsRidge_192 : decode cX7_readsRidge 192 = .ok (.invokevirtual 126, 3) := by decide +kernel
theorem dX7_readsRidge_195 : decode cX7_readsRidge 195 = .ok (.istore_n 3, 1) := by decide +kernel
theorem dX7_readsRidge_196 : decode cX7_readsRidge 196 = .ok (.goto (-26), 3) := by decide +kernel
theorem dX7_readsRidge_199 : decode cX7_readsRidge 199 = .ok (.iload_n 3, 1) := by decide +kernel
theorem dX7_readsRidge_200 : decode cX7_readsRidge 200 = .ok (.ireturn, 1) := by decide +kernel
theorem dX7_cellsBarred_0 : decode cX7_cellsBarred 0 = .ok (.aload_n 0, 1) := by decide +kernel
theorem dX7_cellsBarred_1 : decode cX7_cellsBarred 1 = .ok (.getfield 61, 3) := by decide +kernel
theorem dX7_cellsBarred_4 : decode cX7_cellsBarred 4 = .ok (.iload_n 1, 1) := by decide +kernel
theorem dX7_cellsBarred_5 : decode cX7_cellsBarred 5 = .ok (.iaload, 1) := by decide +kernel
theorem dX7_cellsBarred_6 : decode cX7_cellsBarred 6 = .ok (.ifCond .lt 19, 3) := by decide +kernel
theorem dX7_cellsBarred_9 : decode cX7_cellsBarred 9 = .ok (.aload_n 0, 1) := by decide +kernel
theorem dX7_cellsBarred_10 : decode cX7_cellsBarred 10 = .ok (.getfield 64, 3) := by decide +kernel
theorem dX7_cellsBarred_13 : decode cX7_cellsBarred 13 = .ok (.iload_n 1, 1) := by decide +kernel
theorem dX7_cellsBarred_14 : decode cX7_cellsBarred 14 = .ok (.iaload, 1) := by decide +kernel
theorem dX7_cellsBarred_15 : decode cX7_cellsBarred 15 = .ok (.iload_n 2, 1) := by decide +kernel
theorem dX7_cellsBarred_16 : decode cX7_cellsBarred 16 = .ok (.if_icmp .eq 9, 3) := by decide +kernel
theorem dX7_cellsBarred_19 : decode cX7_cellsBarred 19 = .ok (.aload_n 0, 1) := by decide +kernel
theorem dX7_cellsBarred_20 : decode cX7_cellsBarred 20 = .ok (.iconst 2, 1) := by decide +kernel
theorem dX7_cellsBarred_21 : decode cX7_cellsBarred 21 = .ok (.invokevirtual 129, 3) := by decide +kernel
theorem dX7_cellsBarred_24 : decode cX7_cellsBarred 24 = .ok (.ireturn, 1) := by decide +kernel
theorem dX7_cellsBarred_25 : decode cX7_cellsBarred 25 = .ok (.aload_n 0, 1) := by decide +kernel
theorem dX7_cellsBarred_26 : decode cX7_cellsBarred 26 = .ok (.getfield 61, 3) := by decide +kernel
theorem dX7_cellsBarred_29 : decode cX7_cellsBarred 29 = .ok (.iload_n 1, 1) := by decide +kernel
theorem dX7_cellsBarred_30 : decode cX7_cellsBarred 30 = .ok (.iaload, 1) := by decide +kernel
theorem dX7_cellsBarred_31 : decode cX7_cellsBarred 31 = .ok (.ifCond .ge 9, 3) := by decide +kernel
theorem dX7_cellsBarred_34 : decode cX7_cellsBarred 34 = .ok (.aload_n 0, 1) := by decide +kernel
theorem dX7_cellsBarred_35 : decode cX7_cellsBarred 35 = .ok (.iconst 1, 1) := by decide +kernel
theorem dX7_cellsBarred_36 : decode cX7_cellsBarred 36 = .ok (.invokevirtual 129, 3) := by decide +kernel
theorem dX7_cellsBarred_39 : decode cX7_cellsBarred 39 = .ok (.ireturn, 1) := by decide +kernel
theorem dX7_cellsBarred_40 : decode cX7_cellsBarred 40 = .ok (.lload 4, 2) := by decide +kernel
theorem dX7_cellsBarred_42 : decode cX7_cellsBarred 42 = .ok (.lconst 0, 1) := by decide +kernel
theorem dX7_cellsBarred_43 : decode cX7_cellsBarred 43 = .ok (.lcmp, 1) := by decide +kernel
theorem dX7_cellsBarred_44 : decode cX7_cellsBarred 44 = .ok (.ifCond .ge 9, 3) := by decide +kernel
theorem dX7_cellsBarred_47 : decode cX7_cellsBarred 47 = .ok (.aload_n 0, 1) := by decide +kernel
theorem dX7_cellsBarred_48 : decode cX7_cellsBarred 48 = .ok (.iconst 4, 1) := by decide +kernel
theorem dX7_cellsBarred_49 : decode cX7_cellsBarred 49 = .ok (.invokevirtual 129, 3) := by decide +kernel
theorem dX7_cellsBarred_52 : decode cX7_cellsBarred 52 = .ok (.ireturn, 1) := by decide +kernel
theorem dX7_cellsBarred_53 : decode cX7_cellsBarred 53 = .ok (.iload_n 3, 1) := by decide +kernel
theorem dX7_cellsBarred_54 : decode cX7_cellsBarred 54 = .ok (.lload 4, 2) := by decide +kernel
theorem dX7_cellsBarred_56 : decode cX7_cellsBarred 56 = .ok (.aload_n 0, 1) := by decide +kernel
theorem dX7_cellsBarred_57 : decode cX7_cellsBarred 57 = .ok (.getfield 61, 3) := by decide +kernel
theorem dX7_cellsBarred_60 : decode cX7_cellsBarred 60 = .ok (.iload_n 1, 1) := by decide +kernel
theorem dX7_cellsBarred_61 : decode cX7_cellsBarred 61 = .ok (.iaload, 1) := by decide +kernel
theorem dX7_cellsBarred_62 : decode cX7_cellsBarred 62 = .ok (.invokestatic 133, 3) := by decide +kernel
theorem dX7_cellsBarred_65 : decode cX7_cellsBarred 65 = .ok (.ifCond .eq 11, 3) := by decide +kernel
theorem dX7_cellsBarred_68 : decode cX7_cellsBarred 68 = .ok (.aload_n 0, 1) := by decide +kernel
theorem dX7_cellsBarred_69 : decode cX7_cellsBarred 69 = .ok (.iconst 3, 1) := by decide +kernel
theorem dX7_cellsBarred_70 : decode cX7_cellsBarred 70 = .ok (.invokevirtual 129, 3) := by decide +kernel
theorem dX7_cellsBarred_73 : decode cX7_cellsBarred 73 = .ok (.goto 4, 3) := by decide +kernel
theorem dX7_cellsBarred_76 : decode cX7_cellsBarred 76 = .ok (.iconst 0, 1) := by decide +kernel
theorem dX7_cellsBarred_77 : decode cX7_cellsBarred 77 = .ok (.ireturn, 1) := by decide +kernel
theorem dX7_ridge_0 : decode cX7_ridge 0 = .ok (.iload_n 1, 1) := by decide +kernel
theorem dX7_ridge_1 : decode cX7_ridge 1 = .ok (.invokestatic 137, 3) := by decide +kernel
theorem dX7_ridge_4 : decode cX7_ridge 4 = .ok (.ifCond .eq 9, 3) := by decide +kernel
theorem dX7_ridge_7 : decode cX7_ridge 7 = .ok (.aload_n 0, 1) := by decide +kernel
theorem dX7_ridge_8 : decode cX7_ridge 8 = .ok (.iconst (-1), 1) := by decide +kernel
theorem dX7_ridge_9 : decode cX7_ridge 9 = .ok (.invokevirtual 141, 3) := by decide +kernel
theorem dX7_ridge_12 : decode cX7_ridge 12 = .ok (.ireturn, 1) := by decide +kernel
theorem dX7_ridge_13 : decode cX7_ridge 13 = .ok (.iload_n 2, 1) := by decide +kernel
theorem dX7_ridge_14 : decode cX7_ridge 14 = .ok (.i2l, 1) := by decide +kernel
theorem dX7_ridge_15 : decode cX7_ridge 15 = .ok (.lconst 0, 1) := by decide +kernel
theorem dX7_ridge_16 : decode cX7_ridge 16 = .ok (.ldc2_w 144, 3) := by decide +kernel
theorem dX7_ridge_19 : decode cX7_ridge 19 = .ok (.invokestatic 89, 3) := by decide +kernel
theorem dX7_ridge_22 : decode cX7_ridge 22 = .ok (.ifCond .ne 10, 3) := by decide +kernel
theorem dX7_ridge_25 : decode cX7_ridge 25 = .ok (.aload_n 0, 1) := by decide +kernel
theorem dX7_ridge_26 : decode cX7_ridge 26 = .ok (.bipush (-2), 2) := by decide +kernel
theorem dX7_ridge_28 : decode cX7_ridge 28 = .ok (.invokevirtual 141, 3) := by decide +kernel
theorem dX7_ridge_31 : decode cX7_ridge 31 = .ok (.ireturn, 1) := by decide +kernel
theorem dX7_ridge_32 : decode cX7_ridge 32 = .ok (.aload_n 0, 1) := by decide +kernel
theorem dX7_ridge_33 : decode cX7_ridge 33 = .ok (.iload_n 1, 1) := by decide +kernel
theorem dX7_ridge_34 : decode cX7_ridge 34 = .ok (.iload_n 2, 1) := by decide +kernel
theorem dX7_ridge_35 : decode cX7_ridge 35 = .ok (.iload_n 3, 1) := by decide +kernel
theorem dX7_ridge_36 : decode cX7_ridge 36 = .ok (.iload 4, 2) := by decide +kernel
theorem dX7_ridge_38 : decode cX7_ridge 38 = .ok (.i2l, 1) := by decide +kernel
theorem dX7_ridge_39 : decode cX7_ridge 39 = .ok (.invokevirtual 146, 3) := by decide +kernel
theorem dX7_ridge_42 : decode cX7_ridge 42 = .ok (.istore 5, 2) := by decide +kernel
theorem dX7_ridge_44 : decode cX7_ridge 44 = .ok (.iload 5, 2) := by decide +kernel
theorem dX7_ridge_46 : decode cX7_ridge 46 = .ok (.ifCond .ge 6, 3) := by decide +kernel
theorem dX7_ridge_49 : decode cX7_ridge 49 = .ok (.iload 5, 2) := by decide +kernel
theorem dX7_ridge_51 : decode cX7_ridge 51 = .ok (.ireturn, 1) := by decide +kernel
theorem dX7_ridge_52 : decode cX7_ridge 52 = .ok (.aload_n 0, 1) := by decide +kernel
theorem dX7_ridge_53 : decode cX7_ridge 53 = .ok (.bipush 60, 2) := by decide +kernel
theorem dX7_ridge_55 : decode cX7_ridge 55 = .ok (.iload_n 1, 1) := by decide +kernel
theorem dX7_ridge_56 : decode cX7_ridge 56 = .ok (.imul, 1) := by decide +kernel
theorem dX7_ridge_57 : decode cX7_ridge 57 = .ok (.iload_n 3, 1) := by decide +kernel
theorem dX7_ridge_58 : decode cX7_ridge 58 = .ok (.iadd, 1) := by decide +kernel
theorem dX7_ridge_59 : decode cX7_ridge 59 = .ok (.iload 4, 2) := by decide +kernel
theorem dX7_ridge_61 : decode cX7_ridge 61 = .ok (.invokevirtual 150, 3) := by decide +kernel
theorem dX7_ridge_64 : decode cX7_ridge 64 = .ok (.ifCond .ne 15, 3) := by decide +kernel
theorem dX7_ridge_67 : decode cX7_ridge 67 = .ok (.aload_n 0, 1) := by decide +kernel
theorem dX7_ridge_68 : decode cX7_ridge 68 = .ok (.bipush (-100), 2) := by decide +kernel
theorem dX7_ridge_70 : decode cX7_ridge 70 = .ok (.aload_n 0, 1) := by decide +kernel
theorem dX7_ridge_71 : decode cX7_ridge 71 = .ok (.getfield 99, 3) := by decide +kernel
theorem dX7_ridge_74 : decode cX7_ridge 74 = .ok (.isub, 1) := by decide +kernel
theorem dX7_ridge_75 : decode cX7_ridge 75 = .ok (.invokevirtual 141, 3) := by decide +kernel
theorem dX7_ridge_78 : decode cX7_ridge 78 = .ok (.ireturn, 1) := by decide +kernel
theorem dX7_ridge_79 : decode cX7_ridge 79 = .ok (.aload_n 0, 1) := by decide +kernel
theorem dX7_ridge_80 : decode cX7_ridge 80 = .ok (.aload_n 0, 1) := by decide +kernel
theorem dX7_ridge_81 : decode cX7_ridge 81 = .ok (.getfield 106, 3) := by decide +kernel
theorem dX7_ridge_84 : decode cX7_ridge 84 = .ok (.putfield 86, 3) := by decide +kernel
theorem dX7_ridge_87 : decode cX7_ridge 87 = .ok (.aload_n 0, 1) := by decide +kernel
theorem dX7_ridge_88 : decode cX7_ridge 88 = .ok (.aload_n 0, 1) := by decide +kernel
theorem dX7_ridge_89 : decode cX7_ridge 89 = .ok (.getfield 113, 3) := by decide +kernel
theorem dX7_ridge_92 : decode cX7_ridge 92 = .ok (.putfield 96, 3) := by decide +kernel
theorem dX7_ridge_95 : decode cX7_ridge 95 = .ok (.aload_n 0, 1) := by decide +kernel
theorem dX7_ridge_96 : decode cX7_ridge 96 = .ok (.aload_n 0, 1) := by decide +kernel
theorem dX7_ridge_97 : decode cX7_ridge 97 = .ok (.getfield 116, 3) := by decide +kernel
theorem dX7_ridge_100 : decode cX7_ridge 100 = .ok (.putfield 93, 3) := by decide +kernel
theorem dX7_ridge_103 : decode cX7_ridge 103 = .ok (.iconst 0, 1) := by decide +kernel
theorem dX7_ridge_104 : decode cX7_ridge 104 = .ok (.istore 6, 2) := by decide +kernel
theorem dX7_ridge_106 : decode cX7_ridge 106 = .ok (.iload 6, 2) := by decide +kernel
theorem dX7_ridge_108 : decode cX7_ridge 108 = .ok (.bipush 8, 2) := by decide +kernel
theorem dX7_ridge_110 : decode cX7_ridge 110 = .ok (.if_icmp .ge 65, 3) := by decide +kernel
theorem dX7_ridge_113 : decode cX7_ridge 113 = .ok (.aload_n 0, 1) := by decide +kernel
theorem dX7_ridge_114 : decode cX7_ridge 114 = .ok (.getfield 16, 3) := by decide +kernel
theorem dX7_ridge_117 : decode cX7_ridge 117 = .ok (.iload 6, 2) := by decide +kernel
theorem dX7_ridge_119 : decode cX7_ridge 119 = .ok (.aload_n 0, 1) := by decide +kernel
theorem dX7_ridge_120 : decode cX7_ridge 120 = .ok (.getfield 34, 3) := by decide +kernel
theorem dX7_ridge_123 : decode cX7_ridge 123 = .ok (.iload 6, 2) := by decide +kernel
theorem dX7_ridge_125 : decode cX7_ridge 125 = .ok (.iaload, 1) := by decide +kernel
theorem dX7_ridge_126 : decode cX7_ridge 126 = .ok (.iastore, 1) := by decide +kernel
theorem dX7_ridge_127 : decode cX7_ridge 127 = .ok (.aload_n 0, 1) := by decide +kernel
theorem dX7_ridge_128 : decode cX7_ridge 128 = .ok (.getfield 19, 3) := by decide +kernel
theorem dX7_ridge_131 : decode cX7_ridge 131 = .ok (.iload 6, 2) := by decide +kernel
theorem dX7_ridge_133 : decode cX7_ridge 133 = .ok (.aload_n 0, 1) := by decide +kernel
theorem dX7_ridge_134 : decode cX7_ridge 134 = .ok (.getfield 37, 3) := by decide +kernel
theorem dX7_ridge_137 : decode cX7_ridge 137 = .ok (.iload 6, 2) := by decide +kernel
theorem dX7_ridge_139 : decode cX7_ridge 139 = .ok (.iaload, 1) := by decide +kernel
theorem dX7_ridge_140 : decode cX7_ridge 140 = .ok (.iastore, 1) := by decide +kernel
theorem dX7_ridge_141 : decode cX7_ridge 141 = .ok (.aload_n 0, 1) := by decide +kernel
theorem dX7_ridge_142 : decode cX7_ridge 142 = .ok (.getfield 22, 3) := by decide +kernel
theorem dX7_ridge_145 : decode cX7_ridge 145 = .ok (.iload 6, 2) := by decide +kernel
theorem dX7_ridge_147 : decode cX7_ridge 147 = .ok (.aload_n 0, 1) := by decide +kernel
theorem dX7_ridge_148 : decode cX7_ridge 148 = .ok (.getfield 40, 3) := by decide +kernel
theorem dX7_ridge_151 : decode cX7_ridge 151 = .ok (.iload 6, 2) := by decide +kernel
theorem dX7_ridge_153 : decode cX7_ridge 153 = .ok (.iaload, 1) := by decide +kernel
theorem dX7_ridge_154 : decode cX7_ridge 154 = .ok (.iastore, 1) := by decide +kernel
theorem dX7_ridge_155 : decode cX7_ridge 155 = .ok (.aload_n 0, 1) := by decide +kernel
theorem dX7_ridge_156 : decode cX7_ridge 156 = .ok (.getfield 25, 3) := by decide +kernel
theorem dX7_ridge_159 : decode cX7_ridge 159 = .ok (.iload 6, 2) := by decide +kernel
theorem dX7_ridge_161 : decode cX7_ridge 161 = .ok (.aload_n 0, 1) := by decide +kernel
theorem dX7_ridge_162 : decode cX7_ridge 162 = .ok (.getfield 43, 3) := by decide +kernel
theorem dX7_ridge_165 : decode cX7_ridge 165 = .ok (.iload 6, 2) := by decide +kernel
theorem dX7_ridge_167 : decode cX7_ridge 167 = .ok (.iaload, 1) := by decide +kernel
theorem dX7_ridge_168 : decode cX7_ridge 168 = .ok (.iastore, 1) := by decide +kernel
theorem dX7_ridge_169 : decode cX7_ridge 169 = .ok (.iinc 6 1, 3) := by decide +kernel
theorem dX7_ridge_172 : decode cX7_ridge 172 = .ok (.goto (-66), 3) := by decide +kernel
theorem dX7_ridge_175 : decode cX7_ridge 175 = .ok (.iconst 0, 1) := by decide +kernel
theorem dX7_ridge_176 : decode cX7_ridge 176 = .ok (.istore 6, 2) := by decide +kernel
theorem dX7_ridge_178 : decode cX7_ridge 178 = .ok (.iload 6, 2) := by decide +kernel
theorem dX7_ridge_180 : decode cX7_ridge 180 = .ok (.aload_n 0, 1) := by decide +kernel
theorem dX7_ridge_181 : decode cX7_ridge 181 = .ok (.getfield 86, 3) := by decide +kernel
theorem dX7_ridge_184 : decode cX7_ridge 184 = .ok (.if_icmp .ge 37, 3) := by decide +kernel
theorem dX7_ridge_187 : decode cX7_ridge 187 = .ok (.aload_n 0, 1) := by decide +kernel
theorem dX7_ridge_188 : decode cX7_ridge 188 = .ok (.getfield 7, 3) := by decide +kernel
theorem dX7_ridge_191 : decode cX7_ridge 191 = .ok (.iload 6, 2) := by decide +kernel
theorem dX7_ridge_193 : decode cX7_ridge 193 = .ok (.aload_n 0, 1) := by decide +kernel
theorem dX7_ridge_194 : decode cX7_ridge 194 = .ok (.getfield 28, 3) := by decide +kernel
theorem dX7_ridge_197 : decode cX7_ridge 197 = .ok (.iload 6, 2) := by decide +kernel
theorem dX7_ridge_199 : decode cX7_ridge 199 = .ok (.iaload, 1) := by decide +kernel
theorem dX7_ridge_200 : decode cX7_ridge 200 = .ok (.iastore, 1) := by decide +kernel
theorem dX7_ridge_201 : decode cX7_ridge 201 = .ok (.aload_n 0, 1) := by decide +kernel
theorem dX7_ridge_202 : decode cX7_ridge 202 = .ok (.getfield 13, 3) := by decide +kernel
theorem dX7_ridge_205 : decode cX7_ridge 205 = .ok (.iload 6, 2) := by decide +kernel
theorem dX7_ridge_207 : decode cX7_ridge 207 = .ok (.aload_n 0, 1) := by decide +kernel
theorem dX7_ridge_208 : decode cX7_ridge 208 = .ok (.getfield 31, 3) := by decide +kernel
theorem dX7_ridge_211 : decode cX7_ridge 211 = .ok (.iload 6, 2) := by decide +kernel
theorem dX7_ridge_213 : decode cX7_ridge 213 = .ok (.iaload, 1) := by decide +kernel
theorem dX7_ridge_214 : decode cX7_ridge 214 = .ok (.iastore, 1) := by decide +kernel
theorem dX7_ridge_215 : decode cX7_ridge 215 = .ok (.iinc 6 1, 3) := by decide +kernel
theorem dX7_ridge_218 : decode cX7_ridge 218 = .ok (.goto (-40), 3) := by decide +kernel
theorem dX7_ridge_221 : decode cX7_ridge 221 = .ok (.aload_n 0, 1) := by decide +kernel
theorem dX7_ridge_222 : decode cX7_ridge 222 = .ok (.iconst 0, 1) := by decide +kernel
theorem dX7_ridge_223 : decode cX7_ridge 223 = .ok (.putfield 153, 3) := by decide +kernel
theorem dX7_ridge_226 : decode cX7_ridge 226 = .ok (.aload_n 0, 1) := by decide +kernel
theorem dX7_ridge_227 : decode cX7_ridge 227 = .ok (.iconst 0, 1) := by decide +kernel
theorem dX7_ridge_228 : decode cX7_ridge 228 = .ok (.putfield 156, 3) := by decide +kernel
theorem dX7_ridge_231 : decode cX7_ridge 231 = .ok (.aload_n 0, 1) := by decide +kernel
theorem dX7_ridge_232 : decode cX7_ridge 232 = .ok (.aload_n 0, 1) := by decide +kernel
theorem dX7_ridge_233 : decode cX7_ridge 233 = .ok (.getfield 93, 3) := by decide +kernel
theorem dX7_ridge_236 : decode cX7_ridge 236 = .ok (.invokevirtual 141, 3) := by decide +kernel
theorem dX7_ridge_239 : decode cX7_ridge 239 = .ok (.ireturn, 1) := by decide +kernel
theorem dX7_keepsBy_0 : decode cX7_keepsBy 0 = .ok (.aload_n 0, 1) := by decide +kernel
theorem dX7_keepsBy_1 : decode cX7_keepsBy 1 = .ok (.getfield 7, 3) := by decide +kernel
theorem dX7_keepsBy_4 : decode cX7_keepsBy 4 = .ok (.iload_n 1, 1) := by decide +kernel
theorem dX7_keepsBy_5 : decode cX7_keepsBy 5 = .ok (.iaload, 1) := by decide +kernel
theorem dX7_keepsBy_6 : decode cX7_keepsBy 6 = .ok (.ifCond .ne 7, 3) := by decide +kernel
theorem dX7_keepsBy_9 : decode cX7_keepsBy 9 = .ok (.iload_n 2, 1) := by decide +kernel
theorem dX7_keepsBy_10 : decode cX7_keepsBy 10 = .ok (.goto 24, 3) := by decide +kernel
theorem dX7_keepsBy_13 : decode cX7_keepsBy 13 = .ok (.aload_n 0, 1) := by decide +kernel
