theorem dX8_beat_0 : decode cX8_beat 0 = .ok (.iload_n 1, 1) := by decide +kernel
theorem dX8_beat_1 : decode cX8_beat 1 = .ok (.i2l, 1) := by decide +kernel
theorem dX8_beat_2 : decode cX8_beat 2 = .ok (.lconst 1, 1) := by decide +kernel
theorem dX8_beat_3 : decode cX8_beat 3 = .ok (.ldc2_w 147, 3) := by decide +kernel
theorem dX8_beat_6 : decode cX8_beat 6 = .ok (.invokestatic 63, 3) := by decide +kernel
theorem dX8_beat_9 : decode cX8_beat 9 = .ok (.ifCond .ne 6, 3) := by decide +kernel
theorem dX8_beat_12 : decode cX8_beat 12 = .ok (.ldc 83, 2) := by decide +kernel
theorem dX8_beat_14 : decode cX8_beat 14 = .ok (.ireturn, 1) := by decide +kernel
theorem dX8_beat_15 : decode cX8_beat 15 = .ok (.aload_n 0, 1) := by decide +kernel
theorem dX8_beat_16 : decode cX8_beat 16 = .ok (.getfield 7, 3) := by decide +kernel
theorem dX8_beat_19 : decode cX8_beat 19 = .ok (.bipush 48, 2) := by decide +kernel
theorem dX8_beat_21 : decode cX8_beat 21 = .ok (.iload_n 1, 1) := by decide +kernel
theorem dX8_beat_22 : decode cX8_beat 22 = .ok (.iastore, 1) := by decide +kernel
theorem dX8_beat_23 : decode cX8_beat 23 = .ok (.aload_n 0, 1) := by decide +kernel
theorem dX8_beat_24 : decode cX8_beat 24 = .ok (.invokevirtual 141, 3) := by decide +kernel
theorem dX8_beat_27 : decode cX8_beat 27 = .ok (.ireturn, 1) := by decide +kernel
theorem dX8_goes_0 : decode cX8_goes 0 = .ok (.aload_n 0, 1) := by decide +kernel
theorem dX8_goes_1 : decode cX8_goes 1 = .ok (.iconst 0, 1) := by decide +kernel
theorem dX8_goes_2 : decode cX8_goes 2 = .ok (.putfield 177, 3) := by decide +kernel
theorem dX8_goes_5 : decode cX8_goes 5 = .ok (.aload_n 0, 1) := by decide +kernel
theorem dX8_goes_6 : decode cX8_goes 6 = .ok (.iconst 0, 1) := by decide +kernel
theorem dX8_goes_7 : decode cX8_goes 7 = .ok (.putfield 180, 3) := by decide +kernel
theorem dX8_goes_10 : decode cX8_goes 10 = .ok (.aload_n 0, 1) := by decide +kernel
theorem dX8_goes_11 : decode cX8_goes 11 = .ok (.iconst (-1), 1) := by decide +kernel
theorem dX8_goes_12 : decode cX8_goes 12 = .ok (.putfield 183, 3) := by decide +kernel
theorem dX8_goes_15 : decode cX8_goes 15 = .ok (.iconst 1, 1) := by decide +kernel
theorem dX8_goes_16 : decode cX8_goes 16 = .ok (.istore 4, 2) := by decide +kernel
theorem dX8_goes_18 : decode cX8_goes 18 = .ok (.iconst 0, 1) := by decide +kernel
theorem dX8_goes_19 : decode cX8_goes 19 = .ok (.istore 5, 2) := by decide +kernel
theorem dX8_goes_21 : decode cX8_goes 21 = .ok (.iload 5, 2) := by decide +kernel
theorem dX8_goes_23 : decode cX8_goes 23 = .ok (.aload_n 0, 1) := by decide +kernel
theorem dX8_goes_24 : decode cX8_goes 24 = .ok (.getfield 60, 3) := by decide +kernel
theorem dX8_goes_27 : decode cX8_goes 27 = .ok (.if_icmp .ge 228, 3) := by decide +kernel
theorem dX8_goes_30 : decode cX8_goes 30 = .ok (.iload 4, 2) := by decide +kernel
theorem dX8_goes_32 : decode cX8_goes 32 = .ok (.ifCond .eq 223, 3) := by decide +kernel
theorem dX8_goes_35 : decode cX8_goes 35 = .ok (.aload_n 0, 1) := by decide +kernel
theorem dX8_goes_36 : decode cX8_goes 36 = .ok (.getfield 7, 3) := by decide +kernel
theorem dX8_goes_39 : decode cX8_goes 39 = .ok (.iload_n 1, 1) := by decide +kernel
theorem dX8_goes_40 : decode cX8_goes 40 = .ok (.iconst 0, 1) := by decide +kernel
theorem dX8_goes_41 : decode cX8_goes 41 = .ok (.iadd, 1) := by decide +kernel
theorem dX8_goes_42 : decode cX8_goes 42 = .ok (.iload 5, 2) := by decide +kernel
theorem dX8_goes_44 : decode cX8_goes 44 = .ok (.iadd, 1) := by decide +kernel
theorem dX8_goes_45 : decode cX8_goes 45 = .ok (.iaload, 1) := by decide +kernel
theorem dX8_goes_46 : decode cX8_goes 46 = .ok (.istore 6, 2) := by decide +kernel
theorem dX8_goes_48 : decode cX8_goes 48 = .ok (.iload 6, 2) := by decide +kernel
theorem dX8_goes_50 : decode cX8_goes 50 = .ok (.ifCond .ne 7, 3) := by decide +kernel
theorem dX8_goes_53 : decode cX8_goes 53 = .ok (.iconst 1, 1) := by decide +kernel
theorem dX8_goes_54 : decode cX8_goes 54 = .ok (.goto 12, 3) := by decide +kernel
theorem dX8_goes_57 : decode cX8_goes 57 = .ok (.iconst 1, 1) := by decide +kernel
theorem dX8_goes_58 : decode cX8_goes 58 = .ok (.bipush 10, 2) := by decide +kernel
theorem dX8_goes_60 : decode cX8_goes 60 = .ok (.iload 6, 2) := by decide +kernel
theorem dX8_goes_62 : decode cX8_goes 62 = .ok (.imul, 1) := by decide +kernel
theorem dX8_goes_63 : decode cX8_goes 63 = .ok (.iload_n 3, 1) := by decide +kernel
theorem dX8_goes_64 : decode cX8_goes 64 = .ok (.idiv, 1) := by decide +kernel
theorem dX8_goes_65 : decode cX8_goes 65 = .ok (.iadd, 1) := by decide +kernel
theorem dX8_goes_66 : decode cX8_goes 66 = .ok (.istore 7, 2) := by decide +kernel
theorem dX8_goes_68 : decode cX8_goes 68 = .ok (.iload 6, 2) := by decide +kernel
theorem dX8_goes_70 : decode cX8_goes 70 = .ok (.iload_n 3, 1) := by decide +kernel
theorem dX8_goes_71 : decode cX8_goes 71 = .ok (.if_icmp .le 10, 3) := by decide +kernel
theorem dX8_goes_74 : decode cX8_goes 74 = .ok (.iconst 2, 1) := by decide +kernel
theorem dX8_goes_75 : decode cX8_goes 75 = .ok (.iload 7, 2) := by decide +kernel
theorem dX8_goes_77 : decode cX8_goes 77 = .ok (.imul, 1) := by decide +kernel
theorem dX8_goes_78 : decode cX8_goes 78 = .ok (.goto 5, 3) := by decide +kernel
theorem dX8_goes_81 : decode cX8_goes 81 = .ok (.iload 7, 2) := by decide +kernel
theorem dX8_goes_83 : decode cX8_goes 83 = .ok (.istore 7, 2) := by decide +kernel
theorem dX8_goes_85 : decode cX8_goes 85 = .ok (.iload 7, 2) := by decide +kernel
theorem dX8_goes_87 : decode cX8_goes 87 = .ok (.iload 6, 2) := by decide +kernel
theorem dX8_goes_89 : decode cX8_goes 89 = .ok (.ifCond .le 28, 3) := by decide +kernel
theorem dX8_goes_92 : decode cX8_goes 92 = .ok (.aload_n 0, 1) := by decide +kernel
theorem dX8_goes_93 : decode cX8_goes 93 = .ok (.getfield 7, 3) := by decide +kernel
theorem dX8_goes_96 : decode cX8_goes 96 = .ok (.iload_n 1, 1) := by decide +kernel
theorem dX8_goes_97 : decode cX8_goes 97 = .ok (.bipush 12, 2) := by decide +kernel
theorem dX8_goes_99 : decode cX8_goes 99 = .ok (.iadd, 1) := by decide +kernel
theorem dX8_goes_100 : decode cX8_goes 100 = .ok (.iload 5, 2) := by decide +kernel
theorem dX8_goes_102 : decode cX8_goes 102 = .ok (.iadd, 1) := by decide +kernel
theorem dX8_goes_103 : decode cX8_goes 103 = .ok (.iaload, 1) := by decide +kernel
theorem dX8_goes_104 : decode cX8_goes 104 = .ok (.iconst 2, 1) := by decide +kernel
theorem dX8_goes_105 : decode cX8_goes 105 = .ok (.if_icmp .ne 12, 3) := by decide +kernel
theorem dX8_goes_108 : decode cX8_goes 108 = .ok (.aload_n 0, 1) := by decide +kernel
theorem dX8_goes_109 : decode cX8_goes 109 = .ok (.getfield 13, 3) := by decide +kernel
theorem dX8_goes_112 : decode cX8_goes 112 = .ok (.iconst 5, 1) := by decide +kernel
theorem dX8_goes_113 : decode cX8_goes 113 = .ok (.iaload, 1) := by decide +kernel
theorem dX8_goes_114 : decode cX8_goes 114 = .ok (.goto 4, 3) := by decide +kernel
theorem dX8_goes_117 : decode cX8_goes 117 = .ok (.iconst 0, 1) := by decide +kernel
theorem dX8_goes_118 : decode cX8_goes 118 = .ok (.iadd, 1) := by decide +kernel
theorem dX8_goes_119 : decode cX8_goes 119 = .ok (.istore 7, 2) := by decide +kernel
theorem dX8_goes_121 : decode cX8_goes 121 = .ok (.iload 6, 2) := by decide +kernel
theorem dX8_goes_123 : decode cX8_goes 123 = .ok (.iconst 2, 1) := by decide +kernel
theorem dX8_goes_124 : decode cX8_goes 124 = .ok (.iload_n 3, 1) := by decide +kernel
theorem dX8_goes_125 : decode cX8_goes 125 = .ok (.imul, 1) := by decide +kernel
theorem dX8_goes_126 : decode cX8_goes 126 = .ok (.if_icmp .gt 18, 3) := by decide +kernel
theorem dX8_goes_129 : decode cX8_goes 129 = .ok (.aload_n 0, 1) := by decide +kernel
theorem dX8_goes_130 : decode cX8_goes 130 = .ok (.getfield 180, 3) := by decide +kernel
theorem dX8_goes_133 : decode cX8_goes 133 = .ok (.iload 7, 2) := by decide +kernel
theorem dX8_goes_135 : decode cX8_goes 135 = .ok (.iadd, 1) := by decide +kernel
theorem dX8_goes_136 : decode cX8_goes 136 = .ok (.iload_n 2, 1) := by decide +kernel
theorem dX8_goes_137 : decode cX8_goes 137 = .ok (.if_icmp .gt 7, 3) := by decide +kernel
theorem dX8_goes_140 : decode cX8_goes 140 = .ok (.iconst 1, 1) := by decide +kernel
theorem dX8_goes_141 : decode cX8_goes 141 = .ok (.goto 4, 3) := by decide +kernel
theorem dX8_goes_144 : decode cX8_goes 144 = .ok (.iconst 0, 1) := by decide +kernel
theorem dX8_goes_145 : decode cX8_goes 145 = .ok (.istore 4, 2) := by decide +kernel
theorem dX8_goes_147 : decode cX8_goes 147 = .ok (.iload 4, 2) := by decide +kernel
theorem dX8_goes_149 : decode cX8_goes 149 = .ok (.ifCond .eq 100, 3) := by decide +kernel
theorem dX8_goes_152 : decode cX8_goes 152 = .ok (.aload_n 0, 1) := by decide +kernel
theorem dX8_goes_153 : decode cX8_goes 153 = .ok (.dup, 1) := by decide +kernel
theorem dX8_goes_154 : decode cX8_goes 154 = .ok (.getfield 180, 3) := by decide +kernel
theorem dX8_goes_157 : decode cX8_goes 157 = .ok (.iload 7, 2) := by decide +kernel
theorem dX8_goes_159 : decode cX8_goes 159 = .ok (.iadd, 1) := by decide +kernel
theorem dX8_goes_160 : decode cX8_goes 160 = .ok (.putfield 180, 3) := by decide +kernel
theorem dX8_goes_163 : decode cX8_goes 163 = .ok (.aload_n 0, 1) := by decide +kernel
theorem dX8_goes_164 : decode cX8_goes 164 = .ok (.getfield 33, 3) := by decide +kernel
theorem dX8_goes_167 : decode cX8_goes 167 = .ok (.iload 5, 2) := by decide +kernel
theorem dX8_goes_169 : decode cX8_goes 169 = .ok (.aload_n 0, 1) := by decide +kernel
theorem dX8_goes_170 : decode cX8_goes 170 = .ok (.getfield 180, 3) := by decide +kernel
theorem dX8_goes_173 : decode cX8_goes 173 = .ok (.iastore, 1) := by decide +kernel
theorem dX8_goes_174 : decode cX8_goes 174 = .ok (.aload_n 0, 1) := by decide +kernel
theorem dX8_goes_175 : decode cX8_goes 175 = .ok (.dup, 1) := by decide +kernel
theorem dX8_goes_176 : decode cX8_goes 176 = .ok (.getfield 177, 3) := by decide +kernel
theorem dX8_goes_179 : decode cX8_goes 179 = .ok (.iconst 1, 1) := by decide +kernel
theorem dX8_goes_180 : decode cX8_goes 180 = .ok (.iadd, 1) := by decide +kernel
theorem dX8_goes_181 : decode cX8_goes 181 = .ok (.putfield 177, 3) := by decide +kernel
theorem dX8_goes_184 : decode cX8_goes 184 = .ok (.iload 6, 2) := by decide +kernel
theorem dX8_goes_186 : decode cX8_goes 186 = .ok (.ifCond .le 63, 3) := by decide +kernel
theorem dX8_goes_189 : decode cX8_goes 189 = .ok (.aload_n 0, 1) := by decide +kernel
theorem dX8_goes_190 : decode cX8_goes 190 = .ok (.aload_n 0, 1) := by decide +kernel
theorem dX8_goes_191 : decode cX8_goes 191 = .ok (.getfield 183, 3) := by decide +kernel
theorem dX8_goes_194 : decode cX8_goes 194 = .ok (.iconst (-1), 1) := by decide +kernel
theorem dX8_goes_195 : decode cX8_goes 195 = .ok (.if_icmp .ne 8, 3) := by decide +kernel
theorem dX8_goes_198 : decode cX8_goes 198 = .ok (.iload 5, 2) := by decide +kernel
theorem dX8_goes_200 : decode cX8_goes 200 = .ok (.goto 7, 3) := by decide +kernel
theorem dX8_goes_203 : decode cX8_goes 203 = .ok (.aload_n 0, 1) := by decide +kernel
theorem dX8_goes_204 : decode cX8_goes 204 = .ok (.getfield 183, 3) := by decide +kernel
theorem dX8_goes_207 : decode cX8_goes 207 = .ok (.putfield 183, 3) := by decide +kernel
theorem dX8_goes_210 : decode cX8_goes 210 = .ok (.aload_n 0, 1) := by decide +kernel
theorem dX8_goes_211 : decode cX8_goes 211 = .ok (.getfield 7, 3) := by decide +kernel
theorem dX8_goes_214 : decode cX8_goes 214 = .ok (.iload_n 1, 1) := by decide +kernel
theorem dX8_goes_215 : decode cX8_goes 215 = .ok (.bipush 24, 2) := by decide +kernel
theorem dX8_goes_217 : decode cX8_goes 217 = .ok (.iadd, 1) := by decide +kernel
theorem dX8_goes_218 : decode cX8_goes 218 = .ok (.iload 5, 2) := by decide +kernel
theorem dX8_goes_220 : decode cX8_goes 220 = .ok (.iadd, 1) := by decide +kernel
theorem dX8_goes_221 : decode cX8_goes 221 = .ok (.iload 6, 2) := by decide +kernel
theorem dX8_goes_223 : decode cX8_goes 223 = .ok (.iastore, 1) := by decide +kernel
theorem dX8_goes_224 : decode cX8_goes 224 = .ok (.aload_n 0, 1) := by decide +kernel
theorem dX8_goes_225 : decode cX8_goes 225 = .ok (.getfield 7, 3) := by decide +kernel
theorem dX8_goes_228 : decode cX8_goes 228 = .ok (.iload_n 1, 1) := by decide +kernel
theorem dX8_goes_229 : decode cX8_goes 229 = .ok (.iconst 0, 1) := by decide +kernel
theorem dX8_goes_230 : decode cX8_goes 230 = .ok (.iadd, 1) := by decide +kernel
theorem dX8_goes_231 : decode cX8_goes 231 = .ok (.iload 5, 2) := by decide +kernel
theorem dX8_goes_233 : decode cX8_goes 233 = .ok (.iadd, 1) := by decide +kernel
theorem dX8_goes_234 : decode cX8_goes 234 = .ok (.iconst 0, 1) := by decide +kernel
theorem dX8_goes_235 : decode cX8_goes 235 = .ok (.iastore, 1) := by decide +kernel
theorem dX8_goes_236 : decode cX8_goes 236 = .ok (.aload_n 0, 1) := by decide +kernel
theorem dX8_goes_237 : decode cX8_goes 237 = .ok (.getfield 7, 3) := by decide +kernel
theorem dX8_goes_240 : decode cX8_goes 240 = .ok (.iload_n 1, 1) := by decide +kernel
theorem dX8_goes_241 : decode cX8_goes 241 = .ok (.bipush 36, 2) := by decide +kernel
theorem dX8_goes_243 : decode cX8_goes 243 = .ok (.iadd, 1) := by decide +kernel
theorem dX8_goes_244 : decode cX8_goes 244 = .ok (.iload 5, 2) := by decide +kernel
theorem dX8_goes_246 : decode cX8_goes 246 = .ok (.iadd, 1) := by decide +kernel
theorem dX8_goes_247 : decode cX8_goes 247 = .ok (.iconst 1, 1) := by decide +kernel
theorem dX8_goes_248 : decode cX8_goes 248 = .ok (.iastore, 1) := by decide +kernel
theorem dX8_goes_249 : decode cX8_goes 249 = .ok (.iinc 5 1, 3) := by decide +kernel
theorem dX8_goes_252 : decode cX8_goes 252 = .ok (.goto (-231), 3) := by decide +kernel
theorem dX8_goes_255 : decode cX8_goes 255 = .ok (.return_, 1) := by decide +kernel
set_option maxRecDepth 20000 in
theorem ggX8_out_X8_isTime : GoodIn wsX8_out wsX8_isTime := goodIn_r _ [8, 9, 10, 11, 7, 12] (by decide +kernel) (by decide +kernel)
set_option maxRecDepth 20000 in
theorem gX8_out_X8_isTime : GoodIn wsX8_out (va_wsS RX8 186 yX8_isTime wsX8_isTime) := goodIn_app (goodIn_of _ (by decide +kernel)) ggX8_out_X8_isTime
set_option maxRecDepth 20000 in
theorem ggX8_out_X8_forceNow : GoodIn wsX8_out wsX8_forceNow := goodIn_r _ [16, 17, 18, 19, 20, 21, 7, 22, 30, 31, 32, 33, 34, 35, 36, 37, 38, 39, 40, 41, 42, 43, 44, 45, 46, 47, 48, 49, 50, 51, 52, 53, 54, 55, 56, 57] (by decide +kernel) (by decide +kernel)
set_option maxRecDepth 20000 in
theorem gX8_out_X8_forceNow : GoodIn wsX8_out (wsV RX8 141 RX8 yX8_forceNow wsX8_forceNow) := goodIn_app (goodIn_of _ (by decide +kernel)) ggX8_out_X8_forceNow
set_option maxRecDepth 20000 in
theorem ggX8_out_X8_goes : GoodIn wsX8_out wsX8_goes := goodIn_r _ [26, 4, 27, 28, 2, 18, 17, 29, 30, 31, 32, 33, 34, 35, 36, 37, 38, 39, 40, 41, 42, 43, 44, 45, 46, 47, 48, 49, 50, 51, 52, 53, 54, 55, 56, 57] (by decide +kernel) (by decide +kernel)
set_option maxRecDepth 20000 in
theorem gX8_out_X8_goes : GoodIn wsX8_out (wsV RX8 190 RX8 yX8_goes wsX8_goes) := goodIn_app (goodIn_of _ (by decide +kernel)) ggX8_out_X8_goes
theorem dX8_out_0 : decode cX8_out 0 = .ok (.iload_n 1, 1) := by decide +kernel
theorem dX8_out_1 : decode cX8_out 1 = .ok (.invokestatic 186, 3) := by decide +kernel
theorem dX8_out_4 : decode cX8_out 4 = .ok (.ifCond .ne 6, 3) := by decide +kernel
theorem dX8_out_7 : decode cX8_out 7 = .ok (.ldc 83, 2) := by decide +kernel
theorem dX8_out_9 : decode cX8_out 9 = .ok (.ireturn, 1) := by decide +kernel
theorem dX8_out_10 : decode cX8_out 10 = .ok (.aload_n 0, 1) := by decide +kernel
theorem dX8_out_11 : decode cX8_out 11 = .ok (.getfield 60, 3) := by decide +kernel
theorem dX8_out_14 : decode cX8_out 14 = .ok (.ifCond .ne 6, 3) := by decide +kernel
theorem dX8_out_17 : decode cX8_out 17 = .ok (.ldc 189, 2) := by decide +kernel
theorem dX8_out_19 : decode cX8_out 19 = .ok (.ireturn, 1) := by decide +kernel
theorem dX8_out_20 : decode cX8_out 20 = .ok (.aload_n 0, 1) := by decide +kernel
theorem dX8_out_21 : decode cX8_out 21 = .ok (.iconst 0, 1) := by decide +kernel
theorem dX8_out_22 : decode cX8_out 22 = .ok (.iload_n 1, 1) := by decide +kernel
theorem dX8_out_23 : decode cX8_out 23 = .ok (.aload_n 0, 1) := by decide +kernel
theorem dX8_out_24 : decode cX8_out 24 = .ok (.invokevirtual 141, 3) := by decide +kernel
theorem dX8_out_27 : decode cX8_out 27 = .ok (.invokevirtual 190, 3) := by decide +kernel
theorem dX8_out_30 : decode cX8_out 30 = .ok (.aload_n 0, 1) := by decide +kernel
theorem dX8_out_31 : decode cX8_out 31 = .ok (.getfield 177, 3) := by decide +kernel
theorem dX8_out_34 : decode cX8_out 34 = .ok (.ireturn, 1) := by decide +kernel
theorem dX8_draw_0 : decode cX8_draw 0 = .ok (.aload_n 0, 1) := by decide +kernel
theorem dX8_draw_1 : decode cX8_draw 1 = .ok (.getfield 7, 3) := by decide +kernel
theorem dX8_draw_4 : decode cX8_draw 4 = .ok (.bipush 50, 2) := by decide +kernel
theorem dX8_draw_6 : decode cX8_draw 6 = .ok (.aload_n 0, 1) := by decide +kernel
theorem dX8_draw_7 : decode cX8_draw 7 = .ok (.getfield 7, 3) := by decide +kernel
theorem dX8_draw_10 : decode cX8_draw 10 = .ok (.bipush 50, 2) := by decide +kernel
theorem dX8_draw_12 : decode cX8_draw 12 = .ok (.iaload, 1) := by decide +kernel
theorem dX8_draw_13 : decode cX8_draw 13 = .ok (.i2l, 1) := by decide +kernel
theorem dX8_draw_14 : decode cX8_draw 14 = .ok (.ldc2_w 194, 3) := by decide +kernel
theorem dX8_draw_17 : decode cX8_draw 17 = .ok (.lmul, 1) := by decide +kernel
theorem dX8_draw_18 : decode cX8_draw 18 = .ok (.ldc2_w 196, 3) := by decide +kernel
theorem dX8_draw_21 : decode cX8_draw 21 = .ok (.ladd, 1) := by decide +kernel
theorem dX8_draw_22 : decode cX8_draw 22 = .ok (.ldc2_w 198, 3) := by decide +kernel
theorem dX8_draw_25 : decode cX8_draw 25 = .ok (.lrem, 1) := by decide +kernel
theorem dX8_draw_26 : decode cX8_draw 26 = .ok (.l2i, 1) := by decide +kernel
theorem dX8_draw_27 : decode cX8_draw 27 = .ok (.iastore, 1) := by decide +kernel
theorem dX8_draw_28 : decode cX8_draw 28 = .ok (.aload_n 0, 1) := by decide +kernel
theorem dX8_draw_29 : decode cX8_draw 29 = .ok (.getfield 7, 3) := by decide +kernel
theorem dX8_draw_32 : decode cX8_draw 32 = .ok (.bipush 50, 2) := by decide +kernel
theorem dX8_draw_34 : decode cX8_draw 34 = .ok (.iaload, 1) := by decide +kernel
theorem dX8_draw_35 : decode cX8_draw 35 = .ok (.ldc 200, 2) := by decide +kernel
theorem dX8_draw_37 : decode cX8_draw 37 = .ok (.idiv, 1) := by decide +kernel
theorem dX8_draw_38 : decode cX8_draw 38 = .ok (.iload_n 1, 1) := by decide +kernel
theorem dX8_draw_39 : decode cX8_draw 39 = .ok (.irem, 1) := by decide +kernel
theorem dX8_draw_40 : decode cX8_draw 40 = .ok (.ireturn, 1) := by decide +kernel
set_option maxRecDepth 20000 in
theorem ggX8_drift_X8_in : GoodIn wsX8_drift wsX8_in := goodIn_r _ [8] (by decide +kernel) (by decide +kernel)
set_option maxRecDepth 20000 in
theorem gX8_drift_X8_in : GoodIn wsX8_drift (va_wsS RX8 63 yX8_in wsX8_in) := goodIn_app (goodIn_of _ (by decide +kernel)) ggX8_drift_X8_in
set_option maxRecDepth 20000 in
theorem ggX8_drift_X8_draw : GoodIn wsX8_drift wsX8_draw := goodIn_r _ [12, 3, 13, 14, 15, 16, 37, 38, 39, 40, 41, 42, 43, 44, 45, 46, 47, 48, 49, 50, 51, 52, 53, 54, 55, 56, 57, 58, 59, 60, 61, 62, 63, 64] (by decide +kernel) (by decide +kernel)
set_option maxRecDepth 20000 in
theorem gX8_drift_X8_draw : GoodIn wsX8_drift (wsV RX8 201 RX8 yX8_draw wsX8_draw) := goodIn_app (goodIn_of _ (by decide +kernel)) ggX8_drift_X8_draw
set_option maxRecDepth 20000 in
theorem ggX8_drift_X8_thawOf : GoodIn wsX8_drift wsX8_thawOf := goodIn_r _ [20, 21, 3, 22, 23, 24, 7, 25, 37, 38, 39, 40, 41, 42, 43, 44, 45, 46, 47, 48, 49, 50, 51, 52, 53, 54, 55, 56, 57, 58, 59, 60, 61, 62, 63, 64] (by decide +kernel) (by decide +kernel)
set_option maxRecDepth 20000 in
theorem gX8_drift_X8_thawOf : GoodIn wsX8_drift (wsV RX8 174 RX8 yX8_thawOf wsX8_thawOf) := goodIn_app (goodIn_of _ (by decide +kernel)) ggX8_drift_X8_thawOf
set_option maxRecDepth 20000 in
theorem ggX8_drift_X8_nightOf : GoodIn wsX8_drift wsX8_nightOf := goodIn_r _ [29, 21, 3, 22, 23, 24, 7, 25, 30, 31, 32, 37, 38, 39, 40, 41, 42, 43, 44, 45, 46, 47, 48, 49, 50, 51, 52, 53, 54, 55, 56, 57, 58, 59, 60, 61, 62, 63, 64] (by decide +kernel) (by decide +kernel)
set_option maxRecDepth 20000 in
theorem gX8_drift_X8_nightOf : GoodIn wsX8_drift (wsV RX8 165 RX8 yX8_nightOf wsX8_nightOf) := goodIn_app (goodIn_of _ (by decide +kernel)) ggX8_drift_X8_nightOf
set_option maxRecDepth 20000 in
theorem ggX8_drift_X8_allIce : GoodIn wsX8_drift wsX8_allIce := goodIn_r _ [36, 21, 3, 37, 38, 39, 40, 41, 42, 43, 44, 45, 46, 47, 48, 49, 50, 51, 52, 53, 54, 55, 56, 57, 58, 59, 60, 61, 62, 63, 64] (by decide +kernel) (by decide +kernel)
set_option maxRecDepth 20000 in
theorem gX8_drift_X8_allIce : GoodIn wsX8_drift (wsV RX8 169 RX8 yX8_allIce wsX8_allIce) := goodIn_app (goodIn_of _ (by decide +kernel)) ggX8_drift_X8_allIce
theorem dX8_drift_0 : decode cX8_drift 0 = .ok (.iload_n 1, 1) := by decide +kernel
theorem dX8_drift_1 : decode cX8_drift 1 = .ok (.i2l, 1) := by decide +kernel
theorem dX8_drift_2 : decode cX8_drift 2 = .ok (.lconst 1, 1) := by decide +kernel
theorem dX8_drift_3 : decode cX8_drift 3 = .ok (.ldc2_w 163, 3) := by decide +kernel
theorem dX8_drift_6 : decode cX8_drift 6 = .ok (.invokestatic 63, 3) := by decide +kernel
theorem dX8_drift_9 : decode cX8_drift 9 = .ok (.ifCond .ne 6, 3) := by decide +kernel
theorem dX8_drift_12 : decode cX8_drift 12 = .ok (.ldc 83, 2) := by decide +kernel
theorem dX8_drift_14 : decode cX8_drift 14 = .ok (.ireturn, 1) := by decide +kernel
theorem dX8_drift_15 : decode cX8_drift 15 = .ok (.aload_n 0, 1) := by decide +kernel
theorem dX8_drift_16 : decode cX8_drift 16 = .ok (.getfield 7, 3) := by decide +kernel
theorem dX8_drift_19 : decode cX8_drift 19 = .ok (.bipush 49, 2) := by decide +kernel
theorem dX8_drift_21 : decode cX8_drift 21 = .ok (.iaload, 1) := by decide +kernel
theorem dX8_drift_22 : decode cX8_drift 22 = .ok (.sipush 9000, 3) := by decide +kernel
theorem dX8_drift_25 : decode cX8_drift 25 = .ok (.if_icmp .le 6, 3) := by decide +kernel
theorem dX8_drift_28 : decode cX8_drift 28 = .ok (.ldc 87, 2) := by decide +kernel
theorem dX8_drift_30 : decode cX8_drift 30 = .ok (.ireturn, 1) := by decide +kernel
theorem dX8_drift_31 : decode cX8_drift 31 = .ok (.iconst 0, 1) := by decide +kernel
theorem dX8_drift_32 : decode cX8_drift 32 = .ok (.istore_n 2, 1) := by decide +kernel
theorem dX8_drift_33 : decode cX8_drift 33 = .ok (.iload_n 2, 1) := by decide +kernel
theorem dX8_drift_34 : decode cX8_drift 34 = .ok (.iload_n 1, 1) := by decide +kernel
theorem dX8_drift_35 : decode cX8_drift 35 = .ok (.if_icmp .ge 42, 3) := by decide +kernel
theorem dX8_drift_38 : decode cX8_drift 38 = .ok (.aload_n 0, 1) := by decide +kernel
theorem dX8_drift_39 : decode cX8_drift 39 = .ok (.iconst 5, 1) := by decide +kernel
theorem dX8_drift_40 : decode cX8_drift 40 = .ok (.invokevirtual 201, 3) := by decide +kernel
theorem dX8_drift_43 : decode cX8_drift 43 = .ok (.ifCond .ne 17, 3) := by decide +kernel
theorem dX8_drift_46 : decode cX8_drift 46 = .ok (.aload_n 0, 1) := by decide +kernel
theorem dX8_drift_47 : decode cX8_drift 47 = .ok (.iconst 0, 1) := by decide +kernel
theorem dX8_drift_48 : decode cX8_drift 48 = .ok (.aload_n 0, 1) := by decide +kernel
theorem dX8_drift_49 : decode cX8_drift 49 = .ok (.bipush 40, 2) := by decide +kernel
theorem dX8_drift_51 : decode cX8_drift 51 = .ok (.invokevirtual 201, 3) := by decide +kernel
theorem dX8_drift_54 : decode cX8_drift 54 = .ok (.invokevirtual 174, 3) := by decide +kernel
theorem dX8_drift_57 : decode cX8_drift 57 = .ok (.goto 14, 3) := by decide +kernel
theorem dX8_drift_60 : decode cX8_drift 60 = .ok (.aload_n 0, 1) := by decide +kernel
theorem dX8_drift_61 : decode cX8_drift 61 = .ok (.iconst 0, 1) := by decide +kernel
theorem dX8_drift_62 : decode cX8_drift 62 = .ok (.aload_n 0, 1) := by decide +kernel
theorem dX8_drift_63 : decode cX8_drift 63 = .ok (.bipush 31, 2) := by decide +kernel
theorem dX8_drift_65 : decode cX8_drift 65 = .ok (.invokevirtual 201, 3) := by decide +kernel
theorem dX8_drift_68 : decode cX8_drift 68 = .ok (.invokevirtual 165, 3) := by decide +kernel
theorem dX8_drift_71 : decode cX8_drift 71 = .ok (.iinc 2 1, 3) := by decide +kernel
theorem dX8_drift_74 : decode cX8_drift 74 = .ok (.goto (-41), 3) := by decide +kernel
theorem dX8_drift_77 : decode cX8_drift 77 = .ok (.aload_n 0, 1) := by decide +kernel
theorem dX8_drift_78 : decode cX8_drift 78 = .ok (.invokevirtual 169, 3) := by decide +kernel
theorem dX8_drift_81 : decode cX8_drift 81 = .ok (.ireturn, 1) := by decide +kernel
set_option maxRecDepth 20000 in
theorem ggX8_tries_X8_copy : GoodIn wsX8_tries wsX8_copy := goodIn_r _ [5, 6, 17, 18, 19, 20, 21, 22, 23, 24, 25, 26, 27, 28, 29, 30, 31, 32, 33, 34, 35, 36, 37, 38, 39, 40, 41, 42, 43, 44] (by decide +kernel) (by decide +kernel)
set_option maxRecDepth 20000 in
theorem gX8_tries_X8_copy : GoodIn wsX8_tries (wsV RX8 204 RX8 yX8_copy wsX8_copy) := goodIn_app (goodIn_of _ (by decide +kernel)) ggX8_tries_X8_copy
set_option maxRecDepth 20000 in
theorem ggX8_tries_X8_goes : GoodIn wsX8_tries wsX8_goes := goodIn_r _ [10, 11, 12, 13, 14, 6, 15, 16, 17, 18, 19, 20, 21, 22, 23, 24, 25, 26, 27, 28, 29, 30, 31, 32, 33, 34, 35, 36, 37, 38, 39, 40, 41, 42, 43, 44] (by decide +kernel) (by decide +kernel)
set_option maxRecDepth 20000 in
theorem gX8_tries_X8_goes : GoodIn wsX8_tries (wsV RX8 190 RX8 yX8_goes wsX8_goes) := goodIn_app (goodIn_of _ (by decide +kernel)) ggX8_tries_X8_goes
theorem dX8_tries_0 : decode cX8_tries 0 = .ok (.aload_n 0, 1) := by decide +kernel
theorem dX8_tries_1 : decode cX8_tries 1 = .ok (.iconst 0, 1) := by decide +kernel
theorem dX8_tries_2 : decode cX8_tries 2 = .ok (.bipush 51, 2) := by decide +kernel
theorem dX8_tries_4 : decode cX8_tries 4 = .ok (.invokevirtual 204, 3) := by decide +kernel
theorem dX8_tries_7 : decode cX8_tries 7 = .ok (.aload_n 0, 1) := by decide +kernel
theorem dX8_tries_8 : decode cX8_tries 8 = .ok (.bipush 51, 2) := by decide +kernel
theorem dX8_tries_10 : decode cX8_tries 10 = .ok (.iload_n 1, 1) := by decide +kernel
theorem dX8_tries_11 : decode cX8_tries 11 = .ok (.iload_n 2, 1) := by decide +kernel
theorem dX8_tries_12 : decode cX8_tries 12 = .ok (.invokevirtual 190, 3) := by decide +kernel
theorem dX8_tries_15 : decode cX8_tries 15 = .ok (.return_, 1) := by decide +kernel
set_option maxRecDepth 20000 in
theorem ggX8_today_X8_isTime : GoodIn wsX8_today wsX8_isTime := goodIn_r _ [7, 8, 9, 10, 6, 11] (by decide +kernel) (by decide +kernel)
set_option maxRecDepth 20000 in
theorem gX8_today_X8_isTime : GoodIn wsX8_today (va_wsS RX8 186 yX8_isTime wsX8_isTime) := goodIn_app (goodIn_of _ (by decide +kernel)) ggX8_today_X8_isTime
set_option maxRecDepth 20000 in
theorem ggX8_today_X8_in : GoodIn wsX8_today wsX8_in := goodIn_r _ [11] (by decide +kernel) (by decide +kernel)
set_option maxRecDepth 20000 in
theorem gX8_today_X8_in : GoodIn wsX8_today (va_wsS RX8 63 yX8_in wsX8_in) := goodIn_app (goodIn_of _ (by decide +kernel)) ggX8_today_X8_in
set_option maxRecDepth 20000 in
theorem ggX8_today_X8_forceNow : GoodIn wsX8_today wsX8_forceNow := goodIn_r _ [15, 16, 17, 18, 19, 20, 6, 21, 37, 38, 39, 40, 41, 42, 43, 44, 45, 46, 47, 48, 49, 50, 51, 52, 53, 54, 55, 56, 57, 58, 59, 60, 61, 62, 63, 64] (by decide +kernel) (by decide +kernel)
set_option maxRecDepth 20000 in
theorem gX8_today_X8_forceNow : GoodIn wsX8_today (wsV RX8 141 RX8 yX8_forceNow wsX8_forceNow) := goodIn_app (goodIn_of _ (by decide +kernel)) ggX8_today_X8_forceNow
set_option maxRecDepth 20000 in
theorem ggX8_today_X8_tries : GoodIn wsX8_today wsX8_tries := goodIn_r _ [25, 26, 27, 28, 6, 29, 17, 30, 31, 32, 33, 2, 3, 34, 35, 16, 36, 37, 38, 39, 40, 41, 42, 43, 44, 45, 46, 47, 48, 49, 50, 51, 52, 53, 54, 55, 56, 57, 58, 59, 60, 61, 62, 63, 64] (by decide +kernel) (by decide +kernel)
set_option maxRecDepth 20000 in
theorem gX8_today_X8_tries : GoodIn wsX8_today (wsV RX8 207 RX8 yX8_tries wsX8_tries) := goodIn_app (goodIn_of _ (by decide +kernel)) ggX8_today_X8_tries
theorem dX8_today_0 : decode cX8_today 0 = .ok (.iload_n 1, 1) := by decide +kernel
theorem dX8_today_1 : decode cX8_today 1 = .ok (.invokestatic 186, 3) := by decide +kernel
theorem dX8_today_4 : decode cX8_today 4 = .ok (.ifCond .eq 13, 3) := by decide +kernel
theorem dX8_today_7 : decode cX8_today 7 = .ok (.iload_n 2, 1) := by decide +kernel
theorem dX8_today_8 : decode cX8_today 8 = .ok (.i2l, 1) := by decide +kernel
theorem dX8_today_9 : decode cX8_today 9 = .ok (.lconst 0, 1) := by decide +kernel
theorem dX8_today_10 : decode cX8_today 10 = .ok (.lconst 1, 1) := by decide +kernel
theorem dX8_today_11 : decode cX8_today 11 = .ok (.invokestatic 63, 3) := by decide +kernel
theorem dX8_today_14 : decode cX8_today 14 = .ok (.ifCond .ne 6, 3) := by decide +kernel
theorem dX8_today_17 : decode cX8_today 17 = .ok (.ldc 83, 2) := by decide +kernel
theorem dX8_today_19 : decode cX8_today 19 = .ok (.ireturn, 1) := by decide +kernel
theorem dX8_today_20 : decode cX8_today 20 = .ok (.aload_n 0, 1) := by decide +kernel
theorem dX8_today_21 : decode cX8_today 21 = .ok (.iload_n 1, 1) := by decide +kernel
theorem dX8_today_22 : decode cX8_today 22 = .ok (.aload_n 0, 1) := by decide +kernel
theorem dX8_today_23 : decode cX8_today 23 = .ok (.invokevirtual 141, 3) := by decide +kernel
theorem dX8_today_26 : decode cX8_today 26 = .ok (.invokevirtual 207, 3) := by decide +kernel
theorem dX8_today_29 : decode cX8_today 29 = .ok (.iload_n 2, 1) := by decide +kernel
theorem dX8_today_30 : decode cX8_today 30 = .ok (.ifCond .ne 10, 3) := by decide +kernel
theorem dX8_today_33 : decode cX8_today 33 = .ok (.aload_n 0, 1) := by decide +kernel
theorem dX8_today_34 : decode cX8_today 34 = .ok (.getfield 177, 3) := by decide +kernel
theorem dX8_today_37 : decode cX8_today 37 = .ok (.goto 7, 3) := by decide +kernel
theorem dX8_today_40 : decode cX8_today 40 = .ok (.aload_n 0, 1) := by decide +kernel
theorem dX8_today_41 : decode cX8_today 41 = .ok (.getfield 180, 3) := by decide +kernel
theorem dX8_today_44 : decode cX8_today 44 = .ok (.ireturn, 1) := by decide +kernel
set_option maxRecDepth 20000 in
theorem ggX8_bestBeat_X8_swayOf : GoodIn wsX8_bestBeat wsX8_swayOf := goodIn_r _ [6, 1, 7, 8, 9, 10, 11, 12, 13, 14, 15, 16, 17, 18, 19, 20, 21, 22, 23, 24, 25, 26, 27, 28, 29, 30, 31, 32, 33, 34] (by decide +kernel) (by decide +kernel)
set_option maxRecDepth 20000 in
theorem gX8_bestBeat_X8_swayOf : GoodIn wsX8_bestBeat (wsV RX8 137 RX8 yX8_swayOf wsX8_swayOf) := goodIn_app (goodIn_of _ (by decide +kernel)) ggX8_bestBeat_X8_swayOf
theorem dX8_bestBeat_0 : decode cX8_bestBeat 0 = .ok (.iconst 1, 1) := by decide +kernel
theorem dX8_bestBeat_1 : decode cX8_bestBeat 1 = .ok (.istore_n 1, 1) := by decide +kernel
theorem dX8_bestBeat_2 : decode cX8_bestBeat 2 = .ok (.iconst 2, 1) := by decide +kernel
theorem dX8_bestBeat_3 : decode cX8_bestBeat 3 = .ok (.istore_n 2, 1) := by decide +kernel
theorem dX8_bestBeat_4 : decode cX8_bestBeat 4 = .ok (.iload_n 2, 1) := by decide +kernel
theorem dX8_bestBeat_5 : decode cX8_bestBeat 5 = .ok (.bipush 10, 2) := by decide +kernel
theorem dX8_bestBeat_7 : decode cX8_bestBeat 7 = .ok (.if_icmp .ge 40, 3) := by decide +kernel
theorem dX8_bestBeat_10 : decode cX8_bestBeat 10 = .ok (.aload_n 0, 1) := by decide +kernel
theorem dX8_bestBeat_11 : decode cX8_bestBeat 11 = .ok (.aload_n 0, 1) := by decide +kernel
theorem dX8_bestBeat_12 : decode cX8_bestBeat 12 = .ok (.getfield 13, 3) := by decide +kernel
theorem dX8_bestBeat_15 : decode cX8_bestBeat 15 = .ok (.iconst 3, 1) := by decide +kernel
theorem dX8_bestBeat_16 : decode cX8_bestBeat 16 = .ok (.iaload, 1) := by decide +kernel
theorem dX8_bestBeat_17 : decode cX8_bestBeat 17 = .ok (.iload_n 2, 1) := by decide +kernel
theorem dX8_bestBeat_18 : decode cX8_bestBeat 18 = .ok (.invokevirtual 137, 3) := by decide +kernel
theorem dX8_bestBeat_21 : decode cX8_bestBeat 21 = .ok (.aload_n 0, 1) := by decide +kernel
theorem dX8_bestBeat_22 : decode cX8_bestBeat 22 = .ok (.aload_n 0, 1) := by decide +kernel
theorem dX8_bestBeat_23 : decode cX8_bestBeat 23 = .ok (.getfield 13, 3) := by decide +kernel
theorem dX8_bestBeat_26 : decode cX8_bestBeat 26 = .ok (.iconst 3, 1) := by decide +kernel
theorem dX8_bestBeat_27 : decode cX8_bestBeat 27 = .ok (.iaload, 1) := by decide +kernel
theorem dX8_bestBeat_28 : decode cX8_bestBeat 28 = .ok (.iload_n 1, 1) := by decide +kernel
theorem dX8_bestBeat_29 : decode cX8_bestBeat 29 = .ok (.invokevirtual 137, 3) := by decide +kernel
theorem dX8_bestBeat_32 : decode cX8_bestBeat 32 = .ok (.if_icmp .le 7, 3) := by decide +kernel
theorem dX8_bestBeat_35 : decode cX8_bestBeat 35 = .ok (.iload_n 2, 1) := by decide +kernel
theorem dX8_bestBeat_36 : decode cX8_bestBeat 36 = .ok (.goto 4, 3) := by decide +kernel
theorem dX8_bestBeat_39 : decode cX8_bestBeat 39 = .ok (.iload_n 1, 1) := by decide +kernel
theorem dX8_bestBeat_40 : decode cX8_bestBeat 40 = .ok (.istore_n 1, 1) := by decide +kernel
theorem dX8_bestBeat_41 : decode cX8_bestBeat 41 = .ok (.iinc 2 1, 3) := by decide +kernel
theorem dX8_bestBeat_44 : decode cX8_bestBeat 44 = .ok (.goto (-40), 3) := by decide +kernel
theorem dX8_bestBeat_47 : decode cX8_bestBeat 47 = .ok (.iload_n 1, 1) := by decide +kernel
theorem dX8_bestBeat_48 : decode cX8_bestBeat 48 = .ok (.ireturn, 1) := by decide +kernel
set_option maxRecDepth 20000 in
theorem ggX8_laggards_X8_isTime : GoodIn wsX8_laggards wsX8_isTime := goodIn_r _ [9, 10, 11, 12, 8, 13] (by decide +kernel) (by decide +kernel)
set_option maxRecDepth 20000 in
theorem gX8_laggards_X8_isTime : GoodIn wsX8_laggards (va_wsS RX8 186 yX8_isTime wsX8_isTime) := goodIn_app (goodIn_of _ (by decide +kernel)) ggX8_laggards_X8_isTime
set_option maxRecDepth 20000 in
theorem ggX8_laggards_X8_swayOf : GoodIn wsX8_laggards wsX8_swayOf := goodIn_r _ [17, 2, 33, 34, 35, 36, 37, 38, 39, 40, 41, 42, 43, 44, 45, 46, 47, 48, 49, 50, 51, 52, 53, 54, 55, 56, 57, 58, 59, 60] (by decide +kernel) (by decide +kernel)
set_option maxRecDepth 20000 in
theorem gX8_laggards_X8_swayOf : GoodIn wsX8_laggards (wsV RX8 137 RX8 yX8_swayOf wsX8_swayOf) := goodIn_app (goodIn_of _ (by decide +kernel)) ggX8_laggards_X8_swayOf
set_option maxRecDepth 20000 in
theorem ggX8_laggards_X8_tries : GoodIn wsX8_laggards wsX8_tries := goodIn_r _ [21, 22, 23, 24, 8, 25, 3, 26, 27, 28, 29, 4, 30, 31, 5, 2, 32, 33, 34, 35, 36, 37, 38, 39, 40, 41, 42, 43, 44, 45, 46, 47, 48, 49, 50, 51, 52, 53, 54, 55, 56, 57, 58, 59, 60] (by decide +kernel) (by decide +kernel)
set_option maxRecDepth 20000 in
theorem gX8_laggards_X8_tries : GoodIn wsX8_laggards (wsV RX8 207 RX8 yX8_tries wsX8_tries) := goodIn_app (goodIn_of _ (by decide +kernel)) ggX8_laggards_X8_tries
theorem dX8_laggards_0 : decode cX8_laggards 0 = .ok (.iload_n 1, 1) := by decide +kernel
theorem dX8_laggards_1 : decode cX8_laggards 1 = .ok (.invokestatic 186, 3) := by decide +kernel
theorem dX8_laggards_4 : decode cX8_laggards 4 = .ok (.ifCond .ne 6, 3) := by decide +kernel
theorem dX8_laggards_7 : decode cX8_laggards 7 = .ok (.ldc 83, 2) := by decide +kernel
theorem dX8_laggards_9 : decode cX8_laggards 9 = .ok (.ireturn, 1) := by decide +kernel
theorem dX8_laggards_10 : decode cX8_laggards 10 = .ok (.iconst 0, 1) := by decide +kernel
theorem dX8_laggards_11 : decode cX8_laggards 11 = .ok (.istore_n 2, 1) := by decide +kernel
theorem dX8_laggards_12 : decode cX8_laggards 12 = .ok (.iload_n 2, 1) := by decide +kernel
theorem dX8_laggards_13 : decode cX8_laggards 13 = .ok (.bipush 20, 2) := by decide +kernel
theorem dX8_laggards_15 : decode cX8_laggards 15 = .ok (.if_icmp .gt 48, 3) := by decide +kernel
theorem dX8_laggards_18 : decode cX8_laggards 18 = .ok (.aload_n 0, 1) := by decide +kernel
theorem dX8_laggards_19 : decode cX8_laggards 19 = .ok (.iload_n 1, 1) := by decide +kernel
theorem dX8_laggards_20 : decode cX8_laggards 20 = .ok (.iconst 4, 1) := by decide +kernel
theorem dX8_laggards_21 : decode cX8_laggards 21 = .ok (.aload_n 0, 1) := by decide +kernel
theorem dX8_laggards_22 : decode cX8_laggards 22 = .ok (.getfield 13, 3) := by decide +kernel
theorem dX8_laggards_25 : decode cX8_laggards 25 = .ok (.iconst 0, 1) := by decide +kernel
theorem dX8_laggards_26 : decode cX8_laggards 26 = .ok (.iaload, 1) := by decide +kernel
theorem dX8_laggards_27 : decode cX8_laggards 27 = .ok (.imul, 1) := by decide +kernel
theorem dX8_laggards_28 : decode cX8_laggards 28 = .ok (.aload_n 0, 1) := by decide +kernel
theorem dX8_laggards_29 : decode cX8_laggards 29 = .ok (.iload_n 2, 1) := by decide +kernel
theorem dX8_laggards_30 : decode cX8_laggards 30 = .ok (.aload_n 0, 1) := by decide +kernel
theorem dX8_laggards_31 : decode cX8_laggards 31 = .ok (.getfield 7, 3) := by decide +kernel
theorem dX8_laggards_34 : decode cX8_laggards 34 = .ok (.bipush 48, 2) := by decide +kernel
theorem dX8_laggards_36 : decode cX8_laggards 36 = .ok (.iaload, 1) := by decide +kernel
theorem dX8_laggards_37 : decode cX8_laggards 37 = .ok (.invokevirtual 137, 3) := by decide +kernel
theorem dX8_laggards_40 : decode cX8_laggards 40 = .ok (.iadd, 1) := by decide +kernel
theorem dX8_laggards_41 : decode cX8_laggards 41 = .ok (.invokevirtual 207, 3) := by decide +kernel
theorem dX8_laggards_44 : decode cX8_laggards 44 = .ok (.aload_n 0, 1) := by decide +kernel
theorem dX8_laggards_45 : decode cX8_laggards 45 = .ok (.getfield 177, 3) := by decide +kernel
theorem dX8_laggards_48 : decode cX8_laggards 48 = .ok (.aload_n 0, 1) := by decide +kernel
theorem dX8_laggards_49 : decode cX8_laggards 49 = .ok (.getfield 60, 3) := by decide +kernel
theorem dX8_laggards_52 : decode cX8_laggards 52 = .ok (.if_icmp .ge 5, 3) := by decide +kernel
theorem dX8_laggards_55 : decode cX8_laggards 55 = .ok (.iload_n 2, 1) := by decide +kernel
theorem dX8_laggards_56 : decode cX8_laggards 56 = .ok (.ireturn, 1) := by decide +kernel
theorem dX8_laggards_57 : decode cX8_laggards 57 = .ok (.iinc 2 1, 3) := by decide +kernel
theorem dX8_laggards_60 : decode cX8_laggards 60 = .ok (.goto (-48), 3) := by decide +kernel
theorem dX8_laggards_63 : decode cX8_laggards 63 = .ok (.iconst (-1), 1) := by decide +kernel
theorem dX8_laggards_64 : decode cX8_laggards 64 = .ok (.ireturn, 1) := by decide +kernel
set_option maxRecDepth 20000 in
theorem ggX8_horses_X8_isTime : GoodIn wsX8_horses wsX8_isTime := goodIn_r _ [9, 10, 11, 12, 8, 13] (by decide +kernel) (by decide +kernel)
set_option maxRecDepth 20000 in
theorem gX8_horses_X8_isTime : GoodIn wsX8_horses (va_wsS RX8 186 yX8_isTime wsX8_isTime) := goodIn_app (goodIn_of _ (by decide +kernel)) ggX8_horses_X8_isTime
set_option maxRecDepth 20000 in
theorem ggX8_horses_X8_swayOf : GoodIn wsX8_horses wsX8_swayOf := goodIn_r _ [17, 2, 33, 34, 35, 36, 37, 38, 39, 40, 41, 42, 43, 44, 45, 46, 47, 48, 49, 50, 51, 52, 53, 54, 55, 56, 57, 58, 59, 60] (by decide +kernel) (by decide +kernel)
set_option maxRecDepth 20000 in
theorem gX8_horses_X8_swayOf : GoodIn wsX8_horses (wsV RX8 137 RX8 yX8_swayOf wsX8_swayOf) := goodIn_app (goodIn_of _ (by decide +kernel)) ggX8_horses_X8_swayOf
set_option maxRecDepth 20000 in
theorem ggX8_horses_X8_tries : GoodIn wsX8_horses wsX8_tries := goodIn_r _ [21, 22, 23, 24, 8, 25, 3, 26, 27, 28, 29, 4, 30, 31, 5, 2, 32, 33, 34, 35, 36, 37, 38, 39, 40, 41, 42, 43, 44, 45, 46, 47, 48, 49, 50, 51, 52, 53, 54, 55, 56, 57, 58, 59, 60] (by decide +kernel) (by decide +kernel)
set_option maxRecDepth 20000 in
theorem gX8_horses_X8_tries : GoodIn wsX8_horses (wsV RX8 207 RX8 yX8_tries wsX8_tries) := goodIn_app (goodIn_of _ (by decide +kernel)) ggX8_horses_X8_tries
theorem dX8_horses_0 : decode cX8_horses 0 = .ok (.iload_n 1, 1) := by decide +kernel
theorem dX8_horses_1 : decode cX8_horses 1 = .ok (.invokestatic 186, 3) := by decide +kernel
theorem dX8_horses_4 : decode cX8_horses 4 = .ok (.ifCond .ne 6, 3) := by decide +kernel
theorem dX8_horses_7 : decode cX8_horses 7 = .ok (.ldc 83, 2) := by decide +kernel
theorem dX8_horses_9 : decode cX8_horses 9 = .ok (.ireturn, 1) := by decide +kernel
theorem dX8_horses_10 : decode cX8_horses 10 = .ok (.iconst 1, 1) := by decide +kernel
theorem dX8_horses_11 : decode cX8_horses 11 = .ok (.istore_n 2, 1) := by decide +kernel
theorem dX8_horses_12 : decode cX8_horses 12 = .ok (.iload_n 2, 1) := by decide +kernel
theorem dX8_horses_13 : decode cX8_horses 13 = .ok (.bipush 12, 2) := by decide +kernel
theorem dX8_horses_15 : decode cX8_horses 15 = .ok (.if_icmp .gt 48, 3) := by decide +kernel
theorem dX8_horses_18 : decode cX8_horses 18 = .ok (.aload_n 0, 1) := by decide +kernel
theorem dX8_horses_19 : decode cX8_horses 19 = .ok (.iload_n 1, 1) := by decide +kernel
theorem dX8_horses_20 : decode cX8_horses 20 = .ok (.iconst 4, 1) := by decide +kernel
theorem dX8_horses_21 : decode cX8_horses 21 = .ok (.iload_n 2, 1) := by decide +kernel
theorem dX8_horses_22 : decode cX8_horses 22 = .ok (.imul, 1) := by decide +kernel
theorem dX8_horses_23 : decode cX8_horses 23 = .ok (.aload_n 0, 1) := by decide +kernel
theorem dX8_horses_24 : decode cX8_horses 24 = .ok (.aload_n 0, 1) := by decide +kernel
theorem dX8_horses_25 : decode cX8_horses 25 = .ok (.getfield 13, 3) := by decide +kernel
theorem dX8_horses_28 : decode cX8_horses 28 = .ok (.iconst 3, 1) := by decide +kernel
theorem dX8_horses_29 : decode cX8_horses 29 = .ok (.iaload, 1) := by decide +kernel
theorem dX8_horses_30 : decode cX8_horses 30 = .ok (.aload_n 0, 1) := by decide +kernel
theorem dX8_horses_31 : decode cX8_horses 31 = .ok (.getfield 7, 3) := by decide +kernel
theorem dX8_horses_34 : decode cX8_horses 34 = .ok (.bipush 48, 2) := by decide +kernel
theorem dX8_horses_36 : decode cX8_horses 36 = .ok (.iaload, 1) := by decide +kernel
theorem dX8_horses_37 : decode cX8_horses 37 = .ok (.invokevirtual 137, 3) := by decide +kernel
theorem dX8_horses_40 : decode cX8_horses 40 = .ok (.iadd, 1) := by decide +kernel
theorem dX8_horses_41 : decode cX8_horses 41 = .ok (.invokevirtual 207, 3) := by decide +kernel
theorem dX8_horses_44 : decode cX8_horses 44 = .ok (.aload_n 0, 1) := by decide +kernel
theorem dX8_horses_45 : decode cX8_horses 45 = .ok (.getfield 177, 3) := by decide +kernel
theorem dX8_horses_48 : decode cX8_horses 48 = .ok (.aload_n 0, 1) := by decide +kernel
theorem dX8_horses_49 : decode cX8_horses 49 = .ok (.getfield 60, 3) := by decide +kernel
theorem dX8_horses_52 : decode cX8_horses 52 = .ok (.if_icmp .ne 5, 3) := by decide +kernel
theorem dX8_horses_55 : decode cX8_horses 55 = .ok (.iload_n 2, 1) := by decide +kernel
theorem dX8_horses_56 : decode cX8_horses 56 = .ok (.ireturn, 1) := by decide +kernel
theorem dX8_horses_57 : decode cX8_horses 57 = .ok (.iinc 2 1, 3) := by decide +kernel
theorem dX8_horses_60 : decode cX8_horses 60 = .ok (.goto (-48), 3) := by decide +kernel
theorem dX8_horses_63 : decode cX8_horses 63 = .ok (.iconst (-1), 1) := by decide +kernel
theorem dX8_horses_64 : decode cX8_horses 64 = .ok (.ireturn, 1) := by decide +kernel
set_option maxRecDepth 20000 in
theorem ggX8_string_X8_isTime : GoodIn wsX8_string wsX8_isTime := goodIn_r _ [8, 9, 10, 11, 7, 12] (by decide +kernel) (by decide +kernel)
set_option maxRecDepth 20000 in
theorem gX8_string_X8_isTime : GoodIn wsX8_string (va_wsS RX8 186 yX8_isTime wsX8_isTime) := goodIn_app (goodIn_of _ (by decide +kernel)) ggX8_string_X8_isTime
set_option maxRecDepth 20000 in
theorem ggX8_string_X8_in : GoodIn wsX8_string wsX8_in := goodIn_r _ [12] (by decide +kernel) (by decide +kernel)
set_option maxRecDepth 20000 in
theorem gX8_string_X8_in : GoodIn wsX8_string (va_wsS RX8 63 yX8_in wsX8_in) := goodIn_app (goodIn_of _ (by decide +kernel)) ggX8_string_X8_in
set_option maxRecDepth 20000 in
theorem ggX8_string_X8_forceNow : GoodIn wsX8_string wsX8_forceNow := goodIn_r _ [16, 4, 17, 18, 19, 20, 7, 21, 38, 39, 40, 41, 42, 43, 44, 45, 46, 47, 48, 49, 50, 51, 52, 53, 54, 55, 56, 57, 58, 59, 60, 61, 62, 63, 64, 65] (by decide +kernel) (by decide +kernel)
set_option maxRecDepth 20000 in
theorem gX8_string_X8_forceNow : GoodIn wsX8_string (wsV RX8 141 RX8 yX8_forceNow wsX8_forceNow) := goodIn_app (goodIn_of _ (by decide +kernel)) ggX8_string_X8_forceNow
set_option maxRecDepth 20000 in
theorem ggX8_string_X8_tries : GoodIn wsX8_string wsX8_tries := goodIn_r _ [25, 26, 27, 28, 7, 29, 17, 30, 31, 32, 33, 34, 35, 3, 36, 4, 37, 38, 39, 40, 41, 42, 43, 44, 45, 46, 47, 48, 49, 50, 51, 52, 53, 54, 55, 56, 57, 58, 59, 60, 61, 62, 63, 64, 65] (by decide +kernel) (by decide +kernel)
set_option maxRecDepth 20000 in
theorem gX8_string_X8_tries : GoodIn wsX8_string (wsV RX8 207 RX8 yX8_tries wsX8_tries) := goodIn_app (goodIn_of _ (by decide +kernel)) ggX8_string_X8_tries
theorem dX8_string_0 : decode cX8_string 0 = .ok (.iload_n 1, 1) := by decide +kernel
theorem dX8_string_1 : decode cX8_string 1 = .ok (.invokestatic 186, 3) := by decide +kernel
theorem dX8_string_4 : decode cX8_string 4 = .ok (.ifCond .eq 15, 3) := by decide +kernel
theorem dX8_string_7 : decode cX8_string 7 = .ok (.iload_n 2, 1) := by decide +kernel
theorem dX8_string_8 : decode cX8_string 8 = .ok (.i2l, 1) := by decide +kernel
theorem dX8_string_9 : decode cX8_string 9 = .ok (.lconst 1, 1) := by decide +kernel
theorem dX8_string_10 : decode cX8_string 10 = .ok (.ldc2_w 163, 3) := by decide +kernel
theorem dX8_string_13 : decode cX8_string 13 = .ok (.invokestatic 63, 3) := by decide +kernel
theorem dX8_string_16 : decode cX8_string 16 = .ok (.ifCond .ne 6, 3) := by decide +kernel
theorem dX8_string_19 : decode cX8_string 19 = .ok (.ldc 83, 2) := by decide +kernel
theorem dX8_string_21 : decode cX8_string 21 = .ok (.ireturn, 1) := by decide +kernel
theorem dX8_string_22 : decode cX8_string 22 = .ok (.aload_n 0, 1) := by decide +kernel
theorem dX8_string_23 : decode cX8_string 23 = .ok (.iload_n 1, 1) := by decide +kernel
theorem dX8_string_24 : decode cX8_string 24 = .ok (.aload_n 0, 1) := by decide +kernel
theorem dX8_string_25 : decode cX8_string 25 = .ok (.invokevirtual 141, 3) := by decide +kernel
theorem dX8_string_28 : decode cX8_string 28 = .ok (.invokevirtual 207, 3) := by decide +kernel
theorem dX8_string_31 : decode cX8_string 31 = .ok (.aload_n 0, 1) := by decide +kernel
theorem dX8_string_32 : decode cX8_string 32 = .ok (.getfield 183, 3) := by decide +kernel
theorem dX8_string_35 : decode cX8_string 35 = .ok (.iconst (-1), 1) := by decide +kernel
theorem dX8_string_36 : decode cX8_string 36 = .ok (.if_icmp .ne 7, 3) := by decide +kernel
theorem dX8_string_39 : decode cX8_string 39 = .ok (.iconst (-1), 1) := by decide +kernel
theorem dX8_string_40 : decode cX8_string 40 = .ok (.goto 13, 3) := by decide +kernel
theorem dX8_string_43 : decode cX8_string 43 = .ok (.aload_n 0, 1) := by decide +kernel
theorem dX8_string_44 : decode cX8_string 44 = .ok (.getfield 13, 3) := by decide +kernel
theorem dX8_string_47 : decode cX8_string 47 = .ok (.iconst 4, 1) := by decide +kernel
theorem dX8_string_48 : decode cX8_string 48 = .ok (.iaload, 1) := by decide +kernel
theorem dX8_string_49 : decode cX8_string 49 = .ok (.iconst 1, 1) := by decide +kernel
theorem dX8_string_50 : decode cX8_string 50 = .ok (.isub, 1) := by decide +kernel
theorem dX8_string_51 : decode cX8_string 51 = .ok (.iload_n 2, 1) := by decide +kernel
theorem dX8_string_52 : decode cX8_string 52 = .ok (.idiv, 1) := by decide +kernel
theorem dX8_string_53 : decode cX8_string 53 = .ok (.ireturn, 1) := by decide +kernel
set_option maxRecDepth 20000 in
theorem ggX8_turn_X8_isTime : GoodIn wsX8_turn wsX8_isTime := goodIn_r _ [9, 10, 11, 12, 8, 13] (by decide +kernel) (by decide +kernel)
set_option maxRecDepth 20000 in
theorem gX8_turn_X8_isTime : GoodIn wsX8_turn (va_wsS RX8 186 yX8_isTime wsX8_isTime) := goodIn_app (goodIn_of _ (by decide +kernel)) ggX8_turn_X8_isTime
set_option maxRecDepth 20000 in
theorem ggX8_turn_X8_forceNow : GoodIn wsX8_turn wsX8_forceNow := goodIn_r _ [17, 5, 18, 19, 20, 21, 8, 22, 37, 38, 39, 40, 41, 42, 43, 44, 45, 46, 47, 48, 49, 50, 51, 52, 53, 54, 55, 56, 57, 58, 59, 60, 61, 62, 63, 64] (by decide +kernel) (by decide +kernel)
set_option maxRecDepth 20000 in
theorem gX8_turn_X8_forceNow : GoodIn wsX8_turn (wsV RX8 141 RX8 yX8_forceNow wsX8_forceNow) := goodIn_app (goodIn_of _ (by decide +kernel)) ggX8_turn_X8_forceNow
set_option maxRecDepth 20000 in
theorem ggX8_turn_X8_tries : GoodIn wsX8_turn wsX8_tries := goodIn_r _ [26, 27, 28, 29, 8, 30, 18, 31, 32, 33, 34, 2, 35, 4, 36, 5, 3, 37, 38, 39, 40, 41, 42, 43, 44, 45, 46, 47, 48, 49, 50, 51, 52, 53, 54, 55, 56, 57, 58, 59, 60, 61, 62, 63, 64] (by decide +kernel) (by decide +kernel)
set_option maxRecDepth 20000 in
theorem gX8_turn_X8_tries : GoodIn wsX8_turn (wsV RX8 207 RX8 yX8_tries wsX8_tries) := goodIn_app (goodIn_of _ (by decide +kernel)) ggX8_turn_X8_tries
theorem dX8_turn_0 : decode cX8_turn 0 = .ok (.iload_n 1, 1) := by decide +kernel
theorem dX8_turn_1 : decode cX8_turn 1 = .ok (.invokestatic 186, 3) := by decide +kernel
theorem dX8_turn_4 : decode cX8_turn 4 = .ok (.ifCond .ne 6, 3) := by decide +kernel
theorem dX8_turn_7 : decode cX8_turn 7 = .ok (.ldc 83, 2) := by decide +kernel
theorem dX8_turn_9 : decode cX8_turn 9 = .ok (.ireturn, 1) := by decide +kernel
theorem dX8_turn_10 : decode cX8_turn 10 = .ok (.aload_n 0, 1) := by decide +kernel
theorem dX8_turn_11 : decode cX8_turn 11 = .ok (.iload_n 1, 1) := by decide +kernel
theorem dX8_turn_12 : decode cX8_turn 12 = .ok (.aload_n 0, 1) := by decide +kernel
theorem dX8_turn_13 : decode cX8_turn 13 = .ok (.invokevirtual 141, 3) := by decide +kernel
theorem dX8_turn_16 : decode cX8_turn 16 = .ok (.invokevirtual 207, 3) := by decide +kernel
theorem dX8_turn_19 : decode cX8_turn 19 = .ok (.iconst 0, 1) := by decide +kernel
theorem dX8_turn_20 : decode cX8_turn 20 = .ok (.istore_n 2, 1) := by decide +kernel
theorem dX8_turn_21 : decode cX8_turn 21 = .ok (.iconst 1, 1) := by decide +kernel
theorem dX8_turn_22 : decode cX8_turn 22 = .ok (.istore_n 3, 1) := by decide +kernel
theorem dX8_turn_23 : decode cX8_turn 23 = .ok (.iload_n 3, 1) := by decide +kernel
theorem dX8_turn_24 : decode cX8_turn 24 = .ok (.aload_n 0, 1) := by decide +kernel
theorem dX8_turn_25 : decode cX8_turn 25 = .ok (.getfield 177, 3) := by decide +kernel
theorem dX8_turn_28 : decode cX8_turn 28 = .ok (.if_icmp .gt 101, 3) := by decide +kernel
theorem dX8_turn_31 : decode cX8_turn 31 = .ok (.aload_n 0, 1) := by decide +kernel
theorem dX8_turn_32 : decode cX8_turn 32 = .ok (.getfield 33, 3) := by decide +kernel
theorem dX8_turn_35 : decode cX8_turn 35 = .ok (.iload_n 3, 1) := by decide +kernel
theorem dX8_turn_36 : decode cX8_turn 36 = .ok (.iconst 1, 1) := by decide +kernel
theorem dX8_turn_37 : decode cX8_turn 37 = .ok (.isub, 1) := by decide +kernel
theorem dX8_turn_38 : decode cX8_turn 38 = .ok (.iaload, 1) := by decide +kernel
theorem dX8_turn_39 : decode cX8_turn 39 = .ok (.istore 4, 2) := by decide +kernel
theorem dX8_turn_41 : decode cX8_turn 41 = .ok (.aload_n 0, 1) := by decide +kernel
theorem dX8_turn_42 : decode cX8_turn 42 = .ok (.getfield 183, 3) := by decide +kernel
theorem dX8_turn_45 : decode cX8_turn 45 = .ok (.iconst (-1), 1) := by decide +kernel
theorem dX8_turn_46 : decode cX8_turn 46 = .ok (.if_icmp .eq 15, 3) := by decide +kernel
theorem dX8_turn_49 : decode cX8_turn 49 = .ok (.aload_n 0, 1) := by decide +kernel
theorem dX8_turn_50 : decode cX8_turn 50 = .ok (.getfield 183, 3) := by decide +kernel
theorem dX8_turn_53 : decode cX8_turn 53 = .ok (.iload_n 3, 1) := by decide +kernel
theorem dX8_turn_54 : decode cX8_turn 54 = .ok (.if_icmp .ge 7, 3) := by decide +kernel
theorem dX8_turn_57 : decode cX8_turn 57 = .ok (.iconst 1, 1) := by decide +kernel
theorem dX8_turn_58 : decode cX8_turn 58 = .ok (.goto 4, 3) := by decide +kernel
theorem dX8_turn_61 : decode cX8_turn 61 = .ok (.iconst 0, 1) := by decide +kernel
theorem dX8_turn_62 : decode cX8_turn 62 = .ok (.istore 5, 2) := by decide +kernel
theorem dX8_turn_64 : decode cX8_turn 64 = .ok (.iload 5, 2) := by decide +kernel
theorem dX8_turn_66 : decode cX8_turn 66 = .ok (.ifCond .eq 31, 3) := by decide +kernel
theorem dX8_turn_69 : decode cX8_turn 69 = .ok (.iload 4, 2) := by decide +kernel
theorem dX8_turn_71 : decode cX8_turn 71 = .ok (.iload_n 3, 1) := by decide +kernel
theorem dX8_turn_72 : decode cX8_turn 72 = .ok (.iadd, 1) := by decide +kernel
theorem dX8_turn_73 : decode cX8_turn 73 = .ok (.aload_n 0, 1) := by decide +kernel
theorem dX8_turn_74 : decode cX8_turn 74 = .ok (.getfield 183, 3) := by decide +kernel
theorem dX8_turn_77 : decode cX8_turn 77 = .ok (.isub, 1) := by decide +kernel
theorem dX8_turn_78 : decode cX8_turn 78 = .ok (.aload_n 0, 1) := by decide +kernel
theorem dX8_turn_79 : decode cX8_turn 79 = .ok (.getfield 33, 3) := by decide +kernel
theorem dX8_turn_82 : decode cX8_turn 82 = .ok (.aload_n 0, 1) := by decide +kernel
theorem dX8_turn_83 : decode cX8_turn 83 = .ok (.getfield 183, 3) := by decide +kernel
theorem dX8_turn_86 : decode cX8_turn 86 = .ok (.iaload, 1) := by decide +kernel
theorem dX8_turn_87 : decode cX8_turn 87 = .ok (.isub, 1) := by decide +kernel
theorem dX8_turn_88 : decode cX8_turn 88 = .ok (.aload_n 0, 1) := by decide +kernel
theorem dX8_turn_89 : decode cX8_turn 89 = .ok (.getfield 13, 3) := by decide +kernel
theorem dX8_turn_92 : decode cX8_turn 92 = .ok (.iconst 4, 1) := by decide +kernel
theorem dX8_turn_93 : decode cX8_turn 93 = .ok (.iaload, 1) := by decide +kernel
theorem dX8_turn_94 : decode cX8_turn 94 = .ok (.if_icmp .ge 7, 3) := by decide +kernel
theorem dX8_turn_97 : decode cX8_turn 97 = .ok (.iconst 1, 1) := by decide +kernel
theorem dX8_turn_98 : decode cX8_turn 98 = .ok (.goto 4, 3) := by decide +kernel
theorem dX8_turn_101 : decode cX8_turn 101 = .ok (.iconst 0, 1) := by decide +kernel
theorem dX8_turn_102 : decode cX8_turn 102 = .ok (.istore 6, 2) := by decide +kernel
theorem dX8_turn_104 : decode cX8_turn 104 = .ok (.iload 6, 2) := by decide +kernel
theorem dX8_turn_106 : decode cX8_turn 106 = .ok (.ifCond .eq 15, 3) := by decide +kernel
theorem dX8_turn_109 : decode cX8_turn 109 = .ok (.iload 4, 2) := by decide +kernel
theorem dX8_turn_111 : decode cX8_turn 111 = .ok (.iload_n 3, 1) := by decide +kernel
theorem dX8_turn_112 : decode cX8_turn 112 = .ok (.iadd, 1) := by decide +kernel
theorem dX8_turn_113 : decode cX8_turn 113 = .ok (.iload_n 1, 1) := by decide +kernel
theorem dX8_turn_114 : decode cX8_turn 114 = .ok (.if_icmp .gt 7, 3) := by decide +kernel
theorem dX8_turn_117 : decode cX8_turn 117 = .ok (.iload_n 3, 1) := by decide +kernel
theorem dX8_turn_118 : decode cX8_turn 118 = .ok (.goto 4, 3) := by decide +kernel
theorem dX8_turn_121 : decode cX8_turn 121 = .ok (.iload_n 2, 1) := by decide +kernel
theorem dX8_turn_122 : decode cX8_turn 122 = .ok (.istore_n 2, 1) := by decide +kernel
theorem dX8_turn_123 : decode cX8_turn 123 = .ok (.iinc 3 1, 3) := by decide +kernel
theorem dX8_turn_126 : decode cX8_turn 126 = .ok (.goto (-103), 3) := by decide +kernel
theorem dX8_turn_129 : decode cX8_turn 129 = .ok (.iload_n 2, 1) := by decide +kernel
theorem dX8_turn_130 : decode cX8_turn 130 = .ok (.ireturn, 1) := by decide +kernel
set_option maxRecDepth 20000 in
theorem ggX8_costOf_X8_copy : GoodIn wsX8_costOf wsX8_copy := goodIn_r _ [8, 9, 36, 37, 38, 39, 40, 41, 42, 43, 44, 45, 46, 47, 48, 49, 50, 51, 52, 53, 54, 55, 56, 57, 58, 59, 60, 61, 62, 63] (by decide +kernel) (by decide +kernel)
set_option maxRecDepth 20000 in
theorem gX8_costOf_X8_copy : GoodIn wsX8_costOf (wsV RX8 204 RX8 yX8_copy wsX8_copy) := goodIn_app (goodIn_of _ (by decide +kernel)) ggX8_costOf_X8_copy
set_option maxRecDepth 20000 in
theorem ggX8_costOf_X8_forceNow : GoodIn wsX8_costOf wsX8_forceNow := goodIn_r _ [13, 1, 9, 14, 15, 16, 7, 17, 36, 37, 38, 39, 40, 41, 42, 43, 44, 45, 46, 47, 48, 49, 50, 51, 52, 53, 54, 55, 56, 57, 58, 59, 60, 61, 62, 63] (by decide +kernel) (by decide +kernel)
set_option maxRecDepth 20000 in
theorem gX8_costOf_X8_forceNow : GoodIn wsX8_costOf (wsV RX8 141 RX8 yX8_forceNow wsX8_forceNow) := goodIn_app (goodIn_of _ (by decide +kernel)) ggX8_costOf_X8_forceNow
set_option maxRecDepth 20000 in
theorem ggX8_costOf_X8_goes : GoodIn wsX8_costOf wsX8_goes := goodIn_r _ [21, 2, 22, 23, 3, 9, 1, 24, 36, 37, 38, 39, 40, 41, 42, 43, 44, 45, 46, 47, 48, 49, 50, 51, 52, 53, 54, 55, 56, 57, 58, 59, 60, 61, 62, 63] (by decide +kernel) (by decide +kernel)
set_option maxRecDepth 20000 in
theorem gX8_costOf_X8_goes : GoodIn wsX8_costOf (wsV RX8 190 RX8 yX8_goes wsX8_goes) := goodIn_app (goodIn_of _ (by decide +kernel)) ggX8_costOf_X8_goes
set_option maxRecDepth 20000 in
theorem ggX8_costOf_X8_nightOf : GoodIn wsX8_costOf wsX8_nightOf := goodIn_r _ [28, 3, 9, 29, 30, 31, 7, 32, 33, 34, 35, 36, 37, 38, 39, 40, 41, 42, 43, 44, 45, 46, 47, 48, 49, 50, 51, 52, 53, 54, 55, 56, 57, 58, 59, 60, 61, 62, 63] (by decide +kernel) (by decide +kernel)
set_option maxRecDepth 20000 in
theorem gX8_costOf_X8_nightOf : GoodIn wsX8_costOf (wsV RX8 165 RX8 yX8_nightOf wsX8_nightOf) := goodIn_app (goodIn_of _ (by decide +kernel)) ggX8_costOf_X8_nightOf
theorem dX8_costOf_0 : decode cX8_costOf 0 = .ok (.aload_n 0, 1) := by decide +kernel
theorem dX8_costOf_1 : decode cX8_costOf 1 = .ok (.iconst 0, 1) := by decide +kernel
theorem dX8_costOf_2 : decode cX8_costOf 2 = .ok (.bipush 51, 2) := by decide +kernel
theorem dX8_costOf_4 : decode cX8_costOf 4 = .ok (.invokevirtual 204, 3) := by decide +kernel
theorem dX8_costOf_7 : decode cX8_costOf 7 = .ok (.aload_n 0, 1) := by decide +kernel
theorem dX8_costOf_8 : decode cX8_costOf 8 = .ok (.getfield 13, 3) := by decide +kernel
theorem dX8_costOf_11 : decode cX8_costOf 11 = .ok (.bipush 6, 2) := by decide +kernel
theorem dX8_costOf_13 : decode cX8_costOf 13 = .ok (.iaload, 1) := by decide +kernel
theorem dX8_costOf_14 : decode cX8_costOf 14 = .ok (.istore 5, 2) := by decide +kernel
theorem dX8_costOf_16 : decode cX8_costOf 16 = .ok (.iconst 0, 1) := by decide +kernel
theorem dX8_costOf_17 : decode cX8_costOf 17 = .ok (.istore 6, 2) := by decide +kernel
theorem dX8_costOf_19 : decode cX8_costOf 19 = .ok (.aload_n 0, 1) := by decide +kernel
theorem dX8_costOf_20 : decode cX8_costOf 20 = .ok (.invokevirtual 141, 3) := by decide +kernel
theorem dX8_costOf_23 : decode cX8_costOf 23 = .ok (.istore 7, 2) := by decide +kernel
theorem dX8_costOf_25 : decode cX8_costOf 25 = .ok (.iconst 0, 1) := by decide +kernel
theorem dX8_costOf_26 : decode cX8_costOf 26 = .ok (.istore 8, 2) := by decide +kernel
theorem dX8_costOf_28 : decode cX8_costOf 28 = .ok (.iload 8, 2) := by decide +kernel
theorem dX8_costOf_30 : decode cX8_costOf 30 = .ok (.iload_n 2, 1) := by decide +kernel
theorem dX8_costOf_31 : decode cX8_costOf 31 = .ok (.if_icmp .ge 109, 3) := by decide +kernel
theorem dX8_costOf_34 : decode cX8_costOf 34 = .ok (.iload 6, 2) := by decide +kernel
theorem dX8_costOf_36 : decode cX8_costOf 36 = .ok (.iload 5, 2) := by decide +kernel
theorem dX8_costOf_38 : decode cX8_costOf 38 = .ok (.ifCond .ne 13, 3) := by decide +kernel
theorem dX8_costOf_41 : decode cX8_costOf 41 = .ok (.aload_n 0, 1) := by decide +kernel
theorem dX8_costOf_42 : decode cX8_costOf 42 = .ok (.getfield 13, 3) := by decide +kernel
theorem dX8_costOf_45 : decode cX8_costOf 45 = .ok (.bipush 8, 2) := by decide +kernel
theorem dX8_costOf_47 : decode cX8_costOf 47 = .ok (.iaload, 1) := by decide +kernel
theorem dX8_costOf_48 : decode cX8_costOf 48 = .ok (.goto 4, 3) := by decide +kernel
theorem dX8_costOf_51 : decode cX8_costOf 51 = .ok (.iconst 0, 1) := by decide +kernel
theorem dX8_costOf_52 : decode cX8_costOf 52 = .ok (.iadd, 1) := by decide +kernel
theorem dX8_costOf_53 : decode cX8_costOf 53 = .ok (.istore 6, 2) := by decide +kernel
theorem dX8_costOf_55 : decode cX8_costOf 55 = .ok (.iload 5, 2) := by decide +kernel
theorem dX8_costOf_57 : decode cX8_costOf 57 = .ok (.iload 5, 2) := by decide +kernel
theorem dX8_costOf_59 : decode cX8_costOf 59 = .ok (.ifCond .ne 7, 3) := by decide +kernel
theorem dX8_costOf_62 : decode cX8_costOf 62 = .ok (.iconst 0, 1) := by decide +kernel
theorem dX8_costOf_63 : decode cX8_costOf 63 = .ok (.goto 4, 3) := by decide +kernel
theorem dX8_costOf_66 : decode cX8_costOf 66 = .ok (.iconst 1, 1) := by decide +kernel
theorem dX8_costOf_67 : decode cX8_costOf 67 = .ok (.isub, 1) := by decide +kernel
theorem dX8_costOf_68 : decode cX8_costOf 68 = .ok (.istore 5, 2) := by decide +kernel
theorem dX8_costOf_70 : decode cX8_costOf 70 = .ok (.iload_n 1, 1) := by decide +kernel
theorem dX8_costOf_71 : decode cX8_costOf 71 = .ok (.iload 8, 2) := by decide +kernel
theorem dX8_costOf_73 : decode cX8_costOf 73 = .ok (.ishr, 1) := by decide +kernel
theorem dX8_costOf_74 : decode cX8_costOf 74 = .ok (.iconst 1, 1) := by decide +kernel
theorem dX8_costOf_75 : decode cX8_costOf 75 = .ok (.iand, 1) := by decide +kernel
theorem dX8_costOf_76 : decode cX8_costOf 76 = .ok (.iconst 1, 1) := by decide +kernel
theorem dX8_costOf_77 : decode cX8_costOf 77 = .ok (.if_icmp .ne 49, 3) := by decide +kernel
theorem dX8_costOf_80 : decode cX8_costOf 80 = .ok (.iload 6, 2) := by decide +kernel
theorem dX8_costOf_82 : decode cX8_costOf 82 = .ok (.aload_n 0, 1) := by decide +kernel
theorem dX8_costOf_83 : decode cX8_costOf 83 = .ok (.getfield 13, 3) := by decide +kernel
theorem dX8_costOf_86 : decode cX8_costOf 86 = .ok (.bipush 7, 2) := by decide +kernel
theorem dX8_costOf_88 : decode cX8_costOf 88 = .ok (.iaload, 1) := by decide +kernel
theorem dX8_costOf_89 : decode cX8_costOf 89 = .ok (.iadd, 1) := by decide +kernel
theorem dX8_costOf_90 : decode cX8_costOf 90 = .ok (.istore 6, 2) := by decide +kernel
theorem dX8_costOf_92 : decode cX8_costOf 92 = .ok (.aload_n 0, 1) := by decide +kernel
theorem dX8_costOf_93 : decode cX8_costOf 93 = .ok (.bipush 51, 2) := by decide +kernel
theorem dX8_costOf_95 : decode cX8_costOf 95 = .ok (.iload_n 3, 1) := by decide +kernel
theorem dX8_costOf_96 : decode cX8_costOf 96 = .ok (.iload 7, 2) := by decide +kernel
theorem dX8_costOf_98 : decode cX8_costOf 98 = .ok (.invokevirtual 190, 3) := by decide +kernel
theorem dX8_costOf_101 : decode cX8_costOf 101 = .ok (.aload_n 0, 1) := by decide +kernel
theorem dX8_costOf_102 : decode cX8_costOf 102 = .ok (.getfield 177, 3) := by decide +kernel
theorem dX8_costOf_105 : decode cX8_costOf 105 = .ok (.aload_n 0, 1) := by decide +kernel
theorem dX8_costOf_106 : decode cX8_costOf 106 = .ok (.getfield 60, 3) := by decide +kernel
theorem dX8_costOf_109 : decode cX8_costOf 109 = .ok (.if_icmp .ne 13, 3) := by decide +kernel
theorem dX8_costOf_112 : decode cX8_costOf 112 = .ok (.aload_n 0, 1) := by decide +kernel
theorem dX8_costOf_113 : decode cX8_costOf 113 = .ok (.getfield 13, 3) := by decide +kernel
theorem dX8_costOf_116 : decode cX8_costOf 116 = .ok (.bipush 6, 2) := by decide +kernel
theorem dX8_costOf_118 : decode cX8_costOf 118 = .ok (.iaload, 1) := by decide +kernel
theorem dX8_costOf_119 : decode cX8_costOf 119 = .ok (.goto 5, 3) := by decide +kernel
theorem dX8_costOf_122 : decode cX8_costOf 122 = .ok (.iload 5, 2) := by decide +kernel
theorem dX8_costOf_124 : decode cX8_costOf 124 = .ok (.istore 5, 2) := by decide +kernel
theorem dX8_costOf_126 : decode cX8_costOf 126 = .ok (.aload_n 0, 1) := by decide +kernel
theorem dX8_costOf_127 : decode cX8_costOf 127 = .ok (.bipush 51, 2) := by decide +kernel
theorem dX8_costOf_129 : decode cX8_costOf 129 = .ok (.iload 4, 2) := by decide +kernel
theorem dX8_costOf_131 : decode cX8_costOf 131 = .ok (.invokevirtual 165, 3) := by decide +kernel
theorem dX8_costOf_134 : decode cX8_costOf 134 = .ok (.iinc 8 1, 3) := by decide +kernel
theorem dX8_costOf_137 : decode cX8_costOf 137 = .ok (.goto (-109), 3) := by decide +kernel
theorem dX8_costOf_140 : decode cX8_costOf 140 = .ok (.iload 6, 2) := by decide +kernel
theorem dX8_costOf_142 : decode cX8_costOf 142 = .ok (.ireturn, 1) := by decide +kernel
set_option maxRecDepth 20000 in
theorem ggX8_plan_X8_in : GoodIn wsX8_plan wsX8_in := goodIn_r _ [10] (by decide +kernel) (by decide +kernel)
set_option maxRecDepth 20000 in
theorem gX8_plan_X8_in : GoodIn wsX8_plan (va_wsS RX8 63 yX8_in wsX8_in) := goodIn_app (goodIn_of _ (by decide +kernel)) ggX8_plan_X8_in
set_option maxRecDepth 20000 in
theorem ggX8_plan_X8_isTime : GoodIn wsX8_plan wsX8_isTime := goodIn_r _ [13, 14, 7, 8, 9, 10] (by decide +kernel) (by decide +kernel)
set_option maxRecDepth 20000 in
theorem gX8_plan_X8_isTime : GoodIn wsX8_plan (va_wsS RX8 186 yX8_isTime wsX8_isTime) := goodIn_app (goodIn_of _ (by decide +kernel)) ggX8_plan_X8_isTime
set_option maxRecDepth 20000 in
theorem ggX8_plan_X8_costOf : GoodIn wsX8_plan wsX8_costOf := goodIn_r _ [18, 19, 20, 4, 21, 22, 23, 9, 24, 25, 26, 27, 28, 29, 30, 31, 32, 33, 34, 35, 36, 37, 38, 39, 40, 41, 42, 43, 44, 45, 46, 47, 48, 49, 50, 51, 52, 53, 54, 55, 56, 57, 58, 59, 60, 61, 62, 63, 64, 65, 66, 67, 68, 69, 70, 71, 72, 73, 74, 75, 76, 77, 78, 79] (by decide +kernel) (by decide +kernel)
set_option maxRecDepth 20000 in
theorem gX8_plan_X8_costOf : GoodIn wsX8_plan (wsV RX8 213 RX8 yX8_costOf wsX8_costOf) := goodIn_app (goodIn_of _ (by decide +kernel)) ggX8_plan_X8_costOf
theorem dX8_plan_0 : decode cX8_plan 0 = .ok (.iload_n 1, 1) := by decide +kernel
theorem dX8_plan_1 : decode cX8_plan 1 = .ok (.i2l, 1) := by decide +kernel
theorem dX8_plan_2 : decode cX8_plan 2 = .ok (.lconst 1, 1) := by decide +kernel
theorem dX8_plan_3 : decode cX8_plan 3 = .ok (.ldc2_w 210, 3) := by decide +kernel
theorem dX8_plan_6 : decode cX8_plan 6 = .ok (.invokestatic 63, 3) := by decide +kernel
theorem dX8_plan_9 : decode cX8_plan 9 = .ok (.ifCond .eq 33, 3) := by decide +kernel
theorem dX8_plan_12 : decode cX8_plan 12 = .ok (.iload_n 2, 1) := by decide +kernel
theorem dX8_plan_13 : decode cX8_plan 13 = .ok (.invokestatic 186, 3) := by decide +kernel
theorem dX8_plan_16 : decode cX8_plan 16 = .ok (.ifCond .eq 26, 3) := by decide +kernel
theorem dX8_plan_19 : decode cX8_plan 19 = .ok (.iload_n 3, 1) := by decide +kernel
theorem dX8_plan_20 : decode cX8_plan 20 = .ok (.i2l, 1) := by decide +kernel
theorem dX8_plan_21 : decode cX8_plan 21 = .ok (.lconst 0, 1) := by decide +kernel
theorem dX8_plan_22 : decode cX8_plan 22 = .ok (.ldc2_w 153, 3) := by decide +kernel
theorem dX8_plan_25 : decode cX8_plan 25 = .ok (.invokestatic 63, 3) := by decide +kernel
theorem dX8_plan_28 : decode cX8_plan 28 = .ok (.ifCond .eq 14, 3) := by decide +kernel
theorem dX8_plan_31 : decode cX8_plan 31 = .ok (.iload 4, 2) := by decide +kernel
theorem dX8_plan_33 : decode cX8_plan 33 = .ok (.i2l, 1) := by decide +kernel
theorem dX8_plan_34 : decode cX8_plan 34 = .ok (.lconst 0, 1) := by decide +kernel
theorem dX8_plan_35 : decode cX8_plan 35 = .ok (.lconst 1, 1) := by decide +kernel
theorem dX8_plan_36 : decode cX8_plan 36 = .ok (.invokestatic 63, 3) := by decide +kernel
theorem dX8_plan_39 : decode cX8_plan 39 = .ok (.ifCond .ne 6, 3) := by decide +kernel
theorem dX8_plan_42 : decode cX8_plan 42 = .ok (.ldc 83, 2) := by decide +kernel
theorem dX8_plan_44 : decode cX8_plan 44 = .ok (.ireturn, 1) := by decide +kernel
theorem dX8_plan_45 : decode cX8_plan 45 = .ok (.aload_n 0, 1) := by decide +kernel
theorem dX8_plan_46 : decode cX8_plan 46 = .ok (.getfield 60, 3) := by decide +kernel
theorem dX8_plan_49 : decode cX8_plan 49 = .ok (.ifCond .ne 6, 3) := by decide +kernel
theorem dX8_plan_52 : decode cX8_plan 52 = .ok (.ldc 189, 2) := by decide +kernel
theorem dX8_plan_54 : decode cX8_plan 54 = .ok (.ireturn, 1) := by decide +kernel
theorem dX8_plan_55 : decode cX8_plan 55 = .ok (.iconst 0, 1) := by decide +kernel
theorem dX8_plan_56 : decode cX8_plan 56 = .ok (.istore 5, 2) := by decide +kernel
theorem dX8_plan_58 : decode cX8_plan 58 = .ok (.ldc 212, 2) := by decide +kernel
theorem dX8_plan_60 : decode cX8_plan 60 = .ok (.istore 6, 2) := by decide +kernel
theorem dX8_plan_62 : decode cX8_plan 62 = .ok (.iconst 0, 1) := by decide +kernel
theorem dX8_plan_63 : decode cX8_plan 63 = .ok (.istore 7, 2) := by decide +kernel
theorem dX8_plan_65 : decode cX8_plan 65 = .ok (.iload 7, 2) := by decide +kernel
theorem dX8_plan_67 : decode cX8_plan 67 = .ok (.iconst 1, 1) := by decide +kernel
theorem dX8_plan_68 : decode cX8_plan 68 = .ok (.iload_n 1, 1) := by decide +kernel
theorem dX8_plan_69 : decode cX8_plan 69 = .ok (.ishl, 1) := by decide +kernel
theorem dX8_plan_70 : decode cX8_plan 70 = .ok (.if_icmp .ge 52, 3) := by decide +kernel
theorem dX8_plan_73 : decode cX8_plan 73 = .ok (.aload_n 0, 1) := by decide +kernel
theorem dX8_plan_74 : decode cX8_plan 74 = .ok (.iload 7, 2) := by decide +kernel
theorem dX8_plan_76 : decode cX8_plan 76 = .ok (.iload_n 1, 1) := by decide +kernel
theorem dX8_plan_77 : decode cX8_plan 77 = .ok (.iload_n 2, 1) := by decide +kernel
theorem dX8_plan_78 : decode cX8_plan 78 = .ok (.iload_n 3, 1) := by decide +kernel
theorem dX8_plan_79 : decode cX8_plan 79 = .ok (.invokevirtual 213, 3) := by decide +kernel
theorem dX8_plan_82 : decode cX8_plan 82 = .ok (.istore 8, 2) := by decide +kernel
theorem dX8_plan_84 : decode cX8_plan 84 = .ok (.iload 8, 2) := by decide +kernel
theorem dX8_plan_86 : decode cX8_plan 86 = .ok (.iload 6, 2) := by decide +kernel
theorem dX8_plan_88 : decode cX8_plan 88 = .ok (.if_icmp .ge 8, 3) := by decide +kernel
theorem dX8_plan_91 : decode cX8_plan 91 = .ok (.iload 7, 2) := by decide +kernel
theorem dX8_plan_93 : decode cX8_plan 93 = .ok (.goto 5, 3) := by decide +kernel
theorem dX8_plan_96 : decode cX8_plan 96 = .ok (.iload 5, 2) := by decide +kernel
theorem dX8_plan_98 : decode cX8_plan 98 = .ok (.istore 5, 2) := by decide +kernel
theorem dX8_plan_100 : decode cX8_plan 100 = .ok (.iload 8, 2) := by decide +kernel
theorem dX8_plan_102 : decode cX8_plan 102 = .ok (.iload 6, 2) := by decide +kernel
theorem dX8_plan_104 : decode cX8_plan 104 = .ok (.if_icmp .ge 8, 3) := by decide +kernel
theorem dX8_plan_107 : decode cX8_plan 107 = .ok (.iload 8, 2) := by decide +kernel
theorem dX8_plan_109 : decode cX8_plan 109 = .ok (.goto 5, 3) := by decide +kernel
theorem dX8_plan_112 : decode cX8_plan 112 = .ok (.iload 6, 2) := by decide +kernel
theorem dX8_plan_114 : decode cX8_plan 114 = .ok (.istore 6, 2) := by decide +kernel
theorem dX8_plan_116 : decode cX8_plan 116 = .ok (.iinc 7 1, 3) := by decide +kernel
theorem dX8_plan_119 : decode cX8_plan 119 = .ok (.goto (-54), 3) := by decide +kernel
theorem dX8_plan_122 : decode cX8_plan 122 = .ok (.iload 4, 2) := by decide +kernel
theorem dX8_plan_124 : decode cX8_plan 124 = .ok (.ifCond .ne 8, 3) := by decide +kernel
theorem dX8_plan_127 : decode cX8_plan 127 = .ok (.iload 6, 2) := by decide +kernel
theorem dX8_plan_129 : decode cX8_plan 129 = .ok (.goto 5, 3) := by decide +kernel
theorem dX8_plan_132 : decode cX8_plan 132 = .ok (.iload 5, 2) := by decide +kernel
theorem dX8_plan_134 : decode cX8_plan 134 = .ok (.ireturn, 1) := by decide +kernel
set_option maxRecDepth 20000 in
theorem ggX8_lost_X8_in : GoodIn wsX8_lost wsX8_in := goodIn_r _ [10] (by decide +kernel) (by decide +kernel)
set_option maxRecDepth 20000 in
theorem gX8_lost_X8_in : GoodIn wsX8_lost (va_wsS RX8 63 yX8_in wsX8_in) := goodIn_app (goodIn_of _ (by decide +kernel)) ggX8_lost_X8_in
set_option maxRecDepth 20000 in
theorem ggX8_lost_X8_isTime : GoodIn wsX8_lost wsX8_isTime := goodIn_r _ [13, 14, 7, 8, 9, 10] (by decide +kernel) (by decide +kernel)
set_option maxRecDepth 20000 in
theorem gX8_lost_X8_isTime : GoodIn wsX8_lost (va_wsS RX8 186 yX8_isTime wsX8_isTime) := goodIn_app (goodIn_of _ (by decide +kernel)) ggX8_lost_X8_isTime
set_option maxRecDepth 20000 in
theorem ggX8_lost_X8_forceNow : GoodIn wsX8_lost wsX8_forceNow := goodIn_r _ [18, 19, 4, 20, 21, 22, 9, 23, 46, 47, 48, 49, 50, 51, 52, 53, 54, 55, 56, 57, 58, 59, 60, 61, 62, 63, 64, 65, 66, 67, 68, 69, 70, 71, 72, 73] (by decide +kernel) (by decide +kernel)
set_option maxRecDepth 20000 in
theorem gX8_lost_X8_forceNow : GoodIn wsX8_lost (wsV RX8 141 RX8 yX8_forceNow wsX8_forceNow) := goodIn_app (goodIn_of _ (by decide +kernel)) ggX8_lost_X8_forceNow
set_option maxRecDepth 20000 in
theorem ggX8_lost_X8_copy : GoodIn wsX8_lost wsX8_copy := goodIn_r _ [27, 4, 46, 47, 48, 49, 50, 51, 52, 53, 54, 55, 56, 57, 58, 59, 60, 61, 62, 63, 64, 65, 66, 67, 68, 69, 70, 71, 72, 73] (by decide +kernel) (by decide +kernel)
set_option maxRecDepth 20000 in
theorem gX8_lost_X8_copy : GoodIn wsX8_lost (wsV RX8 204 RX8 yX8_copy wsX8_copy) := goodIn_app (goodIn_of _ (by decide +kernel)) ggX8_lost_X8_copy
set_option maxRecDepth 20000 in
theorem ggX8_lost_X8_goes : GoodIn wsX8_lost wsX8_goes := goodIn_r _ [31, 5, 32, 33, 6, 4, 19, 34, 46, 47, 48, 49, 50, 51, 52, 53, 54, 55, 56, 57, 58, 59, 60, 61, 62, 63, 64, 65, 66, 67, 68, 69, 70, 71, 72, 73] (by decide +kernel) (by decide +kernel)
set_option maxRecDepth 20000 in
theorem gX8_lost_X8_goes : GoodIn wsX8_lost (wsV RX8 190 RX8 yX8_goes wsX8_goes) := goodIn_app (goodIn_of _ (by decide +kernel)) ggX8_lost_X8_goes
set_option maxRecDepth 20000 in
theorem ggX8_lost_X8_nightOf : GoodIn wsX8_lost wsX8_nightOf := goodIn_r _ [38, 6, 4, 39, 40, 41, 9, 42, 43, 44, 45, 46, 47, 48, 49, 50, 51, 52, 53, 54, 55, 56, 57, 58, 59, 60, 61, 62, 63, 64, 65, 66, 67, 68, 69, 70, 71, 72, 73] (by decide +kernel) (by decide +kernel)
set_option maxRecDepth 20000 in
theorem gX8_lost_X8_nightOf : GoodIn wsX8_lost (wsV RX8 165 RX8 yX8_nightOf wsX8_nightOf) := goodIn_app (goodIn_of _ (by decide +kernel)) ggX8_lost_X8_nightOf
theorem dX8_lost_0 : decode cX8_lost 0 = .ok (.iload_n 1, 1) := by decide +kernel
theorem dX8_lost_1 : decode cX8_lost 1 = .ok (.i2l, 1) := by decide +kernel
theorem dX8_lost_2 : decode cX8_lost 2 = .ok (.lconst 0, 1) := by decide +kernel
theorem dX8_lost_3 : decode cX8_lost 3 = .ok (.ldc2_w 153, 3) := by decide +kernel
theorem dX8_lost_6 : decode cX8_lost 6 = .ok (.invokestatic 63, 3) := by decide +kernel
theorem dX8_lost_9 : decode cX8_lost 9 = .ok (.ifCond .eq 10, 3) := by decide +kernel
theorem dX8_lost_12 : decode cX8_lost 12 = .ok (.iload_n 2, 1) := by decide +kernel
theorem dX8_lost_13 : decode cX8_lost 13 = .ok (.invokestatic 186, 3) := by decide +kernel
theorem dX8_lost_16 : decode cX8_lost 16 = .ok (.ifCond .ne 6, 3) := by decide +kernel
theorem dX8_lost_19 : decode cX8_lost 19 = .ok (.ldc 83, 2) := by decide +kernel
theorem dX8_lost_21 : decode cX8_lost 21 = .ok (.ireturn, 1) := by decide +kernel
theorem dX8_lost_22 : decode cX8_lost 22 = .ok (.aload_n 0, 1) := by decide +kernel
theorem dX8_lost_23 : decode cX8_lost 23 = .ok (.invokevirtual 141, 3) := by decide +kernel
theorem dX8_lost_26 : decode cX8_lost 26 = .ok (.istore_n 3, 1) := by decide +kernel
theorem dX8_lost_27 : decode cX8_lost 27 = .ok (.aload_n 0, 1) := by decide +kernel
theorem dX8_lost_28 : decode cX8_lost 28 = .ok (.iconst 0, 1) := by decide +kernel
theorem dX8_lost_29 : decode cX8_lost 29 = .ok (.bipush 51, 2) := by decide +kernel
theorem dX8_lost_31 : decode cX8_lost 31 = .ok (.invokevirtual 204, 3) := by decide +kernel
theorem dX8_lost_34 : decode cX8_lost 34 = .ok (.iconst 0, 1) := by decide +kernel
theorem dX8_lost_35 : decode cX8_lost 35 = .ok (.istore 4, 2) := by decide +kernel
theorem dX8_lost_37 : decode cX8_lost 37 = .ok (.iload 4, 2) := by decide +kernel
theorem dX8_lost_39 : decode cX8_lost 39 = .ok (.bipush 60, 2) := by decide +kernel
theorem dX8_lost_41 : decode cX8_lost 41 = .ok (.if_icmp .gt 104, 3) := by decide +kernel
theorem dX8_lost_44 : decode cX8_lost 44 = .ok (.iconst 0, 1) := by decide +kernel
theorem dX8_lost_45 : decode cX8_lost 45 = .ok (.istore 5, 2) := by decide +kernel
theorem dX8_lost_47 : decode cX8_lost 47 = .ok (.iload 5, 2) := by decide +kernel
theorem dX8_lost_49 : decode cX8_lost 49 = .ok (.bipush 51, 2) := by decide +kernel
theorem dX8_lost_51 : decode cX8_lost 51 = .ok (.if_icmp .ge 26, 3) := by decide +kernel
theorem dX8_lost_54 : decode cX8_lost 54 = .ok (.aload_n 0, 1) := by decide +kernel
theorem dX8_lost_55 : decode cX8_lost 55 = .ok (.getfield 36, 3) := by decide +kernel
theorem dX8_lost_58 : decode cX8_lost 58 = .ok (.iload 5, 2) := by decide +kernel
theorem dX8_lost_60 : decode cX8_lost 60 = .ok (.aload_n 0, 1) := by decide +kernel
theorem dX8_lost_61 : decode cX8_lost 61 = .ok (.getfield 7, 3) := by decide +kernel
theorem dX8_lost_64 : decode cX8_lost 64 = .ok (.bipush 51, 2) := by decide +kernel
theorem dX8_lost_66 : decode cX8_lost 66 = .ok (.iload 5, 2) := by decide +kernel
theorem dX8_lost_68 : decode cX8_lost 68 = .ok (.iadd, 1) := by decide +kernel
theorem dX8_lost_69 : decode cX8_lost 69 = .ok (.iaload, 1) := by decide +kernel
theorem dX8_lost_70 : decode cX8_lost 70 = .ok (.iastore, 1) := by decide +kernel
theorem dX8_lost_71 : decode cX8_lost 71 = .ok (.iinc 5 1, 3) := by decide +kernel
theorem dX8_lost_74 : decode cX8_lost 74 = .ok (.goto (-27), 3) := by decide +kernel
theorem dX8_lost_77 : decode cX8_lost 77 = .ok (.aload_n 0, 1) := by decide +kernel
theorem dX8_lost_78 : decode cX8_lost 78 = .ok (.bipush 51, 2) := by decide +kernel
theorem dX8_lost_80 : decode cX8_lost 80 = .ok (.iload_n 2, 1) := by decide +kernel
theorem dX8_lost_81 : decode cX8_lost 81 = .ok (.iload_n 3, 1) := by decide +kernel
theorem dX8_lost_82 : decode cX8_lost 82 = .ok (.invokevirtual 190, 3) := by decide +kernel
theorem dX8_lost_85 : decode cX8_lost 85 = .ok (.aload_n 0, 1) := by decide +kernel
theorem dX8_lost_86 : decode cX8_lost 86 = .ok (.getfield 177, 3) := by decide +kernel
theorem dX8_lost_89 : decode cX8_lost 89 = .ok (.aload_n 0, 1) := by decide +kernel
theorem dX8_lost_90 : decode cX8_lost 90 = .ok (.getfield 60, 3) := by decide +kernel
theorem dX8_lost_93 : decode cX8_lost 93 = .ok (.if_icmp .ge 6, 3) := by decide +kernel
theorem dX8_lost_96 : decode cX8_lost 96 = .ok (.iload 4, 2) := by decide +kernel
theorem dX8_lost_98 : decode cX8_lost 98 = .ok (.ireturn, 1) := by decide +kernel
theorem dX8_lost_99 : decode cX8_lost 99 = .ok (.iconst 0, 1) := by decide +kernel
theorem dX8_lost_100 : decode cX8_lost 100 = .ok (.istore 5, 2) := by decide +kernel
theorem dX8_lost_102 : decode cX8_lost 102 = .ok (.iload 5, 2) := by decide +kernel
theorem dX8_lost_104 : decode cX8_lost 104 = .ok (.bipush 51, 2) := by decide +kernel
theorem dX8_lost_106 : decode cX8_lost 106 = .ok (.if_icmp .ge 26, 3) := by decide +kernel
theorem dX8_lost_109 : decode cX8_lost 109 = .ok (.aload_n 0, 1) := by decide +kernel
theorem dX8_lost_110 : decode cX8_lost 110 = .ok (.getfield 7, 3) := by decide +kernel
theorem dX8_lost_113 : decode cX8_lost 113 = .ok (.bipush 51, 2) := by decide +kernel
theorem dX8_lost_115 : decode cX8_lost 115 = .ok (.iload 5, 2) := by decide +kernel
theorem dX8_lost_117 : decode cX8_lost 117 = .ok (.iadd, 1) := by decide +kernel
theorem dX8_lost_118 : decode cX8_lost 118 = .ok (.aload_n 0, 1) := by decide +kernel
theorem dX8_lost_119 : decode cX8_lost 119 = .ok (.getfield 36, 3) := by decide +kernel
theorem dX8_lost_122 : decode cX8_lost 122 = .ok (.iload 5, 2) := by decide +kernel
theorem dX8_lost_124 : decode cX8_lost 124 = .ok (.iaload, 1) := by decide +kernel
theorem dX8_lost_125 : decode cX8_lost 125 = .ok (.iastore, 1) := by decide +kernel
theorem dX8_lost_126 : decode cX8_lost 126 = .ok (.iinc 5 1, 3) := by decide +kernel
theorem dX8_lost_129 : decode cX8_lost 129 = .ok (.goto (-27), 3) := by decide +kernel
theorem dX8_lost_132 : decode cX8_lost 132 = .ok (.aload_n 0, 1) := by decide +kernel
theorem dX8_lost_133 : decode cX8_lost 133 = .ok (.bipush 51, 2) := by decide +kernel
theorem dX8_lost_135 : decode cX8_lost 135 = .ok (.iload_n 1, 1) := by decide +kernel
theorem dX8_lost_136 : decode cX8_lost 136 = .ok (.invokevirtual 165, 3) := by decide +kernel
theorem dX8_lost_139 : decode cX8_lost 139 = .ok (.iinc 4 1, 3) := by decide +kernel
theorem dX8_lost_142 : decode cX8_lost 142 = .ok (.goto (-105), 3) := by decide +kernel
theorem dX8_lost_145 : decode cX8_lost 145 = .ok (.iconst (-1), 1) := by decide +kernel
theorem dX8_lost_146 : decode cX8_lost 146 = .ok (.ireturn, 1) := by decide +kernel
set_option maxRecDepth 20000 in
theorem ggX8_odds_X8_in : GoodIn wsX8_odds wsX8_in := goodIn_r _ [12] (by decide +kernel) (by decide +kernel)
set_option maxRecDepth 20000 in
theorem gX8_odds_X8_in : GoodIn wsX8_odds (va_wsS RX8 63 yX8_in wsX8_in) := goodIn_app (goodIn_of _ (by decide +kernel)) ggX8_odds_X8_in
set_option maxRecDepth 20000 in
theorem ggX8_odds_X8_isTime : GoodIn wsX8_odds wsX8_isTime := goodIn_r _ [15, 16, 9, 10, 11, 12] (by decide +kernel) (by decide +kernel)
set_option maxRecDepth 20000 in
theorem gX8_odds_X8_isTime : GoodIn wsX8_odds (va_wsS RX8 186 yX8_isTime wsX8_isTime) := goodIn_app (goodIn_of _ (by decide +kernel)) ggX8_odds_X8_isTime
set_option maxRecDepth 20000 in
theorem ggX8_odds_X8_forceNow : GoodIn wsX8_odds wsX8_forceNow := goodIn_r _ [20, 21, 22, 23, 24, 25, 11, 26, 53, 54, 55, 56, 57, 58, 59, 60, 61, 62, 63, 64, 65, 66, 67, 68, 69, 70, 71, 72, 73, 74, 75, 76, 77, 78, 79, 80] (by decide +kernel) (by decide +kernel)
set_option maxRecDepth 20000 in
theorem gX8_odds_X8_forceNow : GoodIn wsX8_odds (wsV RX8 141 RX8 yX8_forceNow wsX8_forceNow) := goodIn_app (goodIn_of _ (by decide +kernel)) ggX8_odds_X8_forceNow
set_option maxRecDepth 20000 in
theorem ggX8_odds_X8_copy : GoodIn wsX8_odds wsX8_copy := goodIn_r _ [30, 22, 53, 54, 55, 56, 57, 58, 59, 60, 61, 62, 63, 64, 65, 66, 67, 68, 69, 70, 71, 72, 73, 74, 75, 76, 77, 78, 79, 80] (by decide +kernel) (by decide +kernel)
set_option maxRecDepth 20000 in
theorem gX8_odds_X8_copy : GoodIn wsX8_odds (wsV RX8 204 RX8 yX8_copy wsX8_copy) := goodIn_app (goodIn_of _ (by decide +kernel)) ggX8_odds_X8_copy
set_option maxRecDepth 20000 in
theorem ggX8_odds_X8_thawOf : GoodIn wsX8_odds wsX8_thawOf := goodIn_r _ [34, 8, 22, 35, 36, 37, 11, 38, 53, 54, 55, 56, 57, 58, 59, 60, 61, 62, 63, 64, 65, 66, 67, 68, 69, 70, 71, 72, 73, 74, 75, 76, 77, 78, 79, 80] (by decide +kernel) (by decide +kernel)
set_option maxRecDepth 20000 in
theorem gX8_odds_X8_thawOf : GoodIn wsX8_odds (wsV RX8 174 RX8 yX8_thawOf wsX8_thawOf) := goodIn_app (goodIn_of _ (by decide +kernel)) ggX8_odds_X8_thawOf
set_option maxRecDepth 20000 in
theorem ggX8_odds_X8_nightOf : GoodIn wsX8_odds wsX8_nightOf := goodIn_r _ [42, 8, 22, 35, 36, 37, 11, 38, 43, 44, 45, 53, 54, 55, 56, 57, 58, 59, 60, 61, 62, 63, 64, 65, 66, 67, 68, 69, 70, 71, 72, 73, 74, 75, 76, 77, 78, 79, 80] (by decide +kernel) (by decide +kernel)
set_option maxRecDepth 20000 in
theorem gX8_odds_X8_nightOf : GoodIn wsX8_odds (wsV RX8 165 RX8 yX8_nightOf wsX8_nightOf) := goodIn_app (goodIn_of _ (by decide +kernel)) ggX8_odds_X8_nightOf
set_option maxRecDepth 20000 in
theorem ggX8_odds_X8_goes : GoodIn wsX8_odds wsX8_goes := goodIn_r _ [49, 7, 50, 51, 8, 22, 21, 52, 53, 54, 55, 56, 57, 58, 59, 60, 61, 62, 63, 64, 65, 66, 67, 68, 69, 70, 71, 72, 73, 74, 75, 76, 77, 78, 79, 80] (by decide +kernel) (by decide +kernel)
set_option maxRecDepth 20000 in
theorem gX8_odds_X8_goes : GoodIn wsX8_odds (wsV RX8 190 RX8 yX8_goes wsX8_goes) := goodIn_app (goodIn_of _ (by decide +kernel)) ggX8_odds_X8_goes
theorem dX8_odds_0 : decode cX8_odds 0 = .ok (.iload_n 1, 1) := by decide +kernel
theorem dX8_odds_1 : decode cX8_odds 1 = .ok (.i2l, 1) := by decide +kernel
theorem dX8_odds_2 : decode cX8_odds 2 = .ok (.lconst 1, 1) := by decide +kernel
theorem dX8_odds_3 : decode cX8_odds 3 = .ok (.ldc2_w 210, 3) := by decide +kernel
theorem dX8_odds_6 : decode cX8_odds 6 = .ok (.invokestatic 63, 3) := by decide +kernel
theorem dX8_odds_9 : decode cX8_odds 9 = .ok (.ifCond .eq 48, 3) := by decide +kernel
theorem dX8_odds_12 : decode cX8_odds 12 = .ok (.iload_n 2, 1) := by decide +kernel
theorem dX8_odds_13 : decode cX8_odds 13 = .ok (.i2l, 1) := by decide +kernel
theorem dX8_odds_14 : decode cX8_odds 14 = .ok (.lconst 0, 1) := by decide +kernel
theorem dX8_odds_15 : decode cX8_odds 15 = .ok (.ldc2_w 153, 3) := by decide +kernel
theorem dX8_odds_18 : decode cX8_odds 18 = .ok (.invokestatic 63, 3) := by decide +kernel
theorem dX8_odds_21 : decode cX8_odds 21 = .ok (.ifCond .eq 36, 3) := by decide +kernel
theorem dX8_odds_24 : decode cX8_odds 24 = .ok (.iload_n 3, 1) := by decide +kernel
theorem dX8_odds_25 : decode cX8_odds 25 = .ok (.i2l, 1) := by decide +kernel
theorem dX8_odds_26 : decode cX8_odds 26 = .ok (.lconst 0, 1) := by decide +kernel
theorem dX8_odds_27 : decode cX8_odds 27 = .ok (.ldc2_w 172, 3) := by decide +kernel
theorem dX8_odds_30 : decode cX8_odds 30 = .ok (.invokestatic 63, 3) := by decide +kernel
theorem dX8_odds_33 : decode cX8_odds 33 = .ok (.ifCond .eq 24, 3) := by decide +kernel
theorem dX8_odds_36 : decode cX8_odds 36 = .ok (.iload 4, 2) := by decide +kernel
theorem dX8_odds_38 : decode cX8_odds 38 = .ok (.i2l, 1) := by decide +kernel
theorem dX8_odds_39 : decode cX8_odds 39 = .ok (.lconst 0, 1) := by decide +kernel
theorem dX8_odds_40 : decode cX8_odds 40 = .ok (.ldc2_w 217, 3) := by decide +kernel
theorem dX8_odds_43 : decode cX8_odds 43 = .ok (.invokestatic 63, 3) := by decide +kernel
theorem dX8_odds_46 : decode cX8_odds 46 = .ok (.ifCond .eq 11, 3) := by decide +kernel
theorem dX8_odds_49 : decode cX8_odds 49 = .ok (.iload 5, 2) := by decide +kernel
theorem dX8_odds_51 : decode cX8_odds 51 = .ok (.invokestatic 186, 3) := by decide +kernel
theorem dX8_odds_54 : decode cX8_odds 54 = .ok (.ifCond .ne 6, 3) := by decide +kernel
theorem dX8_odds_57 : decode cX8_odds 57 = .ok (.ldc 83, 2) := by decide +kernel
theorem dX8_odds_59 : decode cX8_odds 59 = .ok (.ireturn, 1) := by decide +kernel
theorem dX8_odds_60 : decode cX8_odds 60 = .ok (.aload_n 0, 1) := by decide +kernel
theorem dX8_odds_61 : decode cX8_odds 61 = .ok (.invokevirtual 141, 3) := by decide +kernel
theorem dX8_odds_64 : decode cX8_odds 64 = .ok (.istore 6, 2) := by decide +kernel
theorem dX8_odds_66 : decode cX8_odds 66 = .ok (.lconst 0, 1) := by decide +kernel
theorem dX8_odds_67 : decode cX8_odds 67 = .ok (.lstore 7, 2) := by decide +kernel
theorem dX8_odds_69 : decode cX8_odds 69 = .ok (.iconst 0, 1) := by decide +kernel
theorem dX8_odds_70 : decode cX8_odds 70 = .ok (.istore 9, 2) := by decide +kernel
theorem dX8_odds_72 : decode cX8_odds 72 = .ok (.iload 9, 2) := by decide +kernel
theorem dX8_odds_74 : decode cX8_odds 74 = .ok (.iconst 1, 1) := by decide +kernel
theorem dX8_odds_75 : decode cX8_odds 75 = .ok (.iload_n 1, 1) := by decide +kernel
theorem dX8_odds_76 : decode cX8_odds 76 = .ok (.ishl, 1) := by decide +kernel
theorem dX8_odds_77 : decode cX8_odds 77 = .ok (.if_icmp .ge 119, 3) := by decide +kernel
theorem dX8_odds_80 : decode cX8_odds 80 = .ok (.aload_n 0, 1) := by decide +kernel
theorem dX8_odds_81 : decode cX8_odds 81 = .ok (.iconst 0, 1) := by decide +kernel
theorem dX8_odds_82 : decode cX8_odds 82 = .ok (.bipush 51, 2) := by decide +kernel
theorem dX8_odds_84 : decode cX8_odds 84 = .ok (.invokevirtual 204, 3) := by decide +kernel
theorem dX8_odds_87 : decode cX8_odds 87 = .ok (.ldc2_w 219, 3) := by decide +kernel
theorem dX8_odds_90 : decode cX8_odds 90 = .ok (.lstore 10, 2) := by decide +kernel
theorem dX8_odds_92 : decode cX8_odds 92 = .ok (.iconst 0, 1) := by decide +kernel
theorem dX8_odds_93 : decode cX8_odds 93 = .ok (.istore 12, 2) := by decide +kernel
theorem dX8_odds_95 : decode cX8_odds 95 = .ok (.iload 12, 2) := by decide +kernel
theorem dX8_odds_97 : decode cX8_odds 97 = .ok (.iload_n 1, 1) := by decide +kernel
theorem dX8_odds_98 : decode cX8_odds 98 = .ok (.if_icmp .ge 60, 3) := by decide +kernel
theorem dX8_odds_101 : decode cX8_odds 101 = .ok (.lload 10, 2) := by decide +kernel
theorem dX8_odds_103 : decode cX8_odds 103 = .ok (.iload 4, 2) := by decide +kernel
theorem dX8_odds_105 : decode cX8_odds 105 = .ok (.i2l, 1) := by decide +kernel
theorem dX8_odds_106 : decode cX8_odds 106 = .ok (.lmul, 1) := by decide +kernel
theorem dX8_odds_107 : decode cX8_odds 107 = .ok (.ldc2_w 217, 3) := by decide +kernel
theorem dX8_odds_110 : decode cX8_odds 110 = .ok (.ldiv, 1) := by decide +kernel
theorem dX8_odds_111 : decode cX8_odds 111 = .ok (.lstore 13, 2) := by decide +kernel
theorem dX8_odds_113 : decode cX8_odds 113 = .ok (.iload 9, 2) := by decide +kernel
theorem dX8_odds_115 : decode cX8_odds 115 = .ok (.iload 12, 2) := by decide +kernel
theorem dX8_odds_117 : decode cX8_odds 117 = .ok (.ishr, 1) := by decide +kernel
theorem dX8_odds_118 : decode cX8_odds 118 = .ok (.iconst 1, 1) := by decide +kernel
theorem dX8_odds_119 : decode cX8_odds 119 = .ok (.iand, 1) := by decide +kernel
theorem dX8_odds_120 : decode cX8_odds 120 = .ok (.iconst 1, 1) := by decide +kernel
theorem dX8_odds_121 : decode cX8_odds 121 = .ok (.if_icmp .ne 17, 3) := by decide +kernel
theorem dX8_odds_124 : decode cX8_odds 124 = .ok (.lload 13, 2) := by decide +kernel
theorem dX8_odds_126 : decode cX8_odds 126 = .ok (.lstore 10, 2) := by decide +kernel
theorem dX8_odds_128 : decode cX8_odds 128 = .ok (.aload_n 0, 1) := by decide +kernel
theorem dX8_odds_129 : decode cX8_odds 129 = .ok (.bipush 51, 2) := by decide +kernel
theorem dX8_odds_131 : decode cX8_odds 131 = .ok (.iload_n 3, 1) := by decide +kernel
theorem dX8_odds_132 : decode cX8_odds 132 = .ok (.invokevirtual 174, 3) := by decide +kernel
theorem dX8_odds_135 : decode cX8_odds 135 = .ok (.goto 17, 3) := by decide +kernel
theorem dX8_odds_138 : decode cX8_odds 138 = .ok (.lload 10, 2) := by decide +kernel
theorem dX8_odds_140 : decode cX8_odds 140 = .ok (.lload 13, 2) := by decide +kernel
theorem dX8_odds_142 : decode cX8_odds 142 = .ok (.lsub, 1) := by decide +kernel
theorem dX8_odds_143 : decode cX8_odds 143 = .ok (.lstore 10, 2) := by decide +kernel
theorem dX8_odds_145 : decode cX8_odds 145 = .ok (.aload_n 0, 1) := by decide +kernel
theorem dX8_odds_146 : decode cX8_odds 146 = .ok (.bipush 51, 2) := by decide +kernel
theorem dX8_odds_148 : decode cX8_odds 148 = .ok (.iload_n 2, 1) := by decide +kernel
theorem dX8_odds_149 : decode cX8_odds 149 = .ok (.invokevirtual 165, 3) := by decide +kernel
theorem dX8_odds_152 : decode cX8_odds 152 = .ok (.iinc 12 1, 3) := by decide +kernel
theorem dX8_odds_155 : decode cX8_odds 155 = .ok (.goto (-60), 3) := by decide +kernel
theorem dX8_odds_158 : decode cX8_odds 158 = .ok (.aload_n 0, 1) := by decide +kernel
theorem dX8_odds_159 : decode cX8_odds 159 = .ok (.bipush 51, 2) := by decide +kernel
theorem dX8_odds_161 : decode cX8_odds 161 = .ok (.iload 5, 2) := by decide +kernel
theorem dX8_odds_163 : decode cX8_odds 163 = .ok (.iload 6, 2) := by decide +kernel
theorem dX8_odds_165 : decode cX8_odds 165 = .ok (.invokevirtual 190, 3) := by decide +kernel
theorem dX8_odds_168 : decode cX8_odds 168 = .ok (.lload 7, 2) := by decide +kernel
theorem dX8_odds_170 : decode cX8_odds 170 = .ok (.aload_n 0, 1) := by decide +kernel
theorem dX8_odds_171 : decode cX8_odds 171 = .ok (.getfield 177, 3) := by decide +kernel
theorem dX8_odds_174 : decode cX8_odds 174 = .ok (.aload_n 0, 1) := by decide +kernel
theorem dX8_odds_175 : decode cX8_odds 175 = .ok (.getfield 60, 3) := by decide +kernel
theorem dX8_odds_178 : decode cX8_odds 178 = .ok (.if_icmp .ne 8, 3) := by decide +kernel
theorem dX8_odds_181 : decode cX8_odds 181 = .ok (.lload 10, 2) := by decide +kernel
theorem dX8_odds_183 : decode cX8_odds 183 = .ok (.goto 4, 3) := by decide +kernel
theorem dX8_odds_186 : decode cX8_odds 186 = .ok (.lconst 0, 1) := by decide +kernel
theorem dX8_odds_187 : decode cX8_odds 187 = .ok (.ladd, 1) := by decide +kernel
theorem dX8_odds_188 : decode cX8_odds 188 = .ok (.lstore 7, 2) := by decide +kernel
theorem dX8_odds_190 : decode cX8_odds 190 = .ok (.iinc 9 1, 3) := by decide +kernel
theorem dX8_odds_193 : decode cX8_odds 193 = .ok (.goto (-121), 3) := by decide +kernel
theorem dX8_odds_196 : decode cX8_odds 196 = .ok (.lload 7, 2) := by decide +kernel
theorem dX8_odds_198 : decode cX8_odds 198 = .ok (.l2i, 1) := by decide +kernel
theorem dX8_odds_199 : decode cX8_odds 199 = .ok (.ireturn, 1) := by decide +kernel
set_option maxRecDepth 20000 in
theorem ggX8_noFall_X8_in : GoodIn wsX8_noFall wsX8_in := goodIn_r _ [9] (by decide +kernel) (by decide +kernel)
set_option maxRecDepth 20000 in
theorem gX8_noFall_X8_in : GoodIn wsX8_noFall (va_wsS RX8 63 yX8_in wsX8_in) := goodIn_app (goodIn_of _ (by decide +kernel)) ggX8_noFall_X8_in
theorem dX8_noFall_0 : decode cX8_noFall 0 = .ok (.iload_n 1, 1) := by decide +kernel
theorem dX8_noFall_1 : decode cX8_noFall 1 = .ok (.i2l, 1) := by decide +kernel
theorem dX8_noFall_2 : decode cX8_noFall 2 = .ok (.lconst 0, 1) := by decide +kernel
theorem dX8_noFall_3 : decode cX8_noFall 3 = .ok (.ldc2_w 163, 3) := by decide +kernel
theorem dX8_noFall_6 : decode cX8_noFall 6 = .ok (.invokestatic 63, 3) := by decide +kernel
theorem dX8_noFall_9 : decode cX8_noFall 9 = .ok (.ifCond .eq 15, 3) := by decide +kernel
theorem dX8_noFall_12 : decode cX8_noFall 12 = .ok (.iload_n 2, 1) := by decide +kernel
theorem dX8_noFall_13 : decode cX8_noFall 13 = .ok (.i2l, 1) := by decide +kernel
theorem dX8_noFall_14 : decode cX8_noFall 14 = .ok (.lconst 0, 1) := by decide +kernel
theorem dX8_noFall_15 : decode cX8_noFall 15 = .ok (.ldc2_w 221, 3) := by decide +kernel
theorem dX8_noFall_18 : decode cX8_noFall 18 = .ok (.invokestatic 63, 3) := by decide +kernel
theorem dX8_noFall_21 : decode cX8_noFall 21 = .ok (.ifCond .ne 6, 3) := by decide +kernel
theorem dX8_noFall_24 : decode cX8_noFall 24 = .ok (.ldc 83, 2) := by decide +kernel
theorem dX8_noFall_26 : decode cX8_noFall 26 = .ok (.ireturn, 1) := by decide +kernel
theorem dX8_noFall_27 : decode cX8_noFall 27 = .ok (.ldc2_w 219, 3) := by decide +kernel
theorem dX8_noFall_30 : decode cX8_noFall 30 = .ok (.lstore_n 3, 1) := by decide +kernel
theorem dX8_noFall_31 : decode cX8_noFall 31 = .ok (.iconst 0, 1) := by decide +kernel
theorem dX8_noFall_32 : decode cX8_noFall 32 = .ok (.istore 5, 2) := by decide +kernel
theorem dX8_noFall_34 : decode cX8_noFall 34 = .ok (.iload 5, 2) := by decide +kernel
theorem dX8_noFall_36 : decode cX8_noFall 36 = .ok (.aload_n 0, 1) := by decide +kernel
theorem dX8_noFall_37 : decode cX8_noFall 37 = .ok (.getfield 13, 3) := by decide +kernel
theorem dX8_noFall_40 : decode cX8_noFall 40 = .ok (.iconst 0, 1) := by decide +kernel
theorem dX8_noFall_41 : decode cX8_noFall 41 = .ok (.iaload, 1) := by decide +kernel
theorem dX8_noFall_42 : decode cX8_noFall 42 = .ok (.iload_n 1, 1) := by decide +kernel
theorem dX8_noFall_43 : decode cX8_noFall 43 = .ok (.imul, 1) := by decide +kernel
theorem dX8_noFall_44 : decode cX8_noFall 44 = .ok (.if_icmp .ge 22, 3) := by decide +kernel
theorem dX8_noFall_47 : decode cX8_noFall 47 = .ok (.lload_n 3, 1) := by decide +kernel
theorem dX8_noFall_48 : decode cX8_noFall 48 = .ok (.sipush 1000, 3) := by decide +kernel
theorem dX8_noFall_51 : decode cX8_noFall 51 = .ok (.iload_n 2, 1) := by decide +kernel
theorem dX8_noFall_52 : decode cX8_noFall 52 = .ok (.isub, 1) := by decide +kernel
theorem dX8_noFall_53 : decode cX8_noFall 53 = .ok (.i2l, 1) := by decide +kernel
theorem dX8_noFall_54 : decode cX8_noFall 54 = .ok (.lmul, 1) := by decide +kernel
theorem dX8_noFall_55 : decode cX8_noFall 55 = .ok (.ldc2_w 221, 3) := by decide +kernel
theorem dX8_noFall_58 : decode cX8_noFall 58 = .ok (.ldiv, 1) := by decide +kernel
theorem dX8_noFall_59 : decode cX8_noFall 59 = .ok (.lstore_n 3, 1) := by decide +kernel
theorem dX8_noFall_60 : decode cX8_noFall 60 = .ok (.iinc 5 1, 3) := by decide +kernel
theorem dX8_noFall_63 : decode cX8_noFall 63 = .ok (.goto (-29), 3) := by decide +kernel
theorem dX8_noFall_66 : decode cX8_noFall 66 = .ok (.lload_n 3, 1) := by decide +kernel
theorem dX8_noFall_67 : decode cX8_noFall 67 = .ok (.l2i, 1) := by decide +kernel
theorem dX8_noFall_68 : decode cX8_noFall 68 = .ok (.ireturn, 1) := by decide +kernel
set_option maxRecDepth 20000 in
theorem ggX8_bore_X8_isYard : GoodIn wsX8_bore wsX8_isYard := goodIn_r _ [16, 17, 18, 19, 15, 20, 21, 22, 23, 24, 25, 26, 27, 28, 29, 30, 31, 32, 33, 34, 35, 36, 37, 38, 39, 40, 41, 42, 43, 44, 45, 46, 47, 48] (by decide +kernel) (by decide +kernel)
set_option maxRecDepth 20000 in
theorem gX8_bore_X8_isYard : GoodIn wsX8_bore (wsV RX8 149 RX8 yX8_isYard wsX8_isYard) := goodIn_app (goodIn_of _ (by decide +kernel)) ggX8_bore_X8_isYard
set_option maxRecDepth 20000 in
theorem ggX8_bore_X8_in : GoodIn wsX8_bore wsX8_in := goodIn_r _ [20] (by decide +kernel) (by decide +kernel)
set_option maxRecDepth 20000 in
theorem gX8_bore_X8_in : GoodIn wsX8_bore (va_wsS RX8 63 yX8_in wsX8_in) := goodIn_app (goodIn_of _ (by decide +kernel)) ggX8_bore_X8_in
theorem dX8_bore_0 : decode cX8_bore 0 = .ok (.aload_n 0, 1) := by decide +kernel
theorem dX8_bore_1 : decode cX8_bore 1 = .ok (.iload_n 1, 1) := by decide +kernel
theorem dX8_bore_2 : decode cX8_bore 2 = .ok (.invokevirtual 149, 3) := by decide +kernel
theorem dX8_bore_5 : decode cX8_bore 5 = .ok (.ifCond .ne 6, 3) := by decide +kernel
theorem dX8_bore_8 : decode cX8_bore 8 = .ok (.ldc 152, 2) := by decide +kernel
theorem dX8_bore_10 : decode cX8_bore 10 = .ok (.ireturn, 1) := by decide +kernel
theorem dX8_bore_11 : decode cX8_bore 11 = .ok (.iload_n 2, 1) := by decide +kernel
theorem dX8_bore_12 : decode cX8_bore 12 = .ok (.i2l, 1) := by decide +kernel
theorem dX8_bore_13 : decode cX8_bore 13 = .ok (.lconst 0, 1) := by decide +kernel
theorem dX8_bore_14 : decode cX8_bore 14 = .ok (.ldc2_w 147, 3) := by decide +kernel
theorem dX8_bore_17 : decode cX8_bore 17 = .ok (.invokestatic 63, 3) := by decide +kernel
theorem dX8_bore_20 : decode cX8_bore 20 = .ok (.ifCond .eq 28, 3) := by decide +kernel
theorem dX8_bore_23 : decode cX8_bore 23 = .ok (.iload_n 3, 1) := by decide +kernel
theorem dX8_bore_24 : decode cX8_bore 24 = .ok (.i2l, 1) := by decide +kernel
theorem dX8_bore_25 : decode cX8_bore 25 = .ok (.lconst 0, 1) := by decide +kernel
theorem dX8_bore_26 : decode cX8_bore 26 = .ok (.ldc2_w 153, 3) := by decide +kernel
theorem dX8_bore_29 : decode cX8_bore 29 = .ok (.invokestatic 63, 3) := by decide +kernel
theorem dX8_bore_32 : decode cX8_bore 32 = .ok (.ifCond .eq 16, 3) := by decide +kernel
theorem dX8_bore_35 : decode cX8_bore 35 = .ok (.iload 4, 2) := by decide +kernel
theorem dX8_bore_37 : decode cX8_bore 37 = .ok (.i2l, 1) := by decide +kernel
theorem dX8_bore_38 : decode cX8_bore 38 = .ok (.lconst 0, 1) := by decide +kernel
theorem dX8_bore_39 : decode cX8_bore 39 = .ok (.ldc2_w 223, 3) := by decide +kernel
theorem dX8_bore_42 : decode cX8_bore 42 = .ok (.invokestatic 63, 3) := by decide +kernel
theorem dX8_bore_45 : decode cX8_bore 45 = .ok (.ifCond .ne 6, 3) := by decide +kernel
theorem dX8_bore_48 : decode cX8_bore 48 = .ok (.ldc 83, 2) := by decide +kernel
theorem dX8_bore_50 : decode cX8_bore 50 = .ok (.ireturn, 1) := by decide +kernel
theorem dX8_bore_51 : decode cX8_bore 51 = .ok (.aload_n 0, 1) := by decide +kernel
theorem dX8_bore_52 : decode cX8_bore 52 = .ok (.getfield 131, 3) := by decide +kernel
theorem dX8_bore_55 : decode cX8_bore 55 = .ok (.bipush 10, 2) := by decide +kernel
theorem dX8_bore_57 : decode cX8_bore 57 = .ok (.if_icmp .ne 6, 3) := by decide +kernel
theorem dX8_bore_60 : decode cX8_bore 60 = .ok (.ldc 87, 2) := by decide +kernel
theorem dX8_bore_62 : decode cX8_bore 62 = .ok (.ireturn, 1) := by decide +kernel
theorem dX8_bore_63 : decode cX8_bore 63 = .ok (.aload_n 0, 1) := by decide +kernel
theorem dX8_bore_64 : decode cX8_bore 64 = .ok (.getfield 39, 3) := by decide +kernel
theorem dX8_bore_67 : decode cX8_bore 67 = .ok (.aload_n 0, 1) := by decide +kernel
theorem dX8_bore_68 : decode cX8_bore 68 = .ok (.getfield 131, 3) := by decide +kernel
theorem dX8_bore_71 : decode cX8_bore 71 = .ok (.iload_n 1, 1) := by decide +kernel
theorem dX8_bore_72 : decode cX8_bore 72 = .ok (.iastore, 1) := by decide +kernel
theorem dX8_bore_73 : decode cX8_bore 73 = .ok (.aload_n 0, 1) := by decide +kernel
theorem dX8_bore_74 : decode cX8_bore 74 = .ok (.getfield 42, 3) := by decide +kernel
theorem dX8_bore_77 : decode cX8_bore 77 = .ok (.aload_n 0, 1) := by decide +kernel
theorem dX8_bore_78 : decode cX8_bore 78 = .ok (.getfield 131, 3) := by decide +kernel
theorem dX8_bore_81 : decode cX8_bore 81 = .ok (.iload_n 2, 1) := by decide +kernel
theorem dX8_bore_82 : decode cX8_bore 82 = .ok (.iastore, 1) := by decide +kernel
theorem dX8_bore_83 : decode cX8_bore 83 = .ok (.aload_n 0, 1) := by decide +kernel
theorem dX8_bore_84 : decode cX8_bore 84 = .ok (.getfield 45, 3) := by decide +kernel
theorem dX8_bore_87 : decode cX8_bore 87 = .ok (.aload_n 0, 1) := by decide +kernel
theorem dX8_bore_88 : decode cX8_bore 88 = .ok (.getfield 131, 3) := by decide +kernel
theorem dX8_bore_91 : decode cX8_bore 91 = .ok (.iload_n 3, 1) := by decide +kernel
theorem dX8_bore_92 : decode cX8_bore 92 = .ok (.iastore, 1) := by decide +kernel
theorem dX8_bore_93 : decode cX8_bore 93 = .ok (.aload_n 0, 1) := by decide +kernel
theorem dX8_bore_94 : decode cX8_bore 94 = .ok (.getfield 48, 3) := by decide +kernel
theorem dX8_bore_97 : decode cX8_bore 97 = .ok (.aload_n 0, 1) := by decide +kernel
theorem dX8_bore_98 : decode cX8_bore 98 = .ok (.getfield 131, 3) := by decide +kernel
theorem dX8_bore_101 : decode cX8_bore 101 = .ok (.iload 4, 2) := by decide +kernel
theorem dX8_bore_103 : decode cX8_bore 103 = .ok (.iastore, 1) := by decide +kernel
theorem dX8_bore_104 : decode cX8_bore 104 = .ok (.aload_n 0, 1) := by decide +kernel
theorem dX8_bore_105 : decode cX8_bore 105 = .ok (.dup, 1) := by decide +kernel
theorem dX8_bore_106 : decode cX8_bore 106 = .ok (.getfield 131, 3) := by decide +kernel
theorem dX8_bore_109 : decode cX8_bore 109 = .ok (.iconst 1, 1) := by decide +kernel
theorem dX8_bore_110 : decode cX8_bore 110 = .ok (.iadd, 1) := by decide +kernel
theorem dX8_bore_111 : decode cX8_bore 111 = .ok (.putfield 131, 3) := by decide +kernel
theorem dX8_bore_114 : decode cX8_bore 114 = .ok (.aload_n 0, 1) := by decide +kernel
theorem dX8_bore_115 : decode cX8_bore 115 = .ok (.getfield 131, 3) := by decide +kernel
theorem dX8_bore_118 : decode cX8_bore 118 = .ok (.ireturn, 1) := by decide +kernel
set_option maxRecDepth 20000 in
theorem ggX8_kinds_X8_isYard : GoodIn wsX8_kinds wsX8_isYard := goodIn_r _ [12, 13, 14, 15, 11, 16, 32, 33, 34, 35, 36, 37, 38, 39, 40, 41, 42, 43, 44, 45, 46, 47, 48, 49, 50, 51, 52, 53, 54, 55, 56, 57, 58, 59] (by decide +kernel) (by decide +kernel)
set_option maxRecDepth 20000 in
theorem gX8_kinds_X8_isYard : GoodIn wsX8_kinds (wsV RX8 149 RX8 yX8_isYard wsX8_isYard) := goodIn_app (goodIn_of _ (by decide +kernel)) ggX8_kinds_X8_isYard
set_option maxRecDepth 20000 in
theorem ggX8_kinds_X8_copy : GoodIn wsX8_kinds wsX8_copy := goodIn_r _ [20, 4, 32, 33, 34, 35, 36, 37, 38, 39, 40, 41, 42, 43, 44, 45, 46, 47, 48, 49, 50, 51, 52, 53, 54, 55, 56, 57, 58, 59] (by decide +kernel) (by decide +kernel)
set_option maxRecDepth 20000 in
theorem gX8_kinds_X8_copy : GoodIn wsX8_kinds (wsV RX8 204 RX8 yX8_copy wsX8_copy) := goodIn_app (goodIn_of _ (by decide +kernel)) ggX8_kinds_X8_copy
set_option maxRecDepth 20000 in
theorem ggX8_kinds_X8_nightOf : GoodIn wsX8_kinds wsX8_nightOf := goodIn_r _ [24, 13, 4, 25, 26, 27, 11, 28, 29, 30, 31, 32, 33, 34, 35, 36, 37, 38, 39, 40, 41, 42, 43, 44, 45, 46, 47, 48, 49, 50, 51, 52, 53, 54, 55, 56, 57, 58, 59] (by decide +kernel) (by decide +kernel)
set_option maxRecDepth 20000 in
theorem gX8_kinds_X8_nightOf : GoodIn wsX8_kinds (wsV RX8 165 RX8 yX8_nightOf wsX8_nightOf) := goodIn_app (goodIn_of _ (by decide +kernel)) ggX8_kinds_X8_nightOf
theorem dX8_kinds_0 : decode cX8_kinds 0 = .ok (.aload_n 0, 1) := by decide +kernel
theorem dX8_kinds_1 : decode cX8_kinds 1 = .ok (.iload_n 1, 1) := by decide +kernel
theorem dX8_kinds_2 : decode cX8_kinds 2 = .ok (.invokevirtual 149, 3) := by decide +kernel
theorem dX8_kinds_5 : decode cX8_kinds 5 = .ok (.ifCond .ne 6, 3) := by decide +kernel
theorem dX8_kinds_8 : decode cX8_kinds 8 = .ok (.ldc 152, 2) := by decide +kernel
theorem dX8_kinds_10 : decode cX8_kinds 10 = .ok (.ireturn, 1) := by decide +kernel
theorem dX8_kinds_11 : decode cX8_kinds 11 = .ok (.iconst 0, 1) := by decide +kernel
theorem dX8_kinds_12 : decode cX8_kinds 12 = .ok (.istore_n 2, 1) := by decide +kernel
theorem dX8_kinds_13 : decode cX8_kinds 13 = .ok (.iconst 0, 1) := by decide +kernel
theorem dX8_kinds_14 : decode cX8_kinds 14 = .ok (.istore_n 3, 1) := by decide +kernel
theorem dX8_kinds_15 : decode cX8_kinds 15 = .ok (.iload_n 3, 1) := by decide +kernel
theorem dX8_kinds_16 : decode cX8_kinds 16 = .ok (.iconst 3, 1) := by decide +kernel
theorem dX8_kinds_17 : decode cX8_kinds 17 = .ok (.if_icmp .gt 138, 3) := by decide +kernel
theorem dX8_kinds_20 : decode cX8_kinds 20 = .ok (.iconst 1, 1) := by decide +kernel
theorem dX8_kinds_21 : decode cX8_kinds 21 = .ok (.istore 4, 2) := by decide +kernel
theorem dX8_kinds_23 : decode cX8_kinds 23 = .ok (.iconst 0, 1) := by decide +kernel
theorem dX8_kinds_24 : decode cX8_kinds 24 = .ok (.istore 5, 2) := by decide +kernel
theorem dX8_kinds_26 : decode cX8_kinds 26 = .ok (.iload 5, 2) := by decide +kernel
theorem dX8_kinds_28 : decode cX8_kinds 28 = .ok (.aload_n 0, 1) := by decide +kernel
theorem dX8_kinds_29 : decode cX8_kinds 29 = .ok (.getfield 131, 3) := by decide +kernel
theorem dX8_kinds_32 : decode cX8_kinds 32 = .ok (.if_icmp .ge 102, 3) := by decide +kernel
theorem dX8_kinds_35 : decode cX8_kinds 35 = .ok (.iload 4, 2) := by decide +kernel
theorem dX8_kinds_37 : decode cX8_kinds 37 = .ok (.ifCond .eq 97, 3) := by decide +kernel
theorem dX8_kinds_40 : decode cX8_kinds 40 = .ok (.aload_n 0, 1) := by decide +kernel
theorem dX8_kinds_41 : decode cX8_kinds 41 = .ok (.getfield 39, 3) := by decide +kernel
theorem dX8_kinds_44 : decode cX8_kinds 44 = .ok (.iload 5, 2) := by decide +kernel
theorem dX8_kinds_46 : decode cX8_kinds 46 = .ok (.iaload, 1) := by decide +kernel
theorem dX8_kinds_47 : decode cX8_kinds 47 = .ok (.iload_n 1, 1) := by decide +kernel
theorem dX8_kinds_48 : decode cX8_kinds 48 = .ok (.if_icmp .ne 80, 3) := by decide +kernel
theorem dX8_kinds_51 : decode cX8_kinds 51 = .ok (.aload_n 0, 1) := by decide +kernel
theorem dX8_kinds_52 : decode cX8_kinds 52 = .ok (.iconst 0, 1) := by decide +kernel
theorem dX8_kinds_53 : decode cX8_kinds 53 = .ok (.bipush 51, 2) := by decide +kernel
theorem dX8_kinds_55 : decode cX8_kinds 55 = .ok (.invokevirtual 204, 3) := by decide +kernel
theorem dX8_kinds_58 : decode cX8_kinds 58 = .ok (.aload_n 0, 1) := by decide +kernel
theorem dX8_kinds_59 : decode cX8_kinds 59 = .ok (.getfield 7, 3) := by decide +kernel
theorem dX8_kinds_62 : decode cX8_kinds 62 = .ok (.bipush 63, 2) := by decide +kernel
theorem dX8_kinds_64 : decode cX8_kinds 64 = .ok (.iload_n 1, 1) := by decide +kernel
theorem dX8_kinds_65 : decode cX8_kinds 65 = .ok (.iadd, 1) := by decide +kernel
theorem dX8_kinds_66 : decode cX8_kinds 66 = .ok (.iload_n 3, 1) := by decide +kernel
theorem dX8_kinds_67 : decode cX8_kinds 67 = .ok (.iastore, 1) := by decide +kernel
theorem dX8_kinds_68 : decode cX8_kinds 68 = .ok (.iconst 0, 1) := by decide +kernel
theorem dX8_kinds_69 : decode cX8_kinds 69 = .ok (.istore 6, 2) := by decide +kernel
theorem dX8_kinds_71 : decode cX8_kinds 71 = .ok (.iload 6, 2) := by decide +kernel
theorem dX8_kinds_73 : decode cX8_kinds 73 = .ok (.aload_n 0, 1) := by decide +kernel
theorem dX8_kinds_74 : decode cX8_kinds 74 = .ok (.getfield 42, 3) := by decide +kernel
theorem dX8_kinds_77 : decode cX8_kinds 77 = .ok (.iload 5, 2) := by decide +kernel
theorem dX8_kinds_79 : decode cX8_kinds 79 = .ok (.iaload, 1) := by decide +kernel
theorem dX8_kinds_80 : decode cX8_kinds 80 = .ok (.if_icmp .ge 22, 3) := by decide +kernel
theorem dX8_kinds_83 : decode cX8_kinds 83 = .ok (.aload_n 0, 1) := by decide +kernel
theorem dX8_kinds_84 : decode cX8_kinds 84 = .ok (.bipush 51, 2) := by decide +kernel
theorem dX8_kinds_86 : decode cX8_kinds 86 = .ok (.aload_n 0, 1) := by decide +kernel
theorem dX8_kinds_87 : decode cX8_kinds 87 = .ok (.getfield 45, 3) := by decide +kernel
theorem dX8_kinds_90 : decode cX8_kinds 90 = .ok (.iload 5, 2) := by decide +kernel
theorem dX8_kinds_92 : decode cX8_kinds 92 = .ok (.iaload, 1) := by decide +kernel
theorem dX8_kinds_93 : decode cX8_kinds 93 = .ok (.invokevirtual 165, 3) := by decide +kernel
theorem dX8_kinds_96 : decode cX8_kinds 96 = .ok (.iinc 6 1, 3) := by decide +kernel
theorem dX8_kinds_99 : decode cX8_kinds 99 = .ok (.goto (-28), 3) := by decide +kernel
theorem dX8_kinds_102 : decode cX8_kinds 102 = .ok (.aload_n 0, 1) := by decide +kernel
theorem dX8_kinds_103 : decode cX8_kinds 103 = .ok (.getfield 7, 3) := by decide +kernel
theorem dX8_kinds_106 : decode cX8_kinds 106 = .ok (.bipush 51, 2) := by decide +kernel
theorem dX8_kinds_108 : decode cX8_kinds 108 = .ok (.iload_n 1, 1) := by decide +kernel
theorem dX8_kinds_109 : decode cX8_kinds 109 = .ok (.iadd, 1) := by decide +kernel
theorem dX8_kinds_110 : decode cX8_kinds 110 = .ok (.iaload, 1) := by decide +kernel
theorem dX8_kinds_111 : decode cX8_kinds 111 = .ok (.aload_n 0, 1) := by decide +kernel
theorem dX8_kinds_112 : decode cX8_kinds 112 = .ok (.getfield 48, 3) := by decide +kernel
theorem dX8_kinds_115 : decode cX8_kinds 115 = .ok (.iload 5, 2) := by decide +kernel
theorem dX8_kinds_117 : decode cX8_kinds 117 = .ok (.iaload, 1) := by decide +kernel
theorem dX8_kinds_118 : decode cX8_kinds 118 = .ok (.if_icmp .ne 7, 3) := by decide +kernel
theorem dX8_kinds_121 : decode cX8_kinds 121 = .ok (.iconst 1, 1) := by decide +kernel
theorem dX8_kinds_122 : decode cX8_kinds 122 = .ok (.goto 4, 3) := by decide +kernel
theorem dX8_kinds_125 : decode cX8_kinds 125 = .ok (.iconst 0, 1) := by decide +kernel
theorem dX8_kinds_126 : decode cX8_kinds 126 = .ok (.istore 4, 2) := by decide +kernel
theorem dX8_kinds_128 : decode cX8_kinds 128 = .ok (.iinc 5 1, 3) := by decide +kernel
theorem dX8_kinds_131 : decode cX8_kinds 131 = .ok (.goto (-105), 3) := by decide +kernel
theorem dX8_kinds_134 : decode cX8_kinds 134 = .ok (.iload_n 2, 1) := by decide +kernel
theorem dX8_kinds_135 : decode cX8_kinds 135 = .ok (.iload 4, 2) := by decide +kernel
theorem dX8_kinds_137 : decode cX8_kinds 137 = .ok (.ifCond .eq 9, 3) := by decide +kernel
theorem dX8_kinds_140 : decode cX8_kinds 140 = .ok (.iconst 1, 1) := by decide +kernel
theorem dX8_kinds_141 : decode cX8_kinds 141 = .ok (.iload_n 3, 1) := by decide +kernel
theorem dX8_kinds_142 : decode cX8_kinds 142 = .ok (.ishl, 1) := by decide +kernel
theorem dX8_kinds_143 : decode cX8_kinds 143 = .ok (.goto 4, 3) := by decide +kernel
theorem dX8_kinds_146 : decode cX8_kinds 146 = .ok (.iconst 0, 1) := by decide +kernel
theorem dX8_kinds_147 : decode cX8_kinds 147 = .ok (.ior, 1) := by decide +kernel
theorem dX8_kinds_148 : decode cX8_kinds 148 = .ok (.istore_n 2, 1) := by decide +kernel
theorem dX8_kinds_149 : decode cX8_kinds 149 = .ok (.iinc 3 1, 3) := by decide +kernel
theorem dX8_kinds_152 : decode cX8_kinds 152 = .ok (.goto (-137), 3) := by decide +kernel
theorem dX8_kinds_155 : decode cX8_kinds 155 = .ok (.iload_n 2, 1) := by decide +kernel
theorem dX8_kinds_156 : decode cX8_kinds 156 = .ok (.ireturn, 1) := by decide +kernel
set_option maxRecDepth 20000 in
theorem ggX8_write_X8_isYard : GoodIn wsX8_write wsX8_isYard := goodIn_r _ [12, 13, 14, 15, 11, 16, 17, 18, 19, 20, 21, 22, 23, 24, 25, 26, 27, 28, 29, 30, 31, 32, 33, 34, 35, 36, 37, 38, 39, 40, 41, 42, 43, 44] (by decide +kernel) (by decide +kernel)
set_option maxRecDepth 20000 in
theorem gX8_write_X8_isYard : GoodIn wsX8_write (wsV RX8 149 RX8 yX8_isYard wsX8_isYard) := goodIn_app (goodIn_of _ (by decide +kernel)) ggX8_write_X8_isYard
set_option maxRecDepth 20000 in
theorem ggX8_write_X8_in : GoodIn wsX8_write wsX8_in := goodIn_r _ [16] (by decide +kernel) (by decide +kernel)
set_option maxRecDepth 20000 in
theorem gX8_write_X8_in : GoodIn wsX8_write (va_wsS RX8 63 yX8_in wsX8_in) := goodIn_app (goodIn_of _ (by decide +kernel)) ggX8_write_X8_in
theorem dX8_write_0 : decode cX8_write 0 = .ok (.aload_n 0, 1) := by decide +kernel
theorem dX8_write_1 : decode cX8_write 1 = .ok (.iload_n 1, 1) := by decide +kernel
theorem dX8_write_2 : decode cX8_write 2 = .ok (.invokevirtual 149, 3) := by decide +kernel
theorem dX8_write_5 : decode cX8_write 5 = .ok (.ifCond .ne 6, 3) := by decide +kernel
theorem dX8_write_8 : decode cX8_write 8 = .ok (.ldc 152, 2) := by decide +kernel
theorem dX8_write_10 : decode cX8_write 10 = .ok (.ireturn, 1) := by decide +kernel
theorem dX8_write_11 : decode cX8_write 11 = .ok (.iload_n 2, 1) := by decide +kernel
theorem dX8_write_12 : decode cX8_write 12 = .ok (.i2l, 1) := by decide +kernel
theorem dX8_write_13 : decode cX8_write 13 = .ok (.lconst 0, 1) := by decide +kernel
theorem dX8_write_14 : decode cX8_write 14 = .ok (.ldc2_w 223, 3) := by decide +kernel
theorem dX8_write_17 : decode cX8_write 17 = .ok (.invokestatic 63, 3) := by decide +kernel
theorem dX8_write_20 : decode cX8_write 20 = .ok (.ifCond .ne 6, 3) := by decide +kernel
theorem dX8_write_23 : decode cX8_write 23 = .ok (.ldc 83, 2) := by decide +kernel
theorem dX8_write_25 : decode cX8_write 25 = .ok (.ireturn, 1) := by decide +kernel
theorem dX8_write_26 : decode cX8_write 26 = .ok (.aload_n 0, 1) := by decide +kernel
theorem dX8_write_27 : decode cX8_write 27 = .ok (.getfield 134, 3) := by decide +kernel
theorem dX8_write_30 : decode cX8_write 30 = .ok (.bipush 15, 2) := by decide +kernel
theorem dX8_write_32 : decode cX8_write 32 = .ok (.if_icmp .ne 6, 3) := by decide +kernel
theorem dX8_write_35 : decode cX8_write 35 = .ok (.ldc 87, 2) := by decide +kernel
theorem dX8_write_37 : decode cX8_write 37 = .ok (.ireturn, 1) := by decide +kernel
theorem dX8_write_38 : decode cX8_write 38 = .ok (.aload_n 0, 1) := by decide +kernel
theorem dX8_write_39 : decode cX8_write 39 = .ok (.getfield 51, 3) := by decide +kernel
theorem dX8_write_42 : decode cX8_write 42 = .ok (.aload_n 0, 1) := by decide +kernel
theorem dX8_write_43 : decode cX8_write 43 = .ok (.getfield 134, 3) := by decide +kernel
theorem dX8_write_46 : decode cX8_write 46 = .ok (.iload_n 1, 1) := by decide +kernel
theorem dX8_write_47 : decode cX8_write 47 = .ok (.iastore, 1) := by decide +kernel
theorem dX8_write_48 : decode cX8_write 48 = .ok (.aload_n 0, 1) := by decide +kernel
theorem dX8_write_49 : decode cX8_write 49 = .ok (.getfield 54, 3) := by decide +kernel
theorem dX8_write_52 : decode cX8_write 52 = .ok (.aload_n 0, 1) := by decide +kernel
theorem dX8_write_53 : decode cX8_write 53 = .ok (.getfield 134, 3) := by decide +kernel
theorem dX8_write_56 : decode cX8_write 56 = .ok (.iload_n 2, 1) := by decide +kernel
theorem dX8_write_57 : decode cX8_write 57 = .ok (.iastore, 1) := by decide +kernel
theorem dX8_write_58 : decode cX8_write 58 = .ok (.aload_n 0, 1) := by decide +kernel
theorem dX8_write_59 : decode cX8_write 59 = .ok (.dup, 1) := by decide +kernel
theorem dX8_write_60 : decode cX8_write 60 = .ok (.getfield 134, 3) := by decide +kernel
theorem dX8_write_63 : decode cX8_write 63 = .ok (.iconst 1, 1) := by decide +kernel
theorem dX8_write_64 : decode cX8_write 64 = .ok (.iadd, 1) := by decide +kernel
theorem dX8_write_65 : decode cX8_write 65 = .ok (.putfield 134, 3) := by decide +kernel
theorem dX8_write_68 : decode cX8_write 68 = .ok (.aload_n 0, 1) := by decide +kernel
theorem dX8_write_69 : decode cX8_write 69 = .ok (.getfield 134, 3) := by decide +kernel
theorem dX8_write_72 : decode cX8_write 72 = .ok (.ireturn, 1) := by decide +kernel
theorem dX8_tear_0 : decode cX8_tear 0 = .ok (.aload_n 0, 1) := by decide +kernel
theorem dX8_tear_1 : decode cX8_tear 1 = .ok (.getfield 131, 3) := by decide +kernel
theorem dX8_tear_4 : decode cX8_tear 4 = .ok (.aload_n 0, 1) := by decide +kernel
theorem dX8_tear_5 : decode cX8_tear 5 = .ok (.getfield 134, 3) := by decide +kernel
theorem dX8_tear_8 : decode cX8_tear 8 = .ok (.iadd, 1) := by decide +kernel
theorem dX8_tear_9 : decode cX8_tear 9 = .ok (.istore_n 1, 1) := by decide +kernel
theorem dX8_tear_10 : decode cX8_tear 10 = .ok (.aload_n 0, 1) := by decide +kernel
theorem dX8_tear_11 : decode cX8_tear 11 = .ok (.iconst 0, 1) := by decide +kernel
theorem dX8_tear_12 : decode cX8_tear 12 = .ok (.putfield 131, 3) := by decide +kernel
theorem dX8_tear_15 : decode cX8_tear 15 = .ok (.aload_n 0, 1) := by decide +kernel
theorem dX8_tear_16 : decode cX8_tear 16 = .ok (.iconst 0, 1) := by decide +kernel
theorem dX8_tear_17 : decode cX8_tear 17 = .ok (.putfield 134, 3) := by decide +kernel
theorem dX8_tear_20 : decode cX8_tear 20 = .ok (.iload_n 1, 1) := by decide +kernel
theorem dX8_tear_21 : decode cX8_tear 21 = .ok (.ireturn, 1) := by decide +kernel
theorem dX8_judge_0 : decode cX8_judge 0 = .ok (.iconst 0, 1) := by decide +kernel
theorem dX8_judge_1 : decode cX8_judge 1 = .ok (.istore_n 1, 1) := by decide +kernel
theorem dX8_judge_2 : decode cX8_judge 2 = .ok (.iload_n 1, 1) := by decide +kernel
theorem dX8_judge_3 : decode cX8_judge 3 = .ok (.aload_n 0, 1) := by decide +kernel
theorem dX8_judge_4 : decode cX8_judge 4 = .ok (.getfield 134, 3) := by decide +kernel
theorem dX8_judge_7 : decode cX8_judge 7 = .ok (.if_icmp .ge 33, 3) := by decide +kernel
theorem dX8_judge_10 : decode cX8_judge 10 = .ok (.aload_n 0, 1) := by decide +kernel
theorem dX8_judge_11 : decode cX8_judge 11 = .ok (.getfield 7, 3) := by decide +kernel
theorem dX8_judge_14 : decode cX8_judge 14 = .ok (.iconst 0, 1) := by decide +kernel
theorem dX8_judge_15 : decode cX8_judge 15 = .ok (.aload_n 0, 1) := by decide +kernel
theorem dX8_judge_16 : decode cX8_judge 16 = .ok (.getfield 51, 3) := by decide +kernel
theorem dX8_judge_19 : decode cX8_judge 19 = .ok (.iload_n 1, 1) := by decide +kernel
theorem dX8_judge_20 : decode cX8_judge 20 = .ok (.iaload, 1) := by decide +kernel
theorem dX8_judge_21 : decode cX8_judge 21 = .ok (.iadd, 1) := by decide +kernel
theorem dX8_judge_22 : decode cX8_judge 22 = .ok (.iaload, 1) := by decide +kernel
theorem dX8_judge_23 : decode cX8_judge 23 = .ok (.aload_n 0, 1) := by decide +kernel
theorem dX8_judge_24 : decode cX8_judge 24 = .ok (.getfield 54, 3) := by decide +kernel
theorem dX8_judge_27 : decode cX8_judge 27 = .ok (.iload_n 1, 1) := by decide +kernel
theorem dX8_judge_28 : decode cX8_judge 28 = .ok (.iaload, 1) := by decide +kernel
theorem dX8_judge_29 : decode cX8_judge 29 = .ok (.if_icmp .eq 5, 3) := by decide +kernel
theorem dX8_judge_32 : decode cX8_judge 32 = .ok (.iload_n 1, 1) := by decide +kernel
theorem dX8_judge_33 : decode cX8_judge 33 = .ok (.ireturn, 1) := by decide +kernel
theorem dX8_judge_34 : decode cX8_judge 34 = .ok (.iinc 1 1, 3) := by decide +kernel
theorem dX8_judge_37 : decode cX8_judge 37 = .ok (.goto (-35), 3) := by decide +kernel
theorem dX8_judge_40 : decode cX8_judge 40 = .ok (.iconst (-1), 1) := by decide +kernel
theorem dX8_judge_41 : decode cX8_judge 41 = .ok (.ireturn, 1) := by decide +kernel
theorem dX8_seed_0 : decode cX8_seed 0 = .ok (.iload_n 1, 1) := by decide +kernel
theorem dX8_seed_1 : decode cX8_seed 1 = .ok (.ifCond .ge 6, 3) := by decide +kernel
theorem dX8_seed_4 : decode cX8_seed 4 = .ok (.ldc 83, 2) := by decide +kernel
theorem dX8_seed_6 : decode cX8_seed 6 = .ok (.ireturn, 1) := by decide +kernel
theorem dX8_seed_7 : decode cX8_seed 7 = .ok (.aload_n 0, 1) := by decide +kernel
theorem dX8_seed_8 : decode cX8_seed 8 = .ok (.getfield 7, 3) := by decide +kernel
theorem dX8_seed_11 : decode cX8_seed 11 = .ok (.bipush 50, 2) := by decide +kernel
theorem dX8_seed_13 : decode cX8_seed 13 = .ok (.iaload, 1) := by decide +kernel
theorem dX8_seed_14 : decode cX8_seed 14 = .ok (.istore_n 2, 1) := by decide +kernel
theorem dX8_seed_15 : decode cX8_seed 15 = .ok (.aload_n 0, 1) := by decide +kernel
theorem dX8_seed_16 : decode cX8_seed 16 = .ok (.getfield 7, 3) := by decide +kernel
theorem dX8_seed_19 : decode cX8_seed 19 = .ok (.bipush 50, 2) := by decide +kernel
theorem dX8_seed_21 : decode cX8_seed 21 = .ok (.iload_n 1, 1) := by decide +kernel
theorem dX8_seed_22 : decode cX8_seed 22 = .ok (.iastore, 1) := by decide +kernel
theorem dX8_seed_23 : decode cX8_seed 23 = .ok (.iload_n 2, 1) := by decide +kernel
theorem dX8_seed_24 : decode cX8_seed 24 = .ok (.ireturn, 1) := by decide +kernel
set_option maxRecDepth 20000 in
theorem ggX8_keep_X8_in : GoodIn wsX8_keep wsX8_in := goodIn_r _ [6] (by decide +kernel) (by decide +kernel)
set_option maxRecDepth 20000 in
theorem gX8_keep_X8_in : GoodIn wsX8_keep (va_wsS RX8 63 yX8_in wsX8_in) := goodIn_app (goodIn_of _ (by decide +kernel)) ggX8_keep_X8_in
set_option maxRecDepth 20000 in
theorem ggX8_keep_X8_copy : GoodIn wsX8_keep wsX8_copy := goodIn_r _ [10, 11, 12, 13, 14, 15, 16, 17, 18, 19, 20, 21, 22, 23, 24, 25, 26, 27, 28, 29, 30, 31, 32, 33, 34, 35, 36, 37, 38, 39] (by decide +kernel) (by decide +kernel)
set_option maxRecDepth 20000 in
theorem gX8_keep_X8_copy : GoodIn wsX8_keep (wsV RX8 204 RX8 yX8_copy wsX8_copy) := goodIn_app (goodIn_of _ (by decide +kernel)) ggX8_keep_X8_copy
theorem dX8_keep_0 : decode cX8_keep 0 = .ok (.iload_n 1, 1) := by decide +kernel
theorem dX8_keep_1 : decode cX8_keep 1 = .ok (.i2l, 1) := by decide +kernel
theorem dX8_keep_2 : decode cX8_keep 2 = .ok (.lconst 0, 1) := by decide +kernel
theorem dX8_keep_3 : decode cX8_keep 3 = .ok (.lconst 1, 1) := by decide +kernel
theorem dX8_keep_4 : decode cX8_keep 4 = .ok (.invokestatic 63, 3) := by decide +kernel
theorem dX8_keep_7 : decode cX8_keep 7 = .ok (.ifCond .ne 6, 3) := by decide +kernel
theorem dX8_keep_10 : decode cX8_keep 10 = .ok (.ldc 152, 2) := by decide +kernel
theorem dX8_keep_12 : decode cX8_keep 12 = .ok (.ireturn, 1) := by decide +kernel
theorem dX8_keep_13 : decode cX8_keep 13 = .ok (.aload_n 0, 1) := by decide +kernel
theorem dX8_keep_14 : decode cX8_keep 14 = .ok (.iconst 0, 1) := by decide +kernel
theorem dX8_keep_15 : decode cX8_keep 15 = .ok (.bipush 102, 2) := by decide +kernel
theorem dX8_keep_17 : decode cX8_keep 17 = .ok (.bipush 51, 2) := by decide +kernel
theorem dX8_keep_19 : decode cX8_keep 19 = .ok (.iload_n 1, 1) := by decide +kernel
theorem dX8_keep_20 : decode cX8_keep 20 = .ok (.imul, 1) := by decide +kernel
theorem dX8_keep_21 : decode cX8_keep 21 = .ok (.iadd, 1) := by decide +kernel
theorem dX8_keep_22 : decode cX8_keep 22 = .ok (.invokevirtual 204, 3) := by decide +kernel
theorem dX8_keep_25 : decode cX8_keep 25 = .ok (.aload_n 0, 1) := by decide +kernel
theorem dX8_keep_26 : decode cX8_keep 26 = .ok (.getfield 16, 3) := by decide +kernel
theorem dX8_keep_29 : decode cX8_keep 29 = .ok (.iload_n 1, 1) := by decide +kernel
theorem dX8_keep_30 : decode cX8_keep 30 = .ok (.iconst 1, 1) := by decide +kernel
theorem dX8_keep_31 : decode cX8_keep 31 = .ok (.bastore, 1) := by decide +kernel
theorem dX8_keep_32 : decode cX8_keep 32 = .ok (.iconst 1, 1) := by decide +kernel
theorem dX8_keep_33 : decode cX8_keep 33 = .ok (.ireturn, 1) := by decide +kernel
set_option maxRecDepth 20000 in
theorem ggX8_goBack_X8_in : GoodIn wsX8_goBack wsX8_in := goodIn_r _ [7] (by decide +kernel) (by decide +kernel)
set_option maxRecDepth 20000 in
theorem gX8_goBack_X8_in : GoodIn wsX8_goBack (va_wsS RX8 63 yX8_in wsX8_in) := goodIn_app (goodIn_of _ (by decide +kernel)) ggX8_goBack_X8_in
set_option maxRecDepth 20000 in
theorem ggX8_goBack_X8_copy : GoodIn wsX8_goBack wsX8_copy := goodIn_r _ [11, 12, 13, 14, 15, 16, 17, 18, 19, 20, 21, 22, 23, 24, 25, 26, 27, 28, 29, 30, 31, 32, 33, 34, 35, 36, 37, 38, 39, 40] (by decide +kernel) (by decide +kernel)
set_option maxRecDepth 20000 in
theorem gX8_goBack_X8_copy : GoodIn wsX8_goBack (wsV RX8 204 RX8 yX8_copy wsX8_copy) := goodIn_app (goodIn_of _ (by decide +kernel)) ggX8_goBack_X8_copy
theorem dX8_goBack_0 : decode cX8_goBack 0 = .ok (.iload_n 1, 1) := by decide +kernel
theorem dX8_goBack_1 : decode cX8_goBack 1 = .ok (.i2l, 1) := by decide +kernel
theorem dX8_goBack_2 : decode cX8_goBack 2 = .ok (.lconst 0, 1) := by decide +kernel
theorem dX8_goBack_3 : decode cX8_goBack 3 = .ok (.lconst 1, 1) := by decide +kernel
theorem dX8_goBack_4 : decode cX8_goBack 4 = .ok (.invokestatic 63, 3) := by decide +kernel
theorem dX8_goBack_7 : decode cX8_goBack 7 = .ok (.ifCond .ne 6, 3) := by decide +kernel
theorem dX8_goBack_10 : decode cX8_goBack 10 = .ok (.ldc 152, 2) := by decide +kernel
theorem dX8_goBack_12 : decode cX8_goBack 12 = .ok (.ireturn, 1) := by decide +kernel
theorem dX8_goBack_13 : decode cX8_goBack 13 = .ok (.aload_n 0, 1) := by decide +kernel
theorem dX8_goBack_14 : decode cX8_goBack 14 = .ok (.getfield 16, 3) := by decide +kernel
theorem dX8_goBack_17 : decode cX8_goBack 17 = .ok (.iload_n 1, 1) := by decide +kernel
theorem dX8_goBack_18 : decode cX8_goBack 18 = .ok (.baload, 1) := by decide +kernel
theorem dX8_goBack_19 : decode cX8_goBack 19 = .ok (.ifCond .ne 6, 3) := by decide +kernel
theorem dX8_goBack_22 : decode cX8_goBack 22 = .ok (.ldc 189, 2) := by decide +kernel
theorem dX8_goBack_24 : decode cX8_goBack 24 = .ok (.ireturn, 1) := by decide +kernel
theorem dX8_goBack_25 : decode cX8_goBack 25 = .ok (.aload_n 0, 1) := by decide +kernel
theorem dX8_goBack_26 : decode cX8_goBack 26 = .ok (.bipush 102, 2) := by decide +kernel
theorem dX8_goBack_28 : decode cX8_goBack 28 = .ok (.bipush 51, 2) := by decide +kernel
theorem dX8_goBack_30 : decode cX8_goBack 30 = .ok (.iload_n 1, 1) := by decide +kernel
theorem dX8_goBack_31 : decode cX8_goBack 31 = .ok (.imul, 1) := by decide +kernel
theorem dX8_goBack_32 : decode cX8_goBack 32 = .ok (.iadd, 1) := by decide +kernel
theorem dX8_goBack_33 : decode cX8_goBack 33 = .ok (.iconst 0, 1) := by decide +kernel
theorem dX8_goBack_34 : decode cX8_goBack 34 = .ok (.invokevirtual 204, 3) := by decide +kernel
theorem dX8_goBack_37 : decode cX8_goBack 37 = .ok (.iconst 1, 1) := by decide +kernel
theorem dX8_goBack_38 : decode cX8_goBack 38 = .ok (.ireturn, 1) := by decide +kernel
