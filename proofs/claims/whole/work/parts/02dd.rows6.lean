set_option maxRecDepth 20000 in
theorem gX6_eRead_X6_between : GoodIn wsX6_eRead (wsV RX6 167 RX6 yX6_between wsX6_between) := goodIn_app (goodIn_of _ (by decide +kernel)) ggX6_eRead_X6_between
theorem dX6_eRead_0 : decode cX6_eRead 0 = .ok (.aload_n 0, 1) := by decide +kernel
theorem dX6_eRead_1 : decode cX6_eRead 1 = .ok (.iconst 0, 1) := by decide +kernel
theorem dX6_eRead_2 : decode cX6_eRead 2 = .ok (.putfield 138, 3) := by decide +kernel
theorem dX6_eRead_5 : decode cX6_eRead 5 = .ok (.aload_n 0, 1) := by decide +kernel
theorem dX6_eRead_6 : decode cX6_eRead 6 = .ok (.iconst 0, 1) := by decide +kernel
theorem dX6_eRead_7 : decode cX6_eRead 7 = .ok (.putfield 144, 3) := by decide +kernel
theorem dX6_eRead_10 : decode cX6_eRead 10 = .ok (.iconst 1, 1) := by decide +kernel
theorem dX6_eRead_11 : decode cX6_eRead 11 = .ok (.istore_n 1, 1) := by decide +kernel
theorem dX6_eRead_12 : decode cX6_eRead 12 = .ok (.iconst 1, 1) := by decide +kernel
theorem dX6_eRead_13 : decode cX6_eRead 13 = .ok (.istore_n 2, 1) := by decide +kernel
theorem dX6_eRead_14 : decode cX6_eRead 14 = .ok (.aload_n 0, 1) := by decide +kernel
theorem dX6_eRead_15 : decode cX6_eRead 15 = .ok (.invokevirtual 157, 3) := by decide +kernel
theorem dX6_eRead_18 : decode cX6_eRead 18 = .ok (.iload_n 1, 1) := by decide +kernel
theorem dX6_eRead_19 : decode cX6_eRead 19 = .ok (.ifCond .eq 131, 3) := by decide +kernel
theorem dX6_eRead_22 : decode cX6_eRead 22 = .ok (.aload_n 0, 1) := by decide +kernel
theorem dX6_eRead_23 : decode cX6_eRead 23 = .ok (.getfield 125, 3) := by decide +kernel
theorem dX6_eRead_26 : decode cX6_eRead 26 = .ok (.iconst 1, 1) := by decide +kernel
theorem dX6_eRead_27 : decode cX6_eRead 27 = .ok (.if_icmp .eq 11, 3) := by decide +kernel
theorem dX6_eRead_30 : decode cX6_eRead 30 = .ok (.aload_n 0, 1) := by decide +kernel
theorem dX6_eRead_31 : decode cX6_eRead 31 = .ok (.getfield 125, 3) := by decide +kernel
theorem dX6_eRead_34 : decode cX6_eRead 34 = .ok (.iconst 2, 1) := by decide +kernel
theorem dX6_eRead_35 : decode cX6_eRead 35 = .ok (.if_icmp .ne 40, 3) := by decide +kernel
theorem dX6_eRead_38 : decode cX6_eRead 38 = .ok (.aload_n 0, 1) := by decide +kernel
theorem dX6_eRead_39 : decode cX6_eRead 39 = .ok (.aload_n 0, 1) := by decide +kernel
theorem dX6_eRead_40 : decode cX6_eRead 40 = .ok (.getfield 125, 3) := by decide +kernel
theorem dX6_eRead_43 : decode cX6_eRead 43 = .ok (.iconst 1, 1) := by decide +kernel
theorem dX6_eRead_44 : decode cX6_eRead 44 = .ok (.if_icmp .ne 13, 3) := by decide +kernel
theorem dX6_eRead_47 : decode cX6_eRead 47 = .ok (.ldc 160, 2) := by decide +kernel
theorem dX6_eRead_49 : decode cX6_eRead 49 = .ok (.aload_n 0, 1) := by decide +kernel
theorem dX6_eRead_50 : decode cX6_eRead 50 = .ok (.getfield 128, 3) := by decide +kernel
theorem dX6_eRead_53 : decode cX6_eRead 53 = .ok (.iadd, 1) := by decide +kernel
theorem dX6_eRead_54 : decode cX6_eRead 54 = .ok (.goto 7, 3) := by decide +kernel
theorem dX6_eRead_57 : decode cX6_eRead 57 = .ok (.aload_n 0, 1) := by decide +kernel
theorem dX6_eRead_58 : decode cX6_eRead 58 = .ok (.getfield 128, 3) := by decide +kernel
theorem dX6_eRead_61 : decode cX6_eRead 61 = .ok (.invokevirtual 147, 3) := by decide +kernel
theorem dX6_eRead_64 : decode cX6_eRead 64 = .ok (.aload_n 0, 1) := by decide +kernel
theorem dX6_eRead_65 : decode cX6_eRead 65 = .ok (.bipush 7, 2) := by decide +kernel
theorem dX6_eRead_67 : decode cX6_eRead 67 = .ok (.invokevirtual 154, 3) := by decide +kernel
theorem dX6_eRead_70 : decode cX6_eRead 70 = .ok (.iconst 0, 1) := by decide +kernel
theorem dX6_eRead_71 : decode cX6_eRead 71 = .ok (.istore_n 1, 1) := by decide +kernel
theorem dX6_eRead_72 : decode cX6_eRead 72 = .ok (.goto (-58), 3) := by decide +kernel
theorem dX6_eRead_75 : decode cX6_eRead 75 = .ok (.aload_n 0, 1) := by decide +kernel
theorem dX6_eRead_76 : decode cX6_eRead 76 = .ok (.getfield 125, 3) := by decide +kernel
theorem dX6_eRead_79 : decode cX6_eRead 79 = .ok (.bipush 6, 2) := by decide +kernel
theorem dX6_eRead_81 : decode cX6_eRead 81 = .ok (.if_icmp .ne 18, 3) := by decide +kernel
theorem dX6_eRead_84 : decode cX6_eRead 84 = .ok (.iload_n 2, 1) := by decide +kernel
theorem dX6_eRead_85 : decode cX6_eRead 85 = .ok (.ifCond .eq 14, 3) := by decide +kernel
theorem dX6_eRead_88 : decode cX6_eRead 88 = .ok (.aload_n 0, 1) := by decide +kernel
theorem dX6_eRead_89 : decode cX6_eRead 89 = .ok (.bipush 13, 2) := by decide +kernel
theorem dX6_eRead_91 : decode cX6_eRead 91 = .ok (.invokevirtual 161, 3) := by decide +kernel
theorem dX6_eRead_94 : decode cX6_eRead 94 = .ok (.ifCond .ne (-80), 3) := by decide +kernel
theorem dX6_eRead_97 : decode cX6_eRead 97 = .ok (.iconst 0, 1) := by decide +kernel
theorem dX6_eRead_98 : decode cX6_eRead 98 = .ok (.ireturn, 1) := by decide +kernel
theorem dX6_eRead_99 : decode cX6_eRead 99 = .ok (.aload_n 0, 1) := by decide +kernel
theorem dX6_eRead_100 : decode cX6_eRead 100 = .ok (.getfield 125, 3) := by decide +kernel
theorem dX6_eRead_103 : decode cX6_eRead 103 = .ok (.bipush 45, 2) := by decide +kernel
theorem dX6_eRead_105 : decode cX6_eRead 105 = .ok (.if_icmp .ne 19, 3) := by decide +kernel
theorem dX6_eRead_108 : decode cX6_eRead 108 = .ok (.aload_n 0, 1) := by decide +kernel
theorem dX6_eRead_109 : decode cX6_eRead 109 = .ok (.bipush 19, 2) := by decide +kernel
theorem dX6_eRead_111 : decode cX6_eRead 111 = .ok (.invokevirtual 161, 3) := by decide +kernel
theorem dX6_eRead_114 : decode cX6_eRead 114 = .ok (.ifCond .ne 5, 3) := by decide +kernel
theorem dX6_eRead_117 : decode cX6_eRead 117 = .ok (.iconst 0, 1) := by decide +kernel
theorem dX6_eRead_118 : decode cX6_eRead 118 = .ok (.ireturn, 1) := by decide +kernel
theorem dX6_eRead_119 : decode cX6_eRead 119 = .ok (.iconst 0, 1) := by decide +kernel
theorem dX6_eRead_120 : decode cX6_eRead 120 = .ok (.istore_n 2, 1) := by decide +kernel
theorem dX6_eRead_121 : decode cX6_eRead 121 = .ok (.goto (-107), 3) := by decide +kernel
theorem dX6_eRead_124 : decode cX6_eRead 124 = .ok (.aload_n 0, 1) := by decide +kernel
theorem dX6_eRead_125 : decode cX6_eRead 125 = .ok (.getfield 125, 3) := by decide +kernel
theorem dX6_eRead_128 : decode cX6_eRead 128 = .ok (.bipush 40, 2) := by decide +kernel
theorem dX6_eRead_130 : decode cX6_eRead 130 = .ok (.if_icmp .ne 18, 3) := by decide +kernel
theorem dX6_eRead_133 : decode cX6_eRead 133 = .ok (.aload_n 0, 1) := by decide +kernel
theorem dX6_eRead_134 : decode cX6_eRead 134 = .ok (.iconst 0, 1) := by decide +kernel
theorem dX6_eRead_135 : decode cX6_eRead 135 = .ok (.invokevirtual 161, 3) := by decide +kernel
theorem dX6_eRead_138 : decode cX6_eRead 138 = .ok (.ifCond .ne 5, 3) := by decide +kernel
theorem dX6_eRead_141 : decode cX6_eRead 141 = .ok (.iconst 0, 1) := by decide +kernel
theorem dX6_eRead_142 : decode cX6_eRead 142 = .ok (.ireturn, 1) := by decide +kernel
theorem dX6_eRead_143 : decode cX6_eRead 143 = .ok (.iconst 1, 1) := by decide +kernel
theorem dX6_eRead_144 : decode cX6_eRead 144 = .ok (.istore_n 2, 1) := by decide +kernel
theorem dX6_eRead_145 : decode cX6_eRead 145 = .ok (.goto (-131), 3) := by decide +kernel
theorem dX6_eRead_148 : decode cX6_eRead 148 = .ok (.iconst 0, 1) := by decide +kernel
theorem dX6_eRead_149 : decode cX6_eRead 149 = .ok (.ireturn, 1) := by decide +kernel
theorem dX6_eRead_150 : decode cX6_eRead 150 = .ok (.aload_n 0, 1) := by decide +kernel
theorem dX6_eRead_151 : decode cX6_eRead 151 = .ok (.getfield 125, 3) := by decide +kernel
theorem dX6_eRead_154 : decode cX6_eRead 154 = .ok (.bipush 59, 2) := by decide +kernel
theorem dX6_eRead_156 : decode cX6_eRead 156 = .ok (.if_icmp .ne 21, 3) := by decide +kernel
theorem dX6_eRead_159 : decode cX6_eRead 159 = .ok (.aload_n 0, 1) := by decide +kernel
theorem dX6_eRead_160 : decode cX6_eRead 160 = .ok (.iconst 1, 1) := by decide +kernel
theorem dX6_eRead_161 : decode cX6_eRead 161 = .ok (.invokevirtual 154, 3) := by decide +kernel
theorem dX6_eRead_164 : decode cX6_eRead 164 = .ok (.aload_n 0, 1) := by decide +kernel
theorem dX6_eRead_165 : decode cX6_eRead 165 = .ok (.getfield 138, 3) := by decide +kernel
theorem dX6_eRead_168 : decode cX6_eRead 168 = .ok (.ifCond .ne 7, 3) := by decide +kernel
theorem dX6_eRead_171 : decode cX6_eRead 171 = .ok (.iconst 1, 1) := by decide +kernel
theorem dX6_eRead_172 : decode cX6_eRead 172 = .ok (.goto 4, 3) := by decide +kernel
theorem dX6_eRead_175 : decode cX6_eRead 175 = .ok (.iconst 0, 1) := by decide +kernel
theorem dX6_eRead_176 : decode cX6_eRead 176 = .ok (.ireturn, 1) := by decide +kernel
theorem dX6_eRead_177 : decode cX6_eRead 177 = .ok (.aload_n 0, 1) := by decide +kernel
theorem dX6_eRead_178 : decode cX6_eRead 178 = .ok (.getfield 125, 3) := by decide +kernel
theorem dX6_eRead_181 : decode cX6_eRead 181 = .ok (.bipush 41, 2) := by decide +kernel
theorem dX6_eRead_183 : decode cX6_eRead 183 = .ok (.if_icmp .ne 46, 3) := by decide +kernel
theorem dX6_eRead_186 : decode cX6_eRead 186 = .ok (.aload_n 0, 1) := by decide +kernel
theorem dX6_eRead_187 : decode cX6_eRead 187 = .ok (.iconst 1, 1) := by decide +kernel
theorem dX6_eRead_188 : decode cX6_eRead 188 = .ok (.invokevirtual 154, 3) := by decide +kernel
theorem dX6_eRead_191 : decode cX6_eRead 191 = .ok (.aload_n 0, 1) := by decide +kernel
theorem dX6_eRead_192 : decode cX6_eRead 192 = .ok (.getfield 138, 3) := by decide +kernel
theorem dX6_eRead_195 : decode cX6_eRead 195 = .ok (.ifCond .ne 5, 3) := by decide +kernel
theorem dX6_eRead_198 : decode cX6_eRead 198 = .ok (.iconst 0, 1) := by decide +kernel
theorem dX6_eRead_199 : decode cX6_eRead 199 = .ok (.ireturn, 1) := by decide +kernel
theorem dX6_eRead_200 : decode cX6_eRead 200 = .ok (.aload_n 0, 1) := by decide +kernel
theorem dX6_eRead_201 : decode cX6_eRead 201 = .ok (.dup, 1) := by decide +kernel
theorem dX6_eRead_202 : decode cX6_eRead 202 = .ok (.getfield 138, 3) := by decide +kernel
theorem dX6_eRead_205 : decode cX6_eRead 205 = .ok (.iconst 1, 1) := by decide +kernel
theorem dX6_eRead_206 : decode cX6_eRead 206 = .ok (.isub, 1) := by decide +kernel
theorem dX6_eRead_207 : decode cX6_eRead 207 = .ok (.putfield 138, 3) := by decide +kernel
theorem dX6_eRead_210 : decode cX6_eRead 210 = .ok (.aload_n 0, 1) := by decide +kernel
theorem dX6_eRead_211 : decode cX6_eRead 211 = .ok (.dup, 1) := by decide +kernel
theorem dX6_eRead_212 : decode cX6_eRead 212 = .ok (.getfield 144, 3) := by decide +kernel
theorem dX6_eRead_215 : decode cX6_eRead 215 = .ok (.iconst 1, 1) := by decide +kernel
theorem dX6_eRead_216 : decode cX6_eRead 216 = .ok (.isub, 1) := by decide +kernel
theorem dX6_eRead_217 : decode cX6_eRead 217 = .ok (.putfield 144, 3) := by decide +kernel
theorem dX6_eRead_220 : decode cX6_eRead 220 = .ok (.aload_n 0, 1) := by decide +kernel
theorem dX6_eRead_221 : decode cX6_eRead 221 = .ok (.bipush 7, 2) := by decide +kernel
theorem dX6_eRead_223 : decode cX6_eRead 223 = .ok (.invokevirtual 154, 3) := by decide +kernel
theorem dX6_eRead_226 : decode cX6_eRead 226 = .ok (.goto (-212), 3) := by decide +kernel
theorem dX6_eRead_229 : decode cX6_eRead 229 = .ok (.aload_n 0, 1) := by decide +kernel
theorem dX6_eRead_230 : decode cX6_eRead 230 = .ok (.invokevirtual 164, 3) := by decide +kernel
theorem dX6_eRead_233 : decode cX6_eRead 233 = .ok (.istore_n 3, 1) := by decide +kernel
theorem dX6_eRead_234 : decode cX6_eRead 234 = .ok (.iload_n 3, 1) := by decide +kernel
theorem dX6_eRead_235 : decode cX6_eRead 235 = .ok (.iconst (-1), 1) := by decide +kernel
theorem dX6_eRead_236 : decode cX6_eRead 236 = .ok (.if_icmp .eq 11, 3) := by decide +kernel
theorem dX6_eRead_239 : decode cX6_eRead 239 = .ok (.aload_n 0, 1) := by decide +kernel
theorem dX6_eRead_240 : decode cX6_eRead 240 = .ok (.iload_n 3, 1) := by decide +kernel
theorem dX6_eRead_241 : decode cX6_eRead 241 = .ok (.invokevirtual 167, 3) := by decide +kernel
theorem dX6_eRead_244 : decode cX6_eRead 244 = .ok (.ifCond .ne 5, 3) := by decide +kernel
theorem dX6_eRead_247 : decode cX6_eRead 247 = .ok (.iconst 0, 1) := by decide +kernel
theorem dX6_eRead_248 : decode cX6_eRead 248 = .ok (.ireturn, 1) := by decide +kernel
theorem dX6_eRead_249 : decode cX6_eRead 249 = .ok (.iconst 1, 1) := by decide +kernel
theorem dX6_eRead_250 : decode cX6_eRead 250 = .ok (.istore_n 1, 1) := by decide +kernel
theorem dX6_eRead_251 : decode cX6_eRead 251 = .ok (.iload_n 3, 1) := by decide +kernel
theorem dX6_eRead_252 : decode cX6_eRead 252 = .ok (.bipush 12, 2) := by decide +kernel
theorem dX6_eRead_254 : decode cX6_eRead 254 = .ok (.if_icmp .gt 7, 3) := by decide +kernel
theorem dX6_eRead_257 : decode cX6_eRead 257 = .ok (.iconst 1, 1) := by decide +kernel
theorem dX6_eRead_258 : decode cX6_eRead 258 = .ok (.goto 4, 3) := by decide +kernel
theorem dX6_eRead_261 : decode cX6_eRead 261 = .ok (.iconst 0, 1) := by decide +kernel
theorem dX6_eRead_262 : decode cX6_eRead 262 = .ok (.istore_n 2, 1) := by decide +kernel
theorem dX6_eRead_263 : decode cX6_eRead 263 = .ok (.goto (-249), 3) := by decide +kernel
set_option maxRecDepth 20000 in
theorem ggX6_text_X6_next : GoodIn wsX6_text wsX6_next := goodIn_r _ [13, 2, 7, 14, 8, 4, 5, 15, 16, 12, 17, 18, 19, 20, 21, 22, 59, 60, 61, 62, 63, 64, 65, 66, 67, 68, 69, 70, 71, 72, 73, 74, 75, 76, 77, 78, 79, 80, 81, 82, 83, 84, 85, 86, 87, 88, 89, 90, 91, 92, 93, 94, 95, 96] rfl (by decide +kernel)
set_option maxRecDepth 20000 in
theorem gX6_text_X6_next : GoodIn wsX6_text (wsV RX6 157 RX6 yX6_next wsX6_next) := goodIn_app (goodIn_of _ (by decide +kernel)) ggX6_text_X6_next
set_option maxRecDepth 20000 in
theorem ggX6_text_X6_eRead : GoodIn wsX6_text wsX6_eRead := goodIn_r _ [26, 27, 28, 4, 29, 5, 9, 10, 11, 12, 13, 2, 7, 14, 8, 15, 16, 17, 18, 19, 20, 21, 22, 30, 31, 32, 33, 34, 1, 3, 35, 36, 37, 38, 39, 40, 41, 42, 43, 44, 45, 46, 47, 48, 49, 50, 51, 52, 53, 54, 55, 56, 57, 58, 59, 60, 61, 62, 63, 64, 65, 66, 67, 68, 69, 70, 71, 72, 73, 74, 75, 76, 77, 78, 79, 80, 81, 82, 83, 84, 85, 86, 87, 88, 89, 90, 91, 92, 93, 94, 95, 96] rfl (by decide +kernel)
set_option maxRecDepth 20000 in
theorem gX6_text_X6_eRead : GoodIn wsX6_text (wsV RX6 170 RX6 yX6_eRead wsX6_eRead) := goodIn_app (goodIn_of _ (by decide +kernel)) ggX6_text_X6_eRead
theorem dX6_text_0 : decode cX6_text 0 = .ok (.aload_n 0, 1) := by decide +kernel
theorem dX6_text_1 : decode cX6_text 1 = .ok (.getfield 99, 3) := by decide +kernel
theorem dX6_text_4 : decode cX6_text 4 = .ok (.bipush 6, 2) := by decide +kernel
theorem dX6_text_6 : decode cX6_text 6 = .ok (.if_icmp .ne 6, 3) := by decide +kernel
theorem dX6_text_9 : decode cX6_text 9 = .ok (.bipush (-4), 2) := by decide +kernel
theorem dX6_text_11 : decode cX6_text 11 = .ok (.ireturn, 1) := by decide +kernel
theorem dX6_text_12 : decode cX6_text 12 = .ok (.aload_n 0, 1) := by decide +kernel
theorem dX6_text_13 : decode cX6_text 13 = .ok (.iconst 0, 1) := by decide +kernel
theorem dX6_text_14 : decode cX6_text 14 = .ok (.putfield 119, 3) := by decide +kernel
theorem dX6_text_17 : decode cX6_text 17 = .ok (.aload_n 0, 1) := by decide +kernel
theorem dX6_text_18 : decode cX6_text 18 = .ok (.iconst 0, 1) := by decide +kernel
theorem dX6_text_19 : decode cX6_text 19 = .ok (.putfield 135, 3) := by decide +kernel
theorem dX6_text_22 : decode cX6_text 22 = .ok (.iconst 1, 1) := by decide +kernel
theorem dX6_text_23 : decode cX6_text 23 = .ok (.istore_n 1, 1) := by decide +kernel
theorem dX6_text_24 : decode cX6_text 24 = .ok (.iconst 0, 1) := by decide +kernel
theorem dX6_text_25 : decode cX6_text 25 = .ok (.istore_n 2, 1) := by decide +kernel
theorem dX6_text_26 : decode cX6_text 26 = .ok (.iload_n 2, 1) := by decide +kernel
theorem dX6_text_27 : decode cX6_text 27 = .ok (.iconst 3, 1) := by decide +kernel
theorem dX6_text_28 : decode cX6_text 28 = .ok (.if_icmp .ge 73, 3) := by decide +kernel
theorem dX6_text_31 : decode cX6_text 31 = .ok (.iload_n 1, 1) := by decide +kernel
theorem dX6_text_32 : decode cX6_text 32 = .ok (.ifCond .eq 69, 3) := by decide +kernel
theorem dX6_text_35 : decode cX6_text 35 = .ok (.aload_n 0, 1) := by decide +kernel
theorem dX6_text_36 : decode cX6_text 36 = .ok (.invokevirtual 157, 3) := by decide +kernel
theorem dX6_text_39 : decode cX6_text 39 = .ok (.aload_n 0, 1) := by decide +kernel
theorem dX6_text_40 : decode cX6_text 40 = .ok (.getfield 125, 3) := by decide +kernel
theorem dX6_text_43 : decode cX6_text 43 = .ok (.iconst 3, 1) := by decide +kernel
theorem dX6_text_44 : decode cX6_text 44 = .ok (.if_icmp .ne 15, 3) := by decide +kernel
theorem dX6_text_47 : decode cX6_text 47 = .ok (.aload_n 0, 1) := by decide +kernel
theorem dX6_text_48 : decode cX6_text 48 = .ok (.getfield 128, 3) := by decide +kernel
theorem dX6_text_51 : decode cX6_text 51 = .ok (.iload_n 2, 1) := by decide +kernel
theorem dX6_text_52 : decode cX6_text 52 = .ok (.if_icmp .ne 7, 3) := by decide +kernel
theorem dX6_text_55 : decode cX6_text 55 = .ok (.iconst 1, 1) := by decide +kernel
theorem dX6_text_56 : decode cX6_text 56 = .ok (.goto 4, 3) := by decide +kernel
theorem dX6_text_59 : decode cX6_text 59 = .ok (.iconst 0, 1) := by decide +kernel
theorem dX6_text_60 : decode cX6_text 60 = .ok (.istore_n 1, 1) := by decide +kernel
theorem dX6_text_61 : decode cX6_text 61 = .ok (.aload_n 0, 1) := by decide +kernel
theorem dX6_text_62 : decode cX6_text 62 = .ok (.getfield 34, 3) := by decide +kernel
theorem dX6_text_65 : decode cX6_text 65 = .ok (.iconst 4, 1) := by decide +kernel
theorem dX6_text_66 : decode cX6_text 66 = .ok (.aload_n 0, 1) := by decide +kernel
theorem dX6_text_67 : decode cX6_text 67 = .ok (.getfield 99, 3) := by decide +kernel
theorem dX6_text_70 : decode cX6_text 70 = .ok (.imul, 1) := by decide +kernel
theorem dX6_text_71 : decode cX6_text 71 = .ok (.iload_n 2, 1) := by decide +kernel
theorem dX6_text_72 : decode cX6_text 72 = .ok (.iadd, 1) := by decide +kernel
theorem dX6_text_73 : decode cX6_text 73 = .ok (.aload_n 0, 1) := by decide +kernel
theorem dX6_text_74 : decode cX6_text 74 = .ok (.getfield 135, 3) := by decide +kernel
theorem dX6_text_77 : decode cX6_text 77 = .ok (.iastore, 1) := by decide +kernel
theorem dX6_text_78 : decode cX6_text 78 = .ok (.iload_n 1, 1) := by decide +kernel
theorem dX6_text_79 : decode cX6_text 79 = .ok (.ifCond .eq 14, 3) := by decide +kernel
theorem dX6_text_82 : decode cX6_text 82 = .ok (.aload_n 0, 1) := by decide +kernel
theorem dX6_text_83 : decode cX6_text 83 = .ok (.invokevirtual 170, 3) := by decide +kernel
theorem dX6_text_86 : decode cX6_text 86 = .ok (.ifCond .eq 7, 3) := by decide +kernel
theorem dX6_text_89 : decode cX6_text 89 = .ok (.iconst 1, 1) := by decide +kernel
theorem dX6_text_90 : decode cX6_text 90 = .ok (.goto 4, 3) := by decide +kernel
theorem dX6_text_93 : decode cX6_text 93 = .ok (.iconst 0, 1) := by decide +kernel
theorem dX6_text_94 : decode cX6_text 94 = .ok (.istore_n 1, 1) := by decide +kernel
theorem dX6_text_95 : decode cX6_text 95 = .ok (.iinc 2 1, 3) := by decide +kernel
theorem dX6_text_98 : decode cX6_text 98 = .ok (.goto (-72), 3) := by decide +kernel
theorem dX6_text_101 : decode cX6_text 101 = .ok (.iload_n 1, 1) := by decide +kernel
theorem dX6_text_102 : decode cX6_text 102 = .ok (.ifCond .eq 20, 3) := by decide +kernel
theorem dX6_text_105 : decode cX6_text 105 = .ok (.aload_n 0, 1) := by decide +kernel
theorem dX6_text_106 : decode cX6_text 106 = .ok (.invokevirtual 157, 3) := by decide +kernel
theorem dX6_text_109 : decode cX6_text 109 = .ok (.aload_n 0, 1) := by decide +kernel
theorem dX6_text_110 : decode cX6_text 110 = .ok (.getfield 125, 3) := by decide +kernel
theorem dX6_text_113 : decode cX6_text 113 = .ok (.ifCond .ne 7, 3) := by decide +kernel
theorem dX6_text_116 : decode cX6_text 116 = .ok (.iconst 1, 1) := by decide +kernel
theorem dX6_text_117 : decode cX6_text 117 = .ok (.goto 4, 3) := by decide +kernel
theorem dX6_text_120 : decode cX6_text 120 = .ok (.iconst 0, 1) := by decide +kernel
theorem dX6_text_121 : decode cX6_text 121 = .ok (.istore_n 1, 1) := by decide +kernel
theorem dX6_text_122 : decode cX6_text 122 = .ok (.aload_n 0, 1) := by decide +kernel
theorem dX6_text_123 : decode cX6_text 123 = .ok (.getfield 34, 3) := by decide +kernel
theorem dX6_text_126 : decode cX6_text 126 = .ok (.iconst 4, 1) := by decide +kernel
theorem dX6_text_127 : decode cX6_text 127 = .ok (.aload_n 0, 1) := by decide +kernel
theorem dX6_text_128 : decode cX6_text 128 = .ok (.getfield 99, 3) := by decide +kernel
theorem dX6_text_131 : decode cX6_text 131 = .ok (.imul, 1) := by decide +kernel
theorem dX6_text_132 : decode cX6_text 132 = .ok (.iconst 3, 1) := by decide +kernel
theorem dX6_text_133 : decode cX6_text 133 = .ok (.iadd, 1) := by decide +kernel
theorem dX6_text_134 : decode cX6_text 134 = .ok (.aload_n 0, 1) := by decide +kernel
theorem dX6_text_135 : decode cX6_text 135 = .ok (.getfield 135, 3) := by decide +kernel
theorem dX6_text_138 : decode cX6_text 138 = .ok (.iastore, 1) := by decide +kernel
theorem dX6_text_139 : decode cX6_text 139 = .ok (.aload_n 0, 1) := by decide +kernel
theorem dX6_text_140 : decode cX6_text 140 = .ok (.iconst 0, 1) := by decide +kernel
theorem dX6_text_141 : decode cX6_text 141 = .ok (.putfield 70, 3) := by decide +kernel
theorem dX6_text_144 : decode cX6_text 144 = .ok (.iload_n 1, 1) := by decide +kernel
theorem dX6_text_145 : decode cX6_text 145 = .ok (.ifCond .ne 11, 3) := by decide +kernel
theorem dX6_text_148 : decode cX6_text 148 = .ok (.bipush (-100), 2) := by decide +kernel
theorem dX6_text_150 : decode cX6_text 150 = .ok (.aload_n 0, 1) := by decide +kernel
theorem dX6_text_151 : decode cX6_text 151 = .ok (.getfield 122, 3) := by decide +kernel
theorem dX6_text_154 : decode cX6_text 154 = .ok (.isub, 1) := by decide +kernel
theorem dX6_text_155 : decode cX6_text 155 = .ok (.ireturn, 1) := by decide +kernel
theorem dX6_text_156 : decode cX6_text 156 = .ok (.aload_n 0, 1) := by decide +kernel
theorem dX6_text_157 : decode cX6_text 157 = .ok (.dup, 1) := by decide +kernel
theorem dX6_text_158 : decode cX6_text 158 = .ok (.getfield 99, 3) := by decide +kernel
theorem dX6_text_161 : decode cX6_text 161 = .ok (.iconst 1, 1) := by decide +kernel
theorem dX6_text_162 : decode cX6_text 162 = .ok (.iadd, 1) := by decide +kernel
theorem dX6_text_163 : decode cX6_text 163 = .ok (.putfield 99, 3) := by decide +kernel
theorem dX6_text_166 : decode cX6_text 166 = .ok (.aload_n 0, 1) := by decide +kernel
theorem dX6_text_167 : decode cX6_text 167 = .ok (.getfield 99, 3) := by decide +kernel
theorem dX6_text_170 : decode cX6_text 170 = .ok (.iconst 1, 1) := by decide +kernel
theorem dX6_text_171 : decode cX6_text 171 = .ok (.isub, 1) := by decide +kernel
theorem dX6_text_172 : decode cX6_text 172 = .ok (.ireturn, 1) := by decide +kernel
theorem dX6_two_0 : decode cX6_two 0 = .ok (.iload_n 0, 1) := by decide +kernel
theorem dX6_two_1 : decode cX6_two 1 = .ok (.tableswitch 101 11 17 #[43, 57, 101, 71, 82, 93, 97], 43) := by decide +kernel
theorem dX6_two_44 : decode cX6_two 44 = .ok (.iload_n 1, 1) := by decide +kernel
theorem dX6_two_45 : decode cX6_two 45 = .ok (.ifCond .ne 7, 3) := by decide +kernel
theorem dX6_two_48 : decode cX6_two 48 = .ok (.iload_n 2, 1) := by decide +kernel
theorem dX6_two_49 : decode cX6_two 49 = .ok (.ifCond .eq 7, 3) := by decide +kernel
theorem dX6_two_52 : decode cX6_two 52 = .ok (.iconst 1, 1) := by decide +kernel
theorem dX6_two_53 : decode cX6_two 53 = .ok (.goto 4, 3) := by decide +kernel
theorem dX6_two_56 : decode cX6_two 56 = .ok (.iconst 0, 1) := by decide +kernel
theorem dX6_two_57 : decode cX6_two 57 = .ok (.ireturn, 1) := by decide +kernel
theorem dX6_two_58 : decode cX6_two 58 = .ok (.iload_n 1, 1) := by decide +kernel
theorem dX6_two_59 : decode cX6_two 59 = .ok (.ifCond .eq 11, 3) := by decide +kernel
theorem dX6_two_62 : decode cX6_two 62 = .ok (.iload_n 2, 1) := by decide +kernel
theorem dX6_two_63 : decode cX6_two 63 = .ok (.ifCond .eq 7, 3) := by decide +kernel
theorem dX6_two_66 : decode cX6_two 66 = .ok (.iconst 1, 1) := by decide +kernel
theorem dX6_two_67 : decode cX6_two 67 = .ok (.goto 4, 3) := by decide +kernel
theorem dX6_two_70 : decode cX6_two 70 = .ok (.iconst 0, 1) := by decide +kernel
theorem dX6_two_71 : decode cX6_two 71 = .ok (.ireturn, 1) := by decide +kernel
theorem dX6_two_72 : decode cX6_two 72 = .ok (.iload_n 1, 1) := by decide +kernel
theorem dX6_two_73 : decode cX6_two 73 = .ok (.iload_n 2, 1) := by decide +kernel
theorem dX6_two_74 : decode cX6_two 74 = .ok (.if_icmp .ge 7, 3) := by decide +kernel
theorem dX6_two_77 : decode cX6_two 77 = .ok (.iconst 1, 1) := by decide +kernel
theorem dX6_two_78 : decode cX6_two 78 = .ok (.goto 4, 3) := by decide +kernel
theorem dX6_two_81 : decode cX6_two 81 = .ok (.iconst 0, 1) := by decide +kernel
theorem dX6_two_82 : decode cX6_two 82 = .ok (.ireturn, 1) := by decide +kernel
theorem dX6_two_83 : decode cX6_two 83 = .ok (.iload_n 1, 1) := by decide +kernel
theorem dX6_two_84 : decode cX6_two 84 = .ok (.iload_n 2, 1) := by decide +kernel
theorem dX6_two_85 : decode cX6_two 85 = .ok (.if_icmp .ne 7, 3) := by decide +kernel
theorem dX6_two_88 : decode cX6_two 88 = .ok (.iconst 1, 1) := by decide +kernel
theorem dX6_two_89 : decode cX6_two 89 = .ok (.goto 4, 3) := by decide +kernel
theorem dX6_two_92 : decode cX6_two 92 = .ok (.iconst 0, 1) := by decide +kernel
theorem dX6_two_93 : decode cX6_two 93 = .ok (.ireturn, 1) := by decide +kernel
theorem dX6_two_94 : decode cX6_two 94 = .ok (.iload_n 1, 1) := by decide +kernel
theorem dX6_two_95 : decode cX6_two 95 = .ok (.iload_n 2, 1) := by decide +kernel
theorem dX6_two_96 : decode cX6_two 96 = .ok (.iadd, 1) := by decide +kernel
theorem dX6_two_97 : decode cX6_two 97 = .ok (.ireturn, 1) := by decide +kernel
theorem dX6_two_98 : decode cX6_two 98 = .ok (.iload_n 1, 1) := by decide +kernel
theorem dX6_two_99 : decode cX6_two 99 = .ok (.iload_n 2, 1) := by decide +kernel
theorem dX6_two_100 : decode cX6_two 100 = .ok (.isub, 1) := by decide +kernel
theorem dX6_two_101 : decode cX6_two 101 = .ok (.ireturn, 1) := by decide +kernel
theorem dX6_two_102 : decode cX6_two 102 = .ok (.iload_n 1, 1) := by decide +kernel
theorem dX6_two_103 : decode cX6_two 103 = .ok (.iload_n 2, 1) := by decide +kernel
theorem dX6_two_104 : decode cX6_two 104 = .ok (.imul, 1) := by decide +kernel
theorem dX6_two_105 : decode cX6_two 105 = .ok (.ireturn, 1) := by decide +kernel
set_option maxRecDepth 20000 in
theorem ggX6_says_X6_two : GoodIn wsX6_says wsX6_two := goodIn_r _ [10] rfl (by decide +kernel)
set_option maxRecDepth 20000 in
theorem gX6_says_X6_two : GoodIn wsX6_says (va_wsS RX6 174 yX6_two wsX6_two) := goodIn_app (goodIn_of _ (by decide +kernel)) ggX6_says_X6_two
theorem dX6_says_0 : decode cX6_says 0 = .ok (.iconst 0, 1) := by decide +kernel
theorem dX6_says_1 : decode cX6_says 1 = .ok (.istore_n 2, 1) := by decide +kernel
theorem dX6_says_2 : decode cX6_says 2 = .ok (.aload_n 0, 1) := by decide +kernel
theorem dX6_says_3 : decode cX6_says 3 = .ok (.getfield 34, 3) := by decide +kernel
