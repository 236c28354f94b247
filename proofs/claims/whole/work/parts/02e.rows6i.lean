set_option maxRecDepth 20000 in
theorem ggX6_init_X6_text : GoodIn wsX6_init wsX6_text := goodIn_r _ [30, 31, 32, 33, 34, 35, 13, 25, 36, 37, 38, 39, 29, 40, 11, 41, 42, 43, 44, 45, 46, 47, 20, 48, 49, 50, 51, 52, 53, 54, 55, 56, 57, 58, 12, 59, 60, 61, 62, 21, 63, 64, 65, 66, 67, 68, 69, 70, 71, 72, 73, 74, 75, 76, 77, 78, 79, 80, 81, 82, 83, 84, 85, 86, 87, 88, 89, 90, 91, 92, 93, 94, 95, 96, 97, 98, 99, 100, 101, 102, 103, 104, 105, 106, 107, 108, 109, 110, 111, 112, 113, 114, 115, 116, 117, 118, 119] (by decide +kernel) (by decide +kernel)
set_option maxRecDepth 20000 in
theorem gX6_init_X6_text : GoodIn wsX6_init (wsV RX6 74 RX6 yX6_text wsX6_text) := goodIn_app (goodIn_of _ (by decide +kernel)) ggX6_init_X6_text
theorem dX6_init_0 : decode cX6_init 0 = .ok (.aload_n 0, 1) := by decide +kernel
theorem dX6_init_1 : decode cX6_init 1 = .ok (.invokespecial 1, 3) := by decide +kernel
theorem dX6_init_4 : decode cX6_init 4 = .ok (.aload_n 0, 1) := by decide +kernel
theorem dX6_init_5 : decode cX6_init 5 = .ok (.bipush 6, 2) := by decide +kernel
theorem dX6_init_7 : decode cX6_init 7 = .ok (.newarray .int, 2) := by decide +kernel
theorem dX6_init_9 : decode cX6_init 9 = .ok (.putfield 7, 3) := by decide +kernel
theorem dX6_init_12 : decode cX6_init 12 = .ok (.aload_n 0, 1) := by decide +kernel
theorem dX6_init_13 : decode cX6_init 13 = .ok (.bipush 6, 2) := by decide +kernel
theorem dX6_init_15 : decode cX6_init 15 = .ok (.newarray .int, 2) := by decide +kernel
theorem dX6_init_17 : decode cX6_init 17 = .ok (.putfield 13, 3) := by decide +kernel
theorem dX6_init_20 : decode cX6_init 20 = .ok (.aload_n 0, 1) := by decide +kernel
theorem dX6_init_21 : decode cX6_init 21 = .ok (.bipush 18, 2) := by decide +kernel
theorem dX6_init_23 : decode cX6_init 23 = .ok (.newarray .int, 2) := by decide +kernel
theorem dX6_init_25 : decode cX6_init 25 = .ok (.putfield 16, 3) := by decide +kernel
theorem dX6_init_28 : decode cX6_init 28 = .ok (.aload_n 0, 1) := by decide +kernel
theorem dX6_init_29 : decode cX6_init 29 = .ok (.bipush 24, 2) := by decide +kernel
theorem dX6_init_31 : decode cX6_init 31 = .ok (.newarray .int, 2) := by decide +kernel
theorem dX6_init_33 : decode cX6_init 33 = .ok (.dup, 1) := by decide +kernel
theorem dX6_init_34 : decode cX6_init 34 = .ok (.iconst 0, 1) := by decide +kernel
theorem dX6_init_35 : decode cX6_init 35 = .ok (.iconst (-1), 1) := by decide +kernel
theorem dX6_init_36 : decode cX6_init 36 = .ok (.iastore, 1) := by decide +kernel
theorem dX6_init_37 : decode cX6_init 37 = .ok (.dup, 1) := by decide +kernel
theorem dX6_init_38 : decode cX6_init 38 = .ok (.iconst 1, 1) := by decide +kernel
theorem dX6_init_39 : decode cX6_init 39 = .ok (.iconst 0, 1) := by decide +kernel
theorem dX6_init_40 : decode cX6_init 40 = .ok (.iastore, 1) := by decide +kernel
theorem dX6_init_41 : decode cX6_init 41 = .ok (.dup, 1) := by decide +kernel
theorem dX6_init_42 : decode cX6_init 42 = .ok (.iconst 2, 1) := by decide +kernel
theorem dX6_init_43 : decode cX6_init 43 = .ok (.iconst 0, 1) := by decide +kernel
theorem dX6_init_44 : decode cX6_init 44 = .ok (.iastore, 1) := by decide +kernel
theorem dX6_init_45 : decode cX6_init 45 = .ok (.dup, 1) := by decide +kernel
theorem dX6_init_46 : decode cX6_init 46 = .ok (.iconst 3, 1) := by decide +kernel
theorem dX6_init_47 : decode cX6_init 47 = .ok (.iconst (-1), 1) := by decide +kernel
theorem dX6_init_48 : decode cX6_init 48 = .ok (.iastore, 1) := by decide +kernel
theorem dX6_init_49 : decode cX6_init 49 = .ok (.dup, 1) := by decide +kernel
theorem dX6_init_50 : decode cX6_init 50 = .ok (.iconst 4, 1) := by decide +kernel
theorem dX6_init_51 : decode cX6_init 51 = .ok (.iconst 0, 1) := by decide +kernel
theorem dX6_init_52 : decode cX6_init 52 = .ok (.iastore, 1) := by decide +kernel
theorem dX6_init_53 : decode cX6_init 53 = .ok (.dup, 1) := by decide +kernel
theorem dX6_init_54 : decode cX6_init 54 = .ok (.iconst 5, 1) := by decide +kernel
theorem dX6_init_55 : decode cX6_init 55 = .ok (.iconst 0, 1) := by decide +kernel
theorem dX6_init_56 : decode cX6_init 56 = .ok (.iastore, 1) := by decide +kernel
theorem dX6_init_57 : decode cX6_init 57 = .ok (.dup, 1) := by decide +kernel
theorem dX6_init_58 : decode cX6_init 58 = .ok (.bipush 6, 2) := by decide +kernel
theorem dX6_init_60 : decode cX6_init 60 = .ok (.iconst (-1), 1) := by decide +kernel
theorem dX6_init_61 : decode cX6_init 61 = .ok (.iastore, 1) := by decide +kernel
theorem dX6_init_62 : decode cX6_init 62 = .ok (.dup, 1) := by decide +kernel
theorem dX6_init_63 : decode cX6_init 63 = .ok (.bipush 7, 2) := by decide +kernel
theorem dX6_init_65 : decode cX6_init 65 = .ok (.iconst 0, 1) := by decide +kernel
theorem dX6_init_66 : decode cX6_init 66 = .ok (.iastore, 1) := by decide +kernel
theorem dX6_init_67 : decode cX6_init 67 = .ok (.dup, 1) := by decide +kernel
theorem dX6_init_68 : decode cX6_init 68 = .ok (.bipush 8, 2) := by decide +kernel
theorem dX6_init_70 : decode cX6_init 70 = .ok (.iconst 0, 1) := by decide +kernel
theorem dX6_init_71 : decode cX6_init 71 = .ok (.iastore, 1) := by decide +kernel
theorem dX6_init_72 : decode cX6_init 72 = .ok (.dup, 1) := by decide +kernel
theorem dX6_init_73 : decode cX6_init 73 = .ok (.bipush 9, 2) := by decide +kernel
theorem dX6_init_75 : decode cX6_init 75 = .ok (.iconst (-1), 1) := by decide +kernel
theorem dX6_init_76 : decode cX6_init 76 = .ok (.iastore, 1) := by decide +kernel
theorem dX6_init_77 : decode cX6_init 77 = .ok (.dup, 1) := by decide +kernel
theorem dX6_init_78 : decode cX6_init 78 = .ok (.bipush 10, 2) := by decide +kernel
theorem dX6_init_80 : decode cX6_init 80 = .ok (.iconst 0, 1) := by decide +kernel
theorem dX6_init_81 : decode cX6_init 81 = .ok (.iastore, 1) := by decide +kernel
theorem dX6_init_82 : decode cX6_init 82 = .ok (.dup, 1) := by decide +kernel
theorem dX6_init_83 : decode cX6_init 83 = .ok (.bipush 11, 2) := by decide +kernel
theorem dX6_init_85 : decode cX6_init 85 = .ok (.iconst 0, 1) := by decide +kernel
theorem dX6_init_86 : decode cX6_init 86 = .ok (.iastore, 1) := by decide +kernel
theorem dX6_init_87 : decode cX6_init 87 = .ok (.dup, 1) := by decide +kernel
theorem dX6_init_88 : decode cX6_init 88 = .ok (.bipush 12, 2) := by decide +kernel
theorem dX6_init_90 : decode cX6_init 90 = .ok (.iconst (-1), 1) := by decide +kernel
theorem dX6_init_91 : decode cX6_init 91 = .ok (.iastore, 1) := by decide +kernel
theorem dX6_init_92 : decode cX6_init 92 = .ok (.dup, 1) := by decide +kernel
theorem dX6_init_93 : decode cX6_init 93 = .ok (.bipush 13, 2) := by decide +kernel
theorem dX6_init_95 : decode cX6_init 95 = .ok (.iconst 0, 1) := by decide +kernel
theorem dX6_init_96 : decode cX6_init 96 = .ok (.iastore, 1) := by decide +kernel
theorem dX6_init_97 : decode cX6_init 97 = .ok (.dup, 1) := by decide +kernel
theorem dX6_init_98 : decode cX6_init 98 = .ok (.bipush 14, 2) := by decide +kernel
theorem dX6_init_100 : decode cX6_init 100 = .ok (.iconst 0, 1) := by decide +kernel
theorem dX6_init_101 : decode cX6_init 101 = .ok (.iastore, 1) := by decide +kernel
theorem dX6_init_102 : decode cX6_init 102 = .ok (.dup, 1) := by decide +kernel
theorem dX6_init_103 : decode cX6_init 103 = .ok (.bipush 15, 2) := by decide +kernel
theorem dX6_init_105 : decode cX6_init 105 = .ok (.iconst (-1), 1) := by decide +kernel
theorem dX6_init_106 : decode cX6_init 106 = .ok (.iastore, 1) := by decide +kernel
theorem dX6_init_107 : decode cX6_init 107 = .ok (.dup, 1) := by decide +kernel
theorem dX6_init_108 : decode cX6_init 108 = .ok (.bipush 16, 2) := by decide +kernel
theorem dX6_init_110 : decode cX6_init 110 = .ok (.iconst 0, 1) := by decide +kernel
theorem dX6_init_111 : decode cX6_init 111 = .ok (.iastore, 1) := by decide +kernel
theorem dX6_init_112 : decode cX6_init 112 = .ok (.dup, 1) := by decide +kernel
theorem dX6_init_113 : decode cX6_init 113 = .ok (.bipush 17, 2) := by decide +kernel
theorem dX6_init_115 : decode cX6_init 115 = .ok (.iconst 0, 1) := by decide +kernel
theorem dX6_init_116 : decode cX6_init 116 = .ok (.iastore, 1) := by decide +kernel
theorem dX6_init_117 : decode cX6_init 117 = .ok (.dup, 1) := by decide +kernel
theorem dX6_init_118 : decode cX6_init 118 = .ok (.bipush 18, 2) := by decide +kernel
theorem dX6_init_120 : decode cX6_init 120 = .ok (.iconst (-1), 1) := by decide +kernel
theorem dX6_init_121 : decode cX6_init 121 = .ok (.iastore, 1) := by decide +kernel
theorem dX6_init_122 : decode cX6_init 122 = .ok (.dup, 1) := by decide +kernel
theorem dX6_init_123 : decode cX6_init 123 = .ok (.bipush 19, 2) := by decide +kernel
theorem dX6_init_125 : decode cX6_init 125 = .ok (.iconst 0, 1) := by decide +kernel
theorem dX6_init_126 : decode cX6_init 126 = .ok (.iastore, 1) := by decide +kernel
theorem dX6_init_127 : decode cX6_init 127 = .ok (.dup, 1) := by decide +kernel
theorem dX6_init_128 : decode cX6_init 128 = .ok (.bipush 20, 2) := by decide +kernel
theorem dX6_init_130 : decode cX6_init 130 = .ok (.iconst 0, 1) := by decide +kernel
theorem dX6_init_131 : decode cX6_init 131 = .ok (.iastore, 1) := by decide +kernel
theorem dX6_init_132 : decode cX6_init 132 = .ok (.dup, 1) := by decide +kernel
theorem dX6_init_133 : decode cX6_init 133 = .ok (.bipush 21, 2) := by decide +kernel
theorem dX6_init_135 : decode cX6_init 135 = .ok (.iconst (-1), 1) := by decide +kernel
theorem dX6_init_136 : decode cX6_init 136 = .ok (.iastore, 1) := by decide +kernel
theorem dX6_init_137 : decode cX6_init 137 = .ok (.dup, 1) := by decide +kernel
theorem dX6_init_138 : decode cX6_init 138 = .ok (.bipush 22, 2) := by decide +kernel
theorem dX6_init_140 : decode cX6_init 140 = .ok (.iconst 0, 1) := by decide +kernel
theorem dX6_init_141 : decode cX6_init 141 = .ok (.iastore, 1) := by decide +kernel
theorem dX6_init_142 : decode cX6_init 142 = .ok (.dup, 1) := by decide +kernel
theorem dX6_init_143 : decode cX6_init 143 = .ok (.bipush 23, 2) := by decide +kernel
theorem dX6_init_145 : decode cX6_init 145 = .ok (.iconst 0, 1) := by decide +kernel
theorem dX6_init_146 : decode cX6_init 146 = .ok (.iastore, 1) := by decide +kernel
theorem dX6_init_147 : decode cX6_init 147 = .ok (.putfield 19, 3) := by decide +kernel
theorem dX6_init_150 : decode cX6_init 150 = .ok (.aload_n 0, 1) := by decide +kernel
theorem dX6_init_151 : decode cX6_init 151 = .ok (.bipush 10, 2) := by decide +kernel
theorem dX6_init_153 : decode cX6_init 153 = .ok (.newarray .int, 2) := by decide +kernel
theorem dX6_init_155 : decode cX6_init 155 = .ok (.putfield 22, 3) := by decide +kernel
theorem dX6_init_158 : decode cX6_init 158 = .ok (.aload_n 0, 1) := by decide +kernel
theorem dX6_init_159 : decode cX6_init 159 = .ok (.bipush 6, 2) := by decide +kernel
theorem dX6_init_161 : decode cX6_init 161 = .ok (.newarray .int, 2) := by decide +kernel
theorem dX6_init_163 : decode cX6_init 163 = .ok (.dup, 1) := by decide +kernel
theorem dX6_init_164 : decode cX6_init 164 = .ok (.iconst 0, 1) := by decide +kernel
theorem dX6_init_165 : decode cX6_init 165 = .ok (.bipush 50, 2) := by decide +kernel
theorem dX6_init_167 : decode cX6_init 167 = .ok (.iastore, 1) := by decide +kernel
theorem dX6_init_168 : decode cX6_init 168 = .ok (.dup, 1) := by decide +kernel
theorem dX6_init_169 : decode cX6_init 169 = .ok (.iconst 1, 1) := by decide +kernel
theorem dX6_init_170 : decode cX6_init 170 = .ok (.bipush 50, 2) := by decide +kernel
theorem dX6_init_172 : decode cX6_init 172 = .ok (.iastore, 1) := by decide +kernel
theorem dX6_init_173 : decode cX6_init 173 = .ok (.dup, 1) := by decide +kernel
theorem dX6_init_174 : decode cX6_init 174 = .ok (.iconst 2, 1) := by decide +kernel
theorem dX6_init_175 : decode cX6_init 175 = .ok (.bipush 50, 2) := by decide +kernel
theorem dX6_init_177 : decode cX6_init 177 = .ok (.iastore, 1) := by decide +kernel
theorem dX6_init_178 : decode cX6_init 178 = .ok (.dup, 1) := by decide +kernel
theorem dX6_init_179 : decode cX6_init 179 = .ok (.iconst 3, 1) := by decide +kernel
theorem dX6_init_180 : decode cX6_init 180 = .ok (.bipush 50, 2) := by decide +kernel
theorem dX6_init_182 : decode cX6_init 182 = .ok (.iastore, 1) := by decide +kernel
theorem dX6_init_183 : decode cX6_init 183 = .ok (.dup, 1) := by decide +kernel
theorem dX6_init_184 : decode cX6_init 184 = .ok (.iconst 4, 1) := by decide +kernel
theorem dX6_init_185 : decode cX6_init 185 = .ok (.bipush 50, 2) := by decide +kernel
theorem dX6_init_187 : decode cX6_init 187 = .ok (.iastore, 1) := by decide +kernel
theorem dX6_init_188 : decode cX6_init 188 = .ok (.dup, 1) := by decide +kernel
theorem dX6_init_189 : decode cX6_init 189 = .ok (.iconst 5, 1) := by decide +kernel
theorem dX6_init_190 : decode cX6_init 190 = .ok (.bipush 50, 2) := by decide +kernel
theorem dX6_init_192 : decode cX6_init 192 = .ok (.iastore, 1) := by decide +kernel
theorem dX6_init_193 : decode cX6_init 193 = .ok (.putfield 25, 3) := by decide +kernel
theorem dX6_init_196 : decode cX6_init 196 = .ok (.aload_n 0, 1) := by decide +kernel
theorem dX6_init_197 : decode cX6_init 197 = .ok (.sipush 160, 3) := by decide +kernel
theorem dX6_init_200 : decode cX6_init 200 = .ok (.newarray .int, 2) := by decide +kernel
theorem dX6_init_202 : decode cX6_init 202 = .ok (.putfield 28, 3) := by decide +kernel
theorem dX6_init_205 : decode cX6_init 205 = .ok (.aload_n 0, 1) := by decide +kernel
theorem dX6_init_206 : decode cX6_init 206 = .ok (.sipush 1200, 3) := by decide +kernel
theorem dX6_init_209 : decode cX6_init 209 = .ok (.newarray .int, 2) := by decide +kernel
theorem dX6_init_211 : decode cX6_init 211 = .ok (.putfield 31, 3) := by decide +kernel
theorem dX6_init_214 : decode cX6_init 214 = .ok (.aload_n 0, 1) := by decide +kernel
theorem dX6_init_215 : decode cX6_init 215 = .ok (.bipush 24, 2) := by decide +kernel
theorem dX6_init_217 : decode cX6_init 217 = .ok (.newarray .int, 2) := by decide +kernel
theorem dX6_init_219 : decode cX6_init 219 = .ok (.putfield 34, 3) := by decide +kernel
theorem dX6_init_222 : decode cX6_init 222 = .ok (.aload_n 0, 1) := by decide +kernel
theorem dX6_init_223 : decode cX6_init 223 = .ok (.bipush 58, 2) := by decide +kernel
theorem dX6_init_225 : decode cX6_init 225 = .ok (.newarray .int, 2) := by decide +kernel
theorem dX6_init_227 : decode cX6_init 227 = .ok (.putfield 37, 3) := by decide +kernel
theorem dX6_init_230 : decode cX6_init 230 = .ok (.aload_n 0, 1) := by decide +kernel
theorem dX6_init_231 : decode cX6_init 231 = .ok (.iconst 4, 1) := by decide +kernel
theorem dX6_init_232 : decode cX6_init 232 = .ok (.newarray .int, 2) := by decide +kernel
theorem dX6_init_234 : decode cX6_init 234 = .ok (.putfield 40, 3) := by decide +kernel
theorem dX6_init_237 : decode cX6_init 237 = .ok (.aload_n 0, 1) := by decide +kernel
theorem dX6_init_238 : decode cX6_init 238 = .ok (.iconst 4, 1) := by decide +kernel
theorem dX6_init_239 : decode cX6_init 239 = .ok (.newarray .int, 2) := by decide +kernel
theorem dX6_init_241 : decode cX6_init 241 = .ok (.dup, 1) := by decide +kernel
theorem dX6_init_242 : decode cX6_init 242 = .ok (.iconst 0, 1) := by decide +kernel
theorem dX6_init_243 : decode cX6_init 243 = .ok (.iconst (-1), 1) := by decide +kernel
theorem dX6_init_244 : decode cX6_init 244 = .ok (.iastore, 1) := by decide +kernel
theorem dX6_init_245 : decode cX6_init 245 = .ok (.dup, 1) := by decide +kernel
theorem dX6_init_246 : decode cX6_init 246 = .ok (.iconst 1, 1) := by decide +kernel
theorem dX6_init_247 : decode cX6_init 247 = .ok (.iconst (-1), 1) := by decide +kernel
theorem dX6_init_248 : decode cX6_init 248 = .ok (.iastore, 1) := by decide +kernel
theorem dX6_init_249 : decode cX6_init 249 = .ok (.dup, 1) := by decide +kernel
theorem dX6_init_250 : decode cX6_init 250 = .ok (.iconst 2, 1) := by decide +kernel
theorem dX6_init_251 : decode cX6_init 251 = .ok (.iconst (-1), 1) := by decide +kernel
theorem dX6_init_252 : decode cX6_init 252 = .ok (.iastore, 1) := by decide +kernel
theorem dX6_init_253 : decode cX6_init 253 = .ok (.dup, 1) := by decide +kernel
theorem dX6_init_254 : decode cX6_init 254 = .ok (.iconst 3, 1) := by decide +kernel
theorem dX6_init_255 : decode cX6_init 255 = .ok (.iconst (-1), 1) := by decide +kernel
theorem dX6_init_256 : decode cX6_init 256 = .ok (.iastore, 1) := by decide +kernel
theorem dX6_init_257 : decode cX6_init 257 = .ok (.putfield 43, 3) := by decide +kernel
theorem dX6_init_260 : decode cX6_init 260 = .ok (.aload_n 0, 1) := by decide +kernel
theorem dX6_init_261 : decode cX6_init 261 = .ok (.iconst 4, 1) := by decide +kernel
theorem dX6_init_262 : decode cX6_init 262 = .ok (.newarray .int, 2) := by decide +kernel
theorem dX6_init_264 : decode cX6_init 264 = .ok (.putfield 46, 3) := by decide +kernel
theorem dX6_init_267 : decode cX6_init 267 = .ok (.aload_n 0, 1) := by decide +kernel
theorem dX6_init_268 : decode cX6_init 268 = .ok (.sipush 160, 3) := by decide +kernel
theorem dX6_init_271 : decode cX6_init 271 = .ok (.newarray .int, 2) := by decide +kernel
theorem dX6_init_273 : decode cX6_init 273 = .ok (.putfield 49, 3) := by decide +kernel
theorem dX6_init_276 : decode cX6_init 276 = .ok (.aload_n 0, 1) := by decide +kernel
theorem dX6_init_277 : decode cX6_init 277 = .ok (.bipush 35, 2) := by decide +kernel
theorem dX6_init_279 : decode cX6_init 279 = .ok (.newarray .int, 2) := by decide +kernel
theorem dX6_init_281 : decode cX6_init 281 = .ok (.dup, 1) := by decide +kernel
theorem dX6_init_282 : decode cX6_init 282 = .ok (.iconst 0, 1) := by decide +kernel
theorem dX6_init_283 : decode cX6_init 283 = .ok (.bipush 108, 2) := by decide +kernel
theorem dX6_init_285 : decode cX6_init 285 = .ok (.iastore, 1) := by decide +kernel
theorem dX6_init_286 : decode cX6_init 286 = .ok (.dup, 1) := by decide +kernel
theorem dX6_init_287 : decode cX6_init 287 = .ok (.iconst 1, 1) := by decide +kernel
theorem dX6_init_288 : decode cX6_init 288 = .ok (.bipush 111, 2) := by decide +kernel
theorem dX6_init_290 : decode cX6_init 290 = .ok (.iastore, 1) := by decide +kernel
theorem dX6_init_291 : decode cX6_init 291 = .ok (.dup, 1) := by decide +kernel
theorem dX6_init_292 : decode cX6_init 292 = .ok (.iconst 2, 1) := by decide +kernel
theorem dX6_init_293 : decode cX6_init 293 = .ok (.bipush 111, 2) := by decide +kernel
theorem dX6_init_295 : decode cX6_init 295 = .ok (.iastore, 1) := by decide +kernel
theorem dX6_init_296 : decode cX6_init 296 = .ok (.dup, 1) := by decide +kernel
theorem dX6_init_297 : decode cX6_init 297 = .ok (.iconst 3, 1) := by decide +kernel
theorem dX6_init_298 : decode cX6_init 298 = .ok (.bipush 107, 2) := by decide +kernel
theorem dX6_init_300 : decode cX6_init 300 = .ok (.iastore, 1) := by decide +kernel
theorem dX6_init_301 : decode cX6_init 301 = .ok (.dup, 1) := by decide +kernel
theorem dX6_init_302 : decode cX6_init 302 = .ok (.iconst 4, 1) := by decide +kernel
theorem dX6_init_303 : decode cX6_init 303 = .ok (.bipush 115, 2) := by decide +kernel
theorem dX6_init_305 : decode cX6_init 305 = .ok (.iastore, 1) := by decide +kernel
theorem dX6_init_306 : decode cX6_init 306 = .ok (.dup, 1) := by decide +kernel
theorem dX6_init_307 : decode cX6_init 307 = .ok (.iconst 5, 1) := by decide +kernel
theorem dX6_init_308 : decode cX6_init 308 = .ok (.bipush 32, 2) := by decide +kernel
theorem dX6_init_310 : decode cX6_init 310 = .ok (.iastore, 1) := by decide +kernel
theorem dX6_init_311 : decode cX6_init 311 = .ok (.dup, 1) := by decide +kernel
theorem dX6_init_312 : decode cX6_init 312 = .ok (.bipush 6, 2) := by decide +kernel
theorem dX6_init_314 : decode cX6_init 314 = .ok (.bipush 102, 2) := by decide +kernel
theorem dX6_init_316 : decode cX6_init 316 = .ok (.iastore, 1) := by decide +kernel
theorem dX6_init_317 : decode cX6_init 317 = .ok (.dup, 1) := by decide +kernel
theorem dX6_init_318 : decode cX6_init 318 = .ok (.bipush 7, 2) := by decide +kernel
theorem dX6_init_320 : decode cX6_init 320 = .ok (.bipush 97, 2) := by decide +kernel
theorem dX6_init_322 : decode cX6_init 322 = .ok (.iastore, 1) := by decide +kernel
theorem dX6_init_323 : decode cX6_init 323 = .ok (.dup, 1) := by decide +kernel
theorem dX6_init_324 : decode cX6_init 324 = .ok (.bipush 8, 2) := by decide +kernel
theorem dX6_init_326 : decode cX6_init 326 = .ok (.bipush 99, 2) := by decide +kernel
theorem dX6_init_328 : decode cX6_init 328 = .ok (.iastore, 1) := by decide +kernel
theorem dX6_init_329 : decode cX6_init 329 = .ok (.dup, 1) := by decide +kernel
theorem dX6_init_330 : decode cX6_init 330 = .ok (.bipush 9, 2) := by decide +kernel
theorem dX6_init_332 : decode cX6_init 332 = .ok (.bipush 101, 2) := by decide +kernel
theorem dX6_init_334 : decode cX6_init 334 = .ok (.iastore, 1) := by decide +kernel
theorem dX6_init_335 : decode cX6_init 335 = .ok (.dup, 1) := by decide +kernel
theorem dX6_init_336 : decode cX6_init 336 = .ok (.bipush 10, 2) := by decide +kernel
theorem dX6_init_338 : decode cX6_init 338 = .ok (.bipush 32, 2) := by decide +kernel
theorem dX6_init_340 : decode cX6_init 340 = .ok (.iastore, 1) := by decide +kernel
theorem dX6_init_341 : decode cX6_init 341 = .ok (.dup, 1) := by decide +kernel
theorem dX6_init_342 : decode cX6_init 342 = .ok (.bipush 11, 2) := by decide +kernel
theorem dX6_init_344 : decode cX6_init 344 = .ok (.bipush 59, 2) := by decide +kernel
theorem dX6_init_346 : decode cX6_init 346 = .ok (.iastore, 1) := by decide +kernel
theorem dX6_init_347 : decode cX6_init 347 = .ok (.dup, 1) := by decide +kernel
theorem dX6_init_348 : decode cX6_init 348 = .ok (.bipush 12, 2) := by decide +kernel
theorem dX6_init_350 : decode cX6_init 350 = .ok (.bipush 32, 2) := by decide +kernel
theorem dX6_init_352 : decode cX6_init 352 = .ok (.iastore, 1) := by decide +kernel
theorem dX6_init_353 : decode cX6_init 353 = .ok (.dup, 1) := by decide +kernel
theorem dX6_init_354 : decode cX6_init 354 = .ok (.bipush 13, 2) := by decide +kernel
theorem dX6_init_356 : decode cX6_init 356 = .ok (.bipush 119, 2) := by decide +kernel
theorem dX6_init_358 : decode cX6_init 358 = .ok (.iastore, 1) := by decide +kernel
theorem dX6_init_359 : decode cX6_init 359 = .ok (.dup, 1) := by decide +kernel
theorem dX6_init_360 : decode cX6_init 360 = .ok (.bipush 14, 2) := by decide +kernel
theorem dX6_init_362 : decode cX6_init 362 = .ok (.bipush 97, 2) := by decide +kernel
theorem dX6_init_364 : decode cX6_init 364 = .ok (.iastore, 1) := by decide +kernel
theorem dX6_init_365 : decode cX6_init 365 = .ok (.dup, 1) := by decide +kernel
theorem dX6_init_366 : decode cX6_init 366 = .ok (.bipush 15, 2) := by decide +kernel
theorem dX6_init_368 : decode cX6_init 368 = .ok (.bipush 105, 2) := by decide +kernel
theorem dX6_init_370 : decode cX6_init 370 = .ok (.iastore, 1) := by decide +kernel
theorem dX6_init_371 : decode cX6_init 371 = .ok (.dup, 1) := by decide +kernel
theorem dX6_init_372 : decode cX6_init 372 = .ok (.bipush 16, 2) := by decide +kernel
theorem dX6_init_374 : decode cX6_init 374 = .ok (.bipush 116, 2) := by decide +kernel
theorem dX6_init_376 : decode cX6_init 376 = .ok (.iastore, 1) := by decide +kernel
theorem dX6_init_377 : decode cX6_init 377 = .ok (.dup, 1) := by decide +kernel
theorem dX6_init_378 : decode cX6_init 378 = .ok (.bipush 17, 2) := by decide +kernel
theorem dX6_init_380 : decode cX6_init 380 = .ok (.bipush 115, 2) := by decide +kernel
theorem dX6_init_382 : decode cX6_init 382 = .ok (.iastore, 1) := by decide +kernel
theorem dX6_init_383 : decode cX6_init 383 = .ok (.dup, 1) := by decide +kernel
theorem dX6_init_384 : decode cX6_init 384 = .ok (.bipush 18, 2) := by decide +kernel
theorem dX6_init_386 : decode cX6_init 386 = .ok (.bipush 32, 2) := by decide +kernel
theorem dX6_init_388 : decode cX6_init 388 = .ok (.iastore, 1) := by decide +kernel
theorem dX6_init_389 : decode cX6_init 389 = .ok (.dup, 1) := by decide +kernel
theorem dX6_init_390 : decode cX6_init 390 = .ok (.bipush 19, 2) := by decide +kernel
theorem dX6_init_392 : decode cX6_init 392 = .ok (.bipush 54, 2) := by decide +kernel
theorem dX6_init_394 : decode cX6_init 394 = .ok (.iastore, 1) := by decide +kernel
theorem dX6_init_395 : decode cX6_init 395 = .ok (.dup, 1) := by decide +kernel
theorem dX6_init_396 : decode cX6_init 396 = .ok (.bipush 20, 2) := by decide +kernel
theorem dX6_init_398 : decode cX6_init 398 = .ok (.bipush 32, 2) := by decide +kernel
theorem dX6_init_400 : decode cX6_init 400 = .ok (.iastore, 1) := by decide +kernel
theorem dX6_init_401 : decode cX6_init 401 = .ok (.dup, 1) := by decide +kernel
theorem dX6_init_402 : decode cX6_init 402 = .ok (.bipush 21, 2) := by decide +kernel
theorem dX6_init_404 : decode cX6_init 404 = .ok (.bipush 59, 2) := by decide +kernel
theorem dX6_init_406 : decode cX6_init 406 = .ok (.iastore, 1) := by decide +kernel
theorem dX6_init_407 : decode cX6_init 407 = .ok (.dup, 1) := by decide +kernel
theorem dX6_init_408 : decode cX6_init 408 = .ok (.bipush 22, 2) := by decide +kernel
theorem dX6_init_410 : decode cX6_init 410 = .ok (.bipush 32, 2) := by decide +kernel
theorem dX6_init_412 : decode cX6_init 412 = .ok (.iastore, 1) := by decide +kernel
theorem dX6_init_413 : decode cX6_init 413 = .ok (.dup, 1) := by decide +kernel
theorem dX6_init_414 : decode cX6_init 414 = .ok (.bipush 23, 2) := by decide +kernel
theorem dX6_init_416 : decode cX6_init 416 = .ok (.bipush 100, 2) := by decide +kernel
theorem dX6_init_418 : decode cX6_init 418 = .ok (.iastore, 1) := by decide +kernel
theorem dX6_init_419 : decode cX6_init 419 = .ok (.dup, 1) := by decide +kernel
theorem dX6_init_420 : decode cX6_init 420 = .ok (.bipush 24, 2) := by decide +kernel
theorem dX6_init_422 : decode cX6_init 422 = .ok (.bipush 114, 2) := by decide +kernel
theorem dX6_init_424 : decode cX6_init 424 = .ok (.iastore, 1) := by decide +kernel
theorem dX6_init_425 : decode cX6_init 425 = .ok (.dup, 1) := by decide +kernel
theorem dX6_init_426 : decode cX6_init 426 = .ok (.bipush 25, 2) := by decide +kernel
theorem dX6_init_428 : decode cX6_init 428 = .ok (.bipush 111, 2) := by decide +kernel
theorem dX6_init_430 : decode cX6_init 430 = .ok (.iastore, 1) := by decide +kernel
theorem dX6_init_431 : decode cX6_init 431 = .ok (.dup, 1) := by decide +kernel
theorem dX6_init_432 : decode cX6_init 432 = .ok (.bipush 26, 2) := by decide +kernel
theorem dX6_init_434 : decode cX6_init 434 = .ok (.bipush 112, 2) := by decide +kernel
theorem dX6_init_436 : decode cX6_init 436 = .ok (.iastore, 1) := by decide +kernel
theorem dX6_init_437 : decode cX6_init 437 = .ok (.dup, 1) := by decide +kernel
theorem dX6_init_438 : decode cX6_init 438 = .ok (.bipush 27, 2) := by decide +kernel
theorem dX6_init_440 : decode cX6_init 440 = .ok (.bipush 115, 2) := by decide +kernel
theorem dX6_init_442 : decode cX6_init 442 = .ok (.iastore, 1) := by decide +kernel
theorem dX6_init_443 : decode cX6_init 443 = .ok (.dup, 1) := by decide +kernel
theorem dX6_init_444 : decode cX6_init 444 = .ok (.bipush 28, 2) := by decide +kernel
theorem dX6_init_446 : decode cX6_init 446 = .ok (.bipush 32, 2) := by decide +kernel
theorem dX6_init_448 : decode cX6_init 448 = .ok (.iastore, 1) := by decide +kernel
theorem dX6_init_449 : decode cX6_init 449 = .ok (.dup, 1) := by decide +kernel
theorem dX6_init_450 : decode cX6_init 450 = .ok (.bipush 29, 2) := by decide +kernel
theorem dX6_init_452 : decode cX6_init 452 = .ok (.bipush 104, 2) := by decide +kernel
theorem dX6_init_454 : decode cX6_init 454 = .ok (.iastore, 1) := by decide +kernel
theorem dX6_init_455 : decode cX6_init 455 = .ok (.dup, 1) := by decide +kernel
theorem dX6_init_456 : decode cX6_init 456 = .ok (.bipush 30, 2) := by decide +kernel
theorem dX6_init_458 : decode cX6_init 458 = .ok (.bipush 111, 2) := by decide +kernel
theorem dX6_init_460 : decode cX6_init 460 = .ok (.iastore, 1) := by decide +kernel
theorem dX6_init_461 : decode cX6_init 461 = .ok (.dup, 1) := by decide +kernel
theorem dX6_init_462 : decode cX6_init 462 = .ok (.bipush 31, 2) := by decide +kernel
theorem dX6_init_464 : decode cX6_init 464 = .ok (.bipush 117, 2) := by decide +kernel
theorem dX6_init_466 : decode cX6_init 466 = .ok (.iastore, 1) := by decide +kernel
theorem dX6_init_467 : decode cX6_init 467 = .ok (.dup, 1) := by decide +kernel
theorem dX6_init_468 : decode cX6_init 468 = .ok (.bipush 32, 2) := by decide +kernel
theorem dX6_init_470 : decode cX6_init 470 = .ok (.bipush 114, 2) := by decide +kernel
theorem dX6_init_472 : decode cX6_init 472 = .ok (.iastore, 1) := by decide +kernel
theorem dX6_init_473 : decode cX6_init 473 = .ok (.dup, 1) := by decide +kernel
theorem dX6_init_474 : decode cX6_init 474 = .ok (.bipush 33, 2) := by decide +kernel
theorem dX6_init_476 : decode cX6_init 476 = .ok (.bipush 32, 2) := by decide +kernel
theorem dX6_init_478 : decode cX6_init 478 = .ok (.iastore, 1) := by decide +kernel
theorem dX6_init_479 : decode cX6_init 479 = .ok (.dup, 1) := by decide +kernel
theorem dX6_init_480 : decode cX6_init 480 = .ok (.bipush 34, 2) := by decide +kernel
theorem dX6_init_482 : decode cX6_init 482 = .ok (.bipush 59, 2) := by decide +kernel
theorem dX6_init_484 : decode cX6_init 484 = .ok (.iastore, 1) := by decide +kernel
theorem dX6_init_485 : decode cX6_init 485 = .ok (.putfield 52, 3) := by decide +kernel
theorem dX6_init_488 : decode cX6_init 488 = .ok (.aload_n 0, 1) := by decide +kernel
theorem dX6_init_489 : decode cX6_init 489 = .ok (.bipush 96, 2) := by decide +kernel
theorem dX6_init_491 : decode cX6_init 491 = .ok (.newarray .int, 2) := by decide +kernel
theorem dX6_init_493 : decode cX6_init 493 = .ok (.dup, 1) := by decide +kernel
theorem dX6_init_494 : decode cX6_init 494 = .ok (.iconst 0, 1) := by decide +kernel
theorem dX6_init_495 : decode cX6_init 495 = .ok (.bipush 108, 2) := by decide +kernel
theorem dX6_init_497 : decode cX6_init 497 = .ok (.iastore, 1) := by decide +kernel
theorem dX6_init_498 : decode cX6_init 498 = .ok (.dup, 1) := by decide +kernel
theorem dX6_init_499 : decode cX6_init 499 = .ok (.iconst 1, 1) := by decide +kernel
theorem dX6_init_500 : decode cX6_init 500 = .ok (.bipush 111, 2) := by decide +kernel
theorem dX6_init_502 : decode cX6_init 502 = .ok (.iastore, 1) := by decide +kernel
theorem dX6_init_503 : decode cX6_init 503 = .ok (.dup, 1) := by decide +kernel
theorem dX6_init_504 : decode cX6_init 504 = .ok (.iconst 2, 1) := by decide +kernel
theorem dX6_init_505 : decode cX6_init 505 = .ok (.bipush 111, 2) := by decide +kernel
theorem dX6_init_507 : decode cX6_init 507 = .ok (.iastore, 1) := by decide +kernel
theorem dX6_init_508 : decode cX6_init 508 = .ok (.dup, 1) := by decide +kernel
theorem dX6_init_509 : decode cX6_init 509 = .ok (.iconst 3, 1) := by decide +kernel
theorem dX6_init_510 : decode cX6_init 510 = .ok (.bipush 107, 2) := by decide +kernel
theorem dX6_init_512 : decode cX6_init 512 = .ok (.iastore, 1) := by decide +kernel
theorem dX6_init_513 : decode cX6_init 513 = .ok (.dup, 1) := by decide +kernel
theorem dX6_init_514 : decode cX6_init 514 = .ok (.iconst 4, 1) := by decide +kernel
theorem dX6_init_515 : decode cX6_init 515 = .ok (.bipush 115, 2) := by decide +kernel
theorem dX6_init_517 : decode cX6_init 517 = .ok (.iastore, 1) := by decide +kernel
theorem dX6_init_518 : decode cX6_init 518 = .ok (.dup, 1) := by decide +kernel
theorem dX6_init_519 : decode cX6_init 519 = .ok (.iconst 5, 1) := by decide +kernel
theorem dX6_init_520 : decode cX6_init 520 = .ok (.bipush 32, 2) := by decide +kernel
theorem dX6_init_522 : decode cX6_init 522 = .ok (.iastore, 1) := by decide +kernel
theorem dX6_init_523 : decode cX6_init 523 = .ok (.dup, 1) := by decide +kernel
theorem dX6_init_524 : decode cX6_init 524 = .ok (.bipush 6, 2) := by decide +kernel
theorem dX6_init_526 : decode cX6_init 526 = .ok (.bipush 32, 2) := by decide +kernel
theorem dX6_init_528 : decode cX6_init 528 = .ok (.iastore, 1) := by decide +kernel
theorem dX6_init_529 : decode cX6_init 529 = .ok (.dup, 1) := by decide +kernel
theorem dX6_init_530 : decode cX6_init 530 = .ok (.bipush 7, 2) := by decide +kernel
theorem dX6_init_532 : decode cX6_init 532 = .ok (.bipush 32, 2) := by decide +kernel
theorem dX6_init_534 : decode cX6_init 534 = .ok (.iastore, 1) := by decide +kernel
theorem dX6_init_535 : decode cX6_init 535 = .ok (.dup, 1) := by decide +kernel
theorem dX6_init_536 : decode cX6_init 536 = .ok (.bipush 8, 2) := by decide +kernel
theorem dX6_init_538 : decode cX6_init 538 = .ok (.bipush 119, 2) := by decide +kernel
theorem dX6_init_540 : decode cX6_init 540 = .ok (.iastore, 1) := by decide +kernel
theorem dX6_init_541 : decode cX6_init 541 = .ok (.dup, 1) := by decide +kernel
theorem dX6_init_542 : decode cX6_init 542 = .ok (.bipush 9, 2) := by decide +kernel
theorem dX6_init_544 : decode cX6_init 544 = .ok (.bipush 97, 2) := by decide +kernel
theorem dX6_init_546 : decode cX6_init 546 = .ok (.iastore, 1) := by decide +kernel
theorem dX6_init_547 : decode cX6_init 547 = .ok (.dup, 1) := by decide +kernel
theorem dX6_init_548 : decode cX6_init 548 = .ok (.bipush 10, 2) := by decide +kernel
theorem dX6_init_550 : decode cX6_init 550 = .ok (.bipush 105, 2) := by decide +kernel
theorem dX6_init_552 : decode cX6_init 552 = .ok (.iastore, 1) := by decide +kernel
theorem dX6_init_553 : decode cX6_init 553 = .ok (.dup, 1) := by decide +kernel
theorem dX6_init_554 : decode cX6_init 554 = .ok (.bipush 11, 2) := by decide +kernel
theorem dX6_init_556 : decode cX6_init 556 = .ok (.bipush 116, 2) := by decide +kernel
theorem dX6_init_558 : decode cX6_init 558 = .ok (.iastore, 1) := by decide +kernel
theorem dX6_init_559 : decode cX6_init 559 = .ok (.dup, 1) := by decide +kernel
theorem dX6_init_560 : decode cX6_init 560 = .ok (.bipush 12, 2) := by decide +kernel
theorem dX6_init_562 : decode cX6_init 562 = .ok (.bipush 115, 2) := by decide +kernel
theorem dX6_init_564 : decode cX6_init 564 = .ok (.iastore, 1) := by decide +kernel
theorem dX6_init_565 : decode cX6_init 565 = .ok (.dup, 1) := by decide +kernel
theorem dX6_init_566 : decode cX6_init 566 = .ok (.bipush 13, 2) := by decide +kernel
theorem dX6_init_568 : decode cX6_init 568 = .ok (.bipush 32, 2) := by decide +kernel
theorem dX6_init_570 : decode cX6_init 570 = .ok (.iastore, 1) := by decide +kernel
theorem dX6_init_571 : decode cX6_init 571 = .ok (.dup, 1) := by decide +kernel
theorem dX6_init_572 : decode cX6_init 572 = .ok (.bipush 14, 2) := by decide +kernel
theorem dX6_init_574 : decode cX6_init 574 = .ok (.bipush 32, 2) := by decide +kernel
theorem dX6_init_576 : decode cX6_init 576 = .ok (.iastore, 1) := by decide +kernel
theorem dX6_init_577 : decode cX6_init 577 = .ok (.dup, 1) := by decide +kernel
theorem dX6_init_578 : decode cX6_init 578 = .ok (.bipush 15, 2) := by decide +kernel
theorem dX6_init_580 : decode cX6_init 580 = .ok (.bipush 32, 2) := by decide +kernel
theorem dX6_init_582 : decode cX6_init 582 = .ok (.iastore, 1) := by decide +kernel
theorem dX6_init_583 : decode cX6_init 583 = .ok (.dup, 1) := by decide +kernel
theorem dX6_init_584 : decode cX6_init 584 = .ok (.bipush 16, 2) := by decide +kernel
theorem dX6_init_586 : decode cX6_init 586 = .ok (.bipush 100, 2) := by decide +kernel
theorem dX6_init_588 : decode cX6_init 588 = .ok (.iastore, 1) := by decide +kernel
theorem dX6_init_589 : decode cX6_init 589 = .ok (.dup, 1) := by decide +kernel
theorem dX6_init_590 : decode cX6_init 590 = .ok (.bipush 17, 2) := by decide +kernel
theorem dX6_init_592 : decode cX6_init 592 = .ok (.bipush 114, 2) := by decide +kernel
theorem dX6_init_594 : decode cX6_init 594 = .ok (.iastore, 1) := by decide +kernel
theorem dX6_init_595 : decode cX6_init 595 = .ok (.dup, 1) := by decide +kernel
theorem dX6_init_596 : decode cX6_init 596 = .ok (.bipush 18, 2) := by decide +kernel
theorem dX6_init_598 : decode cX6_init 598 = .ok (.bipush 111, 2) := by decide +kernel
theorem dX6_init_600 : decode cX6_init 600 = .ok (.iastore, 1) := by decide +kernel
theorem dX6_init_601 : decode cX6_init 601 = .ok (.dup, 1) := by decide +kernel
theorem dX6_init_602 : decode cX6_init 602 = .ok (.bipush 19, 2) := by decide +kernel
theorem dX6_init_604 : decode cX6_init 604 = .ok (.bipush 112, 2) := by decide +kernel
theorem dX6_init_606 : decode cX6_init 606 = .ok (.iastore, 1) := by decide +kernel
theorem dX6_init_607 : decode cX6_init 607 = .ok (.dup, 1) := by decide +kernel
theorem dX6_init_608 : decode cX6_init 608 = .ok (.bipush 20, 2) := by decide +kernel
theorem dX6_init_610 : decode cX6_init 610 = .ok (.bipush 115, 2) := by decide +kernel
theorem dX6_init_612 : decode cX6_init 612 = .ok (.iastore, 1) := by decide +kernel
theorem dX6_init_613 : decode cX6_init 613 = .ok (.dup, 1) := by decide +kernel
theorem dX6_init_614 : decode cX6_init 614 = .ok (.bipush 21, 2) := by decide +kernel
theorem dX6_init_616 : decode cX6_init 616 = .ok (.bipush 32, 2) := by decide +kernel
theorem dX6_init_618 : decode cX6_init 618 = .ok (.iastore, 1) := by decide +kernel
theorem dX6_init_619 : decode cX6_init 619 = .ok (.dup, 1) := by decide +kernel
theorem dX6_init_620 : decode cX6_init 620 = .ok (.bipush 22, 2) := by decide +kernel
theorem dX6_init_622 : decode cX6_init 622 = .ok (.bipush 32, 2) := by decide +kernel
theorem dX6_init_624 : decode cX6_init 624 = .ok (.iastore, 1) := by decide +kernel
theorem dX6_init_625 : decode cX6_init 625 = .ok (.dup, 1) := by decide +kernel
theorem dX6_init_626 : decode cX6_init 626 = .ok (.bipush 23, 2) := by decide +kernel
theorem dX6_init_628 : decode cX6_init 628 = .ok (.bipush 32, 2) := by decide +kernel
theorem dX6_init_630 : decode cX6_init 630 = .ok (.iastore, 1) := by decide +kernel
theorem dX6_init_631 : decode cX6_init 631 = .ok (.dup, 1) := by decide +kernel
theorem dX6_init_632 : decode cX6_init 632 = .ok (.bipush 24, 2) := by decide +kernel
theorem dX6_init_634 : decode cX6_init 634 = .ok (.bipush 102, 2) := by decide +kernel
theorem dX6_init_636 : decode cX6_init 636 = .ok (.iastore, 1) := by decide +kernel
theorem dX6_init_637 : decode cX6_init 637 = .ok (.dup, 1) := by decide +kernel
theorem dX6_init_638 : decode cX6_init 638 = .ok (.bipush 25, 2) := by decide +kernel
theorem dX6_init_640 : decode cX6_init 640 = .ok (.bipush 97, 2) := by decide +kernel
theorem dX6_init_642 : decode cX6_init 642 = .ok (.iastore, 1) := by decide +kernel
theorem dX6_init_643 : decode cX6_init 643 = .ok (.dup, 1) := by decide +kernel
theorem dX6_init_644 : decode cX6_init 644 = .ok (.bipush 26, 2) := by decide +kernel
theorem dX6_init_646 : decode cX6_init 646 = .ok (.bipush 99, 2) := by decide +kernel
theorem dX6_init_648 : decode cX6_init 648 = .ok (.iastore, 1) := by decide +kernel
theorem dX6_init_649 : decode cX6_init 649 = .ok (.dup, 1) := by decide +kernel
theorem dX6_init_650 : decode cX6_init 650 = .ok (.bipush 27, 2) := by decide +kernel
theorem dX6_init_652 : decode cX6_init 652 = .ok (.bipush 101, 2) := by decide +kernel
theorem dX6_init_654 : decode cX6_init 654 = .ok (.iastore, 1) := by decide +kernel
theorem dX6_init_655 : decode cX6_init 655 = .ok (.dup, 1) := by decide +kernel
theorem dX6_init_656 : decode cX6_init 656 = .ok (.bipush 28, 2) := by decide +kernel
theorem dX6_init_658 : decode cX6_init 658 = .ok (.bipush 32, 2) := by decide +kernel
theorem dX6_init_660 : decode cX6_init 660 = .ok (.iastore, 1) := by decide +kernel
theorem dX6_init_661 : decode cX6_init 661 = .ok (.dup, 1) := by decide +kernel
theorem dX6_init_662 : decode cX6_init 662 = .ok (.bipush 29, 2) := by decide +kernel
theorem dX6_init_664 : decode cX6_init 664 = .ok (.bipush 32, 2) := by decide +kernel
theorem dX6_init_666 : decode cX6_init 666 = .ok (.iastore, 1) := by decide +kernel
theorem dX6_init_667 : decode cX6_init 667 = .ok (.dup, 1) := by decide +kernel
theorem dX6_init_668 : decode cX6_init 668 = .ok (.bipush 30, 2) := by decide +kernel
theorem dX6_init_670 : decode cX6_init 670 = .ok (.bipush 32, 2) := by decide +kernel
theorem dX6_init_672 : decode cX6_init 672 = .ok (.iastore, 1) := by decide +kernel
theorem dX6_init_673 : decode cX6_init 673 = .ok (.dup, 1) := by decide +kernel
theorem dX6_init_674 : decode cX6_init 674 = .ok (.bipush 31, 2) := by decide +kernel
theorem dX6_init_676 : decode cX6_init 676 = .ok (.bipush 32, 2) := by decide +kernel
theorem dX6_init_678 : decode cX6_init 678 = .ok (.iastore, 1) := by decide +kernel
theorem dX6_init_679 : decode cX6_init 679 = .ok (.dup, 1) := by decide +kernel
theorem dX6_init_680 : decode cX6_init 680 = .ok (.bipush 32, 2) := by decide +kernel
theorem dX6_init_682 : decode cX6_init 682 = .ok (.bipush 107, 2) := by decide +kernel
theorem dX6_init_684 : decode cX6_init 684 = .ok (.iastore, 1) := by decide +kernel
theorem dX6_init_685 : decode cX6_init 685 = .ok (.dup, 1) := by decide +kernel
theorem dX6_init_686 : decode cX6_init 686 = .ok (.bipush 33, 2) := by decide +kernel
theorem dX6_init_688 : decode cX6_init 688 = .ok (.bipush 110, 2) := by decide +kernel
theorem dX6_init_690 : decode cX6_init 690 = .ok (.iastore, 1) := by decide +kernel
theorem dX6_init_691 : decode cX6_init 691 = .ok (.dup, 1) := by decide +kernel
theorem dX6_init_692 : decode cX6_init 692 = .ok (.bipush 34, 2) := by decide +kernel
theorem dX6_init_694 : decode cX6_init 694 = .ok (.bipush 111, 2) := by decide +kernel
theorem dX6_init_696 : decode cX6_init 696 = .ok (.iastore, 1) := by decide +kernel
theorem dX6_init_697 : decode cX6_init 697 = .ok (.dup, 1) := by decide +kernel
theorem dX6_init_698 : decode cX6_init 698 = .ok (.bipush 35, 2) := by decide +kernel
theorem dX6_init_700 : decode cX6_init 700 = .ok (.bipush 119, 2) := by decide +kernel
theorem dX6_init_702 : decode cX6_init 702 = .ok (.iastore, 1) := by decide +kernel
theorem dX6_init_703 : decode cX6_init 703 = .ok (.dup, 1) := by decide +kernel
theorem dX6_init_704 : decode cX6_init 704 = .ok (.bipush 36, 2) := by decide +kernel
theorem dX6_init_706 : decode cX6_init 706 = .ok (.bipush 110, 2) := by decide +kernel
theorem dX6_init_708 : decode cX6_init 708 = .ok (.iastore, 1) := by decide +kernel
theorem dX6_init_709 : decode cX6_init 709 = .ok (.dup, 1) := by decide +kernel
theorem dX6_init_710 : decode cX6_init 710 = .ok (.bipush 37, 2) := by decide +kernel
theorem dX6_init_712 : decode cX6_init 712 = .ok (.bipush 32, 2) := by decide +kernel
theorem dX6_init_714 : decode cX6_init 714 = .ok (.iastore, 1) := by decide +kernel
theorem dX6_init_715 : decode cX6_init 715 = .ok (.dup, 1) := by decide +kernel
theorem dX6_init_716 : decode cX6_init 716 = .ok (.bipush 38, 2) := by decide +kernel
theorem dX6_init_718 : decode cX6_init 718 = .ok (.bipush 32, 2) := by decide +kernel
theorem dX6_init_720 : decode cX6_init 720 = .ok (.iastore, 1) := by decide +kernel
theorem dX6_init_721 : decode cX6_init 721 = .ok (.dup, 1) := by decide +kernel
theorem dX6_init_722 : decode cX6_init 722 = .ok (.bipush 39, 2) := by decide +kernel
theorem dX6_init_724 : decode cX6_init 724 = .ok (.bipush 32, 2) := by decide +kernel
theorem dX6_init_726 : decode cX6_init 726 = .ok (.iastore, 1) := by decide +kernel
theorem dX6_init_727 : decode cX6_init 727 = .ok (.dup, 1) := by decide +kernel
theorem dX6_init_728 : decode cX6_init 728 = .ok (.bipush 40, 2) := by decide +kernel
theorem dX6_init_730 : decode cX6_init 730 = .ok (.bipush 104, 2) := by decide +kernel
theorem dX6_init_732 : decode cX6_init 732 = .ok (.iastore, 1) := by decide +kernel
theorem dX6_init_733 : decode cX6_init 733 = .ok (.dup, 1) := by decide +kernel
theorem dX6_init_734 : decode cX6_init 734 = .ok (.bipush 41, 2) := by decide +kernel
theorem dX6_init_736 : decode cX6_init 736 = .ok (.bipush 111, 2) := by decide +kernel
theorem dX6_init_738 : decode cX6_init 738 = .ok (.iastore, 1) := by decide +kernel
theorem dX6_init_739 : decode cX6_init 739 = .ok (.dup, 1) := by decide +kernel
theorem dX6_init_740 : decode cX6_init 740 = .ok (.bipush 42, 2) := by decide +kernel
theorem dX6_init_742 : decode cX6_init 742 = .ok (.bipush 117, 2) := by decide +kernel
theorem dX6_init_744 : decode cX6_init 744 = .ok (.iastore, 1) := by decide +kernel
theorem dX6_init_745 : decode cX6_init 745 = .ok (.dup, 1) := by decide +kernel
theorem dX6_init_746 : decode cX6_init 746 = .ok (.bipush 43, 2) := by decide +kernel
theorem dX6_init_748 : decode cX6_init 748 = .ok (.bipush 114, 2) := by decide +kernel
theorem dX6_init_750 : decode cX6_init 750 = .ok (.iastore, 1) := by decide +kernel
theorem dX6_init_751 : decode cX6_init 751 = .ok (.dup, 1) := by decide +kernel
theorem dX6_init_752 : decode cX6_init 752 = .ok (.bipush 44, 2) := by decide +kernel
theorem dX6_init_754 : decode cX6_init 754 = .ok (.bipush 32, 2) := by decide +kernel
theorem dX6_init_756 : decode cX6_init 756 = .ok (.iastore, 1) := by decide +kernel
theorem dX6_init_757 : decode cX6_init 757 = .ok (.dup, 1) := by decide +kernel
theorem dX6_init_758 : decode cX6_init 758 = .ok (.bipush 45, 2) := by decide +kernel
theorem dX6_init_760 : decode cX6_init 760 = .ok (.bipush 32, 2) := by decide +kernel
theorem dX6_init_762 : decode cX6_init 762 = .ok (.iastore, 1) := by decide +kernel
theorem dX6_init_763 : decode cX6_init 763 = .ok (.dup, 1) := by decide +kernel
theorem dX6_init_764 : decode cX6_init 764 = .ok (.bipush 46, 2) := by decide +kernel
theorem dX6_init_766 : decode cX6_init 766 = .ok (.bipush 32, 2) := by decide +kernel
theorem dX6_init_768 : decode cX6_init 768 = .ok (.iastore, 1) := by decide +kernel
theorem dX6_init_769 : decode cX6_init 769 = .ok (.dup, 1) := by decide +kernel
theorem dX6_init_770 : decode cX6_init 770 = .ok (.bipush 47, 2) := by decide +kernel
theorem dX6_init_772 : decode cX6_init 772 = .ok (.bipush 32, 2) := by decide +kernel
theorem dX6_init_774 : decode cX6_init 774 = .ok (.iastore, 1) := by decide +kernel
theorem dX6_init_775 : decode cX6_init 775 = .ok (.dup, 1) := by decide +kernel
theorem dX6_init_776 : decode cX6_init 776 = .ok (.bipush 48, 2) := by decide +kernel
theorem dX6_init_778 : decode cX6_init 778 = .ok (.bipush 108, 2) := by decide +kernel
theorem dX6_init_780 : decode cX6_init 780 = .ok (.iastore, 1) := by decide +kernel
theorem dX6_init_781 : decode cX6_init 781 = .ok (.dup, 1) := by decide +kernel
theorem dX6_init_782 : decode cX6_init 782 = .ok (.bipush 49, 2) := by decide +kernel
theorem dX6_init_784 : decode cX6_init 784 = .ok (.bipush 121, 2) := by decide +kernel
theorem dX6_init_786 : decode cX6_init 786 = .ok (.iastore, 1) := by decide +kernel
theorem dX6_init_787 : decode cX6_init 787 = .ok (.dup, 1) := by decide +kernel
theorem dX6_init_788 : decode cX6_init 788 = .ok (.bipush 50, 2) := by decide +kernel
theorem dX6_init_790 : decode cX6_init 790 = .ok (.bipush 105, 2) := by decide +kernel
theorem dX6_init_792 : decode cX6_init 792 = .ok (.iastore, 1) := by decide +kernel
theorem dX6_init_793 : decode cX6_init 793 = .ok (.dup, 1) := by decide +kernel
theorem dX6_init_794 : decode cX6_init 794 = .ok (.bipush 51, 2) := by decide +kernel
theorem dX6_init_796 : decode cX6_init 796 = .ok (.bipush 110, 2) := by decide +kernel
theorem dX6_init_798 : decode cX6_init 798 = .ok (.iastore, 1) := by decide +kernel
theorem dX6_init_799 : decode cX6_init 799 = .ok (.dup, 1) := by decide +kernel
theorem dX6_init_800 : decode cX6_init 800 = .ok (.bipush 52, 2) := by decide +kernel
theorem dX6_init_802 : decode cX6_init 802 = .ok (.bipush 103, 2) := by decide +kernel
theorem dX6_init_804 : decode cX6_init 804 = .ok (.iastore, 1) := by decide +kernel
theorem dX6_init_805 : decode cX6_init 805 = .ok (.dup, 1) := by decide +kernel
theorem dX6_init_806 : decode cX6_init 806 = .ok (.bipush 53, 2) := by decide +kernel
theorem dX6_init_808 : decode cX6_init 808 = .ok (.bipush 32, 2) := by decide +kernel
theorem dX6_init_810 : decode cX6_init 810 = .ok (.iastore, 1) := by decide +kernel
theorem dX6_init_811 : decode cX6_init 811 = .ok (.dup, 1) := by decide +kernel
theorem dX6_init_812 : decode cX6_init 812 = .ok (.bipush 54, 2) := by decide +kernel
theorem dX6_init_814 : decode cX6_init 814 = .ok (.bipush 32, 2) := by decide +kernel
theorem dX6_init_816 : decode cX6_init 816 = .ok (.iastore, 1) := by decide +kernel
theorem dX6_init_817 : decode cX6_init 817 = .ok (.dup, 1) := by decide +kernel
theorem dX6_init_818 : decode cX6_init 818 = .ok (.bipush 55, 2) := by decide +kernel
theorem dX6_init_820 : decode cX6_init 820 = .ok (.bipush 32, 2) := by decide +kernel
theorem dX6_init_822 : decode cX6_init 822 = .ok (.iastore, 1) := by decide +kernel
theorem dX6_init_823 : decode cX6_init 823 = .ok (.dup, 1) := by decide +kernel
theorem dX6_init_824 : decode cX6_init 824 = .ok (.bipush 56, 2) := by decide +kernel
theorem dX6_init_826 : decode cX6_init 826 = .ok (.bipush 97, 2) := by decide +kernel
theorem dX6_init_828 : decode cX6_init 828 = .ok (.iastore, 1) := by decide +kernel
theorem dX6_init_829 : decode cX6_init 829 = .ok (.dup, 1) := by decide +kernel
theorem dX6_init_830 : decode cX6_init 830 = .ok (.bipush 57, 2) := by decide +kernel
theorem dX6_init_832 : decode cX6_init 832 = .ok (.bipush 100, 2) := by decide +kernel
theorem dX6_init_834 : decode cX6_init 834 = .ok (.iastore, 1) := by decide +kernel
theorem dX6_init_835 : decode cX6_init 835 = .ok (.dup, 1) := by decide +kernel
theorem dX6_init_836 : decode cX6_init 836 = .ok (.bipush 58, 2) := by decide +kernel
theorem dX6_init_838 : decode cX6_init 838 = .ok (.bipush 109, 2) := by decide +kernel
theorem dX6_init_840 : decode cX6_init 840 = .ok (.iastore, 1) := by decide +kernel
theorem dX6_init_841 : decode cX6_init 841 = .ok (.dup, 1) := by decide +kernel
theorem dX6_init_842 : decode cX6_init 842 = .ok (.bipush 59, 2) := by decide +kernel
theorem dX6_init_844 : decode cX6_init 844 = .ok (.bipush 105, 2) := by decide +kernel
theorem dX6_init_846 : decode cX6_init 846 = .ok (.iastore, 1) := by decide +kernel
theorem dX6_init_847 : decode cX6_init 847 = .ok (.dup, 1) := by decide +kernel
theorem dX6_init_848 : decode cX6_init 848 = .ok (.bipush 60, 2) := by decide +kernel
theorem dX6_init_850 : decode cX6_init 850 = .ok (.bipush 116, 2) := by decide +kernel
theorem dX6_init_852 : decode cX6_init 852 = .ok (.iastore, 1) := by decide +kernel
theorem dX6_init_853 : decode cX6_init 853 = .ok (.dup, 1) := by decide +kernel
theorem dX6_init_854 : decode cX6_init 854 = .ok (.bipush 61, 2) := by decide +kernel
theorem dX6_init_856 : decode cX6_init 856 = .ok (.bipush 116, 2) := by decide +kernel
theorem dX6_init_858 : decode cX6_init 858 = .ok (.iastore, 1) := by decide +kernel
theorem dX6_init_859 : decode cX6_init 859 = .ok (.dup, 1) := by decide +kernel
theorem dX6_init_860 : decode cX6_init 860 = .ok (.bipush 62, 2) := by decide +kernel
theorem dX6_init_862 : decode cX6_init 862 = .ok (.bipush 101, 2) := by decide +kernel
theorem dX6_init_864 : decode cX6_init 864 = .ok (.iastore, 1) := by decide +kernel
theorem dX6_init_865 : decode cX6_init 865 = .ok (.dup, 1) := by decide +kernel
theorem dX6_init_866 : decode cX6_init 866 = .ok (.bipush 63, 2) := by decide +kernel
theorem dX6_init_868 : decode cX6_init 868 = .ok (.bipush 100, 2) := by decide +kernel
theorem dX6_init_870 : decode cX6_init 870 = .ok (.iastore, 1) := by decide +kernel
theorem dX6_init_871 : decode cX6_init 871 = .ok (.dup, 1) := by decide +kernel
theorem dX6_init_872 : decode cX6_init 872 = .ok (.bipush 64, 2) := by decide +kernel
theorem dX6_init_874 : decode cX6_init 874 = .ok (.bipush 109, 2) := by decide +kernel
theorem dX6_init_876 : decode cX6_init 876 = .ok (.iastore, 1) := by decide +kernel
theorem dX6_init_877 : decode cX6_init 877 = .ok (.dup, 1) := by decide +kernel
theorem dX6_init_878 : decode cX6_init 878 = .ok (.bipush 65, 2) := by decide +kernel
theorem dX6_init_880 : decode cX6_init 880 = .ok (.bipush 111, 2) := by decide +kernel
theorem dX6_init_882 : decode cX6_init 882 = .ok (.iastore, 1) := by decide +kernel
theorem dX6_init_883 : decode cX6_init 883 = .ok (.dup, 1) := by decide +kernel
theorem dX6_init_884 : decode cX6_init 884 = .ok (.bipush 66, 2) := by decide +kernel
theorem dX6_init_886 : decode cX6_init 886 = .ok (.bipush 114, 2) := by decide +kernel
theorem dX6_init_888 : decode cX6_init 888 = .ok (.iastore, 1) := by decide +kernel
theorem dX6_init_889 : decode cX6_init 889 = .ok (.dup, 1) := by decide +kernel
theorem dX6_init_890 : decode cX6_init 890 = .ok (.bipush 67, 2) := by decide +kernel
theorem dX6_init_892 : decode cX6_init 892 = .ok (.bipush 101, 2) := by decide +kernel
theorem dX6_init_894 : decode cX6_init 894 = .ok (.iastore, 1) := by decide +kernel
theorem dX6_init_895 : decode cX6_init 895 = .ok (.dup, 1) := by decide +kernel
theorem dX6_init_896 : decode cX6_init 896 = .ok (.bipush 68, 2) := by decide +kernel
theorem dX6_init_898 : decode cX6_init 898 = .ok (.bipush 32, 2) := by decide +kernel
theorem dX6_init_900 : decode cX6_init 900 = .ok (.iastore, 1) := by decide +kernel
theorem dX6_init_901 : decode cX6_init 901 = .ok (.dup, 1) := by decide +kernel
theorem dX6_init_902 : decode cX6_init 902 = .ok (.bipush 69, 2) := by decide +kernel
theorem dX6_init_904 : decode cX6_init 904 = .ok (.bipush 32, 2) := by decide +kernel
theorem dX6_init_906 : decode cX6_init 906 = .ok (.iastore, 1) := by decide +kernel
theorem dX6_init_907 : decode cX6_init 907 = .ok (.dup, 1) := by decide +kernel
theorem dX6_init_908 : decode cX6_init 908 = .ok (.bipush 70, 2) := by decide +kernel
theorem dX6_init_910 : decode cX6_init 910 = .ok (.bipush 32, 2) := by decide +kernel
theorem dX6_init_912 : decode cX6_init 912 = .ok (.iastore, 1) := by decide +kernel
theorem dX6_init_913 : decode cX6_init 913 = .ok (.dup, 1) := by decide +kernel
theorem dX6_init_914 : decode cX6_init 914 = .ok (.bipush 71, 2) := by decide +kernel
theorem dX6_init_916 : decode cX6_init 916 = .ok (.bipush 32, 2) := by decide +kernel
theorem dX6_init_918 : decode cX6_init 918 = .ok (.iastore, 1) := by decide +kernel
theorem dX6_init_919 : decode cX6_init 919 = .ok (.dup, 1) := by decide +kernel
theorem dX6_init_920 : decode cX6_init 920 = .ok (.bipush 72, 2) := by decide +kernel
theorem dX6_init_922 : decode cX6_init 922 = .ok (.bipush 111, 2) := by decide +kernel
theorem dX6_init_924 : decode cX6_init 924 = .ok (.iastore, 1) := by decide +kernel
theorem dX6_init_925 : decode cX6_init 925 = .ok (.dup, 1) := by decide +kernel
theorem dX6_init_926 : decode cX6_init 926 = .ok (.bipush 73, 2) := by decide +kernel
theorem dX6_init_928 : decode cX6_init 928 = .ok (.bipush 114, 2) := by decide +kernel
theorem dX6_init_930 : decode cX6_init 930 = .ok (.iastore, 1) := by decide +kernel
theorem dX6_init_931 : decode cX6_init 931 = .ok (.dup, 1) := by decide +kernel
theorem dX6_init_932 : decode cX6_init 932 = .ok (.bipush 74, 2) := by decide +kernel
theorem dX6_init_934 : decode cX6_init 934 = .ok (.bipush 32, 2) := by decide +kernel
theorem dX6_init_936 : decode cX6_init 936 = .ok (.iastore, 1) := by decide +kernel
theorem dX6_init_937 : decode cX6_init 937 = .ok (.dup, 1) := by decide +kernel
theorem dX6_init_938 : decode cX6_init 938 = .ok (.bipush 75, 2) := by decide +kernel
theorem dX6_init_940 : decode cX6_init 940 = .ok (.bipush 32, 2) := by decide +kernel
theorem dX6_init_942 : decode cX6_init 942 = .ok (.iastore, 1) := by decide +kernel
theorem dX6_init_943 : decode cX6_init 943 = .ok (.dup, 1) := by decide +kernel
theorem dX6_init_944 : decode cX6_init 944 = .ok (.bipush 76, 2) := by decide +kernel
theorem dX6_init_946 : decode cX6_init 946 = .ok (.bipush 32, 2) := by decide +kernel
theorem dX6_init_948 : decode cX6_init 948 = .ok (.iastore, 1) := by decide +kernel
theorem dX6_init_949 : decode cX6_init 949 = .ok (.dup, 1) := by decide +kernel
theorem dX6_init_950 : decode cX6_init 950 = .ok (.bipush 77, 2) := by decide +kernel
theorem dX6_init_952 : decode cX6_init 952 = .ok (.bipush 32, 2) := by decide +kernel
theorem dX6_init_954 : decode cX6_init 954 = .ok (.iastore, 1) := by decide +kernel
theorem dX6_init_955 : decode cX6_init 955 = .ok (.dup, 1) := by decide +kernel
theorem dX6_init_956 : decode cX6_init 956 = .ok (.bipush 78, 2) := by decide +kernel
theorem dX6_init_958 : decode cX6_init 958 = .ok (.bipush 32, 2) := by decide +kernel
theorem dX6_init_960 : decode cX6_init 960 = .ok (.iastore, 1) := by decide +kernel
theorem dX6_init_961 : decode cX6_init 961 = .ok (.dup, 1) := by decide +kernel
theorem dX6_init_962 : decode cX6_init 962 = .ok (.bipush 79, 2) := by decide +kernel
theorem dX6_init_964 : decode cX6_init 964 = .ok (.bipush 32, 2) := by decide +kernel
theorem dX6_init_966 : decode cX6_init 966 = .ok (.iastore, 1) := by decide +kernel
theorem dX6_init_967 : decode cX6_init 967 = .ok (.dup, 1) := by decide +kernel
theorem dX6_init_968 : decode cX6_init 968 = .ok (.bipush 80, 2) := by decide +kernel
theorem dX6_init_970 : decode cX6_init 970 = .ok (.bipush 97, 2) := by decide +kernel
theorem dX6_init_972 : decode cX6_init 972 = .ok (.iastore, 1) := by decide +kernel
theorem dX6_init_973 : decode cX6_init 973 = .ok (.dup, 1) := by decide +kernel
theorem dX6_init_974 : decode cX6_init 974 = .ok (.bipush 81, 2) := by decide +kernel
theorem dX6_init_976 : decode cX6_init 976 = .ok (.bipush 110, 2) := by decide +kernel
theorem dX6_init_978 : decode cX6_init 978 = .ok (.iastore, 1) := by decide +kernel
theorem dX6_init_979 : decode cX6_init 979 = .ok (.dup, 1) := by decide +kernel
theorem dX6_init_980 : decode cX6_init 980 = .ok (.bipush 82, 2) := by decide +kernel
theorem dX6_init_982 : decode cX6_init 982 = .ok (.bipush 100, 2) := by decide +kernel
theorem dX6_init_984 : decode cX6_init 984 = .ok (.iastore, 1) := by decide +kernel
theorem dX6_init_985 : decode cX6_init 985 = .ok (.dup, 1) := by decide +kernel
theorem dX6_init_986 : decode cX6_init 986 = .ok (.bipush 83, 2) := by decide +kernel
theorem dX6_init_988 : decode cX6_init 988 = .ok (.bipush 32, 2) := by decide +kernel
theorem dX6_init_990 : decode cX6_init 990 = .ok (.iastore, 1) := by decide +kernel
theorem dX6_init_991 : decode cX6_init 991 = .ok (.dup, 1) := by decide +kernel
theorem dX6_init_992 : decode cX6_init 992 = .ok (.bipush 84, 2) := by decide +kernel
theorem dX6_init_994 : decode cX6_init 994 = .ok (.bipush 32, 2) := by decide +kernel
theorem dX6_init_996 : decode cX6_init 996 = .ok (.iastore, 1) := by decide +kernel
theorem dX6_init_997 : decode cX6_init 997 = .ok (.dup, 1) := by decide +kernel
theorem dX6_init_998 : decode cX6_init 998 = .ok (.bipush 85, 2) := by decide +kernel
theorem dX6_init_1000 : decode cX6_init 1000 = .ok (.bipush 32, 2) := by decide +kernel
theorem dX6_init_1002 : decode cX6_init 1002 = .ok (.iastore, 1) := by decide +kernel
theorem dX6_init_1003 : decode cX6_init 1003 = .ok (.dup, 1) := by decide +kernel
theorem dX6_init_1004 : decode cX6_init 1004 = .ok (.bipush 86, 2) := by decide +kernel
theorem dX6_init_1006 : decode cX6_init 1006 = .ok (.bipush 32, 2) := by decide +kernel
theorem dX6_init_1008 : decode cX6_init 1008 = .ok (.iastore, 1) := by decide +kernel
theorem dX6_init_1009 : decode cX6_init 1009 = .ok (.dup, 1) := by decide +kernel
theorem dX6_init_1010 : decode cX6_init 1010 = .ok (.bipush 87, 2) := by decide +kernel
theorem dX6_init_1012 : decode cX6_init 1012 = .ok (.bipush 32, 2) := by decide +kernel
theorem dX6_init_1014 : decode cX6_init 1014 = .ok (.iastore, 1) := by decide +kernel
theorem dX6_init_1015 : decode cX6_init 1015 = .ok (.dup, 1) := by decide +kernel
theorem dX6_init_1016 : decode cX6_init 1016 = .ok (.bipush 88, 2) := by decide +kernel
theorem dX6_init_1018 : decode cX6_init 1018 = .ok (.bipush 110, 2) := by decide +kernel
theorem dX6_init_1020 : decode cX6_init 1020 = .ok (.iastore, 1) := by decide +kernel
theorem dX6_init_1021 : decode cX6_init 1021 = .ok (.dup, 1) := by decide +kernel
theorem dX6_init_1022 : decode cX6_init 1022 = .ok (.bipush 89, 2) := by decide +kernel
theorem dX6_init_1024 : decode cX6_init 1024 = .ok (.bipush 111, 2) := by decide +kernel
theorem dX6_init_1026 : decode cX6_init 1026 = .ok (.iastore, 1) := by decide +kernel
theorem dX6_init_1027 : decode cX6_init 1027 = .ok (.dup, 1) := by decide +kernel
theorem dX6_init_1028 : decode cX6_init 1028 = .ok (.bipush 90, 2) := by decide +kernel
theorem dX6_init_1030 : decode cX6_init 1030 = .ok (.bipush 116, 2) := by decide +kernel
theorem dX6_init_1032 : decode cX6_init 1032 = .ok (.iastore, 1) := by decide +kernel
theorem dX6_init_1033 : decode cX6_init 1033 = .ok (.dup, 1) := by decide +kernel
theorem dX6_init_1034 : decode cX6_init 1034 = .ok (.bipush 91, 2) := by decide +kernel
theorem dX6_init_1036 : decode cX6_init 1036 = .ok (.bipush 32, 2) := by decide +kernel
theorem dX6_init_1038 : decode cX6_init 1038 = .ok (.iastore, 1) := by decide +kernel
theorem dX6_init_1039 : decode cX6_init 1039 = .ok (.dup, 1) := by decide +kernel
theorem dX6_init_1040 : decode cX6_init 1040 = .ok (.bipush 92, 2) := by decide +kernel
theorem dX6_init_1042 : decode cX6_init 1042 = .ok (.bipush 32, 2) := by decide +kernel
theorem dX6_init_1044 : decode cX6_init 1044 = .ok (.iastore, 1) := by decide +kernel
theorem dX6_init_1045 : decode cX6_init 1045 = .ok (.dup, 1) := by decide +kernel
theorem dX6_init_1046 : decode cX6_init 1046 = .ok (.bipush 93, 2) := by decide +kernel
theorem dX6_init_1048 : decode cX6_init 1048 = .ok (.bipush 32, 2) := by decide +kernel
theorem dX6_init_1050 : decode cX6_init 1050 = .ok (.iastore, 1) := by decide +kernel
theorem dX6_init_1051 : decode cX6_init 1051 = .ok (.dup, 1) := by decide +kernel
theorem dX6_init_1052 : decode cX6_init 1052 = .ok (.bipush 94, 2) := by decide +kernel
theorem dX6_init_1054 : decode cX6_init 1054 = .ok (.bipush 32, 2) := by decide +kernel
theorem dX6_init_1056 : decode cX6_init 1056 = .ok (.iastore, 1) := by decide +kernel
theorem dX6_init_1057 : decode cX6_init 1057 = .ok (.dup, 1) := by decide +kernel
theorem dX6_init_1058 : decode cX6_init 1058 = .ok (.bipush 95, 2) := by decide +kernel
theorem dX6_init_1060 : decode cX6_init 1060 = .ok (.bipush 32, 2) := by decide +kernel
theorem dX6_init_1062 : decode cX6_init 1062 = .ok (.iastore, 1) := by decide +kernel
theorem dX6_init_1063 : decode cX6_init 1063 = .ok (.putfield 55, 3) := by decide +kernel
theorem dX6_init_1066 : decode cX6_init 1066 = .ok (.aload_n 0, 1) := by decide +kernel
theorem dX6_init_1067 : decode cX6_init 1067 = .ok (.sipush 200, 3) := by decide +kernel
theorem dX6_init_1070 : decode cX6_init 1070 = .ok (.newarray .int, 2) := by decide +kernel
theorem dX6_init_1072 : decode cX6_init 1072 = .ok (.putfield 58, 3) := by decide +kernel
theorem dX6_init_1075 : decode cX6_init 1075 = .ok (.aload_n 0, 1) := by decide +kernel
theorem dX6_init_1076 : decode cX6_init 1076 = .ok (.sipush 200, 3) := by decide +kernel
theorem dX6_init_1079 : decode cX6_init 1079 = .ok (.newarray .int, 2) := by decide +kernel
theorem dX6_init_1081 : decode cX6_init 1081 = .ok (.putfield 61, 3) := by decide +kernel
theorem dX6_init_1084 : decode cX6_init 1084 = .ok (.aload_n 0, 1) := by decide +kernel
theorem dX6_init_1085 : decode cX6_init 1085 = .ok (.bipush 6, 2) := by decide +kernel
theorem dX6_init_1087 : decode cX6_init 1087 = .ok (.newarray .int, 2) := by decide +kernel
theorem dX6_init_1089 : decode cX6_init 1089 = .ok (.putfield 64, 3) := by decide +kernel
theorem dX6_init_1092 : decode cX6_init 1092 = .ok (.aload_n 0, 1) := by decide +kernel
theorem dX6_init_1093 : decode cX6_init 1093 = .ok (.bipush 44, 2) := by decide +kernel
theorem dX6_init_1095 : decode cX6_init 1095 = .ok (.newarray .int, 2) := by decide +kernel
theorem dX6_init_1097 : decode cX6_init 1097 = .ok (.putfield 67, 3) := by decide +kernel
theorem dX6_init_1100 : decode cX6_init 1100 = .ok (.iconst 0, 1) := by decide +kernel
theorem dX6_init_1101 : decode cX6_init 1101 = .ok (.istore_n 1, 1) := by decide +kernel
theorem dX6_init_1102 : decode cX6_init 1102 = .ok (.iload_n 1, 1) := by decide +kernel
theorem dX6_init_1103 : decode cX6_init 1103 = .ok (.bipush 35, 2) := by decide +kernel
theorem dX6_init_1105 : decode cX6_init 1105 = .ok (.if_icmp .ge 21, 3) := by decide +kernel
theorem dX6_init_1108 : decode cX6_init 1108 = .ok (.aload_n 0, 1) := by decide +kernel
theorem dX6_init_1109 : decode cX6_init 1109 = .ok (.getfield 28, 3) := by decide +kernel
theorem dX6_init_1112 : decode cX6_init 1112 = .ok (.iload_n 1, 1) := by decide +kernel
theorem dX6_init_1113 : decode cX6_init 1113 = .ok (.aload_n 0, 1) := by decide +kernel
theorem dX6_init_1114 : decode cX6_init 1114 = .ok (.getfield 52, 3) := by decide +kernel
theorem dX6_init_1117 : decode cX6_init 1117 = .ok (.iload_n 1, 1) := by decide +kernel
theorem dX6_init_1118 : decode cX6_init 1118 = .ok (.iaload, 1) := by decide +kernel
theorem dX6_init_1119 : decode cX6_init 1119 = .ok (.iastore, 1) := by decide +kernel
theorem dX6_init_1120 : decode cX6_init 1120 = .ok (.iinc 1 1, 3) := by decide +kernel
theorem dX6_init_1123 : decode cX6_init 1123 = .ok (.goto (-21), 3) := by decide +kernel
theorem dX6_init_1126 : decode cX6_init 1126 = .ok (.aload_n 0, 1) := by decide +kernel
theorem dX6_init_1127 : decode cX6_init 1127 = .ok (.bipush 35, 2) := by decide +kernel
theorem dX6_init_1129 : decode cX6_init 1129 = .ok (.putfield 70, 3) := by decide +kernel
theorem dX6_init_1132 : decode cX6_init 1132 = .ok (.aload_n 0, 1) := by decide +kernel
theorem dX6_init_1133 : decode cX6_init 1133 = .ok (.invokevirtual 74, 3) := by decide +kernel
theorem dX6_init_1136 : decode cX6_init 1136 = .ok (.pop, 1) := by decide +kernel
theorem dX6_init_1137 : decode cX6_init 1137 = .ok (.return_, 1) := by decide +kernel
