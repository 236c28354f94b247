set_option maxRecDepth 20000 in
theorem inX0 : ∀ w ∈ wsX00, w ∈ lw_tbl := (fc tw_1019 (fc tw_1018 (fc tw_1017 (fc tw_1016 (fc tw_1015 (fc tw_1014 (fc tw_1013 (fc tw_1012 (fc tw_1011 (fc tw_1010 (fc tw_1009 (fc tw_1008 (fc tw_1007 (fc tw_1006 (fc tw_1005 fz)))))))))))))))
set_option maxRecDepth 20000 in
theorem inX2 : ∀ w ∈ wsX20, w ∈ lw_tbl := (fc tw_1023 (fc tw_1022 (fc tw_1021 (fc tw_1020 fz))))
set_option maxRecDepth 20000 in
theorem inX3 : ∀ w ∈ wsX30, w ∈ lw_tbl := (fc tw_1026 (fc tw_1025 (fc tw_1024 fz)))
set_option maxRecDepth 20000 in
theorem inX4 : ∀ w ∈ wsX40, w ∈ lw_tbl := (fc tw_1035 (fc tw_1034 (fc tw_1033 (fc tw_1032 (fc tw_1031 (fc tw_1030 (fc tw_1029 (fc tw_1028 (fc tw_1027 fz)))))))))
set_option maxRecDepth 20000 in
theorem inX5 : ∀ w ∈ wsX50, w ∈ lw_tbl := (fc tw_1046 (fc tw_1045 (fc tw_1044 (fc tw_1043 (fc tw_1042 (fc tw_1041 (fc tw_1040 (fc tw_1039 (fc tw_1038 (fc tw_1037 (fc tw_1036 fz)))))))))))
set_option maxRecDepth 20000 in
theorem inX6 : ∀ w ∈ wsX60, w ∈ lw_tbl := (fc tw_1084 (fc tw_1083 (fc tw_1082 (fc tw_1081 (fc tw_1080 (fc tw_1079 (fc tw_1078 (fc tw_1077 (fc tw_1076 (fc tw_1075 (fc tw_1074 (fc tw_1073 (fc tw_1072 (fc tw_1071 (fc tw_1070 (fc tw_1069 (fc tw_1068 (fc tw_1067 (fc tw_1066 (fc tw_1065 (fc tw_1064 (fc tw_1063 (fc tw_1062 (fc tw_1061 (fc tw_1060 (fc tw_1059 (fc tw_1058 (fc tw_1057 (fc tw_1056 (fc tw_1055 (fc tw_1054 (fc tw_1053 (fc tw_1052 (fc tw_1051 (fc tw_1050 (fc tw_1049 (fc tw_1048 (fc tw_1047 fz))))))))))))))))))))))))))))))))))))))
set_option maxRecDepth 20000 in
theorem in_wsX5_init_r1 : ∀ w ∈ wsX5_init_r1, w ∈ lw_tbl := (fc tw_24 (fc tw_23 (fc tw_22 (fc tw_21 (fc tw_20 (fc tw_19 (fc tw_18 (fc tw_17 (fc tw_16 (fc tw_15 (fc tw_14 (fc tw_13 (fc tw_12 (fc tw_11 (fc tw_10 (fc tw_9 (fc tw_8 (fc tw_7 (fc tw_6 (fc tw_5 (fc tw_4 (fc tw_3 (fc tw_2 (fc tw_1 fz))))))))))))))))))))))))
set_option maxRecDepth 20000 in
theorem in_wsX5_init_r2 : ∀ w ∈ wsX5_init_r2, w ∈ lw_tbl := (fc tw_48 (fc tw_47 (fc tw_46 (fc tw_45 (fc tw_44 (fc tw_43 (fc tw_42 (fc tw_41 (fc tw_40 (fc tw_39 (fc tw_38 (fc tw_37 (fc tw_36 (fc tw_35 (fc tw_34 (fc tw_33 (fc tw_32 (fc tw_31 (fc tw_30 (fc tw_29 (fc tw_28 (fc tw_27 (fc tw_26 (fc tw_25 fz))))))))))))))))))))))))
set_option maxRecDepth 20000 in
theorem in_wsX5_init_r3 : ∀ w ∈ wsX5_init_r3, w ∈ lw_tbl := (fc tw_63 (fc tw_62 (fc tw_61 (fc tw_60 (fc tw_59 (fc tw_58 (fc tw_57 (fc tw_56 (fc tw_55 (fc tw_54 (fc tw_53 (fc tw_52 (fc tw_51 (fc tw_50 (fc tw_49 fz)))))))))))))))
set_option maxRecDepth 20000 in
theorem in_wsX5_init : ∀ w ∈ wsX5_init, w ∈ lw_tbl := (fc tw_0 (fa (fa (fa (fa (fa (fa in_wsX5_init_r1 (fa in_wsX5_init_r2 in_wsX5_init_r3)) inX5) inX4) inX2) inX0) inX3))
set_option maxRecDepth 20000 in
theorem in_wsX6_init_r1 : ∀ w ∈ wsX6_init_r1, w ∈ lw_tbl := (fc tw_85 (fc tw_23 (fc tw_22 (fc tw_9 (fc tw_84 (fc tw_83 (fc tw_82 (fc tw_81 (fc tw_80 (fc tw_79 (fc tw_78 (fc tw_77 (fc tw_76 (fc tw_75 (fc tw_74 (fc tw_73 (fc tw_72 (fc tw_71 (fc tw_70 (fc tw_69 (fc tw_68 (fc tw_67 (fc tw_66 (fc tw_65 fz))))))))))))))))))))))))
set_option maxRecDepth 20000 in
theorem in_wsX6_init_r2 : ∀ w ∈ wsX6_init_r2, w ∈ lw_tbl := (fc tw_109 (fc tw_108 (fc tw_107 (fc tw_106 (fc tw_105 (fc tw_104 (fc tw_103 (fc tw_102 (fc tw_101 (fc tw_100 (fc tw_99 (fc tw_98 (fc tw_97 (fc tw_96 (fc tw_95 (fc tw_94 (fc tw_93 (fc tw_92 (fc tw_91 (fc tw_90 (fc tw_89 (fc tw_88 (fc tw_87 (fc tw_86 fz))))))))))))))))))))))))
set_option maxRecDepth 20000 in
theorem in_wsX6_init_r3 : ∀ w ∈ wsX6_init_r3, w ∈ lw_tbl := (fc tw_133 (fc tw_132 (fc tw_131 (fc tw_130 (fc tw_129 (fc tw_128 (fc tw_127 (fc tw_126 (fc tw_125 (fc tw_124 (fc tw_123 (fc tw_122 (fc tw_121 (fc tw_120 (fc tw_119 (fc tw_118 (fc tw_117 (fc tw_116 (fc tw_115 (fc tw_114 (fc tw_113 (fc tw_112 (fc tw_111 (fc tw_110 fz))))))))))))))))))))))))
set_option maxRecDepth 20000 in
theorem in_wsX6_init_r4 : ∀ w ∈ wsX6_init_r4, w ∈ lw_tbl := (fc tw_142 (fc tw_141 (fc tw_140 (fc tw_139 (fc tw_138 (fc tw_137 (fc tw_136 (fc tw_135 (fc tw_134 fz)))))))))
set_option maxRecDepth 20000 in
theorem in_wsX6_init : ∀ w ∈ wsX6_init, w ∈ lw_tbl := (fc tw_64 (fa (fa in_wsX6_init_r1 (fa in_wsX6_init_r2 (fa in_wsX6_init_r3 in_wsX6_init_r4))) inX6))
set_option maxRecDepth 20000 in
theorem in_wsX5_count : ∀ w ∈ wsX5_count, w ∈ lw_tbl := (fc tw_143 (fa (fa (fa (fa (fc tw_5 (fc tw_8 (fc tw_16 (fc tw_147 (fc tw_146 (fc tw_145 (fc tw_6 (fc tw_144 (fc tw_62 fz))))))))) inX5) inX0) inX2) inX4))
set_option maxRecDepth 20000 in
theorem in_wsX6_count : ∀ w ∈ wsX6_count, w ∈ lw_tbl := (fc tw_152 (fa (fc tw_166 (fc tw_165 (fc tw_103 (fc tw_164 (fc tw_109 (fc tw_163 (fc tw_162 (fc tw_161 (fc tw_105 (fc tw_160 (fc tw_159 (fc tw_158 (fc tw_157 (fc tw_156 (fc tw_81 (fc tw_93 (fc tw_92 (fc tw_91 (fc tw_155 (fc tw_154 (fc tw_153 fz))))))))))))))))))))) inX6))
set_option maxRecDepth 20000 in
theorem in_wsX5_court : ∀ w ∈ wsX5_court, w ∈ lw_tbl := (fc tw_170 (fa (fa (fc tw_5 (fc tw_182 (fc tw_181 (fc tw_151 (fc tw_180 (fc tw_179 (fc tw_178 (fc tw_177 (fc tw_176 (fc tw_175 (fc tw_174 (fc tw_173 (fc tw_172 (fc tw_171 fz)))))))))))))) inX5) inX0))
set_option maxRecDepth 20000 in
theorem in_wsX6_court : ∀ w ∈ wsX6_court, w ∈ lw_tbl := (fc tw_186 (fa (fc tw_80 (fc tw_79 (fc tw_165 (fc tw_190 (fc tw_93 (fc tw_92 (fc tw_105 (fc tw_91 (fc tw_189 (fc tw_188 (fc tw_187 fz))))))))))) inX6))
set_option maxRecDepth 20000 in
theorem in_wsX5_bench : ∀ w ∈ wsX5_bench, w ∈ lw_tbl := (fc tw_194 (fa (fa (fc tw_5 (fc tw_182 (fc tw_181 (fc tw_151 (fc tw_180 (fc tw_179 (fc tw_178 (fc tw_177 (fc tw_203 (fc tw_202 (fc tw_201 (fc tw_6 (fc tw_200 (fc tw_199 (fc tw_198 (fc tw_197 (fc tw_196 (fc tw_195 (fc tw_30 fz))))))))))))))))))) inX5) inX0))
set_option maxRecDepth 20000 in
theorem in_wsX6_bench : ∀ w ∈ wsX6_bench, w ∈ lw_tbl := (fc tw_207 (fa (fc tw_80 (fc tw_79 (fc tw_190 (fc tw_165 (fc tw_93 (fc tw_92 (fc tw_105 (fc tw_91 (fc tw_189 (fc tw_188 (fc tw_187 (fc tw_211 (fc tw_210 (fc tw_209 (fc tw_208 fz))))))))))))))) inX6))
set_option maxRecDepth 20000 in
theorem in_wsX5_feed : ∀ w ∈ wsX5_feed, w ∈ lw_tbl := (fc tw_215 (fa (fa (fc tw_16 (fc tw_223 (fc tw_222 (fc tw_151 (fc tw_221 (fc tw_179 (fc tw_178 (fc tw_177 (fc tw_220 (fc tw_219 (fc tw_218 (fc tw_17 (fc tw_217 (fc tw_216 (fc tw_45 fz))))))))))))))) inX5) inX4))
set_option maxRecDepth 20000 in
theorem in_wsX6_feed : ∀ w ∈ wsX6_feed, w ∈ lw_tbl := (fc tw_227 (fa (fc tw_109 (fc tw_78 (fc tw_93 (fc tw_92 (fc tw_105 (fc tw_91 (fc tw_230 (fc tw_229 (fc tw_228 fz))))))))) inX6))
set_option maxRecDepth 20000 in
theorem in_wsX5_text_r1 : ∀ w ∈ wsX5_text_r1, w ∈ lw_tbl := (fc tw_8 (fc tw_16 (fc tw_20 (fc tw_251 (fc tw_250 (fc tw_249 (fc tw_17 (fc tw_248 (fc tw_247 (fc tw_246 (fc tw_43 (fc tw_245 (fc tw_244 (fc tw_243 (fc tw_242 (fc tw_241 (fc tw_240 (fc tw_216 (fc tw_45 (fc tw_239 (fc tw_238 (fc tw_237 (fc tw_236 (fc tw_235 fz))))))))))))))))))))))))
set_option maxRecDepth 20000 in
theorem in_wsX5_text_r2 : ∀ w ∈ wsX5_text_r2, w ∈ lw_tbl := (fc tw_275 (fc tw_274 (fc tw_273 (fc tw_272 (fc tw_271 (fc tw_270 (fc tw_269 (fc tw_268 (fc tw_267 (fc tw_266 (fc tw_265 (fc tw_264 (fc tw_263 (fc tw_262 (fc tw_261 (fc tw_260 (fc tw_259 (fc tw_258 (fc tw_257 (fc tw_256 (fc tw_255 (fc tw_254 (fc tw_253 (fc tw_252 fz))))))))))))))))))))))))
set_option maxRecDepth 20000 in
theorem in_wsX5_text_r3 : ∀ w ∈ wsX5_text_r3, w ∈ lw_tbl := (fc tw_299 (fc tw_298 (fc tw_297 (fc tw_296 (fc tw_295 (fc tw_294 (fc tw_293 (fc tw_292 (fc tw_291 (fc tw_290 (fc tw_289 (fc tw_288 (fc tw_287 (fc tw_286 (fc tw_285 (fc tw_284 (fc tw_283 (fc tw_282 (fc tw_281 (fc tw_280 (fc tw_279 (fc tw_278 (fc tw_277 (fc tw_276 fz))))))))))))))))))))))))
set_option maxRecDepth 20000 in
theorem in_wsX5_text_r4 : ∀ w ∈ wsX5_text_r4, w ∈ lw_tbl := (fc tw_323 (fc tw_322 (fc tw_321 (fc tw_320 (fc tw_319 (fc tw_318 (fc tw_317 (fc tw_316 (fc tw_315 (fc tw_314 (fc tw_313 (fc tw_312 (fc tw_311 (fc tw_310 (fc tw_309 (fc tw_308 (fc tw_307 (fc tw_306 (fc tw_305 (fc tw_304 (fc tw_303 (fc tw_302 (fc tw_301 (fc tw_300 fz))))))))))))))))))))))))
set_option maxRecDepth 20000 in
theorem in_wsX5_text_r5 : ∀ w ∈ wsX5_text_r5, w ∈ lw_tbl := (fc tw_347 (fc tw_346 (fc tw_345 (fc tw_344 (fc tw_343 (fc tw_342 (fc tw_341 (fc tw_340 (fc tw_339 (fc tw_338 (fc tw_337 (fc tw_336 (fc tw_335 (fc tw_334 (fc tw_333 (fc tw_332 (fc tw_331 (fc tw_330 (fc tw_329 (fc tw_328 (fc tw_327 (fc tw_326 (fc tw_325 (fc tw_324 fz))))))))))))))))))))))))
set_option maxRecDepth 20000 in
theorem in_wsX5_text_r6 : ∀ w ∈ wsX5_text_r6, w ∈ lw_tbl := (fc tw_371 (fc tw_370 (fc tw_369 (fc tw_368 (fc tw_367 (fc tw_366 (fc tw_365 (fc tw_364 (fc tw_363 (fc tw_362 (fc tw_361 (fc tw_360 (fc tw_359 (fc tw_358 (fc tw_357 (fc tw_356 (fc tw_355 (fc tw_354 (fc tw_353 (fc tw_352 (fc tw_351 (fc tw_350 (fc tw_349 (fc tw_348 fz))))))))))))))))))))))))
set_option maxRecDepth 20000 in
theorem in_wsX5_text_r7 : ∀ w ∈ wsX5_text_r7, w ∈ lw_tbl := (fc tw_394 (fc tw_393 (fc tw_392 (fc tw_391 (fc tw_390 (fc tw_389 (fc tw_388 (fc tw_387 (fc tw_386 (fc tw_385 (fc tw_384 (fc tw_383 (fc tw_382 (fc tw_381 (fc tw_380 (fc tw_379 (fc tw_378 (fc tw_377 (fc tw_376 (fc tw_44 (fc tw_375 (fc tw_374 (fc tw_373 (fc tw_372 fz))))))))))))))))))))))))
set_option maxRecDepth 20000 in
theorem in_wsX5_text_r8 : ∀ w ∈ wsX5_text_r8, w ∈ lw_tbl := (fc tw_418 (fc tw_417 (fc tw_416 (fc tw_415 (fc tw_414 (fc tw_413 (fc tw_412 (fc tw_411 (fc tw_410 (fc tw_409 (fc tw_408 (fc tw_407 (fc tw_406 (fc tw_405 (fc tw_404 (fc tw_403 (fc tw_402 (fc tw_401 (fc tw_400 (fc tw_399 (fc tw_398 (fc tw_397 (fc tw_396 (fc tw_395 fz))))))))))))))))))))))))
set_option maxRecDepth 20000 in
theorem in_wsX5_text_r9 : ∀ w ∈ wsX5_text_r9, w ∈ lw_tbl := (fc tw_435 (fc tw_434 (fc tw_11 (fc tw_10 (fc tw_433 (fc tw_432 (fc tw_55 (fc tw_431 (fc tw_430 (fc tw_429 (fc tw_428 (fc tw_427 (fc tw_426 (fc tw_425 (fc tw_9 (fc tw_424 (fc tw_423 (fc tw_422 (fc tw_421 (fc tw_420 (fc tw_419 (fc tw_41 (fc tw_40 (fc tw_39 fz))))))))))))))))))))))))
set_option maxRecDepth 20000 in
theorem in_wsX5_text_r10 : ∀ w ∈ wsX5_text_r10, w ∈ lw_tbl := (fc tw_23 (fc tw_22 (fc tw_38 (fc tw_37 (fc tw_36 (fc tw_35 fz))))))
set_option maxRecDepth 20000 in
theorem in_wsX5_text : ∀ w ∈ wsX5_text, w ∈ lw_tbl := (fc tw_234 (fa (fa (fa (fa in_wsX5_text_r1 (fa in_wsX5_text_r2 (fa in_wsX5_text_r3 (fa in_wsX5_text_r4 (fa in_wsX5_text_r5 (fa in_wsX5_text_r6 (fa in_wsX5_text_r7 (fa in_wsX5_text_r8 (fa in_wsX5_text_r9 in_wsX5_text_r10))))))))) inX5) inX4) inX2))
set_option maxRecDepth 20000 in
theorem in_wsX6_text_r1 : ∀ w ∈ wsX6_text_r1, w ∈ lw_tbl := (fc tw_103 (fc tw_102 (fc tw_101 (fc tw_100 (fc tw_99 (fc tw_76 (fc tw_109 (fc tw_98 (fc tw_97 (fc tw_96 (fc tw_95 (fc tw_105 (fc tw_94 (fc tw_78 (fc tw_93 (fc tw_92 (fc tw_91 (fc tw_90 (fc tw_89 (fc tw_88 (fc tw_87 (fc tw_69 (fc tw_86 (fc tw_133 fz))))))))))))))))))))))))
set_option maxRecDepth 20000 in
theorem in_wsX6_text_r2 : ∀ w ∈ wsX6_text_r2, w ∈ lw_tbl := (fc tw_132 (fc tw_131 (fc tw_130 (fc tw_129 (fc tw_128 (fc tw_127 (fc tw_126 (fc tw_125 (fc tw_124 (fc tw_77 (fc tw_123 (fc tw_122 (fc tw_121 (fc tw_120 (fc tw_68 (fc tw_119 (fc tw_118 (fc tw_117 (fc tw_116 (fc tw_115 (fc tw_114 (fc tw_113 (fc tw_112 (fc tw_111 fz))))))))))))))))))))))))
set_option maxRecDepth 20000 in
theorem in_wsX6_text_r3 : ∀ w ∈ wsX6_text_r3, w ∈ lw_tbl := (fc tw_110 (fc tw_142 (fc tw_141 (fc tw_140 (fc tw_139 (fc tw_138 (fc tw_137 (fc tw_136 (fc tw_135 (fc tw_134 fz))))))))))
set_option maxRecDepth 20000 in
theorem in_wsX6_text : ∀ w ∈ wsX6_text, w ∈ lw_tbl := (fc tw_104 (fa (fa in_wsX6_text_r1 (fa in_wsX6_text_r2 in_wsX6_text_r3)) inX6))
set_option maxRecDepth 20000 in
theorem in_wsX5_force : ∀ w ∈ wsX5_force, w ∈ lw_tbl := (fc tw_440 (fa (fa (fa (fc tw_8 (fc tw_5 (fc tw_20 (fc tw_179 (fc tw_178 (fc tw_151 (fc tw_177 fz))))))) inX5) inX0) inX2))
set_option maxRecDepth 20000 in
theorem in_wsX6_force : ∀ w ∈ wsX6_force, w ∈ lw_tbl := (fc tw_444 (fa (fc tw_103 (fc tw_164 (fc tw_93 (fc tw_92 (fc tw_105 (fc tw_91 fz)))))) inX6))
set_option maxRecDepth 20000 in
theorem in_wsX5_asks_r1 : ∀ w ∈ wsX5_asks_r1, w ∈ lw_tbl := (fc tw_5 (fc tw_179 (fc tw_178 (fc tw_151 (fc tw_177 (fc tw_461 (fc tw_460 (fc tw_459 (fc tw_6 (fc tw_458 (fc tw_457 (fc tw_456 (fc tw_455 (fc tw_454 (fc tw_10 (fc tw_453 (fc tw_36 (fc tw_35 (fc tw_37 (fc tw_452 (fc tw_451 (fc tw_450 (fc tw_449 (fc tw_25 fz))))))))))))))))))))))))
set_option maxRecDepth 20000 in
theorem in_wsX5_asks_r2 : ∀ w ∈ wsX5_asks_r2, w ∈ lw_tbl := (fc tw_26 (fc tw_478 (fc tw_199 (fc tw_27 (fc tw_477 (fc tw_476 (fc tw_475 (fc tw_474 (fc tw_473 (fc tw_472 (fc tw_471 (fc tw_470 (fc tw_146 (fc tw_145 (fc tw_144 (fc tw_62 (fc tw_469 (fc tw_468 (fc tw_467 (fc tw_466 (fc tw_465 (fc tw_464 (fc tw_463 (fc tw_462 fz))))))))))))))))))))))))
set_option maxRecDepth 20000 in
theorem in_wsX5_asks_r3 : ∀ w ∈ wsX5_asks_r3, w ∈ lw_tbl := (fc tw_480 (fc tw_339 (fc tw_342 (fc tw_338 (fc tw_479 (fc tw_343 (fc tw_341 fz)))))))
set_option maxRecDepth 20000 in
theorem in_wsX5_asks : ∀ w ∈ wsX5_asks, w ∈ lw_tbl := (fc tw_448 (fa (fa (fa (fa in_wsX5_asks_r1 (fa in_wsX5_asks_r2 in_wsX5_asks_r3)) inX5) inX0) inX2))
set_option maxRecDepth 20000 in
theorem in_wsX6_asks_r1 : ∀ w ∈ wsX6_asks_r1, w ∈ lw_tbl := (fc tw_93 (fc tw_92 (fc tw_105 (fc tw_91 (fc tw_495 (fc tw_494 (fc tw_493 (fc tw_492 (fc tw_166 (fc tw_491 (fc tw_490 (fc tw_489 (fc tw_488 (fc tw_66 (fc tw_82 (fc tw_165 (fc tw_190 (fc tw_83 (fc tw_487 (fc tw_486 (fc tw_485 (fc tw_163 (fc tw_162 (fc tw_161 fz))))))))))))))))))))))))
set_option maxRecDepth 20000 in
theorem in_wsX6_asks_r2 : ∀ w ∈ wsX6_asks_r2, w ∈ lw_tbl := (fc tw_160 (fc tw_159 (fc tw_158 (fc tw_157 (fc tw_156 (fc tw_81 (fc tw_155 (fc tw_154 (fc tw_153 (fc tw_502 (fc tw_501 (fc tw_500 (fc tw_499 (fc tw_76 (fc tw_164 (fc tw_77 (fc tw_128 (fc tw_67 (fc tw_498 (fc tw_497 (fc tw_496 fz)))))))))))))))))))))
set_option maxRecDepth 20000 in
theorem in_wsX6_asks : ∀ w ∈ wsX6_asks, w ∈ lw_tbl := (fc tw_484 (fa (fa in_wsX6_asks_r1 in_wsX6_asks_r2) inX6))
set_option maxRecDepth 20000 in
theorem in_wsX5_witness : ∀ w ∈ wsX5_witness, w ∈ lw_tbl := (fc tw_506 (fa (fa (fc tw_5 (fc tw_179 (fc tw_178 (fc tw_151 (fc tw_177 (fc tw_510 (fc tw_509 (fc tw_508 (fc tw_6 (fc tw_507 (fc tw_457 (fc tw_28 (fc tw_27 (fc tw_26 (fc tw_25 (fc tw_63 fz)))))))))))))))) inX5) inX0))
set_option maxRecDepth 20000 in
theorem in_wsX6_witness : ∀ w ∈ wsX6_witness, w ∈ lw_tbl := (fc tw_514 (fa (fc tw_166 (fc tw_84 (fc tw_83 (fc tw_82 (fc tw_93 (fc tw_92 (fc tw_105 (fc tw_91 fz)))))))) inX6))
set_option maxRecDepth 20000 in
theorem in_wsX5_put : ∀ w ∈ wsX5_put, w ∈ lw_tbl := (fc tw_518 (fa (fa (fc tw_5 (fc tw_461 (fc tw_460 (fc tw_459 (fc tw_6 (fc tw_458 (fc tw_457 (fc tw_178 (fc tw_151 (fc tw_177 (fc tw_179 (fc tw_173 (fc tw_172 (fc tw_171 fz)))))))))))))) inX5) inX0))
set_option maxRecDepth 20000 in
theorem in_wsX6_put : ∀ w ∈ wsX6_put, w ∈ lw_tbl := (fc tw_522 (fa (fc tw_82 (fc tw_495 (fc tw_494 (fc tw_493 (fc tw_105 (fc tw_492 (fc tw_166 (fc tw_93 (fc tw_92 (fc tw_91 fz)))))))))) inX6))
set_option maxRecDepth 20000 in
theorem in_wsX5_told_r1 : ∀ w ∈ wsX5_told_r1, w ∈ lw_tbl := (fc tw_5 (fc tw_461 (fc tw_460 (fc tw_459 (fc tw_6 (fc tw_458 (fc tw_457 (fc tw_178 (fc tw_151 (fc tw_177 (fc tw_530 (fc tw_529 (fc tw_528 (fc tw_527 (fc tw_26 (fc tw_28 (fc tw_59 (fc tw_27 (fc tw_477 (fc tw_476 (fc tw_475 (fc tw_474 (fc tw_473 (fc tw_472 fz))))))))))))))))))))))))
set_option maxRecDepth 20000 in
theorem in_wsX5_told_r2 : ∀ w ∈ wsX5_told_r2, w ∈ lw_tbl := (fc tw_471 (fc tw_531 (fc tw_455 (fc tw_454 (fc tw_10 (fc tw_453 (fc tw_36 (fc tw_35 (fc tw_37 (fc tw_452 (fc tw_451 (fc tw_450 (fc tw_449 (fc tw_25 (fc tw_478 (fc tw_199 (fc tw_470 (fc tw_146 (fc tw_145 (fc tw_144 (fc tw_62 (fc tw_469 (fc tw_468 (fc tw_467 fz))))))))))))))))))))))))
set_option maxRecDepth 20000 in
theorem in_wsX5_told_r3 : ∀ w ∈ wsX5_told_r3, w ∈ lw_tbl := (fc tw_466 (fc tw_465 (fc tw_464 (fc tw_463 (fc tw_462 (fc tw_480 (fc tw_339 (fc tw_342 (fc tw_338 (fc tw_479 (fc tw_343 (fc tw_341 (fc tw_542 (fc tw_541 (fc tw_540 (fc tw_539 (fc tw_538 (fc tw_537 (fc tw_536 (fc tw_342 (fc tw_535 (fc tw_534 (fc tw_533 (fc tw_532 fz))))))))))))))))))))))))
set_option maxRecDepth 20000 in
theorem in_wsX5_told_r4 : ∀ w ∈ wsX5_told_r4, w ∈ lw_tbl := (fc tw_565 (fc tw_564 (fc tw_563 (fc tw_562 (fc tw_561 (fc tw_560 (fc tw_559 (fc tw_558 (fc tw_557 (fc tw_556 (fc tw_555 (fc tw_554 (fc tw_553 (fc tw_552 (fc tw_551 (fc tw_550 (fc tw_29 (fc tw_549 (fc tw_548 (fc tw_547 (fc tw_546 (fc tw_545 (fc tw_544 (fc tw_543 fz))))))))))))))))))))))))
set_option maxRecDepth 20000 in
theorem in_wsX5_told_r5 : ∀ w ∈ wsX5_told_r5, w ∈ lw_tbl := (fc tw_568 (fc tw_567 (fc tw_566 fz)))
set_option maxRecDepth 20000 in
theorem in_wsX5_told : ∀ w ∈ wsX5_told, w ∈ lw_tbl := (fc tw_526 (fa (fa (fa (fa in_wsX5_told_r1 (fa in_wsX5_told_r2 (fa in_wsX5_told_r3 (fa in_wsX5_told_r4 in_wsX5_told_r5)))) inX5) inX0) inX2))
set_option maxRecDepth 20000 in
theorem in_wsX6_told_r1 : ∀ w ∈ wsX6_told_r1, w ∈ lw_tbl := (fc tw_82 (fc tw_84 (fc tw_83 (fc tw_495 (fc tw_494 (fc tw_493 (fc tw_105 (fc tw_492 (fc tw_166 (fc tw_93 (fc tw_92 (fc tw_91 (fc tw_576 (fc tw_575 (fc tw_574 (fc tw_573 (fc tw_487 (fc tw_486 (fc tw_485 (fc tw_491 (fc tw_490 (fc tw_489 (fc tw_488 (fc tw_66 fz))))))))))))))))))))))))
set_option maxRecDepth 20000 in
theorem in_wsX6_told_r2 : ∀ w ∈ wsX6_told_r2, w ∈ lw_tbl := (fc tw_165 (fc tw_190 (fc tw_163 (fc tw_162 (fc tw_161 (fc tw_160 (fc tw_159 (fc tw_158 (fc tw_157 (fc tw_156 (fc tw_81 (fc tw_155 (fc tw_154 (fc tw_153 (fc tw_502 (fc tw_501 (fc tw_500 (fc tw_499 (fc tw_76 (fc tw_164 (fc tw_77 (fc tw_128 (fc tw_67 (fc tw_498 fz))))))))))))))))))))))))
set_option maxRecDepth 20000 in
theorem in_wsX6_told_r3 : ∀ w ∈ wsX6_told_r3, w ∈ lw_tbl := (fc tw_497 (fc tw_496 (fc tw_597 (fc tw_596 (fc tw_595 (fc tw_594 (fc tw_593 (fc tw_592 (fc tw_591 (fc tw_590 (fc tw_589 (fc tw_588 (fc tw_587 (fc tw_586 (fc tw_585 (fc tw_584 (fc tw_583 (fc tw_582 (fc tw_581 (fc tw_580 (fc tw_579 (fc tw_79 (fc tw_578 (fc tw_577 fz))))))))))))))))))))))))
set_option maxRecDepth 20000 in
theorem in_wsX6_told_r4 : ∀ w ∈ wsX6_told_r4, w ∈ lw_tbl := (fc tw_599 (fc tw_598 fz))
set_option maxRecDepth 20000 in
theorem in_wsX6_told : ∀ w ∈ wsX6_told, w ∈ lw_tbl := (fc tw_572 (fa (fa in_wsX6_told_r1 (fa in_wsX6_told_r2 (fa in_wsX6_told_r3 in_wsX6_told_r4))) inX6))
set_option maxRecDepth 20000 in
theorem in_wsX5_regard_r1 : ∀ w ∈ wsX5_regard_r1, w ∈ lw_tbl := (fc tw_5 (fc tw_461 (fc tw_460 (fc tw_459 (fc tw_6 (fc tw_458 (fc tw_457 (fc tw_178 (fc tw_151 (fc tw_177 (fc tw_179 (fc tw_604 (fc tw_548 (fc tw_547 (fc tw_546 (fc tw_59 (fc tw_28 (fc tw_27 (fc tw_531 (fc tw_455 (fc tw_454 (fc tw_10 (fc tw_453 (fc tw_36 fz))))))))))))))))))))))))
set_option maxRecDepth 20000 in
theorem in_wsX5_regard_r2 : ∀ w ∈ wsX5_regard_r2, w ∈ lw_tbl := (fc tw_35 (fc tw_37 (fc tw_452 (fc tw_451 (fc tw_450 (fc tw_449 (fc tw_25 (fc tw_26 (fc tw_478 (fc tw_199 (fc tw_477 (fc tw_476 (fc tw_475 (fc tw_474 (fc tw_473 (fc tw_472 (fc tw_471 (fc tw_470 (fc tw_146 (fc tw_145 (fc tw_144 (fc tw_62 (fc tw_469 (fc tw_468 fz))))))))))))))))))))))))
set_option maxRecDepth 20000 in
theorem in_wsX5_regard_r3 : ∀ w ∈ wsX5_regard_r3, w ∈ lw_tbl := (fc tw_467 (fc tw_466 (fc tw_465 (fc tw_464 (fc tw_463 (fc tw_462 (fc tw_480 (fc tw_339 (fc tw_342 (fc tw_338 (fc tw_479 (fc tw_343 (fc tw_341 (fc tw_545 (fc tw_544 (fc tw_540 (fc tw_543 (fc tw_568 (fc tw_567 (fc tw_566 (fc tw_605 (fc tw_552 (fc tw_551 (fc tw_550 fz))))))))))))))))))))))))
set_option maxRecDepth 20000 in
theorem in_wsX5_regard_r4 : ∀ w ∈ wsX5_regard_r4, w ∈ lw_tbl := (fc tw_29 (fc tw_549 fz))
set_option maxRecDepth 20000 in
theorem in_wsX5_regard : ∀ w ∈ wsX5_regard, w ∈ lw_tbl := (fc tw_603 (fa (fa (fa (fa in_wsX5_regard_r1 (fa in_wsX5_regard_r2 (fa in_wsX5_regard_r3 in_wsX5_regard_r4))) inX5) inX0) inX2))
set_option maxRecDepth 20000 in
theorem in_wsX6_regard_r1 : ∀ w ∈ wsX6_regard_r1, w ∈ lw_tbl := (fc tw_495 (fc tw_494 (fc tw_493 (fc tw_105 (fc tw_492 (fc tw_166 (fc tw_93 (fc tw_92 (fc tw_91 (fc tw_578 (fc tw_577 (fc tw_599 (fc tw_598 (fc tw_84 (fc tw_83 (fc tw_491 (fc tw_490 (fc tw_489 (fc tw_488 (fc tw_66 (fc tw_82 (fc tw_165 (fc tw_190 (fc tw_487 fz))))))))))))))))))))))))
set_option maxRecDepth 20000 in
theorem in_wsX6_regard_r2 : ∀ w ∈ wsX6_regard_r2, w ∈ lw_tbl := (fc tw_486 (fc tw_485 (fc tw_163 (fc tw_162 (fc tw_161 (fc tw_160 (fc tw_159 (fc tw_158 (fc tw_157 (fc tw_156 (fc tw_81 (fc tw_155 (fc tw_154 (fc tw_153 (fc tw_502 (fc tw_501 (fc tw_500 (fc tw_499 (fc tw_76 (fc tw_164 (fc tw_77 (fc tw_128 (fc tw_67 (fc tw_498 fz))))))))))))))))))))))))
set_option maxRecDepth 20000 in
theorem in_wsX6_regard_r3 : ∀ w ∈ wsX6_regard_r3, w ∈ lw_tbl := (fc tw_497 (fc tw_496 (fc tw_582 (fc tw_581 (fc tw_580 (fc tw_579 (fc tw_79 fz)))))))
set_option maxRecDepth 20000 in
theorem in_wsX6_regard : ∀ w ∈ wsX6_regard, w ∈ lw_tbl := (fc tw_609 (fa (fa in_wsX6_regard_r1 (fa in_wsX6_regard_r2 in_wsX6_regard_r3)) inX6))
set_option maxRecDepth 20000 in
theorem in_wsX5_linen : ∀ w ∈ wsX5_linen, w ∈ lw_tbl := (fc tw_613 (fa (fa (fc tw_5 (fc tw_617 (fc tw_616 (fc tw_615 (fc tw_6 (fc tw_614 (fc tw_62 (fc tw_178 (fc tw_151 (fc tw_177 fz)))))))))) inX5) inX0))
set_option maxRecDepth 20000 in
theorem in_wsX6_linen : ∀ w ∈ wsX6_linen, w ∈ lw_tbl := (fc tw_621 (fa (fc tw_81 (fc tw_159 (fc tw_158 (fc tw_157 (fc tw_105 (fc tw_156 (fc tw_93 (fc tw_92 (fc tw_91 (fc tw_155 (fc tw_154 (fc tw_153 fz)))))))))))) inX6))
set_option maxRecDepth 20000 in
theorem in_wsX5_drop_r1 : ∀ w ∈ wsX5_drop_r1, w ∈ lw_tbl := (fc tw_5 (fc tw_461 (fc tw_460 (fc tw_459 (fc tw_6 (fc tw_458 (fc tw_457 (fc tw_178 (fc tw_151 (fc tw_177 (fc tw_633 (fc tw_632 (fc tw_631 (fc tw_630 (fc tw_26 (fc tw_470 (fc tw_146 (fc tw_145 (fc tw_144 (fc tw_62 (fc tw_629 (fc tw_628 (fc tw_627 (fc tw_626 fz))))))))))))))))))))))))
set_option maxRecDepth 20000 in
theorem in_wsX5_drop_r2 : ∀ w ∈ wsX5_drop_r2, w ∈ lw_tbl := (fc tw_61 (fc tw_60 (fc tw_634 (fc tw_529 (fc tw_528 (fc tw_527 (fc tw_28 (fc tw_59 (fc tw_27 (fc tw_477 (fc tw_476 (fc tw_475 (fc tw_474 (fc tw_473 (fc tw_472 (fc tw_471 (fc tw_531 (fc tw_455 (fc tw_454 (fc tw_10 (fc tw_453 (fc tw_36 (fc tw_35 (fc tw_37 fz))))))))))))))))))))))))
set_option maxRecDepth 20000 in
theorem in_wsX5_drop_r3 : ∀ w ∈ wsX5_drop_r3, w ∈ lw_tbl := (fc tw_452 (fc tw_451 (fc tw_450 (fc tw_449 (fc tw_25 (fc tw_478 (fc tw_199 (fc tw_469 (fc tw_468 (fc tw_467 (fc tw_466 (fc tw_465 (fc tw_464 (fc tw_463 (fc tw_462 (fc tw_480 (fc tw_339 (fc tw_342 (fc tw_338 (fc tw_479 (fc tw_343 (fc tw_341 (fc tw_542 (fc tw_541 fz))))))))))))))))))))))))
set_option maxRecDepth 20000 in
theorem in_wsX5_drop_r4 : ∀ w ∈ wsX5_drop_r4, w ∈ lw_tbl := (fc tw_540 (fc tw_539 (fc tw_538 (fc tw_537 (fc tw_536 (fc tw_342 (fc tw_535 (fc tw_635 (fc tw_533 (fc tw_532 (fc tw_565 (fc tw_564 (fc tw_563 (fc tw_562 fz))))))))))))))
set_option maxRecDepth 20000 in
theorem in_wsX5_drop : ∀ w ∈ wsX5_drop, w ∈ lw_tbl := (fc tw_625 (fa (fa (fa (fa in_wsX5_drop_r1 (fa in_wsX5_drop_r2 (fa in_wsX5_drop_r3 in_wsX5_drop_r4))) inX5) inX0) inX2))
set_option maxRecDepth 20000 in
theorem in_wsX6_drop_r1 : ∀ w ∈ wsX6_drop_r1, w ∈ lw_tbl := (fc tw_82 (fc tw_495 (fc tw_494 (fc tw_493 (fc tw_105 (fc tw_492 (fc tw_166 (fc tw_93 (fc tw_92 (fc tw_91 (fc tw_163 (fc tw_162 (fc tw_161 (fc tw_160 (fc tw_159 (fc tw_158 (fc tw_157 (fc tw_156 (fc tw_81 (fc tw_155 (fc tw_154 (fc tw_153 (fc tw_641 (fc tw_640 fz))))))))))))))))))))))))
set_option maxRecDepth 20000 in
theorem in_wsX6_drop_r2 : ∀ w ∈ wsX6_drop_r2, w ∈ lw_tbl := (fc tw_643 (fc tw_642 (fc tw_576 (fc tw_575 (fc tw_574 (fc tw_573 (fc tw_84 (fc tw_83 (fc tw_487 (fc tw_486 (fc tw_485 (fc tw_491 (fc tw_490 (fc tw_489 (fc tw_488 (fc tw_66 (fc tw_165 (fc tw_190 (fc tw_502 (fc tw_501 (fc tw_500 (fc tw_499 (fc tw_76 (fc tw_164 fz))))))))))))))))))))))))
set_option maxRecDepth 20000 in
theorem in_wsX6_drop_r3 : ∀ w ∈ wsX6_drop_r3, w ∈ lw_tbl := (fc tw_77 (fc tw_128 (fc tw_67 (fc tw_498 (fc tw_497 (fc tw_496 (fc tw_597 (fc tw_596 (fc tw_595 (fc tw_594 (fc tw_593 (fc tw_592 (fc tw_591 fz)))))))))))))
set_option maxRecDepth 20000 in
theorem in_wsX6_drop : ∀ w ∈ wsX6_drop, w ∈ lw_tbl := (fc tw_639 (fa (fa in_wsX6_drop_r1 (fa in_wsX6_drop_r2 in_wsX6_drop_r3)) inX6))
set_option maxRecDepth 20000 in
theorem in_wsX5_hour_r1 : ∀ w ∈ wsX5_hour_r1, w ∈ lw_tbl := (fc tw_5 (fc tw_651 (fc tw_650 (fc tw_649 (fc tw_6 (fc tw_648 (fc tw_478 (fc tw_62 (fc tw_29 (fc tw_61 (fc tw_199 (fc tw_549 (fc tw_548 (fc tw_547 (fc tw_546 (fc tw_59 (fc tw_28 (fc tw_27 (fc tw_531 (fc tw_455 (fc tw_454 (fc tw_10 (fc tw_453 (fc tw_36 fz))))))))))))))))))))))))
set_option maxRecDepth 20000 in
theorem in_wsX5_hour_r2 : ∀ w ∈ wsX5_hour_r2, w ∈ lw_tbl := (fc tw_35 (fc tw_37 (fc tw_452 (fc tw_451 (fc tw_450 (fc tw_449 (fc tw_25 (fc tw_26 (fc tw_477 (fc tw_476 (fc tw_475 (fc tw_474 (fc tw_473 (fc tw_472 (fc tw_471 (fc tw_470 (fc tw_146 (fc tw_145 (fc tw_144 (fc tw_469 (fc tw_468 (fc tw_467 (fc tw_466 (fc tw_465 fz))))))))))))))))))))))))
set_option maxRecDepth 20000 in
theorem in_wsX5_hour_r3 : ∀ w ∈ wsX5_hour_r3, w ∈ lw_tbl := (fc tw_464 (fc tw_463 (fc tw_151 (fc tw_462 (fc tw_480 (fc tw_339 (fc tw_342 (fc tw_338 (fc tw_479 (fc tw_343 (fc tw_341 (fc tw_545 (fc tw_544 (fc tw_540 (fc tw_543 (fc tw_568 (fc tw_567 (fc tw_566 (fc tw_655 (fc tw_654 (fc tw_653 (fc tw_652 (fc tw_60 (fc tw_63 fz))))))))))))))))))))))))
set_option maxRecDepth 20000 in
theorem in_wsX5_hour_r4 : ∀ w ∈ wsX5_hour_r4, w ∈ lw_tbl := (fc tw_656 fz)
set_option maxRecDepth 20000 in
theorem in_wsX5_hour : ∀ w ∈ wsX5_hour, w ∈ lw_tbl := (fc tw_647 (fa (fa (fa (fa in_wsX5_hour_r1 (fa in_wsX5_hour_r2 (fa in_wsX5_hour_r3 in_wsX5_hour_r4))) inX5) inX0) inX2))
set_option maxRecDepth 20000 in
theorem in_wsX6_hour_r1 : ∀ w ∈ wsX6_hour_r1, w ∈ lw_tbl := (fc tw_165 (fc tw_664 (fc tw_663 (fc tw_662 (fc tw_105 (fc tw_661 (fc tw_81 (fc tw_190 (fc tw_82 (fc tw_159 (fc tw_158 (fc tw_157 (fc tw_156 (fc tw_93 (fc tw_92 (fc tw_91 (fc tw_155 (fc tw_154 (fc tw_153 (fc tw_582 (fc tw_581 (fc tw_580 (fc tw_579 (fc tw_79 fz))))))))))))))))))))))))
set_option maxRecDepth 20000 in
theorem in_wsX6_hour_r2 : ∀ w ∈ wsX6_hour_r2, w ∈ lw_tbl := (fc tw_578 (fc tw_577 (fc tw_599 (fc tw_598 (fc tw_84 (fc tw_83 (fc tw_491 (fc tw_490 (fc tw_489 (fc tw_488 (fc tw_66 (fc tw_487 (fc tw_486 (fc tw_485 (fc tw_163 (fc tw_162 (fc tw_161 (fc tw_160 (fc tw_502 (fc tw_501 (fc tw_500 (fc tw_499 (fc tw_76 (fc tw_164 fz))))))))))))))))))))))))
set_option maxRecDepth 20000 in
theorem in_wsX6_hour_r3 : ∀ w ∈ wsX6_hour_r3, w ∈ lw_tbl := (fc tw_77 (fc tw_128 (fc tw_67 (fc tw_498 (fc tw_497 (fc tw_496 fz))))))
set_option maxRecDepth 20000 in
theorem in_wsX6_hour : ∀ w ∈ wsX6_hour, w ∈ lw_tbl := (fc tw_660 (fa (fa in_wsX6_hour_r1 (fa in_wsX6_hour_r2 in_wsX6_hour_r3)) inX6))
set_option maxRecDepth 20000 in
theorem in_wsX5_burn : ∀ w ∈ wsX5_burn, w ∈ lw_tbl := (fc tw_668 (fa (fa (fc tw_5 (fc tw_617 (fc tw_616 (fc tw_615 (fc tw_6 (fc tw_614 (fc tw_62 (fc tw_178 (fc tw_151 (fc tw_177 fz)))))))))) inX5) inX0))
set_option maxRecDepth 20000 in
theorem in_wsX6_burn : ∀ w ∈ wsX6_burn, w ∈ lw_tbl := (fc tw_672 (fa (fc tw_81 (fc tw_159 (fc tw_158 (fc tw_157 (fc tw_105 (fc tw_156 (fc tw_93 (fc tw_92 (fc tw_91 (fc tw_155 (fc tw_154 (fc tw_153 fz)))))))))))) inX6))
set_option maxRecDepth 20000 in
theorem in_wsX5_run_r1 : ∀ w ∈ wsX5_run_r1, w ∈ lw_tbl := (fc tw_5 (fc tw_3 (fc tw_461 (fc tw_460 (fc tw_459 (fc tw_6 (fc tw_458 (fc tw_457 (fc tw_178 (fc tw_151 (fc tw_177 (fc tw_179 (fc tw_681 (fc tw_680 (fc tw_679 (fc tw_678 (fc tw_30 (fc tw_677 (fc tw_422 (fc tw_421 (fc tw_420 (fc tw_29 (fc tw_28 (fc tw_27 fz))))))))))))))))))))))))
set_option maxRecDepth 20000 in
theorem in_wsX5_run_r2 : ∀ w ∈ wsX5_run_r2, w ∈ lw_tbl := (fc tw_26 (fc tw_25 (fc tw_63 (fc tw_62 (fc tw_61 (fc tw_60 (fc tw_199 (fc tw_478 (fc tw_59 (fc tw_651 (fc tw_650 (fc tw_649 (fc tw_648 (fc tw_549 (fc tw_548 (fc tw_547 (fc tw_546 (fc tw_531 (fc tw_455 (fc tw_454 (fc tw_10 (fc tw_453 (fc tw_36 (fc tw_35 fz))))))))))))))))))))))))
set_option maxRecDepth 20000 in
theorem in_wsX5_run_r3 : ∀ w ∈ wsX5_run_r3, w ∈ lw_tbl := (fc tw_37 (fc tw_452 (fc tw_451 (fc tw_450 (fc tw_449 (fc tw_477 (fc tw_476 (fc tw_475 (fc tw_474 (fc tw_473 (fc tw_472 (fc tw_471 (fc tw_470 (fc tw_146 (fc tw_145 (fc tw_144 (fc tw_469 (fc tw_468 (fc tw_467 (fc tw_466 (fc tw_465 (fc tw_464 (fc tw_463 (fc tw_462 fz))))))))))))))))))))))))
set_option maxRecDepth 20000 in
theorem in_wsX5_run_r4 : ∀ w ∈ wsX5_run_r4, w ∈ lw_tbl := (fc tw_480 (fc tw_339 (fc tw_342 (fc tw_338 (fc tw_479 (fc tw_343 (fc tw_341 (fc tw_545 (fc tw_544 (fc tw_540 (fc tw_543 (fc tw_568 (fc tw_567 (fc tw_566 (fc tw_655 (fc tw_654 (fc tw_653 (fc tw_652 (fc tw_656 (fc tw_203 (fc tw_202 (fc tw_201 (fc tw_200 (fc tw_198 fz))))))))))))))))))))))))
set_option maxRecDepth 20000 in
theorem in_wsX5_run_r5 : ∀ w ∈ wsX5_run_r5, w ∈ lw_tbl := (fc tw_197 (fc tw_196 (fc tw_195 (fc tw_147 fz))))
set_option maxRecDepth 20000 in
theorem in_wsX5_run : ∀ w ∈ wsX5_run, w ∈ lw_tbl := (fc tw_676 (fa (fa (fa (fa in_wsX5_run_r1 (fa in_wsX5_run_r2 (fa in_wsX5_run_r3 (fa in_wsX5_run_r4 in_wsX5_run_r5)))) inX5) inX0) inX2))
set_option maxRecDepth 20000 in
theorem in_wsX6_run_r1 : ∀ w ∈ wsX6_run_r1, w ∈ lw_tbl := (fc tw_166 (fc tw_190 (fc tw_82 (fc tw_93 (fc tw_92 (fc tw_105 (fc tw_91 (fc tw_693 (fc tw_692 (fc tw_691 (fc tw_690 (fc tw_65 (fc tw_81 (fc tw_165 (fc tw_689 (fc tw_688 (fc tw_687 (fc tw_686 (fc tw_664 (fc tw_663 (fc tw_662 (fc tw_661 (fc tw_159 (fc tw_158 fz))))))))))))))))))))))))
set_option maxRecDepth 20000 in
theorem in_wsX6_run_r2 : ∀ w ∈ wsX6_run_r2, w ∈ lw_tbl := (fc tw_157 (fc tw_156 (fc tw_155 (fc tw_154 (fc tw_153 (fc tw_582 (fc tw_581 (fc tw_580 (fc tw_579 (fc tw_79 (fc tw_578 (fc tw_577 (fc tw_599 (fc tw_598 (fc tw_84 (fc tw_83 (fc tw_491 (fc tw_490 (fc tw_489 (fc tw_488 (fc tw_66 (fc tw_487 (fc tw_486 (fc tw_485 fz))))))))))))))))))))))))
set_option maxRecDepth 20000 in
theorem in_wsX6_run_r3 : ∀ w ∈ wsX6_run_r3, w ∈ lw_tbl := (fc tw_163 (fc tw_162 (fc tw_161 (fc tw_160 (fc tw_502 (fc tw_501 (fc tw_500 (fc tw_499 (fc tw_76 (fc tw_164 (fc tw_77 (fc tw_128 (fc tw_67 (fc tw_498 (fc tw_497 (fc tw_496 (fc tw_211 (fc tw_210 (fc tw_209 (fc tw_208 (fc tw_80 (fc tw_696 (fc tw_695 (fc tw_694 fz))))))))))))))))))))))))
set_option maxRecDepth 20000 in
theorem in_wsX6_run_r4 : ∀ w ∈ wsX6_run_r4, w ∈ lw_tbl := (fc tw_697 fz)
set_option maxRecDepth 20000 in
theorem in_wsX6_run : ∀ w ∈ wsX6_run, w ∈ lw_tbl := (fc tw_685 (fa (fa in_wsX6_run_r1 (fa in_wsX6_run_r2 (fa in_wsX6_run_r3 in_wsX6_run_r4))) inX6))
set_option maxRecDepth 20000 in
theorem in_wsX5_when_r1 : ∀ w ∈ wsX5_when_r1, w ∈ lw_tbl := (fc tw_3 (fc tw_5 (fc tw_179 (fc tw_178 (fc tw_151 (fc tw_177 (fc tw_681 (fc tw_680 (fc tw_679 (fc tw_6 (fc tw_678 (fc tw_30 (fc tw_677 (fc tw_422 (fc tw_421 (fc tw_420 (fc tw_29 (fc tw_28 (fc tw_27 (fc tw_26 (fc tw_25 (fc tw_63 (fc tw_62 (fc tw_61 fz))))))))))))))))))))))))
set_option maxRecDepth 20000 in
theorem in_wsX5_when_r2 : ∀ w ∈ wsX5_when_r2, w ∈ lw_tbl := (fc tw_60 (fc tw_199 (fc tw_478 (fc tw_457 (fc tw_59 (fc tw_147 (fc tw_146 (fc tw_145 (fc tw_144 (fc tw_705 (fc tw_704 (fc tw_703 (fc tw_702 (fc tw_651 (fc tw_650 (fc tw_649 (fc tw_648 (fc tw_549 (fc tw_548 (fc tw_547 (fc tw_546 (fc tw_531 (fc tw_455 (fc tw_454 fz))))))))))))))))))))))))
set_option maxRecDepth 20000 in
theorem in_wsX5_when_r3 : ∀ w ∈ wsX5_when_r3, w ∈ lw_tbl := (fc tw_10 (fc tw_453 (fc tw_36 (fc tw_35 (fc tw_37 (fc tw_452 (fc tw_451 (fc tw_450 (fc tw_449 (fc tw_477 (fc tw_476 (fc tw_475 (fc tw_474 (fc tw_473 (fc tw_472 (fc tw_471 (fc tw_470 (fc tw_469 (fc tw_468 (fc tw_467 (fc tw_466 (fc tw_465 (fc tw_464 (fc tw_463 fz))))))))))))))))))))))))
set_option maxRecDepth 20000 in
theorem in_wsX5_when_r4 : ∀ w ∈ wsX5_when_r4, w ∈ lw_tbl := (fc tw_462 (fc tw_480 (fc tw_339 (fc tw_342 (fc tw_338 (fc tw_479 (fc tw_343 (fc tw_341 (fc tw_545 (fc tw_544 (fc tw_540 (fc tw_543 (fc tw_568 (fc tw_567 (fc tw_566 (fc tw_655 (fc tw_654 (fc tw_653 (fc tw_652 (fc tw_656 fz))))))))))))))))))))
set_option maxRecDepth 20000 in
theorem in_wsX5_when : ∀ w ∈ wsX5_when, w ∈ lw_tbl := (fc tw_701 (fa (fa (fa (fa in_wsX5_when_r1 (fa in_wsX5_when_r2 (fa in_wsX5_when_r3 in_wsX5_when_r4))) inX5) inX0) inX2))
set_option maxRecDepth 20000 in
theorem in_wsX6_when_r1 : ∀ w ∈ wsX6_when_r1, w ∈ lw_tbl := (fc tw_190 (fc tw_93 (fc tw_92 (fc tw_105 (fc tw_91 (fc tw_693 (fc tw_692 (fc tw_691 (fc tw_690 (fc tw_65 (fc tw_82 (fc tw_81 (fc tw_165 (fc tw_163 (fc tw_162 (fc tw_161 (fc tw_160 (fc tw_159 (fc tw_158 (fc tw_157 (fc tw_156 (fc tw_155 (fc tw_154 (fc tw_153 fz))))))))))))))))))))))))
set_option maxRecDepth 20000 in
theorem in_wsX6_when_r2 : ∀ w ∈ wsX6_when_r2, w ∈ lw_tbl := (fc tw_664 (fc tw_663 (fc tw_662 (fc tw_661 (fc tw_582 (fc tw_581 (fc tw_580 (fc tw_579 (fc tw_79 (fc tw_578 (fc tw_577 (fc tw_599 (fc tw_598 (fc tw_84 (fc tw_83 (fc tw_491 (fc tw_490 (fc tw_489 (fc tw_488 (fc tw_66 (fc tw_487 (fc tw_486 (fc tw_485 (fc tw_502 fz))))))))))))))))))))))))
set_option maxRecDepth 20000 in
theorem in_wsX6_when_r3 : ∀ w ∈ wsX6_when_r3, w ∈ lw_tbl := (fc tw_501 (fc tw_500 (fc tw_499 (fc tw_76 (fc tw_164 (fc tw_77 (fc tw_128 (fc tw_67 (fc tw_498 (fc tw_497 (fc tw_496 (fc tw_696 (fc tw_695 (fc tw_694 (fc tw_697 fz)))))))))))))))
set_option maxRecDepth 20000 in
theorem in_wsX6_when : ∀ w ∈ wsX6_when, w ∈ lw_tbl := (fc tw_709 (fa (fa in_wsX6_when_r1 (fa in_wsX6_when_r2 in_wsX6_when_r3)) inX6))
set_option maxRecDepth 20000 in
theorem in_wsX5_fate_r1 : ∀ w ∈ wsX5_fate_r1, w ∈ lw_tbl := (fc tw_5 (fc tw_3 (fc tw_617 (fc tw_616 (fc tw_615 (fc tw_6 (fc tw_614 (fc tw_62 (fc tw_178 (fc tw_151 (fc tw_177 (fc tw_179 (fc tw_681 (fc tw_680 (fc tw_679 (fc tw_678 (fc tw_30 (fc tw_677 (fc tw_422 (fc tw_421 (fc tw_420 (fc tw_29 (fc tw_28 (fc tw_27 fz))))))))))))))))))))))))
set_option maxRecDepth 20000 in
theorem in_wsX5_fate_r2 : ∀ w ∈ wsX5_fate_r2, w ∈ lw_tbl := (fc tw_26 (fc tw_25 (fc tw_63 (fc tw_61 (fc tw_60 (fc tw_199 (fc tw_478 (fc tw_457 (fc tw_59 (fc tw_651 (fc tw_650 (fc tw_649 (fc tw_648 (fc tw_549 (fc tw_548 (fc tw_547 (fc tw_546 (fc tw_531 (fc tw_455 (fc tw_454 (fc tw_10 (fc tw_453 (fc tw_36 (fc tw_35 fz))))))))))))))))))))))))
set_option maxRecDepth 20000 in
theorem in_wsX5_fate_r3 : ∀ w ∈ wsX5_fate_r3, w ∈ lw_tbl := (fc tw_37 (fc tw_452 (fc tw_451 (fc tw_450 (fc tw_449 (fc tw_477 (fc tw_476 (fc tw_475 (fc tw_474 (fc tw_473 (fc tw_472 (fc tw_471 (fc tw_470 (fc tw_146 (fc tw_145 (fc tw_144 (fc tw_469 (fc tw_468 (fc tw_467 (fc tw_466 (fc tw_465 (fc tw_464 (fc tw_463 (fc tw_462 fz))))))))))))))))))))))))
set_option maxRecDepth 20000 in
theorem in_wsX5_fate_r4 : ∀ w ∈ wsX5_fate_r4, w ∈ lw_tbl := (fc tw_480 (fc tw_339 (fc tw_342 (fc tw_338 (fc tw_479 (fc tw_343 (fc tw_341 (fc tw_545 (fc tw_544 (fc tw_540 (fc tw_543 (fc tw_568 (fc tw_567 (fc tw_566 (fc tw_655 (fc tw_654 (fc tw_653 (fc tw_652 (fc tw_656 fz)))))))))))))))))))
set_option maxRecDepth 20000 in
theorem in_wsX5_fate : ∀ w ∈ wsX5_fate, w ∈ lw_tbl := (fc tw_713 (fa (fa (fa (fa in_wsX5_fate_r1 (fa in_wsX5_fate_r2 (fa in_wsX5_fate_r3 in_wsX5_fate_r4))) inX5) inX0) inX2))
set_option maxRecDepth 20000 in
theorem in_wsX6_fate_r1 : ∀ w ∈ wsX6_fate_r1, w ∈ lw_tbl := (fc tw_722 (fc tw_159 (fc tw_158 (fc tw_157 (fc tw_105 (fc tw_156 (fc tw_81 (fc tw_93 (fc tw_92 (fc tw_91 (fc tw_155 (fc tw_154 (fc tw_153 (fc tw_721 (fc tw_720 (fc tw_719 (fc tw_718 (fc tw_165 (fc tw_693 (fc tw_692 (fc tw_691 (fc tw_690 (fc tw_65 (fc tw_82 fz))))))))))))))))))))))))
set_option maxRecDepth 20000 in
theorem in_wsX6_fate_r2 : ∀ w ∈ wsX6_fate_r2, w ∈ lw_tbl := (fc tw_190 (fc tw_664 (fc tw_663 (fc tw_662 (fc tw_661 (fc tw_582 (fc tw_581 (fc tw_580 (fc tw_579 (fc tw_79 (fc tw_578 (fc tw_577 (fc tw_599 (fc tw_598 (fc tw_84 (fc tw_83 (fc tw_491 (fc tw_490 (fc tw_489 (fc tw_488 (fc tw_66 (fc tw_487 (fc tw_486 (fc tw_485 fz))))))))))))))))))))))))
set_option maxRecDepth 20000 in
theorem in_wsX6_fate_r3 : ∀ w ∈ wsX6_fate_r3, w ∈ lw_tbl := (fc tw_163 (fc tw_162 (fc tw_161 (fc tw_160 (fc tw_502 (fc tw_501 (fc tw_500 (fc tw_499 (fc tw_76 (fc tw_164 (fc tw_77 (fc tw_128 (fc tw_67 (fc tw_498 (fc tw_497 (fc tw_496 (fc tw_696 (fc tw_695 (fc tw_694 (fc tw_697 fz))))))))))))))))))))
set_option maxRecDepth 20000 in
theorem in_wsX6_fate : ∀ w ∈ wsX6_fate, w ∈ lw_tbl := (fc tw_717 (fa (fa in_wsX6_fate_r1 (fa in_wsX6_fate_r2 in_wsX6_fate_r3)) inX6))
set_option maxRecDepth 20000 in
theorem in_wsX5_advise_r1 : ∀ w ∈ wsX5_advise_r1, w ∈ lw_tbl := (fc tw_3 (fc tw_5 (fc tw_479 (fc tw_343 (fc tw_342 (fc tw_341 (fc tw_179 (fc tw_178 (fc tw_151 (fc tw_177 (fc tw_681 (fc tw_680 (fc tw_679 (fc tw_6 (fc tw_678 (fc tw_30 (fc tw_677 (fc tw_422 (fc tw_421 (fc tw_420 (fc tw_29 (fc tw_28 (fc tw_27 (fc tw_26 fz))))))))))))))))))))))))
set_option maxRecDepth 20000 in
theorem in_wsX5_advise_r2 : ∀ w ∈ wsX5_advise_r2, w ∈ lw_tbl := (fc tw_25 (fc tw_63 (fc tw_62 (fc tw_61 (fc tw_60 (fc tw_199 (fc tw_478 (fc tw_457 (fc tw_59 (fc tw_651 (fc tw_650 (fc tw_649 (fc tw_648 (fc tw_549 (fc tw_548 (fc tw_547 (fc tw_546 (fc tw_531 (fc tw_455 (fc tw_454 (fc tw_10 (fc tw_453 (fc tw_36 (fc tw_35 fz))))))))))))))))))))))))
set_option maxRecDepth 20000 in
theorem in_wsX5_advise_r3 : ∀ w ∈ wsX5_advise_r3, w ∈ lw_tbl := (fc tw_37 (fc tw_452 (fc tw_451 (fc tw_450 (fc tw_449 (fc tw_477 (fc tw_476 (fc tw_475 (fc tw_474 (fc tw_473 (fc tw_472 (fc tw_471 (fc tw_470 (fc tw_146 (fc tw_145 (fc tw_144 (fc tw_469 (fc tw_468 (fc tw_467 (fc tw_466 (fc tw_465 (fc tw_464 (fc tw_463 (fc tw_462 fz))))))))))))))))))))))))
set_option maxRecDepth 20000 in
theorem in_wsX5_advise_r4 : ∀ w ∈ wsX5_advise_r4, w ∈ lw_tbl := (fc tw_480 (fc tw_339 (fc tw_338 (fc tw_545 (fc tw_544 (fc tw_540 (fc tw_543 (fc tw_568 (fc tw_567 (fc tw_566 (fc tw_655 (fc tw_654 (fc tw_653 (fc tw_652 (fc tw_656 (fc tw_203 (fc tw_202 (fc tw_201 (fc tw_200 (fc tw_198 (fc tw_197 (fc tw_196 (fc tw_195 (fc tw_633 fz))))))))))))))))))))))))
set_option maxRecDepth 20000 in
theorem in_wsX5_advise_r5 : ∀ w ∈ wsX5_advise_r5, w ∈ lw_tbl := (fc tw_632 (fc tw_631 (fc tw_630 (fc tw_629 (fc tw_628 (fc tw_627 (fc tw_626 (fc tw_634 (fc tw_529 (fc tw_528 (fc tw_527 (fc tw_542 (fc tw_541 (fc tw_539 (fc tw_538 (fc tw_537 (fc tw_536 (fc tw_342 (fc tw_535 (fc tw_635 (fc tw_533 (fc tw_532 (fc tw_565 (fc tw_564 fz))))))))))))))))))))))))
set_option maxRecDepth 20000 in
theorem in_wsX5_advise_r6 : ∀ w ∈ wsX5_advise_r6, w ∈ lw_tbl := (fc tw_563 (fc tw_562 fz))
set_option maxRecDepth 20000 in
theorem in_wsX5_advise : ∀ w ∈ wsX5_advise, w ∈ lw_tbl := (fc tw_726 (fa (fa (fa (fa in_wsX5_advise_r1 (fa in_wsX5_advise_r2 (fa in_wsX5_advise_r3 (fa in_wsX5_advise_r4 (fa in_wsX5_advise_r5 in_wsX5_advise_r6))))) inX5) inX0) inX2))
set_option maxRecDepth 20000 in
theorem in_wsX6_advise_r1 : ∀ w ∈ wsX6_advise_r1, w ∈ lw_tbl := (fc tw_190 (fc tw_166 (fc tw_93 (fc tw_92 (fc tw_105 (fc tw_91 (fc tw_693 (fc tw_692 (fc tw_691 (fc tw_690 (fc tw_65 (fc tw_82 (fc tw_81 (fc tw_165 (fc tw_689 (fc tw_688 (fc tw_687 (fc tw_686 (fc tw_664 (fc tw_663 (fc tw_662 (fc tw_661 (fc tw_159 (fc tw_158 fz))))))))))))))))))))))))
set_option maxRecDepth 20000 in
theorem in_wsX6_advise_r2 : ∀ w ∈ wsX6_advise_r2, w ∈ lw_tbl := (fc tw_157 (fc tw_156 (fc tw_155 (fc tw_154 (fc tw_153 (fc tw_582 (fc tw_581 (fc tw_580 (fc tw_579 (fc tw_79 (fc tw_578 (fc tw_577 (fc tw_599 (fc tw_598 (fc tw_84 (fc tw_83 (fc tw_491 (fc tw_490 (fc tw_489 (fc tw_488 (fc tw_66 (fc tw_487 (fc tw_486 (fc tw_485 fz))))))))))))))))))))))))
set_option maxRecDepth 20000 in
theorem in_wsX6_advise_r3 : ∀ w ∈ wsX6_advise_r3, w ∈ lw_tbl := (fc tw_163 (fc tw_162 (fc tw_161 (fc tw_160 (fc tw_502 (fc tw_501 (fc tw_500 (fc tw_499 (fc tw_76 (fc tw_164 (fc tw_77 (fc tw_128 (fc tw_67 (fc tw_498 (fc tw_497 (fc tw_496 (fc tw_211 (fc tw_210 (fc tw_209 (fc tw_208 (fc tw_80 (fc tw_696 (fc tw_695 (fc tw_694 fz))))))))))))))))))))))))
set_option maxRecDepth 20000 in
theorem in_wsX6_advise_r4 : ∀ w ∈ wsX6_advise_r4, w ∈ lw_tbl := (fc tw_697 (fc tw_734 (fc tw_733 (fc tw_732 (fc tw_731 (fc tw_641 (fc tw_640 (fc tw_643 (fc tw_642 (fc tw_576 (fc tw_575 (fc tw_574 (fc tw_573 (fc tw_597 (fc tw_596 (fc tw_595 (fc tw_594 (fc tw_593 (fc tw_592 (fc tw_591 fz))))))))))))))))))))
set_option maxRecDepth 20000 in
theorem in_wsX6_advise : ∀ w ∈ wsX6_advise, w ∈ lw_tbl := (fc tw_730 (fa (fa in_wsX6_advise_r1 (fa in_wsX6_advise_r2 (fa in_wsX6_advise_r3 in_wsX6_advise_r4))) inX6))
set_option maxRecDepth 20000 in
theorem in_wsX5_turn : ∀ w ∈ wsX5_turn, w ∈ lw_tbl := (fc tw_738 (fa (fa (fc tw_5 (fc tw_179 (fc tw_178 (fc tw_151 (fc tw_177 (fc tw_203 (fc tw_202 (fc tw_201 (fc tw_6 (fc tw_200 (fc tw_199 (fc tw_198 (fc tw_197 (fc tw_196 (fc tw_195 (fc tw_30 (fc tw_740 (fc tw_476 (fc tw_475 (fc tw_474 (fc tw_473 (fc tw_472 (fc tw_471 (fc tw_739 fz)))))))))))))))))))))))) inX5) inX0))
set_option maxRecDepth 20000 in
theorem in_wsX6_turn : ∀ w ∈ wsX6_turn, w ∈ lw_tbl := (fc tw_744 (fa (fc tw_190 (fc tw_93 (fc tw_92 (fc tw_105 (fc tw_91 (fc tw_211 (fc tw_210 (fc tw_209 (fc tw_208 (fc tw_80 (fc tw_487 (fc tw_486 (fc tw_485 fz))))))))))))) inX6))
set_option maxRecDepth 20000 in
theorem in_wsX5_gallant_r1 : ∀ w ∈ wsX5_gallant_r1, w ∈ lw_tbl := (fc tw_3 (fc tw_5 (fc tw_479 (fc tw_343 (fc tw_342 (fc tw_341 (fc tw_179 (fc tw_178 (fc tw_151 (fc tw_177 (fc tw_681 (fc tw_680 (fc tw_679 (fc tw_6 (fc tw_678 (fc tw_30 (fc tw_677 (fc tw_422 (fc tw_421 (fc tw_420 (fc tw_29 (fc tw_28 (fc tw_27 (fc tw_26 fz))))))))))))))))))))))))
set_option maxRecDepth 20000 in
theorem in_wsX5_gallant_r2 : ∀ w ∈ wsX5_gallant_r2, w ∈ lw_tbl := (fc tw_25 (fc tw_63 (fc tw_62 (fc tw_61 (fc tw_60 (fc tw_199 (fc tw_478 (fc tw_457 (fc tw_59 (fc tw_651 (fc tw_650 (fc tw_649 (fc tw_648 (fc tw_549 (fc tw_548 (fc tw_547 (fc tw_546 (fc tw_531 (fc tw_455 (fc tw_454 (fc tw_10 (fc tw_453 (fc tw_36 (fc tw_35 fz))))))))))))))))))))))))
set_option maxRecDepth 20000 in
theorem in_wsX5_gallant_r3 : ∀ w ∈ wsX5_gallant_r3, w ∈ lw_tbl := (fc tw_37 (fc tw_452 (fc tw_451 (fc tw_450 (fc tw_449 (fc tw_477 (fc tw_476 (fc tw_475 (fc tw_474 (fc tw_473 (fc tw_472 (fc tw_471 (fc tw_470 (fc tw_146 (fc tw_145 (fc tw_144 (fc tw_469 (fc tw_468 (fc tw_467 (fc tw_466 (fc tw_465 (fc tw_464 (fc tw_463 (fc tw_462 fz))))))))))))))))))))))))
set_option maxRecDepth 20000 in
theorem in_wsX5_gallant_r4 : ∀ w ∈ wsX5_gallant_r4, w ∈ lw_tbl := (fc tw_480 (fc tw_339 (fc tw_338 (fc tw_545 (fc tw_544 (fc tw_540 (fc tw_543 (fc tw_568 (fc tw_567 (fc tw_566 (fc tw_655 (fc tw_654 (fc tw_653 (fc tw_652 (fc tw_656 (fc tw_740 fz))))))))))))))))
set_option maxRecDepth 20000 in
theorem in_wsX5_gallant : ∀ w ∈ wsX5_gallant, w ∈ lw_tbl := (fc tw_748 (fa (fa (fa (fa in_wsX5_gallant_r1 (fa in_wsX5_gallant_r2 (fa in_wsX5_gallant_r3 in_wsX5_gallant_r4))) inX5) inX0) inX2))
set_option maxRecDepth 20000 in
theorem in_wsX6_gallant_r1 : ∀ w ∈ wsX6_gallant_r1, w ∈ lw_tbl := (fc tw_79 (fc tw_93 (fc tw_92 (fc tw_105 (fc tw_91 (fc tw_756 (fc tw_755 (fc tw_754 (fc tw_753 (fc tw_190 (fc tw_693 (fc tw_692 (fc tw_691 (fc tw_690 (fc tw_65 (fc tw_82 (fc tw_81 (fc tw_165 (fc tw_689 (fc tw_688 (fc tw_687 (fc tw_686 (fc tw_664 (fc tw_663 fz))))))))))))))))))))))))
set_option maxRecDepth 20000 in
theorem in_wsX6_gallant_r2 : ∀ w ∈ wsX6_gallant_r2, w ∈ lw_tbl := (fc tw_662 (fc tw_661 (fc tw_159 (fc tw_158 (fc tw_157 (fc tw_156 (fc tw_155 (fc tw_154 (fc tw_153 (fc tw_582 (fc tw_581 (fc tw_580 (fc tw_579 (fc tw_578 (fc tw_577 (fc tw_599 (fc tw_598 (fc tw_84 (fc tw_83 (fc tw_491 (fc tw_490 (fc tw_489 (fc tw_488 (fc tw_66 fz))))))))))))))))))))))))
set_option maxRecDepth 20000 in
theorem in_wsX6_gallant_r3 : ∀ w ∈ wsX6_gallant_r3, w ∈ lw_tbl := (fc tw_487 (fc tw_486 (fc tw_485 (fc tw_163 (fc tw_162 (fc tw_161 (fc tw_160 (fc tw_502 (fc tw_501 (fc tw_500 (fc tw_499 (fc tw_76 (fc tw_164 (fc tw_77 (fc tw_128 (fc tw_67 (fc tw_498 (fc tw_497 (fc tw_496 (fc tw_696 (fc tw_695 (fc tw_694 (fc tw_697 fz)))))))))))))))))))))))
set_option maxRecDepth 20000 in
theorem in_wsX6_gallant : ∀ w ∈ wsX6_gallant, w ∈ lw_tbl := (fc tw_752 (fa (fa in_wsX6_gallant_r1 (fa in_wsX6_gallant_r2 in_wsX6_gallant_r3)) inX6))
set_option maxRecDepth 20000 in
theorem in_wsX5_cast_r1 : ∀ w ∈ wsX5_cast_r1, w ∈ lw_tbl := (fc tw_767 (fc tw_766 (fc tw_765 (fc tw_179 (fc tw_178 (fc tw_151 (fc tw_177 (fc tw_764 (fc tw_763 (fc tw_762 (fc tw_761 (fc tw_3 (fc tw_12 (fc tw_681 (fc tw_680 (fc tw_679 (fc tw_6 (fc tw_678 (fc tw_30 (fc tw_677 (fc tw_422 (fc tw_421 (fc tw_420 (fc tw_29 fz))))))))))))))))))))))))
set_option maxRecDepth 20000 in
theorem in_wsX5_cast_r2 : ∀ w ∈ wsX5_cast_r2, w ∈ lw_tbl := (fc tw_28 (fc tw_27 (fc tw_26 (fc tw_25 (fc tw_63 (fc tw_62 (fc tw_61 (fc tw_60 (fc tw_199 (fc tw_478 (fc tw_457 (fc tw_59 (fc tw_651 (fc tw_650 (fc tw_649 (fc tw_648 (fc tw_549 (fc tw_548 (fc tw_547 (fc tw_546 (fc tw_531 (fc tw_455 (fc tw_454 (fc tw_10 fz))))))))))))))))))))))))
set_option maxRecDepth 20000 in
theorem in_wsX5_cast_r3 : ∀ w ∈ wsX5_cast_r3, w ∈ lw_tbl := (fc tw_453 (fc tw_36 (fc tw_35 (fc tw_37 (fc tw_452 (fc tw_451 (fc tw_450 (fc tw_449 (fc tw_477 (fc tw_476 (fc tw_475 (fc tw_474 (fc tw_473 (fc tw_472 (fc tw_471 (fc tw_470 (fc tw_146 (fc tw_145 (fc tw_144 (fc tw_469 (fc tw_468 (fc tw_467 (fc tw_466 (fc tw_465 fz))))))))))))))))))))))))
set_option maxRecDepth 20000 in
theorem in_wsX5_cast_r4 : ∀ w ∈ wsX5_cast_r4, w ∈ lw_tbl := (fc tw_464 (fc tw_463 (fc tw_462 (fc tw_480 (fc tw_339 (fc tw_342 (fc tw_338 (fc tw_479 (fc tw_343 (fc tw_341 (fc tw_545 (fc tw_544 (fc tw_540 (fc tw_543 (fc tw_568 (fc tw_567 (fc tw_566 (fc tw_655 (fc tw_654 (fc tw_653 (fc tw_652 (fc tw_656 (fc tw_203 (fc tw_202 fz))))))))))))))))))))))))
set_option maxRecDepth 20000 in
theorem in_wsX5_cast_r5 : ∀ w ∈ wsX5_cast_r5, w ∈ lw_tbl := (fc tw_201 (fc tw_200 (fc tw_198 (fc tw_197 (fc tw_196 (fc tw_195 (fc tw_771 (fc tw_770 (fc tw_769 (fc tw_768 (fc tw_633 (fc tw_632 (fc tw_631 (fc tw_630 (fc tw_629 (fc tw_628 (fc tw_627 (fc tw_626 (fc tw_634 (fc tw_529 (fc tw_528 (fc tw_527 (fc tw_542 (fc tw_541 fz))))))))))))))))))))))))
set_option maxRecDepth 20000 in
theorem in_wsX5_cast_r6 : ∀ w ∈ wsX5_cast_r6, w ∈ lw_tbl := (fc tw_539 (fc tw_538 (fc tw_537 (fc tw_536 (fc tw_342 (fc tw_535 (fc tw_635 (fc tw_533 (fc tw_532 (fc tw_565 (fc tw_564 (fc tw_563 (fc tw_562 fz)))))))))))))
set_option maxRecDepth 20000 in
theorem in_wsX5_cast : ∀ w ∈ wsX5_cast, w ∈ lw_tbl := (fc tw_760 (fa (fa (fa (fa in_wsX5_cast_r1 (fa in_wsX5_cast_r2 (fa in_wsX5_cast_r3 (fa in_wsX5_cast_r4 (fa in_wsX5_cast_r5 in_wsX5_cast_r6))))) inX5) inX0) inX2))
set_option maxRecDepth 20000 in
theorem in_wsX6_cast_r1 : ∀ w ∈ wsX6_cast_r1, w ∈ lw_tbl := (fc tw_190 (fc tw_781 (fc tw_780 (fc tw_93 (fc tw_92 (fc tw_105 (fc tw_91 (fc tw_693 (fc tw_692 (fc tw_691 (fc tw_690 (fc tw_65 (fc tw_82 (fc tw_81 (fc tw_165 (fc tw_779 (fc tw_778 (fc tw_777 (fc tw_776 (fc tw_166 (fc tw_155 (fc tw_154 (fc tw_153 (fc tw_734 fz))))))))))))))))))))))))
set_option maxRecDepth 20000 in
theorem in_wsX6_cast_r2 : ∀ w ∈ wsX6_cast_r2, w ∈ lw_tbl := (fc tw_733 (fc tw_732 (fc tw_731 (fc tw_163 (fc tw_162 (fc tw_161 (fc tw_160 (fc tw_159 (fc tw_158 (fc tw_157 (fc tw_156 (fc tw_641 (fc tw_640 (fc tw_643 (fc tw_642 (fc tw_576 (fc tw_575 (fc tw_574 (fc tw_573 (fc tw_84 (fc tw_83 (fc tw_487 (fc tw_486 (fc tw_485 fz))))))))))))))))))))))))
set_option maxRecDepth 20000 in
theorem in_wsX6_cast_r3 : ∀ w ∈ wsX6_cast_r3, w ∈ lw_tbl := (fc tw_491 (fc tw_490 (fc tw_489 (fc tw_488 (fc tw_66 (fc tw_502 (fc tw_501 (fc tw_500 (fc tw_499 (fc tw_76 (fc tw_164 (fc tw_77 (fc tw_128 (fc tw_67 (fc tw_498 (fc tw_497 (fc tw_496 (fc tw_597 (fc tw_596 (fc tw_595 (fc tw_594 (fc tw_593 (fc tw_592 (fc tw_591 fz))))))))))))))))))))))))
set_option maxRecDepth 20000 in
theorem in_wsX6_cast_r4 : ∀ w ∈ wsX6_cast_r4, w ∈ lw_tbl := (fc tw_664 (fc tw_663 (fc tw_662 (fc tw_661 (fc tw_582 (fc tw_581 (fc tw_580 (fc tw_579 (fc tw_79 (fc tw_578 (fc tw_577 (fc tw_599 (fc tw_598 (fc tw_689 (fc tw_688 (fc tw_687 (fc tw_686 (fc tw_211 (fc tw_210 (fc tw_209 (fc tw_208 (fc tw_80 (fc tw_696 (fc tw_695 fz))))))))))))))))))))))))
set_option maxRecDepth 20000 in
theorem in_wsX6_cast_r5 : ∀ w ∈ wsX6_cast_r5, w ∈ lw_tbl := (fc tw_694 (fc tw_697 fz))
set_option maxRecDepth 20000 in
theorem in_wsX6_cast : ∀ w ∈ wsX6_cast, w ∈ lw_tbl := (fc tw_775 (fa (fa in_wsX6_cast_r1 (fa in_wsX6_cast_r2 (fa in_wsX6_cast_r3 (fa in_wsX6_cast_r4 in_wsX6_cast_r5)))) inX6))
set_option maxRecDepth 20000 in
theorem in_wsX5_mean_r1 : ∀ w ∈ wsX5_mean_r1, w ∈ lw_tbl := (fc tw_5 (fc tw_789 (fc tw_740 (fc tw_476 (fc tw_475 (fc tw_474 (fc tw_473 (fc tw_472 (fc tw_471 (fc tw_203 (fc tw_202 (fc tw_201 (fc tw_6 (fc tw_200 (fc tw_199 (fc tw_198 (fc tw_197 (fc tw_196 (fc tw_195 (fc tw_30 (fc tw_788 (fc tw_787 (fc tw_151 (fc tw_786 fz))))))))))))))))))))))))
set_option maxRecDepth 20000 in
theorem in_wsX5_mean_r2 : ∀ w ∈ wsX5_mean_r2, w ∈ lw_tbl := (fc tw_795 (fc tw_794 (fc tw_342 (fc tw_793 (fc tw_792 (fc tw_791 (fc tw_790 (fc tw_179 (fc tw_178 (fc tw_177 fz))))))))))
set_option maxRecDepth 20000 in
theorem in_wsX5_mean : ∀ w ∈ wsX5_mean, w ∈ lw_tbl := (fc tw_785 (fa (fa (fa in_wsX5_mean_r1 in_wsX5_mean_r2) inX5) inX0))
set_option maxRecDepth 20000 in
theorem in_wsX6_mean : ∀ w ∈ wsX6_mean, w ∈ lw_tbl := (fc tw_799 (fa (fc tw_190 (fc tw_803 (fc tw_93 (fc tw_92 (fc tw_105 (fc tw_91 (fc tw_211 (fc tw_210 (fc tw_209 (fc tw_208 (fc tw_80 (fc tw_487 (fc tw_486 (fc tw_485 (fc tw_802 (fc tw_801 (fc tw_800 fz))))))))))))))))) inX6))
set_option maxRecDepth 20000 in
theorem in_wsX5_judge_r1 : ∀ w ∈ wsX5_judge_r1, w ∈ lw_tbl := (fc tw_3 (fc tw_5 (fc tw_815 (fc tw_814 (fc tw_813 (fc tw_151 (fc tw_812 (fc tw_14 (fc tw_179 (fc tw_178 (fc tw_177 (fc tw_811 (fc tw_810 (fc tw_809 (fc tw_1 (fc tw_808 (fc tw_49 (fc tw_681 (fc tw_680 (fc tw_679 (fc tw_6 (fc tw_678 (fc tw_30 (fc tw_677 fz))))))))))))))))))))))))
set_option maxRecDepth 20000 in
theorem in_wsX5_judge_r2 : ∀ w ∈ wsX5_judge_r2, w ∈ lw_tbl := (fc tw_422 (fc tw_421 (fc tw_420 (fc tw_29 (fc tw_28 (fc tw_27 (fc tw_26 (fc tw_25 (fc tw_63 (fc tw_62 (fc tw_61 (fc tw_60 (fc tw_199 (fc tw_478 (fc tw_457 (fc tw_59 (fc tw_819 (fc tw_818 (fc tw_817 (fc tw_816 (fc tw_651 (fc tw_650 (fc tw_649 (fc tw_648 fz))))))))))))))))))))))))
set_option maxRecDepth 20000 in
theorem in_wsX5_judge_r3 : ∀ w ∈ wsX5_judge_r3, w ∈ lw_tbl := (fc tw_549 (fc tw_548 (fc tw_547 (fc tw_546 (fc tw_531 (fc tw_455 (fc tw_454 (fc tw_10 (fc tw_453 (fc tw_36 (fc tw_35 (fc tw_37 (fc tw_452 (fc tw_451 (fc tw_450 (fc tw_449 (fc tw_477 (fc tw_476 (fc tw_475 (fc tw_474 (fc tw_473 (fc tw_472 (fc tw_471 (fc tw_470 fz))))))))))))))))))))))))
set_option maxRecDepth 20000 in
theorem in_wsX5_judge_r4 : ∀ w ∈ wsX5_judge_r4, w ∈ lw_tbl := (fc tw_146 (fc tw_145 (fc tw_144 (fc tw_469 (fc tw_468 (fc tw_467 (fc tw_466 (fc tw_465 (fc tw_464 (fc tw_463 (fc tw_462 (fc tw_480 (fc tw_339 (fc tw_342 (fc tw_338 (fc tw_479 (fc tw_343 (fc tw_341 (fc tw_545 (fc tw_544 (fc tw_540 (fc tw_543 (fc tw_568 (fc tw_567 fz))))))))))))))))))))))))
set_option maxRecDepth 20000 in
theorem in_wsX5_judge_r5 : ∀ w ∈ wsX5_judge_r5, w ∈ lw_tbl := (fc tw_566 (fc tw_655 (fc tw_654 (fc tw_653 (fc tw_652 (fc tw_656 (fc tw_740 fz)))))))
set_option maxRecDepth 20000 in
theorem in_wsX5_judge : ∀ w ∈ wsX5_judge, w ∈ lw_tbl := (fc tw_807 (fa (fa (fa (fa (fa in_wsX5_judge_r1 (fa in_wsX5_judge_r2 (fa in_wsX5_judge_r3 (fa in_wsX5_judge_r4 in_wsX5_judge_r5)))) inX5) inX3) inX0) inX2))
set_option maxRecDepth 20000 in
theorem in_wsX6_judge_r1 : ∀ w ∈ wsX6_judge_r1, w ∈ lw_tbl := (fc tw_831 (fc tw_830 (fc tw_829 (fc tw_105 (fc tw_828 (fc tw_73 (fc tw_72 (fc tw_93 (fc tw_92 (fc tw_91 (fc tw_827 (fc tw_826 (fc tw_825 (fc tw_824 (fc tw_71 (fc tw_190 (fc tw_693 (fc tw_692 (fc tw_691 (fc tw_690 (fc tw_65 (fc tw_82 (fc tw_81 (fc tw_165 fz))))))))))))))))))))))))
set_option maxRecDepth 20000 in
theorem in_wsX6_judge_r2 : ∀ w ∈ wsX6_judge_r2, w ∈ lw_tbl := (fc tw_664 (fc tw_663 (fc tw_662 (fc tw_661 (fc tw_159 (fc tw_158 (fc tw_157 (fc tw_156 (fc tw_155 (fc tw_154 (fc tw_153 (fc tw_582 (fc tw_581 (fc tw_580 (fc tw_579 (fc tw_79 (fc tw_578 (fc tw_577 (fc tw_599 (fc tw_598 (fc tw_84 (fc tw_83 (fc tw_491 (fc tw_490 fz))))))))))))))))))))))))
set_option maxRecDepth 20000 in
theorem in_wsX6_judge_r3 : ∀ w ∈ wsX6_judge_r3, w ∈ lw_tbl := (fc tw_489 (fc tw_488 (fc tw_66 (fc tw_487 (fc tw_486 (fc tw_485 (fc tw_163 (fc tw_162 (fc tw_161 (fc tw_160 (fc tw_502 (fc tw_501 (fc tw_500 (fc tw_499 (fc tw_76 (fc tw_164 (fc tw_77 (fc tw_128 (fc tw_67 (fc tw_498 (fc tw_497 (fc tw_496 (fc tw_696 (fc tw_695 fz))))))))))))))))))))))))
set_option maxRecDepth 20000 in
theorem in_wsX6_judge_r4 : ∀ w ∈ wsX6_judge_r4, w ∈ lw_tbl := (fc tw_694 (fc tw_697 fz))
set_option maxRecDepth 20000 in
theorem in_wsX6_judge : ∀ w ∈ wsX6_judge, w ∈ lw_tbl := (fc tw_823 (fa (fa in_wsX6_judge_r1 (fa in_wsX6_judge_r2 (fa in_wsX6_judge_r3 in_wsX6_judge_r4))) inX6))
set_option maxRecDepth 20000 in
theorem in_wsX5_kinds_r1 : ∀ w ∈ wsX5_kinds_r1, w ∈ lw_tbl := (fc tw_5 (fc tw_3 (fc tw_461 (fc tw_460 (fc tw_459 (fc tw_6 (fc tw_458 (fc tw_457 (fc tw_178 (fc tw_151 (fc tw_177 (fc tw_839 (fc tw_838 (fc tw_837 (fc tw_836 (fc tw_815 (fc tw_814 (fc tw_813 (fc tw_812 (fc tw_14 (fc tw_179 (fc tw_811 (fc tw_810 (fc tw_809 fz))))))))))))))))))))))))
set_option maxRecDepth 20000 in
theorem in_wsX5_kinds_r2 : ∀ w ∈ wsX5_kinds_r2, w ∈ lw_tbl := (fc tw_1 (fc tw_808 (fc tw_49 (fc tw_681 (fc tw_680 (fc tw_679 (fc tw_678 (fc tw_30 (fc tw_677 (fc tw_422 (fc tw_421 (fc tw_420 (fc tw_29 (fc tw_28 (fc tw_27 (fc tw_26 (fc tw_25 (fc tw_63 (fc tw_62 (fc tw_61 (fc tw_60 (fc tw_199 (fc tw_478 (fc tw_59 fz))))))))))))))))))))))))
set_option maxRecDepth 20000 in
theorem in_wsX5_kinds_r3 : ∀ w ∈ wsX5_kinds_r3, w ∈ lw_tbl := (fc tw_819 (fc tw_818 (fc tw_817 (fc tw_816 (fc tw_651 (fc tw_650 (fc tw_649 (fc tw_648 (fc tw_549 (fc tw_548 (fc tw_547 (fc tw_546 (fc tw_531 (fc tw_455 (fc tw_454 (fc tw_10 (fc tw_453 (fc tw_36 (fc tw_35 (fc tw_37 (fc tw_452 (fc tw_451 (fc tw_450 (fc tw_449 fz))))))))))))))))))))))))
set_option maxRecDepth 20000 in
theorem in_wsX5_kinds_r4 : ∀ w ∈ wsX5_kinds_r4, w ∈ lw_tbl := (fc tw_477 (fc tw_476 (fc tw_475 (fc tw_474 (fc tw_473 (fc tw_472 (fc tw_471 (fc tw_470 (fc tw_146 (fc tw_145 (fc tw_144 (fc tw_469 (fc tw_468 (fc tw_467 (fc tw_466 (fc tw_465 (fc tw_464 (fc tw_463 (fc tw_462 (fc tw_480 (fc tw_339 (fc tw_342 (fc tw_338 (fc tw_479 fz))))))))))))))))))))))))
set_option maxRecDepth 20000 in
theorem in_wsX5_kinds_r5 : ∀ w ∈ wsX5_kinds_r5, w ∈ lw_tbl := (fc tw_343 (fc tw_341 (fc tw_545 (fc tw_544 (fc tw_540 (fc tw_543 (fc tw_568 (fc tw_567 (fc tw_566 (fc tw_655 (fc tw_654 (fc tw_653 (fc tw_652 (fc tw_656 (fc tw_740 fz)))))))))))))))
set_option maxRecDepth 20000 in
theorem in_wsX5_kinds : ∀ w ∈ wsX5_kinds, w ∈ lw_tbl := (fc tw_835 (fa (fa (fa (fa (fa in_wsX5_kinds_r1 (fa in_wsX5_kinds_r2 (fa in_wsX5_kinds_r3 (fa in_wsX5_kinds_r4 in_wsX5_kinds_r5)))) inX5) inX0) inX3) inX2))
set_option maxRecDepth 20000 in
theorem in_wsX6_kinds_r1 : ∀ w ∈ wsX6_kinds_r1, w ∈ lw_tbl := (fc tw_84 (fc tw_83 (fc tw_831 (fc tw_830 (fc tw_829 (fc tw_105 (fc tw_828 (fc tw_73 (fc tw_72 (fc tw_93 (fc tw_92 (fc tw_91 (fc tw_495 (fc tw_494 (fc tw_493 (fc tw_492 (fc tw_166 (fc tw_827 (fc tw_826 (fc tw_825 (fc tw_824 (fc tw_71 (fc tw_190 (fc tw_693 fz))))))))))))))))))))))))
set_option maxRecDepth 20000 in
theorem in_wsX6_kinds_r2 : ∀ w ∈ wsX6_kinds_r2, w ∈ lw_tbl := (fc tw_692 (fc tw_691 (fc tw_690 (fc tw_65 (fc tw_82 (fc tw_81 (fc tw_165 (fc tw_664 (fc tw_663 (fc tw_662 (fc tw_661 (fc tw_159 (fc tw_158 (fc tw_157 (fc tw_156 (fc tw_155 (fc tw_154 (fc tw_153 (fc tw_582 (fc tw_581 (fc tw_580 (fc tw_579 (fc tw_79 (fc tw_578 fz))))))))))))))))))))))))
set_option maxRecDepth 20000 in
theorem in_wsX6_kinds_r3 : ∀ w ∈ wsX6_kinds_r3, w ∈ lw_tbl := (fc tw_577 (fc tw_599 (fc tw_598 (fc tw_491 (fc tw_490 (fc tw_489 (fc tw_488 (fc tw_66 (fc tw_487 (fc tw_486 (fc tw_485 (fc tw_163 (fc tw_162 (fc tw_161 (fc tw_160 (fc tw_502 (fc tw_501 (fc tw_500 (fc tw_499 (fc tw_76 (fc tw_164 (fc tw_77 (fc tw_128 (fc tw_67 fz))))))))))))))))))))))))
set_option maxRecDepth 20000 in
theorem in_wsX6_kinds_r4 : ∀ w ∈ wsX6_kinds_r4, w ∈ lw_tbl := (fc tw_498 (fc tw_497 (fc tw_496 (fc tw_696 (fc tw_695 (fc tw_694 (fc tw_697 fz)))))))
set_option maxRecDepth 20000 in
theorem in_wsX6_kinds : ∀ w ∈ wsX6_kinds, w ∈ lw_tbl := (fc tw_843 (fa (fa in_wsX6_kinds_r1 (fa in_wsX6_kinds_r2 (fa in_wsX6_kinds_r3 in_wsX6_kinds_r4))) inX6))
set_option maxRecDepth 20000 in
theorem in_wsX5_faces_r1 : ∀ w ∈ wsX5_faces_r1, w ∈ lw_tbl := (fc tw_5 (fc tw_3 (fc tw_461 (fc tw_460 (fc tw_459 (fc tw_6 (fc tw_458 (fc tw_457 (fc tw_178 (fc tw_151 (fc tw_177 (fc tw_839 (fc tw_838 (fc tw_837 (fc tw_836 (fc tw_815 (fc tw_814 (fc tw_813 (fc tw_812 (fc tw_14 (fc tw_179 (fc tw_811 (fc tw_810 (fc tw_809 fz))))))))))))))))))))))))
set_option maxRecDepth 20000 in
theorem in_wsX5_faces_r2 : ∀ w ∈ wsX5_faces_r2, w ∈ lw_tbl := (fc tw_1 (fc tw_808 (fc tw_49 (fc tw_851 (fc tw_850 (fc tw_849 (fc tw_848 (fc tw_681 (fc tw_680 (fc tw_679 (fc tw_678 (fc tw_30 (fc tw_677 (fc tw_422 (fc tw_421 (fc tw_420 (fc tw_29 (fc tw_28 (fc tw_27 (fc tw_26 (fc tw_25 (fc tw_63 (fc tw_62 (fc tw_61 fz))))))))))))))))))))))))
set_option maxRecDepth 20000 in
theorem in_wsX5_faces_r3 : ∀ w ∈ wsX5_faces_r3, w ∈ lw_tbl := (fc tw_60 (fc tw_199 (fc tw_478 (fc tw_59 (fc tw_819 (fc tw_818 (fc tw_817 (fc tw_816 (fc tw_651 (fc tw_650 (fc tw_649 (fc tw_648 (fc tw_549 (fc tw_548 (fc tw_547 (fc tw_546 (fc tw_531 (fc tw_455 (fc tw_454 (fc tw_10 (fc tw_453 (fc tw_36 (fc tw_35 (fc tw_37 fz))))))))))))))))))))))))
set_option maxRecDepth 20000 in
theorem in_wsX5_faces_r4 : ∀ w ∈ wsX5_faces_r4, w ∈ lw_tbl := (fc tw_452 (fc tw_451 (fc tw_450 (fc tw_449 (fc tw_477 (fc tw_476 (fc tw_475 (fc tw_474 (fc tw_473 (fc tw_472 (fc tw_471 (fc tw_470 (fc tw_146 (fc tw_145 (fc tw_144 (fc tw_469 (fc tw_468 (fc tw_467 (fc tw_466 (fc tw_465 (fc tw_464 (fc tw_463 (fc tw_462 (fc tw_480 fz))))))))))))))))))))))))
set_option maxRecDepth 20000 in
theorem in_wsX5_faces_r5 : ∀ w ∈ wsX5_faces_r5, w ∈ lw_tbl := (fc tw_339 (fc tw_342 (fc tw_338 (fc tw_479 (fc tw_343 (fc tw_341 (fc tw_545 (fc tw_544 (fc tw_540 (fc tw_543 (fc tw_568 (fc tw_567 (fc tw_566 (fc tw_655 (fc tw_654 (fc tw_653 (fc tw_652 (fc tw_656 (fc tw_740 fz)))))))))))))))))))
set_option maxRecDepth 20000 in
theorem in_wsX5_faces : ∀ w ∈ wsX5_faces, w ∈ lw_tbl := (fc tw_847 (fa (fa (fa (fa (fa in_wsX5_faces_r1 (fa in_wsX5_faces_r2 (fa in_wsX5_faces_r3 (fa in_wsX5_faces_r4 in_wsX5_faces_r5)))) inX5) inX0) inX3) inX2))
set_option maxRecDepth 20000 in
theorem in_wsX6_faces_r1 : ∀ w ∈ wsX6_faces_r1, w ∈ lw_tbl := (fc tw_82 (fc tw_831 (fc tw_830 (fc tw_829 (fc tw_105 (fc tw_828 (fc tw_73 (fc tw_72 (fc tw_93 (fc tw_92 (fc tw_91 (fc tw_495 (fc tw_494 (fc tw_493 (fc tw_492 (fc tw_166 (fc tw_827 (fc tw_826 (fc tw_825 (fc tw_824 (fc tw_71 (fc tw_190 (fc tw_693 (fc tw_692 fz))))))))))))))))))))))))
set_option maxRecDepth 20000 in
theorem in_wsX6_faces_r2 : ∀ w ∈ wsX6_faces_r2, w ∈ lw_tbl := (fc tw_691 (fc tw_690 (fc tw_65 (fc tw_81 (fc tw_165 (fc tw_664 (fc tw_663 (fc tw_662 (fc tw_661 (fc tw_159 (fc tw_158 (fc tw_157 (fc tw_156 (fc tw_155 (fc tw_154 (fc tw_153 (fc tw_582 (fc tw_581 (fc tw_580 (fc tw_579 (fc tw_79 (fc tw_578 (fc tw_577 (fc tw_599 fz))))))))))))))))))))))))
set_option maxRecDepth 20000 in
theorem in_wsX6_faces_r3 : ∀ w ∈ wsX6_faces_r3, w ∈ lw_tbl := (fc tw_598 (fc tw_84 (fc tw_83 (fc tw_491 (fc tw_490 (fc tw_489 (fc tw_488 (fc tw_66 (fc tw_487 (fc tw_486 (fc tw_485 (fc tw_163 (fc tw_162 (fc tw_161 (fc tw_160 (fc tw_502 (fc tw_501 (fc tw_500 (fc tw_499 (fc tw_76 (fc tw_164 (fc tw_77 (fc tw_128 (fc tw_67 fz))))))))))))))))))))))))
set_option maxRecDepth 20000 in
theorem in_wsX6_faces_r4 : ∀ w ∈ wsX6_faces_r4, w ∈ lw_tbl := (fc tw_498 (fc tw_497 (fc tw_496 (fc tw_696 (fc tw_695 (fc tw_694 (fc tw_697 fz)))))))
set_option maxRecDepth 20000 in
theorem in_wsX6_faces : ∀ w ∈ wsX6_faces, w ∈ lw_tbl := (fc tw_855 (fa (fa in_wsX6_faces_r1 (fa in_wsX6_faces_r2 (fa in_wsX6_faces_r3 in_wsX6_faces_r4))) inX6))
set_option maxRecDepth 20000 in
theorem in_wsX5_keens_r1 : ∀ w ∈ wsX5_keens_r1, w ∈ lw_tbl := (fc tw_3 (fc tw_179 (fc tw_178 (fc tw_151 (fc tw_177 (fc tw_839 (fc tw_838 (fc tw_837 (fc tw_836 (fc tw_815 (fc tw_814 (fc tw_813 (fc tw_812 (fc tw_14 (fc tw_811 (fc tw_810 (fc tw_809 (fc tw_1 (fc tw_808 (fc tw_49 (fc tw_851 (fc tw_850 (fc tw_849 (fc tw_848 fz))))))))))))))))))))))))
set_option maxRecDepth 20000 in
theorem in_wsX5_keens_r2 : ∀ w ∈ wsX5_keens_r2, w ∈ lw_tbl := (fc tw_5 (fc tw_681 (fc tw_680 (fc tw_679 (fc tw_6 (fc tw_678 (fc tw_30 (fc tw_677 (fc tw_422 (fc tw_421 (fc tw_420 (fc tw_29 (fc tw_28 (fc tw_27 (fc tw_26 (fc tw_25 (fc tw_63 (fc tw_62 (fc tw_61 (fc tw_60 (fc tw_199 (fc tw_478 (fc tw_457 (fc tw_59 fz))))))))))))))))))))))))
set_option maxRecDepth 20000 in
theorem in_wsX5_keens_r3 : ∀ w ∈ wsX5_keens_r3, w ∈ lw_tbl := (fc tw_819 (fc tw_818 (fc tw_817 (fc tw_816 (fc tw_651 (fc tw_650 (fc tw_649 (fc tw_648 (fc tw_549 (fc tw_548 (fc tw_547 (fc tw_546 (fc tw_531 (fc tw_455 (fc tw_454 (fc tw_10 (fc tw_453 (fc tw_36 (fc tw_35 (fc tw_37 (fc tw_452 (fc tw_451 (fc tw_450 (fc tw_449 fz))))))))))))))))))))))))
set_option maxRecDepth 20000 in
theorem in_wsX5_keens_r4 : ∀ w ∈ wsX5_keens_r4, w ∈ lw_tbl := (fc tw_477 (fc tw_476 (fc tw_475 (fc tw_474 (fc tw_473 (fc tw_472 (fc tw_471 (fc tw_470 (fc tw_146 (fc tw_145 (fc tw_144 (fc tw_469 (fc tw_468 (fc tw_467 (fc tw_466 (fc tw_465 (fc tw_464 (fc tw_463 (fc tw_462 (fc tw_480 (fc tw_339 (fc tw_342 (fc tw_338 (fc tw_479 fz))))))))))))))))))))))))
set_option maxRecDepth 20000 in
theorem in_wsX5_keens_r5 : ∀ w ∈ wsX5_keens_r5, w ∈ lw_tbl := (fc tw_343 (fc tw_341 (fc tw_545 (fc tw_544 (fc tw_540 (fc tw_543 (fc tw_568 (fc tw_567 (fc tw_566 (fc tw_655 (fc tw_654 (fc tw_653 (fc tw_652 (fc tw_656 (fc tw_740 fz)))))))))))))))
set_option maxRecDepth 20000 in
theorem in_wsX5_keens : ∀ w ∈ wsX5_keens, w ∈ lw_tbl := (fc tw_859 (fa (fa (fa (fa (fa in_wsX5_keens_r1 (fa in_wsX5_keens_r2 (fa in_wsX5_keens_r3 (fa in_wsX5_keens_r4 in_wsX5_keens_r5)))) inX5) inX0) inX3) inX2))
set_option maxRecDepth 20000 in
theorem in_wsX6_keens_r1 : ∀ w ∈ wsX6_keens_r1, w ∈ lw_tbl := (fc tw_79 (fc tw_831 (fc tw_830 (fc tw_829 (fc tw_105 (fc tw_828 (fc tw_73 (fc tw_72 (fc tw_93 (fc tw_92 (fc tw_91 (fc tw_827 (fc tw_826 (fc tw_825 (fc tw_824 (fc tw_71 (fc tw_190 (fc tw_693 (fc tw_692 (fc tw_691 (fc tw_690 (fc tw_65 (fc tw_82 (fc tw_81 fz))))))))))))))))))))))))
set_option maxRecDepth 20000 in
theorem in_wsX6_keens_r2 : ∀ w ∈ wsX6_keens_r2, w ∈ lw_tbl := (fc tw_165 (fc tw_664 (fc tw_663 (fc tw_662 (fc tw_661 (fc tw_159 (fc tw_158 (fc tw_157 (fc tw_156 (fc tw_155 (fc tw_154 (fc tw_153 (fc tw_582 (fc tw_581 (fc tw_580 (fc tw_579 (fc tw_578 (fc tw_577 (fc tw_599 (fc tw_598 (fc tw_84 (fc tw_83 (fc tw_491 (fc tw_490 fz))))))))))))))))))))))))
set_option maxRecDepth 20000 in
theorem in_wsX6_keens_r3 : ∀ w ∈ wsX6_keens_r3, w ∈ lw_tbl := (fc tw_489 (fc tw_488 (fc tw_66 (fc tw_487 (fc tw_486 (fc tw_485 (fc tw_163 (fc tw_162 (fc tw_161 (fc tw_160 (fc tw_502 (fc tw_501 (fc tw_500 (fc tw_499 (fc tw_76 (fc tw_164 (fc tw_77 (fc tw_128 (fc tw_67 (fc tw_498 (fc tw_497 (fc tw_496 (fc tw_696 (fc tw_695 fz))))))))))))))))))))))))
set_option maxRecDepth 20000 in
theorem in_wsX6_keens_r4 : ∀ w ∈ wsX6_keens_r4, w ∈ lw_tbl := (fc tw_694 (fc tw_697 fz))
set_option maxRecDepth 20000 in
theorem in_wsX6_keens : ∀ w ∈ wsX6_keens, w ∈ lw_tbl := (fc tw_863 (fa (fa in_wsX6_keens_r1 (fa in_wsX6_keens_r2 (fa in_wsX6_keens_r3 in_wsX6_keens_r4))) inX6))
set_option maxRecDepth 20000 in
theorem in_wsX5_burnt_r1 : ∀ w ∈ wsX5_burnt_r1, w ∈ lw_tbl := (fc tw_5 (fc tw_3 (fc tw_815 (fc tw_814 (fc tw_813 (fc tw_151 (fc tw_812 (fc tw_14 (fc tw_179 (fc tw_178 (fc tw_177 (fc tw_811 (fc tw_810 (fc tw_809 (fc tw_1 (fc tw_808 (fc tw_49 (fc tw_617 (fc tw_616 (fc tw_615 (fc tw_6 (fc tw_614 (fc tw_62 (fc tw_681 fz))))))))))))))))))))))))
set_option maxRecDepth 20000 in
theorem in_wsX5_burnt_r2 : ∀ w ∈ wsX5_burnt_r2, w ∈ lw_tbl := (fc tw_680 (fc tw_679 (fc tw_678 (fc tw_30 (fc tw_677 (fc tw_422 (fc tw_421 (fc tw_420 (fc tw_29 (fc tw_28 (fc tw_27 (fc tw_26 (fc tw_25 (fc tw_63 (fc tw_61 (fc tw_60 (fc tw_199 (fc tw_478 (fc tw_457 (fc tw_59 (fc tw_819 (fc tw_818 (fc tw_817 (fc tw_816 fz))))))))))))))))))))))))
set_option maxRecDepth 20000 in
theorem in_wsX5_burnt_r3 : ∀ w ∈ wsX5_burnt_r3, w ∈ lw_tbl := (fc tw_651 (fc tw_650 (fc tw_649 (fc tw_648 (fc tw_549 (fc tw_548 (fc tw_547 (fc tw_546 (fc tw_531 (fc tw_455 (fc tw_454 (fc tw_10 (fc tw_453 (fc tw_36 (fc tw_35 (fc tw_37 (fc tw_452 (fc tw_451 (fc tw_450 (fc tw_449 (fc tw_477 (fc tw_476 (fc tw_475 (fc tw_474 fz))))))))))))))))))))))))
set_option maxRecDepth 20000 in
theorem in_wsX5_burnt_r4 : ∀ w ∈ wsX5_burnt_r4, w ∈ lw_tbl := (fc tw_473 (fc tw_472 (fc tw_471 (fc tw_470 (fc tw_146 (fc tw_145 (fc tw_144 (fc tw_469 (fc tw_468 (fc tw_467 (fc tw_466 (fc tw_465 (fc tw_464 (fc tw_463 (fc tw_462 (fc tw_480 (fc tw_339 (fc tw_342 (fc tw_338 (fc tw_479 (fc tw_343 (fc tw_341 (fc tw_545 (fc tw_544 fz))))))))))))))))))))))))
set_option maxRecDepth 20000 in
theorem in_wsX5_burnt_r5 : ∀ w ∈ wsX5_burnt_r5, w ∈ lw_tbl := (fc tw_540 (fc tw_543 (fc tw_568 (fc tw_567 (fc tw_566 (fc tw_655 (fc tw_654 (fc tw_653 (fc tw_652 (fc tw_656 (fc tw_740 fz)))))))))))
set_option maxRecDepth 20000 in
theorem in_wsX5_burnt : ∀ w ∈ wsX5_burnt, w ∈ lw_tbl := (fc tw_867 (fa (fa (fa (fa (fa in_wsX5_burnt_r1 (fa in_wsX5_burnt_r2 (fa in_wsX5_burnt_r3 (fa in_wsX5_burnt_r4 in_wsX5_burnt_r5)))) inX5) inX0) inX3) inX2))
set_option maxRecDepth 20000 in
theorem in_wsX6_burnt_r1 : ∀ w ∈ wsX6_burnt_r1, w ∈ lw_tbl := (fc tw_81 (fc tw_831 (fc tw_830 (fc tw_829 (fc tw_105 (fc tw_828 (fc tw_73 (fc tw_72 (fc tw_93 (fc tw_92 (fc tw_91 (fc tw_827 (fc tw_826 (fc tw_825 (fc tw_824 (fc tw_71 (fc tw_190 (fc tw_693 (fc tw_692 (fc tw_691 (fc tw_690 (fc tw_65 (fc tw_82 (fc tw_165 fz))))))))))))))))))))))))
set_option maxRecDepth 20000 in
theorem in_wsX6_burnt_r2 : ∀ w ∈ wsX6_burnt_r2, w ∈ lw_tbl := (fc tw_664 (fc tw_663 (fc tw_662 (fc tw_661 (fc tw_159 (fc tw_158 (fc tw_157 (fc tw_156 (fc tw_155 (fc tw_154 (fc tw_153 (fc tw_582 (fc tw_581 (fc tw_580 (fc tw_579 (fc tw_79 (fc tw_578 (fc tw_577 (fc tw_599 (fc tw_598 (fc tw_84 (fc tw_83 (fc tw_491 (fc tw_490 fz))))))))))))))))))))))))
set_option maxRecDepth 20000 in
theorem in_wsX6_burnt_r3 : ∀ w ∈ wsX6_burnt_r3, w ∈ lw_tbl := (fc tw_489 (fc tw_488 (fc tw_66 (fc tw_487 (fc tw_486 (fc tw_485 (fc tw_163 (fc tw_162 (fc tw_161 (fc tw_160 (fc tw_502 (fc tw_501 (fc tw_500 (fc tw_499 (fc tw_76 (fc tw_164 (fc tw_77 (fc tw_128 (fc tw_67 (fc tw_498 (fc tw_497 (fc tw_496 (fc tw_696 (fc tw_695 fz))))))))))))))))))))))))
set_option maxRecDepth 20000 in
theorem in_wsX6_burnt_r4 : ∀ w ∈ wsX6_burnt_r4, w ∈ lw_tbl := (fc tw_694 (fc tw_697 fz))
set_option maxRecDepth 20000 in
theorem in_wsX6_burnt : ∀ w ∈ wsX6_burnt, w ∈ lw_tbl := (fc tw_871 (fa (fa in_wsX6_burnt_r1 (fa in_wsX6_burnt_r2 (fa in_wsX6_burnt_r3 in_wsX6_burnt_r4))) inX6))
set_option maxRecDepth 20000 in
theorem in_wsX5_laws_r1 : ∀ w ∈ wsX5_laws_r1, w ∈ lw_tbl := (fc tw_8 (fc tw_3 (fc tw_5 (fc tw_20 (fc tw_815 (fc tw_814 (fc tw_813 (fc tw_151 (fc tw_812 (fc tw_14 (fc tw_179 (fc tw_178 (fc tw_177 (fc tw_811 (fc tw_810 (fc tw_809 (fc tw_1 (fc tw_808 (fc tw_49 (fc tw_681 (fc tw_680 (fc tw_679 (fc tw_6 (fc tw_678 fz))))))))))))))))))))))))
set_option maxRecDepth 20000 in
theorem in_wsX5_laws_r2 : ∀ w ∈ wsX5_laws_r2, w ∈ lw_tbl := (fc tw_30 (fc tw_677 (fc tw_422 (fc tw_421 (fc tw_420 (fc tw_29 (fc tw_28 (fc tw_27 (fc tw_26 (fc tw_25 (fc tw_63 (fc tw_62 (fc tw_61 (fc tw_60 (fc tw_199 (fc tw_478 (fc tw_457 (fc tw_59 (fc tw_819 (fc tw_818 (fc tw_817 (fc tw_816 (fc tw_651 (fc tw_650 fz))))))))))))))))))))))))
set_option maxRecDepth 20000 in
theorem in_wsX5_laws_r3 : ∀ w ∈ wsX5_laws_r3, w ∈ lw_tbl := (fc tw_649 (fc tw_648 (fc tw_549 (fc tw_548 (fc tw_547 (fc tw_546 (fc tw_531 (fc tw_455 (fc tw_454 (fc tw_10 (fc tw_453 (fc tw_36 (fc tw_35 (fc tw_37 (fc tw_452 (fc tw_451 (fc tw_450 (fc tw_449 (fc tw_477 (fc tw_476 (fc tw_475 (fc tw_474 (fc tw_473 (fc tw_472 fz))))))))))))))))))))))))
set_option maxRecDepth 20000 in
theorem in_wsX5_laws_r4 : ∀ w ∈ wsX5_laws_r4, w ∈ lw_tbl := (fc tw_471 (fc tw_470 (fc tw_146 (fc tw_145 (fc tw_144 (fc tw_469 (fc tw_468 (fc tw_467 (fc tw_466 (fc tw_465 (fc tw_464 (fc tw_463 (fc tw_462 (fc tw_480 (fc tw_339 (fc tw_342 (fc tw_338 (fc tw_479 (fc tw_343 (fc tw_341 (fc tw_545 (fc tw_544 (fc tw_540 (fc tw_543 fz))))))))))))))))))))))))
set_option maxRecDepth 20000 in
theorem in_wsX5_laws_r5 : ∀ w ∈ wsX5_laws_r5, w ∈ lw_tbl := (fc tw_568 (fc tw_567 (fc tw_566 (fc tw_655 (fc tw_654 (fc tw_653 (fc tw_652 (fc tw_656 (fc tw_740 fz)))))))))
set_option maxRecDepth 20000 in
theorem in_wsX5_laws : ∀ w ∈ wsX5_laws, w ∈ lw_tbl := (fc tw_875 (fa (fa (fa (fa (fa in_wsX5_laws_r1 (fa in_wsX5_laws_r2 (fa in_wsX5_laws_r3 (fa in_wsX5_laws_r4 in_wsX5_laws_r5)))) inX5) inX0) inX3) inX2))
set_option maxRecDepth 20000 in
theorem in_wsX6_laws_r1 : ∀ w ∈ wsX6_laws_r1, w ∈ lw_tbl := (fc tw_164 (fc tw_103 (fc tw_831 (fc tw_830 (fc tw_829 (fc tw_105 (fc tw_828 (fc tw_73 (fc tw_72 (fc tw_93 (fc tw_92 (fc tw_91 (fc tw_827 (fc tw_826 (fc tw_825 (fc tw_824 (fc tw_71 (fc tw_190 (fc tw_693 (fc tw_692 (fc tw_691 (fc tw_690 (fc tw_65 (fc tw_82 fz))))))))))))))))))))))))
set_option maxRecDepth 20000 in
theorem in_wsX6_laws_r2 : ∀ w ∈ wsX6_laws_r2, w ∈ lw_tbl := (fc tw_81 (fc tw_165 (fc tw_664 (fc tw_663 (fc tw_662 (fc tw_661 (fc tw_159 (fc tw_158 (fc tw_157 (fc tw_156 (fc tw_155 (fc tw_154 (fc tw_153 (fc tw_582 (fc tw_581 (fc tw_580 (fc tw_579 (fc tw_79 (fc tw_578 (fc tw_577 (fc tw_599 (fc tw_598 (fc tw_84 (fc tw_83 fz))))))))))))))))))))))))
set_option maxRecDepth 20000 in
theorem in_wsX6_laws_r3 : ∀ w ∈ wsX6_laws_r3, w ∈ lw_tbl := (fc tw_491 (fc tw_490 (fc tw_489 (fc tw_488 (fc tw_66 (fc tw_487 (fc tw_486 (fc tw_485 (fc tw_163 (fc tw_162 (fc tw_161 (fc tw_160 (fc tw_502 (fc tw_501 (fc tw_500 (fc tw_499 (fc tw_76 (fc tw_77 (fc tw_128 (fc tw_67 (fc tw_498 (fc tw_497 (fc tw_496 (fc tw_696 fz))))))))))))))))))))))))
set_option maxRecDepth 20000 in
theorem in_wsX6_laws_r4 : ∀ w ∈ wsX6_laws_r4, w ∈ lw_tbl := (fc tw_695 (fc tw_694 (fc tw_697 fz)))
set_option maxRecDepth 20000 in
theorem in_wsX6_laws : ∀ w ∈ wsX6_laws, w ∈ lw_tbl := (fc tw_879 (fa (fa in_wsX6_laws_r1 (fa in_wsX6_laws_r2 (fa in_wsX6_laws_r3 in_wsX6_laws_r4))) inX6))
set_option maxRecDepth 20000 in
theorem in_wsX5_film_r1 : ∀ w ∈ wsX5_film_r1, w ∈ lw_tbl := (fc tw_14 (fc tw_3 (fc tw_5 (fc tw_179 (fc tw_178 (fc tw_151 (fc tw_177 (fc tw_889 (fc tw_888 (fc tw_887 (fc tw_1 (fc tw_886 (fc tw_49 (fc tw_885 (fc tw_50 (fc tw_884 (fc tw_56 (fc tw_55 (fc tw_54 (fc tw_681 (fc tw_680 (fc tw_679 (fc tw_6 (fc tw_678 fz))))))))))))))))))))))))
set_option maxRecDepth 20000 in
theorem in_wsX5_film_r2 : ∀ w ∈ wsX5_film_r2, w ∈ lw_tbl := (fc tw_30 (fc tw_677 (fc tw_422 (fc tw_421 (fc tw_420 (fc tw_29 (fc tw_28 (fc tw_27 (fc tw_26 (fc tw_25 (fc tw_63 (fc tw_62 (fc tw_61 (fc tw_60 (fc tw_199 (fc tw_478 (fc tw_457 (fc tw_59 (fc tw_651 (fc tw_650 (fc tw_649 (fc tw_648 (fc tw_549 (fc tw_548 fz))))))))))))))))))))))))
set_option maxRecDepth 20000 in
theorem in_wsX5_film_r3 : ∀ w ∈ wsX5_film_r3, w ∈ lw_tbl := (fc tw_547 (fc tw_546 (fc tw_531 (fc tw_455 (fc tw_454 (fc tw_10 (fc tw_453 (fc tw_36 (fc tw_35 (fc tw_37 (fc tw_452 (fc tw_451 (fc tw_450 (fc tw_449 (fc tw_477 (fc tw_476 (fc tw_475 (fc tw_474 (fc tw_473 (fc tw_472 (fc tw_471 (fc tw_470 (fc tw_146 (fc tw_145 fz))))))))))))))))))))))))
set_option maxRecDepth 20000 in
theorem in_wsX5_film_r4 : ∀ w ∈ wsX5_film_r4, w ∈ lw_tbl := (fc tw_144 (fc tw_469 (fc tw_468 (fc tw_467 (fc tw_466 (fc tw_465 (fc tw_464 (fc tw_463 (fc tw_462 (fc tw_480 (fc tw_339 (fc tw_342 (fc tw_338 (fc tw_479 (fc tw_343 (fc tw_341 (fc tw_545 (fc tw_544 (fc tw_540 (fc tw_543 (fc tw_568 (fc tw_567 (fc tw_566 (fc tw_655 fz))))))))))))))))))))))))
set_option maxRecDepth 20000 in
theorem in_wsX5_film_r5 : ∀ w ∈ wsX5_film_r5, w ∈ lw_tbl := (fc tw_654 (fc tw_653 (fc tw_652 (fc tw_656 (fc tw_740 (fc tw_893 (fc tw_892 (fc tw_891 (fc tw_890 fz)))))))))
set_option maxRecDepth 20000 in
theorem in_wsX5_film : ∀ w ∈ wsX5_film, w ∈ lw_tbl := (fc tw_883 (fa (fa (fa (fa (fa in_wsX5_film_r1 (fa in_wsX5_film_r2 (fa in_wsX5_film_r3 (fa in_wsX5_film_r4 in_wsX5_film_r5)))) inX5) inX0) inX3) inX2))
set_option maxRecDepth 20000 in
theorem in_wsX6_film_r1 : ∀ w ∈ wsX6_film_r1, w ∈ lw_tbl := (fc tw_73 (fc tw_72 (fc tw_71 (fc tw_190 (fc tw_93 (fc tw_92 (fc tw_105 (fc tw_91 (fc tw_693 (fc tw_692 (fc tw_691 (fc tw_690 (fc tw_65 (fc tw_82 (fc tw_81 (fc tw_165 (fc tw_664 (fc tw_663 (fc tw_662 (fc tw_661 (fc tw_159 (fc tw_158 (fc tw_157 (fc tw_156 fz))))))))))))))))))))))))
set_option maxRecDepth 20000 in
theorem in_wsX6_film_r2 : ∀ w ∈ wsX6_film_r2, w ∈ lw_tbl := (fc tw_155 (fc tw_154 (fc tw_153 (fc tw_582 (fc tw_581 (fc tw_580 (fc tw_579 (fc tw_79 (fc tw_578 (fc tw_577 (fc tw_599 (fc tw_598 (fc tw_84 (fc tw_83 (fc tw_491 (fc tw_490 (fc tw_489 (fc tw_488 (fc tw_66 (fc tw_487 (fc tw_486 (fc tw_485 (fc tw_163 (fc tw_162 fz))))))))))))))))))))))))
set_option maxRecDepth 20000 in
theorem in_wsX6_film_r3 : ∀ w ∈ wsX6_film_r3, w ∈ lw_tbl := (fc tw_161 (fc tw_160 (fc tw_502 (fc tw_501 (fc tw_500 (fc tw_499 (fc tw_76 (fc tw_164 (fc tw_77 (fc tw_128 (fc tw_67 (fc tw_498 (fc tw_497 (fc tw_496 (fc tw_696 (fc tw_695 (fc tw_694 (fc tw_697 fz))))))))))))))))))
set_option maxRecDepth 20000 in
theorem in_wsX6_film : ∀ w ∈ wsX6_film, w ∈ lw_tbl := (fc tw_897 (fa (fa in_wsX6_film_r1 (fa in_wsX6_film_r2 in_wsX6_film_r3)) inX6))
set_option maxRecDepth 20000 in
theorem in_wsX5_drawn_r1 : ∀ w ∈ wsX5_drawn_r1, w ∈ lw_tbl := (fc tw_909 (fc tw_3 (fc tw_179 (fc tw_178 (fc tw_151 (fc tw_177 (fc tw_908 (fc tw_907 (fc tw_906 (fc tw_905 (fc tw_5 (fc tw_904 (fc tw_903 (fc tw_902 (fc tw_681 (fc tw_680 (fc tw_679 (fc tw_6 (fc tw_678 (fc tw_30 (fc tw_677 (fc tw_422 (fc tw_421 (fc tw_420 fz))))))))))))))))))))))))
set_option maxRecDepth 20000 in
theorem in_wsX5_drawn_r2 : ∀ w ∈ wsX5_drawn_r2, w ∈ lw_tbl := (fc tw_29 (fc tw_28 (fc tw_27 (fc tw_26 (fc tw_25 (fc tw_63 (fc tw_62 (fc tw_61 (fc tw_60 (fc tw_199 (fc tw_478 (fc tw_457 (fc tw_59 (fc tw_461 (fc tw_460 (fc tw_459 (fc tw_458 (fc tw_633 (fc tw_632 (fc tw_631 (fc tw_630 (fc tw_470 (fc tw_146 (fc tw_145 fz))))))))))))))))))))))))
set_option maxRecDepth 20000 in
theorem in_wsX5_drawn_r3 : ∀ w ∈ wsX5_drawn_r3, w ∈ lw_tbl := (fc tw_144 (fc tw_629 (fc tw_628 (fc tw_627 (fc tw_626 (fc tw_634 (fc tw_529 (fc tw_528 (fc tw_527 (fc tw_477 (fc tw_476 (fc tw_475 (fc tw_474 (fc tw_473 (fc tw_472 (fc tw_471 (fc tw_531 (fc tw_455 (fc tw_454 (fc tw_10 (fc tw_453 (fc tw_36 (fc tw_35 (fc tw_37 fz))))))))))))))))))))))))
set_option maxRecDepth 20000 in
theorem in_wsX5_drawn_r4 : ∀ w ∈ wsX5_drawn_r4, w ∈ lw_tbl := (fc tw_452 (fc tw_451 (fc tw_450 (fc tw_449 (fc tw_469 (fc tw_468 (fc tw_467 (fc tw_466 (fc tw_465 (fc tw_464 (fc tw_463 (fc tw_462 (fc tw_480 (fc tw_339 (fc tw_342 (fc tw_338 (fc tw_479 (fc tw_343 (fc tw_341 (fc tw_542 (fc tw_541 (fc tw_540 (fc tw_539 (fc tw_538 fz))))))))))))))))))))))))
set_option maxRecDepth 20000 in
theorem in_wsX5_drawn_r5 : ∀ w ∈ wsX5_drawn_r5, w ∈ lw_tbl := (fc tw_537 (fc tw_536 (fc tw_342 (fc tw_535 (fc tw_635 (fc tw_533 (fc tw_532 (fc tw_565 (fc tw_564 (fc tw_563 (fc tw_562 (fc tw_651 (fc tw_650 (fc tw_649 (fc tw_648 (fc tw_549 (fc tw_548 (fc tw_547 (fc tw_546 (fc tw_545 (fc tw_544 (fc tw_543 (fc tw_568 (fc tw_567 fz))))))))))))))))))))))))
set_option maxRecDepth 20000 in
theorem in_wsX5_drawn_r6 : ∀ w ∈ wsX5_drawn_r6, w ∈ lw_tbl := (fc tw_566 (fc tw_655 (fc tw_654 (fc tw_653 (fc tw_652 (fc tw_656 (fc tw_203 (fc tw_202 (fc tw_201 (fc tw_200 (fc tw_198 (fc tw_197 (fc tw_196 (fc tw_195 fz))))))))))))))
set_option maxRecDepth 20000 in
theorem in_wsX5_drawn : ∀ w ∈ wsX5_drawn, w ∈ lw_tbl := (fc tw_901 (fa (fa (fa (fa in_wsX5_drawn_r1 (fa in_wsX5_drawn_r2 (fa in_wsX5_drawn_r3 (fa in_wsX5_drawn_r4 (fa in_wsX5_drawn_r5 in_wsX5_drawn_r6))))) inX5) inX0) inX2))
set_option maxRecDepth 20000 in
theorem in_wsX6_drawn_r1 : ∀ w ∈ wsX6_drawn_r1, w ∈ lw_tbl := (fc tw_922 (fc tw_921 (fc tw_93 (fc tw_92 (fc tw_105 (fc tw_91 (fc tw_920 (fc tw_919 (fc tw_918 (fc tw_917 (fc tw_916 (fc tw_915 (fc tw_914 (fc tw_166 (fc tw_190 (fc tw_693 (fc tw_692 (fc tw_691 (fc tw_690 (fc tw_65 (fc tw_82 (fc tw_81 (fc tw_165 (fc tw_155 fz))))))))))))))))))))))))
set_option maxRecDepth 20000 in
theorem in_wsX6_drawn_r2 : ∀ w ∈ wsX6_drawn_r2, w ∈ lw_tbl := (fc tw_154 (fc tw_153 (fc tw_734 (fc tw_733 (fc tw_732 (fc tw_731 (fc tw_163 (fc tw_162 (fc tw_161 (fc tw_160 (fc tw_159 (fc tw_158 (fc tw_157 (fc tw_156 (fc tw_641 (fc tw_640 (fc tw_643 (fc tw_642 (fc tw_576 (fc tw_575 (fc tw_574 (fc tw_573 (fc tw_84 (fc tw_83 fz))))))))))))))))))))))))
set_option maxRecDepth 20000 in
theorem in_wsX6_drawn_r3 : ∀ w ∈ wsX6_drawn_r3, w ∈ lw_tbl := (fc tw_487 (fc tw_486 (fc tw_485 (fc tw_491 (fc tw_490 (fc tw_489 (fc tw_488 (fc tw_66 (fc tw_502 (fc tw_501 (fc tw_500 (fc tw_499 (fc tw_76 (fc tw_164 (fc tw_77 (fc tw_128 (fc tw_67 (fc tw_498 (fc tw_497 (fc tw_496 (fc tw_597 (fc tw_596 (fc tw_595 (fc tw_594 fz))))))))))))))))))))))))
set_option maxRecDepth 20000 in
theorem in_wsX6_drawn_r4 : ∀ w ∈ wsX6_drawn_r4, w ∈ lw_tbl := (fc tw_593 (fc tw_592 (fc tw_591 (fc tw_664 (fc tw_663 (fc tw_662 (fc tw_661 (fc tw_582 (fc tw_581 (fc tw_580 (fc tw_579 (fc tw_79 (fc tw_578 (fc tw_577 (fc tw_599 (fc tw_598 (fc tw_696 (fc tw_695 (fc tw_694 (fc tw_697 (fc tw_211 (fc tw_210 (fc tw_209 (fc tw_208 fz))))))))))))))))))))))))
set_option maxRecDepth 20000 in
theorem in_wsX6_drawn_r5 : ∀ w ∈ wsX6_drawn_r5, w ∈ lw_tbl := (fc tw_80 fz)
set_option maxRecDepth 20000 in
theorem in_wsX6_drawn : ∀ w ∈ wsX6_drawn, w ∈ lw_tbl := (fc tw_913 (fa (fa in_wsX6_drawn_r1 (fa in_wsX6_drawn_r2 (fa in_wsX6_drawn_r3 (fa in_wsX6_drawn_r4 in_wsX6_drawn_r5)))) inX6))
set_option maxRecDepth 20000 in
theorem in_wsX5_odds_r1 : ∀ w ∈ wsX5_odds_r1, w ∈ lw_tbl := (fc tw_909 (fc tw_789 (fc tw_3 (fc tw_179 (fc tw_178 (fc tw_151 (fc tw_177 (fc tw_908 (fc tw_907 (fc tw_906 (fc tw_905 (fc tw_5 (fc tw_904 (fc tw_903 (fc tw_902 (fc tw_681 (fc tw_680 (fc tw_679 (fc tw_6 (fc tw_678 (fc tw_30 (fc tw_677 (fc tw_422 (fc tw_421 fz))))))))))))))))))))))))
set_option maxRecDepth 20000 in
theorem in_wsX5_odds_r2 : ∀ w ∈ wsX5_odds_r2, w ∈ lw_tbl := (fc tw_420 (fc tw_29 (fc tw_28 (fc tw_27 (fc tw_26 (fc tw_25 (fc tw_63 (fc tw_62 (fc tw_61 (fc tw_60 (fc tw_199 (fc tw_478 (fc tw_457 (fc tw_59 (fc tw_461 (fc tw_460 (fc tw_459 (fc tw_458 (fc tw_633 (fc tw_632 (fc tw_631 (fc tw_630 (fc tw_470 (fc tw_146 fz))))))))))))))))))))))))
set_option maxRecDepth 20000 in
theorem in_wsX5_odds_r3 : ∀ w ∈ wsX5_odds_r3, w ∈ lw_tbl := (fc tw_145 (fc tw_144 (fc tw_629 (fc tw_628 (fc tw_627 (fc tw_626 (fc tw_634 (fc tw_529 (fc tw_528 (fc tw_527 (fc tw_477 (fc tw_476 (fc tw_475 (fc tw_474 (fc tw_473 (fc tw_472 (fc tw_471 (fc tw_531 (fc tw_455 (fc tw_454 (fc tw_10 (fc tw_453 (fc tw_36 (fc tw_35 fz))))))))))))))))))))))))
set_option maxRecDepth 20000 in
theorem in_wsX5_odds_r4 : ∀ w ∈ wsX5_odds_r4, w ∈ lw_tbl := (fc tw_37 (fc tw_452 (fc tw_451 (fc tw_450 (fc tw_449 (fc tw_469 (fc tw_468 (fc tw_467 (fc tw_466 (fc tw_465 (fc tw_464 (fc tw_463 (fc tw_462 (fc tw_480 (fc tw_339 (fc tw_342 (fc tw_338 (fc tw_479 (fc tw_343 (fc tw_341 (fc tw_542 (fc tw_541 (fc tw_540 (fc tw_539 fz))))))))))))))))))))))))
set_option maxRecDepth 20000 in
theorem in_wsX5_odds_r5 : ∀ w ∈ wsX5_odds_r5, w ∈ lw_tbl := (fc tw_538 (fc tw_537 (fc tw_536 (fc tw_342 (fc tw_535 (fc tw_635 (fc tw_533 (fc tw_532 (fc tw_565 (fc tw_564 (fc tw_563 (fc tw_562 (fc tw_651 (fc tw_650 (fc tw_649 (fc tw_648 (fc tw_549 (fc tw_548 (fc tw_547 (fc tw_546 (fc tw_545 (fc tw_544 (fc tw_543 (fc tw_568 fz))))))))))))))))))))))))
set_option maxRecDepth 20000 in
theorem in_wsX5_odds_r6 : ∀ w ∈ wsX5_odds_r6, w ∈ lw_tbl := (fc tw_567 (fc tw_566 (fc tw_655 (fc tw_654 (fc tw_653 (fc tw_652 (fc tw_656 (fc tw_203 (fc tw_202 (fc tw_201 (fc tw_200 (fc tw_198 (fc tw_197 (fc tw_196 (fc tw_195 (fc tw_788 (fc tw_787 (fc tw_786 (fc tw_795 (fc tw_794 (fc tw_793 (fc tw_792 (fc tw_791 (fc tw_790 fz))))))))))))))))))))))))
set_option maxRecDepth 20000 in
theorem in_wsX5_odds : ∀ w ∈ wsX5_odds, w ∈ lw_tbl := (fc tw_926 (fa (fa (fa (fa in_wsX5_odds_r1 (fa in_wsX5_odds_r2 (fa in_wsX5_odds_r3 (fa in_wsX5_odds_r4 (fa in_wsX5_odds_r5 in_wsX5_odds_r6))))) inX5) inX0) inX2))
set_option maxRecDepth 20000 in
theorem in_wsX6_odds_r1 : ∀ w ∈ wsX6_odds_r1, w ∈ lw_tbl := (fc tw_922 (fc tw_803 (fc tw_93 (fc tw_92 (fc tw_105 (fc tw_91 (fc tw_920 (fc tw_919 (fc tw_918 (fc tw_917 (fc tw_916 (fc tw_915 (fc tw_914 (fc tw_166 (fc tw_190 (fc tw_921 (fc tw_693 (fc tw_692 (fc tw_691 (fc tw_690 (fc tw_65 (fc tw_82 (fc tw_81 (fc tw_165 fz))))))))))))))))))))))))
set_option maxRecDepth 20000 in
theorem in_wsX6_odds_r2 : ∀ w ∈ wsX6_odds_r2, w ∈ lw_tbl := (fc tw_155 (fc tw_154 (fc tw_153 (fc tw_734 (fc tw_733 (fc tw_732 (fc tw_731 (fc tw_163 (fc tw_162 (fc tw_161 (fc tw_160 (fc tw_159 (fc tw_158 (fc tw_157 (fc tw_156 (fc tw_641 (fc tw_640 (fc tw_643 (fc tw_642 (fc tw_576 (fc tw_575 (fc tw_574 (fc tw_573 (fc tw_84 fz))))))))))))))))))))))))
set_option maxRecDepth 20000 in
theorem in_wsX6_odds_r3 : ∀ w ∈ wsX6_odds_r3, w ∈ lw_tbl := (fc tw_83 (fc tw_487 (fc tw_486 (fc tw_485 (fc tw_491 (fc tw_490 (fc tw_489 (fc tw_488 (fc tw_66 (fc tw_502 (fc tw_501 (fc tw_500 (fc tw_499 (fc tw_76 (fc tw_164 (fc tw_77 (fc tw_128 (fc tw_67 (fc tw_498 (fc tw_497 (fc tw_496 (fc tw_597 (fc tw_596 (fc tw_595 fz))))))))))))))))))))))))
set_option maxRecDepth 20000 in
theorem in_wsX6_odds_r4 : ∀ w ∈ wsX6_odds_r4, w ∈ lw_tbl := (fc tw_594 (fc tw_593 (fc tw_592 (fc tw_591 (fc tw_664 (fc tw_663 (fc tw_662 (fc tw_661 (fc tw_582 (fc tw_581 (fc tw_580 (fc tw_579 (fc tw_79 (fc tw_578 (fc tw_577 (fc tw_599 (fc tw_598 (fc tw_696 (fc tw_695 (fc tw_694 (fc tw_697 (fc tw_211 (fc tw_210 (fc tw_209 fz))))))))))))))))))))))))
set_option maxRecDepth 20000 in
theorem in_wsX6_odds_r5 : ∀ w ∈ wsX6_odds_r5, w ∈ lw_tbl := (fc tw_208 (fc tw_80 (fc tw_802 (fc tw_801 (fc tw_800 fz)))))
set_option maxRecDepth 20000 in
theorem in_wsX6_odds : ∀ w ∈ wsX6_odds, w ∈ lw_tbl := (fc tw_930 (fa (fa in_wsX6_odds_r1 (fa in_wsX6_odds_r2 (fa in_wsX6_odds_r3 (fa in_wsX6_odds_r4 in_wsX6_odds_r5)))) inX6))
set_option maxRecDepth 20000 in
theorem in_wsX5_image_r1 : ∀ w ∈ wsX5_image_r1, w ∈ lw_tbl := (fc tw_4 (fc tw_5 (fc tw_935 (fc tw_681 (fc tw_680 (fc tw_679 (fc tw_6 (fc tw_678 (fc tw_30 (fc tw_677 (fc tw_422 (fc tw_421 (fc tw_420 (fc tw_29 (fc tw_28 (fc tw_27 (fc tw_26 (fc tw_25 (fc tw_63 (fc tw_62 (fc tw_61 (fc tw_60 (fc tw_199 (fc tw_478 fz))))))))))))))))))))))))
set_option maxRecDepth 20000 in
theorem in_wsX5_image_r2 : ∀ w ∈ wsX5_image_r2, w ∈ lw_tbl := (fc tw_457 (fc tw_59 fz))
set_option maxRecDepth 20000 in
theorem in_wsX5_image : ∀ w ∈ wsX5_image, w ∈ lw_tbl := (fc tw_934 (fa (fa (fa in_wsX5_image_r1 in_wsX5_image_r2) inX5) inX0))
set_option maxRecDepth 20000 in
theorem in_wsX6_image : ∀ w ∈ wsX6_image, w ∈ lw_tbl := (fc tw_939 (fa (fc tw_940 (fc tw_75 (fc tw_82 (fc tw_81 (fc tw_80 (fc tw_79 (fc tw_74 (fc tw_166 (fc tw_190 (fc tw_165 (fc tw_164 fz))))))))))) inX6))
set_option maxRecDepth 20000 in
theorem in_wsX5_back_r1 : ∀ w ∈ wsX5_back_r1, w ∈ lw_tbl := (fc tw_935 (fc tw_5 (fc tw_4 (fc tw_681 (fc tw_680 (fc tw_679 (fc tw_6 (fc tw_678 (fc tw_30 (fc tw_677 (fc tw_422 (fc tw_421 (fc tw_420 (fc tw_29 (fc tw_28 (fc tw_27 (fc tw_26 (fc tw_25 (fc tw_63 (fc tw_62 (fc tw_61 (fc tw_60 (fc tw_199 (fc tw_478 fz))))))))))))))))))))))))
set_option maxRecDepth 20000 in
theorem in_wsX5_back_r2 : ∀ w ∈ wsX5_back_r2, w ∈ lw_tbl := (fc tw_457 (fc tw_59 fz))
set_option maxRecDepth 20000 in
theorem in_wsX5_back : ∀ w ∈ wsX5_back, w ∈ lw_tbl := (fc tw_944 (fa (fa (fa in_wsX5_back_r1 in_wsX5_back_r2) inX5) inX0))
set_option maxRecDepth 20000 in
theorem in_wsX6_back : ∀ w ∈ wsX6_back, w ∈ lw_tbl := (fc tw_948 (fa (fc tw_940 (fc tw_82 (fc tw_75 (fc tw_81 (fc tw_80 (fc tw_79 (fc tw_74 (fc tw_166 (fc tw_190 (fc tw_165 (fc tw_164 fz))))))))))) inX6))
set_option maxRecDepth 20000 in
theorem in_wsX5_sheet : ∀ w ∈ wsX5_sheet, w ∈ lw_tbl := (fc tw_952 (fa (fa (fc tw_14 (fc tw_179 (fc tw_178 (fc tw_151 (fc tw_177 (fc tw_889 (fc tw_888 (fc tw_887 (fc tw_1 (fc tw_886 (fc tw_49 (fc tw_885 (fc tw_50 (fc tw_884 (fc tw_56 (fc tw_55 (fc tw_54 fz))))))))))))))))) inX5) inX3))
set_option maxRecDepth 20000 in
theorem in_wsX6_sheet : ∀ w ∈ wsX6_sheet, w ∈ lw_tbl := (fc tw_956 (fa (fc tw_73 (fc tw_72 (fc tw_71 (fc tw_93 (fc tw_92 (fc tw_105 (fc tw_91 fz))))))) inX6))
set_option maxRecDepth 20000 in
theorem in_wsX5_cell : ∀ w ∈ wsX5_cell, w ∈ lw_tbl := (fc tw_960 (fa (fa (fc tw_14 (fc tw_179 (fc tw_178 (fc tw_151 (fc tw_177 (fc tw_811 (fc tw_810 (fc tw_809 (fc tw_1 (fc tw_808 (fc tw_49 (fc tw_893 (fc tw_892 (fc tw_891 (fc tw_890 (fc tw_50 fz)))))))))))))))) inX5) inX3))
set_option maxRecDepth 20000 in
theorem in_wsX6_cell : ∀ w ∈ wsX6_cell, w ∈ lw_tbl := (fc tw_964 (fa (fc tw_73 (fc tw_72 (fc tw_71 (fc tw_93 (fc tw_92 (fc tw_105 (fc tw_91 fz))))))) inX6))
set_option maxRecDepth 20000 in
theorem in_wsX5_copy : ∀ w ∈ wsX5_copy, w ∈ lw_tbl := (fc tw_968 (fa (fa (fc tw_14 (fc tw_973 (fc tw_422 (fc tw_421 (fc tw_420 (fc tw_179 (fc tw_178 (fc tw_151 (fc tw_177 (fc tw_811 (fc tw_810 (fc tw_809 (fc tw_1 (fc tw_808 (fc tw_49 (fc tw_972 (fc tw_971 (fc tw_970 (fc tw_969 (fc tw_885 fz)))))))))))))))))))) inX5) inX3))
set_option maxRecDepth 20000 in
theorem in_wsX6_copy : ∀ w ∈ wsX6_copy, w ∈ lw_tbl := (fc tw_977 (fa (fc tw_73 (fc tw_72 (fc tw_71 (fc tw_93 (fc tw_92 (fc tw_105 (fc tw_91 fz))))))) inX6))
set_option maxRecDepth 20000 in
theorem in_wsX5_witnessesBy_r1 : ∀ w ∈ wsX5_witnessesBy_r1, w ∈ lw_tbl := (fc tw_14 (fc tw_179 (fc tw_178 (fc tw_151 (fc tw_177 (fc tw_811 (fc tw_810 (fc tw_809 (fc tw_1 (fc tw_808 (fc tw_49 (fc tw_972 (fc tw_971 (fc tw_970 (fc tw_969 (fc tw_885 (fc tw_982 (fc tw_512 (fc tw_513 (fc tw_506 (fc tw_5 (fc tw_510 (fc tw_509 (fc tw_508 fz))))))))))))))))))))))))
set_option maxRecDepth 20000 in
theorem in_wsX5_witnessesBy_r2 : ∀ w ∈ wsX5_witnessesBy_r2, w ∈ lw_tbl := (fc tw_6 (fc tw_507 (fc tw_457 (fc tw_28 (fc tw_27 (fc tw_26 (fc tw_25 (fc tw_63 fz))))))))
set_option maxRecDepth 20000 in
theorem in_wsX5_witnessesBy : ∀ w ∈ wsX5_witnessesBy, w ∈ lw_tbl := (fc tw_981 (fa (fa (fa (fa in_wsX5_witnessesBy_r1 in_wsX5_witnessesBy_r2) inX5) inX3) inX0))
set_option maxRecDepth 20000 in
theorem in_wsX6_witnessesBy : ∀ w ∈ wsX6_witnessesBy, w ∈ lw_tbl := (fc tw_986 (fa (fc tw_73 (fc tw_72 (fc tw_71 (fc tw_93 (fc tw_92 (fc tw_105 (fc tw_91 (fc tw_987 (fc tw_516 (fc tw_517 (fc tw_514 (fc tw_166 (fc tw_84 (fc tw_83 (fc tw_82 fz))))))))))))))) inX6))
set_option maxRecDepth 20000 in
theorem in_wsX5_taken : ∀ w ∈ wsX5_taken, w ∈ lw_tbl := (fc tw_991 (fa (fa (fc tw_5 (fc tw_179 (fc tw_178 (fc tw_151 (fc tw_177 (fc tw_461 (fc tw_460 (fc tw_459 (fc tw_6 (fc tw_458 (fc tw_457 (fc tw_617 (fc tw_616 (fc tw_615 (fc tw_614 (fc tw_62 (fc tw_994 (fc tw_993 (fc tw_540 (fc tw_992 fz)))))))))))))))))))) inX5) inX0))
set_option maxRecDepth 20000 in
theorem in_wsX6_taken : ∀ w ∈ wsX6_taken, w ∈ lw_tbl := (fc tw_998 (fa (fc tw_81 (fc tw_166 (fc tw_84 (fc tw_93 (fc tw_92 (fc tw_105 (fc tw_91 (fc tw_159 (fc tw_158 (fc tw_157 (fc tw_156 (fc tw_155 (fc tw_154 (fc tw_153 (fc tw_1001 (fc tw_1000 (fc tw_999 fz))))))))))))))))) inX6))
theorem in_mNest : ∀ w ∈ mNest, w ∈ lw_tbl := (fc tw_1109 (fc tw_1108 (fc tw_1107 (fc tw_1106 (fc tw_1105 (fc tw_1104 (fc tw_1103 (fc tw_1102 (fc tw_1101 (fc tw_1100 (fc tw_1099 (fc tw_1098 (fc tw_1097 (fc tw_1096 (fc tw_1095 (fc tw_1094 (fc tw_1093 (fc tw_1092 (fc tw_1091 (fc tw_1090 (fc tw_1089 (fc tw_1088 (fc tw_1087 (fc tw_1086 (fc tw_1085 fz)))))))))))))))))))))))))
theorem xw_0 : Cond.classLink RL 7 RX5 ∈ lw_tbl := tw_1110
theorem xw_1 : Cond.instantiable RX5 11 ∈ lw_tbl := tw_1111
theorem xw_2 : Cond.initialized RX5 ∈ lw_tbl := tw_151
theorem xw_3 : Cond.classLink RL 10 RX6 ∈ lw_tbl := tw_1112
theorem xw_4 : Cond.instantiable RX6 38 ∈ lw_tbl := tw_1113
theorem xw_5 : Cond.initialized RX6 ∈ lw_tbl := tw_105
theorem xw_6 : Cond.methodLink RL 9 yX5_init ∈ lw_tbl := tw_1114
theorem xw_7 : Cond.instanceMethod yX5_init ∈ lw_tbl := tw_1115
theorem xw_8 : Cond.methodLink RL 12 yX6_init ∈ lw_tbl := tw_1116
theorem xw_9 : Cond.instanceMethod yX6_init ∈ lw_tbl := tw_1117
theorem xw_10 : Cond.instantiable RX0 15 ∈ lw_tbl := tw_7
theorem xw_11 : Cond.instantiable RX2 4 ∈ lw_tbl := tw_11
theorem xw_12 : Cond.instantiable RX3 3 ∈ lw_tbl := tw_2
theorem xw_13 : Cond.instantiable RX4 9 ∈ lw_tbl := tw_18
theorem xw_14 : Cond.arrayClass .int ∈ lw_tbl := tw_9
theorem xw_15 : Cond.arrayOver (.object RX2) ∈ lw_tbl := tw_1118
theorem xw_16 : Cond.arrayOver (.object RX3) ∈ lw_tbl := tw_1119
theorem xw_17 : Cond.arrayOver (.object RX0) ∈ lw_tbl := tw_1120
theorem xw_18 : Cond.castable "[I" "java/lang/Cloneable" ∈ lw_tbl := tw_1121
theorem xw_19 : Cond.laysStatic "java/lang/String" "COMPACT_STRINGS" "Z" ∈ lw_tbl := tw_1122
theorem xw_20 : Cond.laysStatic "jdk/internal/util/Preconditions" "SIOOBE_FORMATTER" "Ljava/util/function/BiFunction;" ∈ lw_tbl := tw_1123
theorem xw_21 : Cond.initialized "java/lang/String" ∈ lw_tbl := tw_265
theorem xw_22 : Cond.initialized "jdk/internal/util/Preconditions" ∈ lw_tbl := tw_286
theorem xw_23 : Cond.stringRef RX4 98 "();+-*<=" ∈ lw_tbl := tw_1124
theorem xw_24 : Cond.stringRef RX4 110 "looks waits drops and or not face known hour lying admitted more " ∈ lw_tbl := tw_1125
