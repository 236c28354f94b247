set_option maxHeartbeats 4000000 in
theorem cs_count {p : Program} {l : Launch} {e : Env} {s : State} {m : MethodId} {below : List Frame} {meth : Method} {c : Code} {bs L : Nat} {xs : Nat → Int32} {G : mG} {b r : Nat} {S : XS} {O : MS} {μ : mS} {H : Heap} {locs : List Loc} {cells slots : Nat} {Q : State → Prop} {ls : Array Slot} {x3 : Int32} (C : LCtx p s m meth c bs L xs G) (hl : lv_has ls 4 [(0, .ref bs), (1, .ref b), (2, .ref r), (3, .int x3)]) (h6 : hin6 x3 L) (R : Rlw b r S O μ) (hM : mP G (Wd b r S O μ) H) (hL : mL G locs) (hc : cells + 2 ≤ 600000) (hs : slots + 164 ≤ 7302250) (K : LNext p l e s m bs below meth c G b r ls cells slots Q) : W p l e room_1 s m #[Value.ref bs] below meth c H locs cells slots Q (F0 m 204 ls []) := by
  obtain ⟨hx, hb, hml, hown, hts, hX, hbl, hbA, hK⟩ := C.get
  obtain ⟨i1, i2, i3, i4, i5, i6⟩ := h6
  have lm := R.lm
  obtain ⟨v, e1, e2⟩ := (k_count (xs (x3 + 1).toNatClampNeg) : CallR b r _ _) S O μ R
  have hS := C.S hM hL
  refine lv_aload_n hx hb dL_law_204 rfl (lv_at hl 1 rfl) ?_
  refine lv_aload_n hx hb dL_law_205 rfl (lv_at hl 0 rfl) ?_
  refine lv_iload_n hx hb dL_law_206 rfl (lv_at hl 3 rfl) ?_
  refine lv_iconst (v := 1) hx hb dL_law_207 (by decide) ?_
  refine lv_iadd hx hb dL_law_208 ?_
  refine va_sld hx hb hX hbl hbA hS i1 dL_law_209 ?_
  refine m_calli (va_runV (As := [.int (xs (x3 + 1).toNatClampNeg)]) (rest := []) ⟨hx, hb, hml, hown, hts⟩ (c_X5_count l G e1) (cwV 1 hts gl_X5_count rfl rfl rfl hdl_X5_count ⟨Nat.le_of_ble_eq_true rfl, Nat.le_of_ble_eq_true rfl⟩) (m_preV (ci := 4) hK hM rfl isO5) rfl rfl hl.1 rfl (lv_room (Nat.le_of_ble_eq_true rfl)) dL_law_210 ⟨by show cells + _ ≤ 600000; omega, by show slots + _ ≤ 7302250; omega⟩) hL (fun H locs hM hL => ?_)
  have hM : mP G (Wd b r S O μ) H := hM
  have hS := C.S hM hL
  refine lv_aload_n hx hb dL_law_213 rfl (lv_at hl 2 rfl) ?_
  refine lv_aload_n hx hb dL_law_214 rfl (lv_at hl 0 rfl) ?_
  refine lv_iload_n hx hb dL_law_215 rfl (lv_at hl 3 rfl) ?_
  refine lv_iconst (v := 1) hx hb dL_law_216 (by decide) ?_
  refine lv_iadd hx hb dL_law_217 ?_
  refine va_sld hx hb hX hbl hbA hS i1 dL_law_218 ?_
  refine m_calli (va_runV (As := [.int (xs (x3 + 1).toNatClampNeg)]) (rest := [.int v]) ⟨hx, hb, hml, hown, hts⟩ (c_X6_count l G e2) (cwV 1 hts gl_X6_count rfl rfl rfl hdl_X6_count ⟨Nat.le_of_ble_eq_true rfl, Nat.le_of_ble_eq_true rfl⟩) (m_preV (ci := 5) hK hM rfl (isO6 lm)) rfl rfl hl.1 rfl (lv_room (Nat.le_of_ble_eq_true rfl)) dL_law_219 ⟨by show cells + 0 + _ ≤ 600000; omega, by show slots + 0 + _ ≤ 7302250; omega⟩) hL (fun H locs hM hL => ?_)
  have hM : mP G (Wd b r S O μ) H := hM
  refine lv_icmp_eq (tgt := 1515) hx hb dL_law_222 (by decide) (fun _ => ?_) (fun q => absurd rfl q)
  exact K _ _ _ _ _ _ _ R hM hL (by omega) (by omega)
set_option maxHeartbeats 4000000 in
theorem cs_court {p : Program} {l : Launch} {e : Env} {s : State} {m : MethodId} {below : List Frame} {meth : Method} {c : Code} {bs L : Nat} {xs : Nat → Int32} {G : mG} {b r : Nat} {S : XS} {O : MS} {μ : mS} {H : Heap} {locs : List Loc} {cells slots : Nat} {Q : State → Prop} {ls : Array Slot} {x3 : Int32} (C : LCtx p s m meth c bs L xs G) (hl : lv_has ls 4 [(0, .ref bs), (1, .ref b), (2, .ref r), (3, .int x3)]) (h6 : hin6 x3 L) (R : Rlw b r S O μ) (hM : mP G (Wd b r S O μ) H) (hL : mL G locs) (hc : cells + 2 ≤ 600000) (hs : slots + 164 ≤ 7302250) (K : LNext p l e s m bs below meth c G b r ls cells slots Q) : W p l e room_1 s m #[Value.ref bs] below meth c H locs cells slots Q (F0 m 227 ls []) := by
  obtain ⟨hx, hb, hml, hown, hts, hX, hbl, hbA, hK⟩ := C.get
  obtain ⟨i1, i2, i3, i4, i5, i6⟩ := h6
  have lm := R.lm
  obtain ⟨v, S', O', μ', e1, e2, R'⟩ := (k_court (xs (x3 + 1).toNatClampNeg) (xs (x3 + 2).toNatClampNeg) (xs (x3 + 3).toNatClampNeg) : Call b r _ _) S O μ R
  have hS := C.S hM hL
  refine lv_aload_n hx hb dL_law_227 rfl (lv_at hl 1 rfl) ?_
  refine lv_aload_n hx hb dL_law_228 rfl (lv_at hl 0 rfl) ?_
  refine lv_iload_n hx hb dL_law_229 rfl (lv_at hl 3 rfl) ?_
  refine lv_iconst (v := 1) hx hb dL_law_230 (by decide) ?_
  refine lv_iadd hx hb dL_law_231 ?_
  refine va_sld hx hb hX hbl hbA hS i1 dL_law_232 ?_
  refine lv_aload_n hx hb dL_law_233 rfl (lv_at hl 0 rfl) ?_
  refine lv_iload_n hx hb dL_law_234 rfl (lv_at hl 3 rfl) ?_
  refine lv_iconst (v := 2) hx hb dL_law_235 (by decide) ?_
  refine lv_iadd hx hb dL_law_236 ?_
  refine va_sld hx hb hX hbl hbA hS i2 dL_law_237 ?_
  refine lv_aload_n hx hb dL_law_238 rfl (lv_at hl 0 rfl) ?_
  refine lv_iload_n hx hb dL_law_239 rfl (lv_at hl 3 rfl) ?_
  refine lv_iconst (v := 3) hx hb dL_law_240 (by decide) ?_
  refine lv_iadd hx hb dL_law_241 ?_
  refine va_sld hx hb hX hbl hbA hS i3 dL_law_242 ?_
  refine m_calli (va_runV (As := [.int (xs (x3 + 1).toNatClampNeg), .int (xs (x3 + 2).toNatClampNeg), .int (xs (x3 + 3).toNatClampNeg)]) (rest := []) ⟨hx, hb, hml, hown, hts⟩ (c_X5_court l G e1) (cwV 3 hts gl_X5_court rfl rfl rfl hdl_X5_court ⟨Nat.le_of_ble_eq_true rfl, Nat.le_of_ble_eq_true rfl⟩) (m_preV (ci := 4) hK hM rfl isO5) rfl rfl hl.1 rfl (lv_room (Nat.le_of_ble_eq_true rfl)) dL_law_243 ⟨by show cells + _ ≤ 600000; omega, by show slots + _ ≤ 7302250; omega⟩) hL (fun H locs hM hL => ?_)
  have hM : mP G (Wd b r S' O μ') H := hM
  have hS := C.S hM hL
  refine lv_aload_n hx hb dL_law_246 rfl (lv_at hl 2 rfl) ?_
  refine lv_aload_n hx hb dL_law_247 rfl (lv_at hl 0 rfl) ?_
  refine lv_iload_n hx hb dL_law_248 rfl (lv_at hl 3 rfl) ?_
  refine lv_iconst (v := 1) hx hb dL_law_249 (by decide) ?_
  refine lv_iadd hx hb dL_law_250 ?_
  refine va_sld hx hb hX hbl hbA hS i1 dL_law_251 ?_
  refine lv_aload_n hx hb dL_law_252 rfl (lv_at hl 0 rfl) ?_
  refine lv_iload_n hx hb dL_law_253 rfl (lv_at hl 3 rfl) ?_
  refine lv_iconst (v := 2) hx hb dL_law_254 (by decide) ?_
  refine lv_iadd hx hb dL_law_255 ?_
  refine va_sld hx hb hX hbl hbA hS i2 dL_law_256 ?_
  refine lv_aload_n hx hb dL_law_257 rfl (lv_at hl 0 rfl) ?_
  refine lv_iload_n hx hb dL_law_258 rfl (lv_at hl 3 rfl) ?_
  refine lv_iconst (v := 3) hx hb dL_law_259 (by decide) ?_
  refine lv_iadd hx hb dL_law_260 ?_
  refine va_sld hx hb hX hbl hbA hS i3 dL_law_261 ?_
  refine m_calli (va_runV (As := [.int (xs (x3 + 1).toNatClampNeg), .int (xs (x3 + 2).toNatClampNeg), .int (xs (x3 + 3).toNatClampNeg)]) (rest := [.int v]) ⟨hx, hb, hml, hown, hts⟩ (c_X6_court l G e2) (cwV 3 hts gl_X6_court rfl rfl rfl hdl_X6_court ⟨Nat.le_of_ble_eq_true rfl, Nat.le_of_ble_eq_true rfl⟩) (m_preV (ci := 5) hK hM rfl (isO6 lm)) rfl rfl hl.1 rfl (lv_room (Nat.le_of_ble_eq_true rfl)) dL_law_262 ⟨by show cells + 0 + _ ≤ 600000; omega, by show slots + 0 + _ ≤ 7302250; omega⟩) hL (fun H locs hM hL => ?_)
  have hM : mP G (Wd b r S' O' μ') H := hM
  refine lv_icmp_eq (tgt := 1515) hx hb dL_law_265 (by decide) (fun _ => ?_) (fun q => absurd rfl q)
  exact K _ _ _ _ _ _ _ R' hM hL (by omega) (by omega)
set_option maxHeartbeats 4000000 in
theorem cs_bench {p : Program} {l : Launch} {e : Env} {s : State} {m : MethodId} {below : List Frame} {meth : Method} {c : Code} {bs L : Nat} {xs : Nat → Int32} {G : mG} {b r : Nat} {S : XS} {O : MS} {μ : mS} {H : Heap} {locs : List Loc} {cells slots : Nat} {Q : State → Prop} {ls : Array Slot} {x3 : Int32} (C : LCtx p s m meth c bs L xs G) (hl : lv_has ls 4 [(0, .ref bs), (1, .ref b), (2, .ref r), (3, .int x3)]) (h6 : hin6 x3 L) (R : Rlw b r S O μ) (hM : mP G (Wd b r S O μ) H) (hL : mL G locs) (hc : cells + 2 ≤ 600000) (hs : slots + 164 ≤ 7302250) (K : LNext p l e s m bs below meth c G b r ls cells slots Q) : W p l e room_1 s m #[Value.ref bs] below meth c H locs cells slots Q (F0 m 270 ls []) := by
  obtain ⟨hx, hb, hml, hown, hts, hX, hbl, hbA, hK⟩ := C.get
  obtain ⟨i1, i2, i3, i4, i5, i6⟩ := h6
  have lm := R.lm
  obtain ⟨v, e1, e2⟩ := (k_bench (xs (x3 + 1).toNatClampNeg) (xs (x3 + 2).toNatClampNeg) : CallR b r _ _) S O μ R
  have hS := C.S hM hL
  refine lv_aload_n hx hb dL_law_270 rfl (lv_at hl 1 rfl) ?_
  refine lv_aload_n hx hb dL_law_271 rfl (lv_at hl 0 rfl) ?_
  refine lv_iload_n hx hb dL_law_272 rfl (lv_at hl 3 rfl) ?_
  refine lv_iconst (v := 1) hx hb dL_law_273 (by decide) ?_
  refine lv_iadd hx hb dL_law_274 ?_
  refine va_sld hx hb hX hbl hbA hS i1 dL_law_275 ?_
  refine lv_aload_n hx hb dL_law_276 rfl (lv_at hl 0 rfl) ?_
  refine lv_iload_n hx hb dL_law_277 rfl (lv_at hl 3 rfl) ?_
  refine lv_iconst (v := 2) hx hb dL_law_278 (by decide) ?_
  refine lv_iadd hx hb dL_law_279 ?_
  refine va_sld hx hb hX hbl hbA hS i2 dL_law_280 ?_
  refine m_calli (va_runV (As := [.int (xs (x3 + 1).toNatClampNeg), .int (xs (x3 + 2).toNatClampNeg)]) (rest := []) ⟨hx, hb, hml, hown, hts⟩ (c_X5_bench l G e1) (cwV 2 hts gl_X5_bench rfl rfl rfl hdl_X5_bench ⟨Nat.le_of_ble_eq_true rfl, Nat.le_of_ble_eq_true rfl⟩) (m_preV (ci := 4) hK hM rfl isO5) rfl rfl hl.1 rfl (lv_room (Nat.le_of_ble_eq_true rfl)) dL_law_281 ⟨by show cells + _ ≤ 600000; omega, by show slots + _ ≤ 7302250; omega⟩) hL (fun H locs hM hL => ?_)
  have hM : mP G (Wd b r S O μ) H := hM
  have hS := C.S hM hL
  refine lv_aload_n hx hb dL_law_284 rfl (lv_at hl 2 rfl) ?_
  refine lv_aload_n hx hb dL_law_285 rfl (lv_at hl 0 rfl) ?_
  refine lv_iload_n hx hb dL_law_286 rfl (lv_at hl 3 rfl) ?_
  refine lv_iconst (v := 1) hx hb dL_law_287 (by decide) ?_
  refine lv_iadd hx hb dL_law_288 ?_
  refine va_sld hx hb hX hbl hbA hS i1 dL_law_289 ?_
  refine lv_aload_n hx hb dL_law_290 rfl (lv_at hl 0 rfl) ?_
  refine lv_iload_n hx hb dL_law_291 rfl (lv_at hl 3 rfl) ?_
  refine lv_iconst (v := 2) hx hb dL_law_292 (by decide) ?_
  refine lv_iadd hx hb dL_law_293 ?_
  refine va_sld hx hb hX hbl hbA hS i2 dL_law_294 ?_
  refine m_calli (va_runV (As := [.int (xs (x3 + 1).toNatClampNeg), .int (xs (x3 + 2).toNatClampNeg)]) (rest := [.int v]) ⟨hx, hb, hml, hown, hts⟩ (c_X6_bench l G e2) (cwV 2 hts gl_X6_bench rfl rfl rfl hdl_X6_bench ⟨Nat.le_of_ble_eq_true rfl, Nat.le_of_ble_eq_true rfl⟩) (m_preV (ci := 5) hK hM rfl (isO6 lm)) rfl rfl hl.1 rfl (lv_room (Nat.le_of_ble_eq_true rfl)) dL_law_295 ⟨by show cells + 0 + _ ≤ 600000; omega, by show slots + 0 + _ ≤ 7302250; omega⟩) hL (fun H locs hM hL => ?_)
  have hM : mP G (Wd b r S O μ) H := hM
  refine lv_icmp_eq (tgt := 1515) hx hb dL_law_298 (by decide) (fun _ => ?_) (fun q => absurd rfl q)
  exact K _ _ _ _ _ _ _ R hM hL (by omega) (by omega)
set_option maxHeartbeats 4000000 in
theorem cs_feed {p : Program} {l : Launch} {e : Env} {s : State} {m : MethodId} {below : List Frame} {meth : Method} {c : Code} {bs L : Nat} {xs : Nat → Int32} {G : mG} {b r : Nat} {S : XS} {O : MS} {μ : mS} {H : Heap} {locs : List Loc} {cells slots : Nat} {Q : State → Prop} {ls : Array Slot} {x3 : Int32} (C : LCtx p s m meth c bs L xs G) (hl : lv_has ls 4 [(0, .ref bs), (1, .ref b), (2, .ref r), (3, .int x3)]) (h6 : hin6 x3 L) (R : Rlw b r S O μ) (hM : mP G (Wd b r S O μ) H) (hL : mL G locs) (hc : cells + 2 ≤ 600000) (hs : slots + 164 ≤ 7302250) (K : LNext p l e s m bs below meth c G b r ls cells slots Q) : W p l e room_1 s m #[Value.ref bs] below meth c H locs cells slots Q (F0 m 303 ls []) := by
  obtain ⟨hx, hb, hml, hown, hts, hX, hbl, hbA, hK⟩ := C.get
  obtain ⟨i1, i2, i3, i4, i5, i6⟩ := h6
  have lm := R.lm
  obtain ⟨v, S', O', μ', e1, e2, R'⟩ := (k_feed (xs (x3 + 1).toNatClampNeg) (xs (x3 + 2).toNatClampNeg) (xs (x3 + 3).toNatClampNeg) (xs (x3 + 4).toNatClampNeg) (xs (x3 + 5).toNatClampNeg) (xs (x3 + 6).toNatClampNeg) : Call b r _ _) S O μ R
  have hS := C.S hM hL
  refine lv_aload_n hx hb dL_law_303 rfl (lv_at hl 1 rfl) ?_
  refine lv_aload_n hx hb dL_law_304 rfl (lv_at hl 0 rfl) ?_
  refine lv_iload_n hx hb dL_law_305 rfl (lv_at hl 3 rfl) ?_
  refine lv_iconst (v := 1) hx hb dL_law_306 (by decide) ?_
  refine lv_iadd hx hb dL_law_307 ?_
  refine va_sld hx hb hX hbl hbA hS i1 dL_law_308 ?_
  refine lv_aload_n hx hb dL_law_309 rfl (lv_at hl 0 rfl) ?_
  refine lv_iload_n hx hb dL_law_310 rfl (lv_at hl 3 rfl) ?_
  refine lv_iconst (v := 2) hx hb dL_law_311 (by decide) ?_
  refine lv_iadd hx hb dL_law_312 ?_
  refine va_sld hx hb hX hbl hbA hS i2 dL_law_313 ?_
  refine lv_aload_n hx hb dL_law_314 rfl (lv_at hl 0 rfl) ?_
  refine lv_iload_n hx hb dL_law_315 rfl (lv_at hl 3 rfl) ?_
  refine lv_iconst (v := 3) hx hb dL_law_316 (by decide) ?_
  refine lv_iadd hx hb dL_law_317 ?_
  refine va_sld hx hb hX hbl hbA hS i3 dL_law_318 ?_
  refine lv_aload_n hx hb dL_law_319 rfl (lv_at hl 0 rfl) ?_
  refine lv_iload_n hx hb dL_law_320 rfl (lv_at hl 3 rfl) ?_
  refine lv_iconst (v := 4) hx hb dL_law_321 (by decide) ?_
  refine lv_iadd hx hb dL_law_322 ?_
  refine va_sld hx hb hX hbl hbA hS i4 dL_law_323 ?_
  refine lv_aload_n hx hb dL_law_324 rfl (lv_at hl 0 rfl) ?_
  refine lv_iload_n hx hb dL_law_325 rfl (lv_at hl 3 rfl) ?_
  refine lv_iconst (v := 5) hx hb dL_law_326 (by decide) ?_
  refine lv_iadd hx hb dL_law_327 ?_
  refine va_sld hx hb hX hbl hbA hS i5 dL_law_328 ?_
  refine lv_aload_n hx hb dL_law_329 rfl (lv_at hl 0 rfl) ?_
  refine lv_iload_n hx hb dL_law_330 rfl (lv_at hl 3 rfl) ?_
  refine lv_bipush (v := 6) hx hb dL_law_331 (by decide) ?_
  refine lv_iadd hx hb dL_law_333 ?_
  refine va_sld hx hb hX hbl hbA hS i6 dL_law_334 ?_
  refine m_calli (va_runV (As := [.int (xs (x3 + 1).toNatClampNeg), .int (xs (x3 + 2).toNatClampNeg), .int (xs (x3 + 3).toNatClampNeg), .int (xs (x3 + 4).toNatClampNeg), .int (xs (x3 + 5).toNatClampNeg), .int (xs (x3 + 6).toNatClampNeg)]) (rest := []) ⟨hx, hb, hml, hown, hts⟩ (c_X5_feed l G e1) (cwV 6 hts gl_X5_feed rfl rfl rfl hdl_X5_feed ⟨Nat.le_of_ble_eq_true rfl, Nat.le_of_ble_eq_true rfl⟩) (m_preV (ci := 4) hK hM rfl isO5) rfl rfl hl.1 rfl (lv_room (Nat.le_of_ble_eq_true rfl)) dL_law_335 ⟨by show cells + _ ≤ 600000; omega, by show slots + _ ≤ 7302250; omega⟩) hL (fun H locs hM hL => ?_)
  have hM : mP G (Wd b r S' O μ') H := hM
  have hS := C.S hM hL
  refine lv_aload_n hx hb dL_law_338 rfl (lv_at hl 2 rfl) ?_
  refine lv_aload_n hx hb dL_law_339 rfl (lv_at hl 0 rfl) ?_
  refine lv_iload_n hx hb dL_law_340 rfl (lv_at hl 3 rfl) ?_
  refine lv_iconst (v := 1) hx hb dL_law_341 (by decide) ?_
  refine lv_iadd hx hb dL_law_342 ?_
  refine va_sld hx hb hX hbl hbA hS i1 dL_law_343 ?_
  refine lv_aload_n hx hb dL_law_344 rfl (lv_at hl 0 rfl) ?_
  refine lv_iload_n hx hb dL_law_345 rfl (lv_at hl 3 rfl) ?_
  refine lv_iconst (v := 2) hx hb dL_law_346 (by decide) ?_
  refine lv_iadd hx hb dL_law_347 ?_
  refine va_sld hx hb hX hbl hbA hS i2 dL_law_348 ?_
  refine lv_aload_n hx hb dL_law_349 rfl (lv_at hl 0 rfl) ?_
  refine lv_iload_n hx hb dL_law_350 rfl (lv_at hl 3 rfl) ?_
  refine lv_iconst (v := 3) hx hb dL_law_351 (by decide) ?_
  refine lv_iadd hx hb dL_law_352 ?_
  refine va_sld hx hb hX hbl hbA hS i3 dL_law_353 ?_
  refine lv_aload_n hx hb dL_law_354 rfl (lv_at hl 0 rfl) ?_
  refine lv_iload_n hx hb dL_law_355 rfl (lv_at hl 3 rfl) ?_
  refine lv_iconst (v := 4) hx hb dL_law_356 (by decide) ?_
  refine lv_iadd hx hb dL_law_357 ?_
  refine va_sld hx hb hX hbl hbA hS i4 dL_law_358 ?_
  refine lv_aload_n hx hb dL_law_359 rfl (lv_at hl 0 rfl) ?_
  refine lv_iload_n hx hb dL_law_360 rfl (lv_at hl 3 rfl) ?_
  refine lv_iconst (v := 5) hx hb dL_law_361 (by decide) ?_
  refine lv_iadd hx hb dL_law_362 ?_
  refine va_sld hx hb hX hbl hbA hS i5 dL_law_363 ?_
  refine lv_aload_n hx hb dL_law_364 rfl (lv_at hl 0 rfl) ?_
  refine lv_iload_n hx hb dL_law_365 rfl (lv_at hl 3 rfl) ?_
  refine lv_bipush (v := 6) hx hb dL_law_366 (by decide) ?_
  refine lv_iadd hx hb dL_law_368 ?_
  refine va_sld hx hb hX hbl hbA hS i6 dL_law_369 ?_
  refine m_calli (va_runV (As := [.int (xs (x3 + 1).toNatClampNeg), .int (xs (x3 + 2).toNatClampNeg), .int (xs (x3 + 3).toNatClampNeg), .int (xs (x3 + 4).toNatClampNeg), .int (xs (x3 + 5).toNatClampNeg), .int (xs (x3 + 6).toNatClampNeg)]) (rest := [.int v]) ⟨hx, hb, hml, hown, hts⟩ (c_X6_feed l G e2) (cwV 6 hts gl_X6_feed rfl rfl rfl hdl_X6_feed ⟨Nat.le_of_ble_eq_true rfl, Nat.le_of_ble_eq_true rfl⟩) (m_preV (ci := 5) hK hM rfl (isO6 lm)) rfl rfl hl.1 rfl (lv_room (Nat.le_of_ble_eq_true rfl)) dL_law_370 ⟨by show cells + 0 + _ ≤ 600000; omega, by show slots + 0 + _ ≤ 7302250; omega⟩) hL (fun H locs hM hL => ?_)
  have hM : mP G (Wd b r S' O' μ') H := hM
  refine lv_icmp_eq (tgt := 1515) hx hb dL_law_373 (by decide) (fun _ => ?_) (fun q => absurd rfl q)
  exact K _ _ _ _ _ _ _ R' hM hL (by omega) (by omega)
set_option maxHeartbeats 4000000 in
theorem cs_text {p : Program} {l : Launch} {e : Env} {s : State} {m : MethodId} {below : List Frame} {meth : Method} {c : Code} {bs L : Nat} {xs : Nat → Int32} {G : mG} {b r : Nat} {S : XS} {O : MS} {μ : mS} {H : Heap} {locs : List Loc} {cells slots : Nat} {Q : State → Prop} {ls : Array Slot} {x3 : Int32} (C : LCtx p s m meth c bs L xs G) (hl : lv_has ls 4 [(0, .ref bs), (1, .ref b), (2, .ref r), (3, .int x3)]) (h6 : hin6 x3 L) (R : Rlw b r S O μ) (hM : mP G (Wd b r S O μ) H) (hL : mL G locs) (hc : cells + 2 ≤ 600000) (hs : slots + 164 ≤ 7302250) (K : LNext p l e s m bs below meth c G b r ls cells slots Q) : W p l e room_1 s m #[Value.ref bs] below meth c H locs cells slots Q (F0 m 378 ls []) := by
  obtain ⟨hx, hb, hml, hown, hts, hX, hbl, hbA, hK⟩ := C.get
  obtain ⟨i1, i2, i3, i4, i5, i6⟩ := h6
  have lm := R.lm
  obtain ⟨v, S', O', μ', e1, e2, R'⟩ := (k_text : Call b r _ _) S O μ R
  have hS := C.S hM hL
  refine lv_aload_n hx hb dL_law_378 rfl (lv_at hl 1 rfl) ?_
  refine m_calli (va_runV (As := []) (rest := []) ⟨hx, hb, hml, hown, hts⟩ (c_X5_text l G e1) (cwV 0 hts gl_X5_text rfl rfl rfl hdl_X5_text ⟨Nat.le_of_ble_eq_true rfl, Nat.le_of_ble_eq_true rfl⟩) (m_preV (ci := 4) hK hM rfl isO5) rfl rfl hl.1 rfl (lv_room (Nat.le_of_ble_eq_true rfl)) dL_law_379 ⟨by show cells + _ ≤ 600000; omega, by show slots + _ ≤ 7302250; omega⟩) hL (fun H locs hM hL => ?_)
  have hM : mP G (Wd b r S' O μ') H := hM
  have hS := C.S hM hL
  refine lv_aload_n hx hb dL_law_382 rfl (lv_at hl 2 rfl) ?_
  refine m_calli (va_runV (As := []) (rest := [.int v]) ⟨hx, hb, hml, hown, hts⟩ (c_X6_text l G e2) (cwV 0 hts gl_X6_text rfl rfl rfl hdl_X6_text ⟨Nat.le_of_ble_eq_true rfl, Nat.le_of_ble_eq_true rfl⟩) (m_preV (ci := 5) hK hM rfl (isO6 lm)) rfl rfl hl.1 rfl (lv_room (Nat.le_of_ble_eq_true rfl)) dL_law_383 ⟨by show cells + 2 + _ ≤ 600000; omega, by show slots + 164 + _ ≤ 7302250; omega⟩) hL (fun H locs hM hL => ?_)
  have hM : mP G (Wd b r S' O' μ') H := hM
  refine lv_icmp_eq (tgt := 1515) hx hb dL_law_386 (by decide) (fun _ => ?_) (fun q => absurd rfl q)
  exact K _ _ _ _ _ _ _ R' hM hL (by omega) (by omega)
set_option maxHeartbeats 4000000 in
theorem cs_force {p : Program} {l : Launch} {e : Env} {s : State} {m : MethodId} {below : List Frame} {meth : Method} {c : Code} {bs L : Nat} {xs : Nat → Int32} {G : mG} {b r : Nat} {S : XS} {O : MS} {μ : mS} {H : Heap} {locs : List Loc} {cells slots : Nat} {Q : State → Prop} {ls : Array Slot} {x3 : Int32} (C : LCtx p s m meth c bs L xs G) (hl : lv_has ls 4 [(0, .ref bs), (1, .ref b), (2, .ref r), (3, .int x3)]) (h6 : hin6 x3 L) (R : Rlw b r S O μ) (hM : mP G (Wd b r S O μ) H) (hL : mL G locs) (hc : cells + 2 ≤ 600000) (hs : slots + 164 ≤ 7302250) (K : LNext p l e s m bs below meth c G b r ls cells slots Q) : W p l e room_1 s m #[Value.ref bs] below meth c H locs cells slots Q (F0 m 391 ls []) := by
  obtain ⟨hx, hb, hml, hown, hts, hX, hbl, hbA, hK⟩ := C.get
  obtain ⟨i1, i2, i3, i4, i5, i6⟩ := h6
  have lm := R.lm
  obtain ⟨v, S', O', μ', e1, e2, R'⟩ := (k_force (xs (x3 + 1).toNatClampNeg) : Call b r _ _) S O μ R
  have hS := C.S hM hL
  refine lv_aload_n hx hb dL_law_391 rfl (lv_at hl 1 rfl) ?_
  refine lv_aload_n hx hb dL_law_392 rfl (lv_at hl 0 rfl) ?_
  refine lv_iload_n hx hb dL_law_393 rfl (lv_at hl 3 rfl) ?_
  refine lv_iconst (v := 1) hx hb dL_law_394 (by decide) ?_
  refine lv_iadd hx hb dL_law_395 ?_
  refine va_sld hx hb hX hbl hbA hS i1 dL_law_396 ?_
  refine m_calli (va_runV (As := [.int (xs (x3 + 1).toNatClampNeg)]) (rest := []) ⟨hx, hb, hml, hown, hts⟩ (c_X5_force l G e1) (cwV 1 hts gl_X5_force rfl rfl rfl hdl_X5_force ⟨Nat.le_of_ble_eq_true rfl, Nat.le_of_ble_eq_true rfl⟩) (m_preV (ci := 4) hK hM rfl isO5) rfl rfl hl.1 rfl (lv_room (Nat.le_of_ble_eq_true rfl)) dL_law_397 ⟨by show cells + _ ≤ 600000; omega, by show slots + _ ≤ 7302250; omega⟩) hL (fun H locs hM hL => ?_)
  have hM : mP G (Wd b r S' O μ') H := hM
  have hS := C.S hM hL
  refine lv_aload_n hx hb dL_law_400 rfl (lv_at hl 2 rfl) ?_
  refine lv_aload_n hx hb dL_law_401 rfl (lv_at hl 0 rfl) ?_
  refine lv_iload_n hx hb dL_law_402 rfl (lv_at hl 3 rfl) ?_
  refine lv_iconst (v := 1) hx hb dL_law_403 (by decide) ?_
  refine lv_iadd hx hb dL_law_404 ?_
  refine va_sld hx hb hX hbl hbA hS i1 dL_law_405 ?_
  refine m_calli (va_runV (As := [.int (xs (x3 + 1).toNatClampNeg)]) (rest := [.int v]) ⟨hx, hb, hml, hown, hts⟩ (c_X6_force l G e2) (cwV 1 hts gl_X6_force rfl rfl rfl hdl_X6_force ⟨Nat.le_of_ble_eq_true rfl, Nat.le_of_ble_eq_true rfl⟩) (m_preV (ci := 5) hK hM rfl (isO6 lm)) rfl rfl hl.1 rfl (lv_room (Nat.le_of_ble_eq_true rfl)) dL_law_406 ⟨by show cells + 0 + _ ≤ 600000; omega, by show slots + 0 + _ ≤ 7302250; omega⟩) hL (fun H locs hM hL => ?_)
  have hM : mP G (Wd b r S' O' μ') H := hM
  refine lv_icmp_eq (tgt := 1515) hx hb dL_law_409 (by decide) (fun _ => ?_) (fun q => absurd rfl q)
  exact K _ _ _ _ _ _ _ R' hM hL (by omega) (by omega)
set_option maxHeartbeats 4000000 in
theorem cs_asks {p : Program} {l : Launch} {e : Env} {s : State} {m : MethodId} {below : List Frame} {meth : Method} {c : Code} {bs L : Nat} {xs : Nat → Int32} {G : mG} {b r : Nat} {S : XS} {O : MS} {μ : mS} {H : Heap} {locs : List Loc} {cells slots : Nat} {Q : State → Prop} {ls : Array Slot} {x3 : Int32} (C : LCtx p s m meth c bs L xs G) (hl : lv_has ls 4 [(0, .ref bs), (1, .ref b), (2, .ref r), (3, .int x3)]) (h6 : hin6 x3 L) (R : Rlw b r S O μ) (hM : mP G (Wd b r S O μ) H) (hL : mL G locs) (hc : cells + 2 ≤ 600000) (hs : slots + 164 ≤ 7302250) (K : LNext p l e s m bs below meth c G b r ls cells slots Q) : W p l e room_1 s m #[Value.ref bs] below meth c H locs cells slots Q (F0 m 414 ls []) := by
  obtain ⟨hx, hb, hml, hown, hts, hX, hbl, hbA, hK⟩ := C.get
  obtain ⟨i1, i2, i3, i4, i5, i6⟩ := h6
  have lm := R.lm
  obtain ⟨v, S', O', μ', e1, e2, R'⟩ := (k_asks (xs (x3 + 1).toNatClampNeg) (xs (x3 + 2).toNatClampNeg) : Call b r _ _) S O μ R
  have hS := C.S hM hL
  refine lv_aload_n hx hb dL_law_414 rfl (lv_at hl 1 rfl) ?_
  refine lv_aload_n hx hb dL_law_415 rfl (lv_at hl 0 rfl) ?_
  refine lv_iload_n hx hb dL_law_416 rfl (lv_at hl 3 rfl) ?_
  refine lv_iconst (v := 1) hx hb dL_law_417 (by decide) ?_
  refine lv_iadd hx hb dL_law_418 ?_
  refine va_sld hx hb hX hbl hbA hS i1 dL_law_419 ?_
  refine lv_aload_n hx hb dL_law_420 rfl (lv_at hl 0 rfl) ?_
  refine lv_iload_n hx hb dL_law_421 rfl (lv_at hl 3 rfl) ?_
  refine lv_iconst (v := 2) hx hb dL_law_422 (by decide) ?_
  refine lv_iadd hx hb dL_law_423 ?_
  refine va_sld hx hb hX hbl hbA hS i2 dL_law_424 ?_
  refine m_calli (va_runV (As := [.int (xs (x3 + 1).toNatClampNeg), .int (xs (x3 + 2).toNatClampNeg)]) (rest := []) ⟨hx, hb, hml, hown, hts⟩ (c_X5_asks l G e1) (cwV 2 hts gl_X5_asks rfl rfl rfl hdl_X5_asks ⟨Nat.le_of_ble_eq_true rfl, Nat.le_of_ble_eq_true rfl⟩) (m_preV (ci := 4) hK hM rfl isO5) rfl rfl hl.1 rfl (lv_room (Nat.le_of_ble_eq_true rfl)) dL_law_425 ⟨by show cells + _ ≤ 600000; omega, by show slots + _ ≤ 7302250; omega⟩) hL (fun H locs hM hL => ?_)
  have hM : mP G (Wd b r S' O μ') H := hM
  have hS := C.S hM hL
  refine lv_aload_n hx hb dL_law_428 rfl (lv_at hl 2 rfl) ?_
  refine lv_aload_n hx hb dL_law_429 rfl (lv_at hl 0 rfl) ?_
  refine lv_iload_n hx hb dL_law_430 rfl (lv_at hl 3 rfl) ?_
  refine lv_iconst (v := 1) hx hb dL_law_431 (by decide) ?_
  refine lv_iadd hx hb dL_law_432 ?_
  refine va_sld hx hb hX hbl hbA hS i1 dL_law_433 ?_
  refine lv_aload_n hx hb dL_law_434 rfl (lv_at hl 0 rfl) ?_
  refine lv_iload_n hx hb dL_law_435 rfl (lv_at hl 3 rfl) ?_
  refine lv_iconst (v := 2) hx hb dL_law_436 (by decide) ?_
  refine lv_iadd hx hb dL_law_437 ?_
  refine va_sld hx hb hX hbl hbA hS i2 dL_law_438 ?_
  refine m_calli (va_runV (As := [.int (xs (x3 + 1).toNatClampNeg), .int (xs (x3 + 2).toNatClampNeg)]) (rest := [.int v]) ⟨hx, hb, hml, hown, hts⟩ (c_X6_asks l G e2) (cwV 2 hts gl_X6_asks rfl rfl rfl hdl_X6_asks ⟨Nat.le_of_ble_eq_true rfl, Nat.le_of_ble_eq_true rfl⟩) (m_preV (ci := 5) hK hM rfl (isO6 lm)) rfl rfl hl.1 rfl (lv_room (Nat.le_of_ble_eq_true rfl)) dL_law_439 ⟨by show cells + 0 + _ ≤ 600000; omega, by show slots + 0 + _ ≤ 7302250; omega⟩) hL (fun H locs hM hL => ?_)
  have hM : mP G (Wd b r S' O' μ') H := hM
  refine lv_icmp_eq (tgt := 1515) hx hb dL_law_442 (by decide) (fun _ => ?_) (fun q => absurd rfl q)
  exact K _ _ _ _ _ _ _ R' hM hL (by omega) (by omega)
set_option maxHeartbeats 4000000 in
theorem cs_witness {p : Program} {l : Launch} {e : Env} {s : State} {m : MethodId} {below : List Frame} {meth : Method} {c : Code} {bs L : Nat} {xs : Nat → Int32} {G : mG} {b r : Nat} {S : XS} {O : MS} {μ : mS} {H : Heap} {locs : List Loc} {cells slots : Nat} {Q : State → Prop} {ls : Array Slot} {x3 : Int32} (C : LCtx p s m meth c bs L xs G) (hl : lv_has ls 4 [(0, .ref bs), (1, .ref b), (2, .ref r), (3, .int x3)]) (h6 : hin6 x3 L) (R : Rlw b r S O μ) (hM : mP G (Wd b r S O μ) H) (hL : mL G locs) (hc : cells + 2 ≤ 600000) (hs : slots + 164 ≤ 7302250) (K : LNext p l e s m bs below meth c G b r ls cells slots Q) : W p l e room_1 s m #[Value.ref bs] below meth c H locs cells slots Q (F0 m 447 ls []) := by
  obtain ⟨hx, hb, hml, hown, hts, hX, hbl, hbA, hK⟩ := C.get
  obtain ⟨i1, i2, i3, i4, i5, i6⟩ := h6
  have lm := R.lm
  obtain ⟨v, S', O', μ', e1, e2, R'⟩ := (k_witness (xs (x3 + 1).toNatClampNeg) (xs (x3 + 2).toNatClampNeg) (xs (x3 + 3).toNatClampNeg) : Call b r _ _) S O μ R
  have hS := C.S hM hL
  refine lv_aload_n hx hb dL_law_447 rfl (lv_at hl 1 rfl) ?_
  refine lv_aload_n hx hb dL_law_448 rfl (lv_at hl 0 rfl) ?_
  refine lv_iload_n hx hb dL_law_449 rfl (lv_at hl 3 rfl) ?_
  refine lv_iconst (v := 1) hx hb dL_law_450 (by decide) ?_
  refine lv_iadd hx hb dL_law_451 ?_
  refine va_sld hx hb hX hbl hbA hS i1 dL_law_452 ?_
  refine lv_aload_n hx hb dL_law_453 rfl (lv_at hl 0 rfl) ?_
  refine lv_iload_n hx hb dL_law_454 rfl (lv_at hl 3 rfl) ?_
  refine lv_iconst (v := 2) hx hb dL_law_455 (by decide) ?_
  refine lv_iadd hx hb dL_law_456 ?_
  refine va_sld hx hb hX hbl hbA hS i2 dL_law_457 ?_
  refine lv_aload_n hx hb dL_law_458 rfl (lv_at hl 0 rfl) ?_
  refine lv_iload_n hx hb dL_law_459 rfl (lv_at hl 3 rfl) ?_
  refine lv_iconst (v := 3) hx hb dL_law_460 (by decide) ?_
  refine lv_iadd hx hb dL_law_461 ?_
  refine va_sld hx hb hX hbl hbA hS i3 dL_law_462 ?_
  refine m_calli (va_runV (As := [.int (xs (x3 + 1).toNatClampNeg), .int (xs (x3 + 2).toNatClampNeg), .int (xs (x3 + 3).toNatClampNeg)]) (rest := []) ⟨hx, hb, hml, hown, hts⟩ (c_X5_witness l G e1) (cwV 3 hts gl_X5_witness rfl rfl rfl hdl_X5_witness ⟨Nat.le_of_ble_eq_true rfl, Nat.le_of_ble_eq_true rfl⟩) (m_preV (ci := 4) hK hM rfl isO5) rfl rfl hl.1 rfl (lv_room (Nat.le_of_ble_eq_true rfl)) dL_law_463 ⟨by show cells + _ ≤ 600000; omega, by show slots + _ ≤ 7302250; omega⟩) hL (fun H locs hM hL => ?_)
  have hM : mP G (Wd b r S' O μ') H := hM
  have hS := C.S hM hL
  refine lv_aload_n hx hb dL_law_466 rfl (lv_at hl 2 rfl) ?_
  refine lv_aload_n hx hb dL_law_467 rfl (lv_at hl 0 rfl) ?_
  refine lv_iload_n hx hb dL_law_468 rfl (lv_at hl 3 rfl) ?_
  refine lv_iconst (v := 1) hx hb dL_law_469 (by decide) ?_
  refine lv_iadd hx hb dL_law_470 ?_
  refine va_sld hx hb hX hbl hbA hS i1 dL_law_471 ?_
  refine lv_aload_n hx hb dL_law_472 rfl (lv_at hl 0 rfl) ?_
  refine lv_iload_n hx hb dL_law_473 rfl (lv_at hl 3 rfl) ?_
  refine lv_iconst (v := 2) hx hb dL_law_474 (by decide) ?_
  refine lv_iadd hx hb dL_law_475 ?_
  refine va_sld hx hb hX hbl hbA hS i2 dL_law_476 ?_
  refine lv_aload_n hx hb dL_law_477 rfl (lv_at hl 0 rfl) ?_
  refine lv_iload_n hx hb dL_law_478 rfl (lv_at hl 3 rfl) ?_
  refine lv_iconst (v := 3) hx hb dL_law_479 (by decide) ?_
  refine lv_iadd hx hb dL_law_480 ?_
  refine va_sld hx hb hX hbl hbA hS i3 dL_law_481 ?_
  refine m_calli (va_runV (As := [.int (xs (x3 + 1).toNatClampNeg), .int (xs (x3 + 2).toNatClampNeg), .int (xs (x3 + 3).toNatClampNeg)]) (rest := [.int v]) ⟨hx, hb, hml, hown, hts⟩ (c_X6_witness l G e2) (cwV 3 hts gl_X6_witness rfl rfl rfl hdl_X6_witness ⟨Nat.le_of_ble_eq_true rfl, Nat.le_of_ble_eq_true rfl⟩) (m_preV (ci := 5) hK hM rfl (isO6 lm)) rfl rfl hl.1 rfl (lv_room (Nat.le_of_ble_eq_true rfl)) dL_law_482 ⟨by show cells + 0 + _ ≤ 600000; omega, by show slots + 0 + _ ≤ 7302250; omega⟩) hL (fun H locs hM hL => ?_)
  have hM : mP G (Wd b r S' O' μ') H := hM
  refine lv_icmp_eq (tgt := 1515) hx hb dL_law_485 (by decide) (fun _ => ?_) (fun q => absurd rfl q)
  exact K _ _ _ _ _ _ _ R' hM hL (by omega) (by omega)
