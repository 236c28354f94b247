set_option maxHeartbeats 4000000 in
theorem cs_image {p : Program} {l : Launch} {e : Env} {s : State} {m : MethodId} {below : List Frame} {meth : Method} {c : Code} {bs L : Nat} {xs : Nat → Int32} {G : mG} {b r : Nat} {S : XS} {O : MS} {μ : mS} {H : Heap} {locs : List Loc} {cells slots : Nat} {Q : State → Prop} {ls : Array Slot} {x3 : Int32} (C : LCtx p s m meth c bs L xs G) (hl : lv_has ls 4 [(0, .ref bs), (1, .ref b), (2, .ref r), (3, .int x3)]) (h6 : hin6 x3 L) (R : Rlw b r S O μ) (hM : mP G (Wd b r S O μ) H) (hL : mL G locs) (hc : cells + 2 ≤ 600000) (hs : slots + 164 ≤ 7302250) (K : LNext p l e s m bs below meth c G b r ls cells slots Q) : W p l e room_1 s m #[Value.ref bs] below meth c H locs cells slots Q (F0 m 1254 ls []) := by
  obtain ⟨hx, hb, hml, hown, hts, hX, hbl, hbA, hK⟩ := C.get
  obtain ⟨i1, i2, i3, i4, i5, i6⟩ := h6
  have lm := R.lm
  obtain ⟨v, S', O', μ', e1, e2, R'⟩ := (k_image : Call b r _ _) S O μ R
  have hS := C.S hM hL
  refine lv_aload_n hx hb dL_law_1254 rfl (lv_at hl 1 rfl) ?_
  refine m_calli (va_runV (As := []) (rest := []) ⟨hx, hb, hml, hown, hts⟩ (c_X5_image l G e1) (cwV 0 hts gl_X5_image rfl rfl rfl hdl_X5_image ⟨Nat.le_of_ble_eq_true rfl, Nat.le_of_ble_eq_true rfl⟩) (m_preV (ci := 4) hK hM rfl isO5) rfl rfl hl.1 rfl (lv_room (Nat.le_of_ble_eq_true rfl)) dL_law_1255 ⟨by show cells + _ ≤ 600000; omega, by show slots + _ ≤ 7302250; omega⟩) hL (fun H locs hM hL => ?_)
  have hM : mP G (Wd b r S' O μ') H := hM
  have hS := C.S hM hL
  refine lv_aload_n hx hb dL_law_1258 rfl (lv_at hl 2 rfl) ?_
  refine m_calli (va_runV (As := []) (rest := [.int v]) ⟨hx, hb, hml, hown, hts⟩ (c_X6_image l G e2) (cwV 0 hts gl_X6_image rfl rfl rfl hdl_X6_image ⟨Nat.le_of_ble_eq_true rfl, Nat.le_of_ble_eq_true rfl⟩) (m_preV (ci := 5) hK hM rfl (isO6 lm)) rfl rfl hl.1 rfl (lv_room (Nat.le_of_ble_eq_true rfl)) dL_law_1259 ⟨by show cells + 0 + _ ≤ 600000; omega, by show slots + 0 + _ ≤ 7302250; omega⟩) hL (fun H locs hM hL => ?_)
  have hM : mP G (Wd b r S' O' μ') H := hM
  refine lv_icmp_eq (tgt := 1515) hx hb dL_law_1262 (by decide) (fun _ => ?_) (fun q => absurd rfl q)
  exact K _ _ _ _ _ _ _ R' hM hL (by omega) (by omega)
set_option maxHeartbeats 4000000 in
theorem cs_back {p : Program} {l : Launch} {e : Env} {s : State} {m : MethodId} {below : List Frame} {meth : Method} {c : Code} {bs L : Nat} {xs : Nat → Int32} {G : mG} {b r : Nat} {S : XS} {O : MS} {μ : mS} {H : Heap} {locs : List Loc} {cells slots : Nat} {Q : State → Prop} {ls : Array Slot} {x3 : Int32} (C : LCtx p s m meth c bs L xs G) (hl : lv_has ls 4 [(0, .ref bs), (1, .ref b), (2, .ref r), (3, .int x3)]) (h6 : hin6 x3 L) (R : Rlw b r S O μ) (hM : mP G (Wd b r S O μ) H) (hL : mL G locs) (hc : cells + 2 ≤ 600000) (hs : slots + 164 ≤ 7302250) (K : LNext p l e s m bs below meth c G b r ls cells slots Q) : W p l e room_1 s m #[Value.ref bs] below meth c H locs cells slots Q (F0 m 1267 ls []) := by
  obtain ⟨hx, hb, hml, hown, hts, hX, hbl, hbA, hK⟩ := C.get
  obtain ⟨i1, i2, i3, i4, i5, i6⟩ := h6
  have lm := R.lm
  obtain ⟨v, S', O', μ', e1, e2, R'⟩ := (k_back : Call b r _ _) S O μ R
  have hS := C.S hM hL
  refine lv_aload_n hx hb dL_law_1267 rfl (lv_at hl 1 rfl) ?_
  refine m_calli (va_runV (As := []) (rest := []) ⟨hx, hb, hml, hown, hts⟩ (c_X5_back l G e1) (cwV 0 hts gl_X5_back rfl rfl rfl hdl_X5_back ⟨Nat.le_of_ble_eq_true rfl, Nat.le_of_ble_eq_true rfl⟩) (m_preV (ci := 4) hK hM rfl isO5) rfl rfl hl.1 rfl (lv_room (Nat.le_of_ble_eq_true rfl)) dL_law_1268 ⟨by show cells + _ ≤ 600000; omega, by show slots + _ ≤ 7302250; omega⟩) hL (fun H locs hM hL => ?_)
  have hM : mP G (Wd b r S' O μ') H := hM
  have hS := C.S hM hL
  refine lv_aload_n hx hb dL_law_1271 rfl (lv_at hl 2 rfl) ?_
  refine m_calli (va_runV (As := []) (rest := [.int v]) ⟨hx, hb, hml, hown, hts⟩ (c_X6_back l G e2) (cwV 0 hts gl_X6_back rfl rfl rfl hdl_X6_back ⟨Nat.le_of_ble_eq_true rfl, Nat.le_of_ble_eq_true rfl⟩) (m_preV (ci := 5) hK hM rfl (isO6 lm)) rfl rfl hl.1 rfl (lv_room (Nat.le_of_ble_eq_true rfl)) dL_law_1272 ⟨by show cells + 0 + _ ≤ 600000; omega, by show slots + 0 + _ ≤ 7302250; omega⟩) hL (fun H locs hM hL => ?_)
  have hM : mP G (Wd b r S' O' μ') H := hM
  refine lv_icmp_eq (tgt := 1515) hx hb dL_law_1275 (by decide) (fun _ => ?_) (fun q => absurd rfl q)
  exact K _ _ _ _ _ _ _ R' hM hL (by omega) (by omega)
set_option maxHeartbeats 4000000 in
theorem cs_sheet {p : Program} {l : Launch} {e : Env} {s : State} {m : MethodId} {below : List Frame} {meth : Method} {c : Code} {bs L : Nat} {xs : Nat → Int32} {G : mG} {b r : Nat} {S : XS} {O : MS} {μ : mS} {H : Heap} {locs : List Loc} {cells slots : Nat} {Q : State → Prop} {ls : Array Slot} {x3 : Int32} (C : LCtx p s m meth c bs L xs G) (hl : lv_has ls 4 [(0, .ref bs), (1, .ref b), (2, .ref r), (3, .int x3)]) (h6 : hin6 x3 L) (R : Rlw b r S O μ) (hM : mP G (Wd b r S O μ) H) (hL : mL G locs) (hc : cells + 2 ≤ 600000) (hs : slots + 164 ≤ 7302250) (K : LNext p l e s m bs below meth c G b r ls cells slots Q) : W p l e room_1 s m #[Value.ref bs] below meth c H locs cells slots Q (F0 m 1280 ls []) := by
  obtain ⟨hx, hb, hml, hown, hts, hX, hbl, hbA, hK⟩ := C.get
  obtain ⟨i1, i2, i3, i4, i5, i6⟩ := h6
  have lm := R.lm
  obtain ⟨v, S', O', μ', e1, e2, R'⟩ := (k_sheet (xs (x3 + 1).toNatClampNeg) (xs (x3 + 2).toNatClampNeg) (xs (x3 + 3).toNatClampNeg) : Call b r _ _) S O μ R
  have hS := C.S hM hL
  refine lv_aload_n hx hb dL_law_1280 rfl (lv_at hl 1 rfl) ?_
  refine lv_aload_n hx hb dL_law_1281 rfl (lv_at hl 0 rfl) ?_
  refine lv_iload_n hx hb dL_law_1282 rfl (lv_at hl 3 rfl) ?_
  refine lv_iconst (v := 1) hx hb dL_law_1283 (by decide) ?_
  refine lv_iadd hx hb dL_law_1284 ?_
  refine va_sld hx hb hX hbl hbA hS i1 dL_law_1285 ?_
  refine lv_aload_n hx hb dL_law_1286 rfl (lv_at hl 0 rfl) ?_
  refine lv_iload_n hx hb dL_law_1287 rfl (lv_at hl 3 rfl) ?_
  refine lv_iconst (v := 2) hx hb dL_law_1288 (by decide) ?_
  refine lv_iadd hx hb dL_law_1289 ?_
  refine va_sld hx hb hX hbl hbA hS i2 dL_law_1290 ?_
  refine lv_aload_n hx hb dL_law_1291 rfl (lv_at hl 0 rfl) ?_
  refine lv_iload_n hx hb dL_law_1292 rfl (lv_at hl 3 rfl) ?_
  refine lv_iconst (v := 3) hx hb dL_law_1293 (by decide) ?_
  refine lv_iadd hx hb dL_law_1294 ?_
  refine va_sld hx hb hX hbl hbA hS i3 dL_law_1295 ?_
  refine m_calli (va_runV (As := [.int (xs (x3 + 1).toNatClampNeg), .int (xs (x3 + 2).toNatClampNeg), .int (xs (x3 + 3).toNatClampNeg)]) (rest := []) ⟨hx, hb, hml, hown, hts⟩ (c_X5_sheet l G e1) (cwV 3 hts gl_X5_sheet rfl rfl rfl hdl_X5_sheet ⟨Nat.le_of_ble_eq_true rfl, Nat.le_of_ble_eq_true rfl⟩) (m_preV (ci := 4) hK hM rfl isO5) rfl rfl hl.1 rfl (lv_room (Nat.le_of_ble_eq_true rfl)) dL_law_1296 ⟨by show cells + _ ≤ 600000; omega, by show slots + _ ≤ 7302250; omega⟩) hL (fun H locs hM hL => ?_)
  have hM : mP G (Wd b r S' O μ') H := hM
  have hS := C.S hM hL
  refine lv_aload_n hx hb dL_law_1299 rfl (lv_at hl 2 rfl) ?_
  refine lv_aload_n hx hb dL_law_1300 rfl (lv_at hl 0 rfl) ?_
  refine lv_iload_n hx hb dL_law_1301 rfl (lv_at hl 3 rfl) ?_
  refine lv_iconst (v := 1) hx hb dL_law_1302 (by decide) ?_
  refine lv_iadd hx hb dL_law_1303 ?_
  refine va_sld hx hb hX hbl hbA hS i1 dL_law_1304 ?_
  refine lv_aload_n hx hb dL_law_1305 rfl (lv_at hl 0 rfl) ?_
  refine lv_iload_n hx hb dL_law_1306 rfl (lv_at hl 3 rfl) ?_
  refine lv_iconst (v := 2) hx hb dL_law_1307 (by decide) ?_
  refine lv_iadd hx hb dL_law_1308 ?_
  refine va_sld hx hb hX hbl hbA hS i2 dL_law_1309 ?_
  refine lv_aload_n hx hb dL_law_1310 rfl (lv_at hl 0 rfl) ?_
  refine lv_iload_n hx hb dL_law_1311 rfl (lv_at hl 3 rfl) ?_
  refine lv_iconst (v := 3) hx hb dL_law_1312 (by decide) ?_
  refine lv_iadd hx hb dL_law_1313 ?_
  refine va_sld hx hb hX hbl hbA hS i3 dL_law_1314 ?_
  refine m_calli (va_runV (As := [.int (xs (x3 + 1).toNatClampNeg), .int (xs (x3 + 2).toNatClampNeg), .int (xs (x3 + 3).toNatClampNeg)]) (rest := [.int v]) ⟨hx, hb, hml, hown, hts⟩ (c_X6_sheet l G e2) (cwV 3 hts gl_X6_sheet rfl rfl rfl hdl_X6_sheet ⟨Nat.le_of_ble_eq_true rfl, Nat.le_of_ble_eq_true rfl⟩) (m_preV (ci := 5) hK hM rfl (isO6 lm)) rfl rfl hl.1 rfl (lv_room (Nat.le_of_ble_eq_true rfl)) dL_law_1315 ⟨by show cells + 0 + _ ≤ 600000; omega, by show slots + 0 + _ ≤ 7302250; omega⟩) hL (fun H locs hM hL => ?_)
  have hM : mP G (Wd b r S' O' μ') H := hM
  refine lv_icmp_eq (tgt := 1515) hx hb dL_law_1318 (by decide) (fun _ => ?_) (fun q => absurd rfl q)
  exact K _ _ _ _ _ _ _ R' hM hL (by omega) (by omega)
set_option maxHeartbeats 4000000 in
theorem cs_cell {p : Program} {l : Launch} {e : Env} {s : State} {m : MethodId} {below : List Frame} {meth : Method} {c : Code} {bs L : Nat} {xs : Nat → Int32} {G : mG} {b r : Nat} {S : XS} {O : MS} {μ : mS} {H : Heap} {locs : List Loc} {cells slots : Nat} {Q : State → Prop} {ls : Array Slot} {x3 : Int32} (C : LCtx p s m meth c bs L xs G) (hl : lv_has ls 4 [(0, .ref bs), (1, .ref b), (2, .ref r), (3, .int x3)]) (h6 : hin6 x3 L) (R : Rlw b r S O μ) (hM : mP G (Wd b r S O μ) H) (hL : mL G locs) (hc : cells + 2 ≤ 600000) (hs : slots + 164 ≤ 7302250) (K : LNext p l e s m bs below meth c G b r ls cells slots Q) : W p l e room_1 s m #[Value.ref bs] below meth c H locs cells slots Q (F0 m 1323 ls []) := by
  obtain ⟨hx, hb, hml, hown, hts, hX, hbl, hbA, hK⟩ := C.get
  obtain ⟨i1, i2, i3, i4, i5, i6⟩ := h6
  have lm := R.lm
  obtain ⟨v, S', O', μ', e1, e2, R'⟩ := (k_cell (xs (x3 + 1).toNatClampNeg) (xs (x3 + 2).toNatClampNeg) (xs (x3 + 3).toNatClampNeg) : Call b r _ _) S O μ R
  have hS := C.S hM hL
  refine lv_aload_n hx hb dL_law_1323 rfl (lv_at hl 1 rfl) ?_
  refine lv_aload_n hx hb dL_law_1324 rfl (lv_at hl 0 rfl) ?_
  refine lv_iload_n hx hb dL_law_1325 rfl (lv_at hl 3 rfl) ?_
  refine lv_iconst (v := 1) hx hb dL_law_1326 (by decide) ?_
  refine lv_iadd hx hb dL_law_1327 ?_
  refine va_sld hx hb hX hbl hbA hS i1 dL_law_1328 ?_
  refine lv_aload_n hx hb dL_law_1329 rfl (lv_at hl 0 rfl) ?_
  refine lv_iload_n hx hb dL_law_1330 rfl (lv_at hl 3 rfl) ?_
  refine lv_iconst (v := 2) hx hb dL_law_1331 (by decide) ?_
  refine lv_iadd hx hb dL_law_1332 ?_
  refine va_sld hx hb hX hbl hbA hS i2 dL_law_1333 ?_
  refine lv_aload_n hx hb dL_law_1334 rfl (lv_at hl 0 rfl) ?_
  refine lv_iload_n hx hb dL_law_1335 rfl (lv_at hl 3 rfl) ?_
  refine lv_iconst (v := 3) hx hb dL_law_1336 (by decide) ?_
  refine lv_iadd hx hb dL_law_1337 ?_
  refine va_sld hx hb hX hbl hbA hS i3 dL_law_1338 ?_
  refine m_calli (va_runV (As := [.int (xs (x3 + 1).toNatClampNeg), .int (xs (x3 + 2).toNatClampNeg), .int (xs (x3 + 3).toNatClampNeg)]) (rest := []) ⟨hx, hb, hml, hown, hts⟩ (c_X5_cell l G e1) (cwV 3 hts gl_X5_cell rfl rfl rfl hdl_X5_cell ⟨Nat.le_of_ble_eq_true rfl, Nat.le_of_ble_eq_true rfl⟩) (m_preV (ci := 4) hK hM rfl isO5) rfl rfl hl.1 rfl (lv_room (Nat.le_of_ble_eq_true rfl)) dL_law_1339 ⟨by show cells + _ ≤ 600000; omega, by show slots + _ ≤ 7302250; omega⟩) hL (fun H locs hM hL => ?_)
  have hM : mP G (Wd b r S' O μ') H := hM
  have hS := C.S hM hL
  refine lv_aload_n hx hb dL_law_1342 rfl (lv_at hl 2 rfl) ?_
  refine lv_aload_n hx hb dL_law_1343 rfl (lv_at hl 0 rfl) ?_
  refine lv_iload_n hx hb dL_law_1344 rfl (lv_at hl 3 rfl) ?_
  refine lv_iconst (v := 1) hx hb dL_law_1345 (by decide) ?_
  refine lv_iadd hx hb dL_law_1346 ?_
  refine va_sld hx hb hX hbl hbA hS i1 dL_law_1347 ?_
  refine lv_aload_n hx hb dL_law_1348 rfl (lv_at hl 0 rfl) ?_
  refine lv_iload_n hx hb dL_law_1349 rfl (lv_at hl 3 rfl) ?_
  refine lv_iconst (v := 2) hx hb dL_law_1350 (by decide) ?_
  refine lv_iadd hx hb dL_law_1351 ?_
  refine va_sld hx hb hX hbl hbA hS i2 dL_law_1352 ?_
  refine lv_aload_n hx hb dL_law_1353 rfl (lv_at hl 0 rfl) ?_
  refine lv_iload_n hx hb dL_law_1354 rfl (lv_at hl 3 rfl) ?_
  refine lv_iconst (v := 3) hx hb dL_law_1355 (by decide) ?_
  refine lv_iadd hx hb dL_law_1356 ?_
  refine va_sld hx hb hX hbl hbA hS i3 dL_law_1357 ?_
  refine m_calli (va_runV (As := [.int (xs (x3 + 1).toNatClampNeg), .int (xs (x3 + 2).toNatClampNeg), .int (xs (x3 + 3).toNatClampNeg)]) (rest := [.int v]) ⟨hx, hb, hml, hown, hts⟩ (c_X6_cell l G e2) (cwV 3 hts gl_X6_cell rfl rfl rfl hdl_X6_cell ⟨Nat.le_of_ble_eq_true rfl, Nat.le_of_ble_eq_true rfl⟩) (m_preV (ci := 5) hK hM rfl (isO6 lm)) rfl rfl hl.1 rfl (lv_room (Nat.le_of_ble_eq_true rfl)) dL_law_1358 ⟨by show cells + 0 + _ ≤ 600000; omega, by show slots + 0 + _ ≤ 7302250; omega⟩) hL (fun H locs hM hL => ?_)
  have hM : mP G (Wd b r S' O' μ') H := hM
  refine lv_icmp_eq (tgt := 1515) hx hb dL_law_1361 (by decide) (fun _ => ?_) (fun q => absurd rfl q)
  exact K _ _ _ _ _ _ _ R' hM hL (by omega) (by omega)
set_option maxHeartbeats 4000000 in
theorem cs_copy {p : Program} {l : Launch} {e : Env} {s : State} {m : MethodId} {below : List Frame} {meth : Method} {c : Code} {bs L : Nat} {xs : Nat → Int32} {G : mG} {b r : Nat} {S : XS} {O : MS} {μ : mS} {H : Heap} {locs : List Loc} {cells slots : Nat} {Q : State → Prop} {ls : Array Slot} {x3 : Int32} (C : LCtx p s m meth c bs L xs G) (hl : lv_has ls 4 [(0, .ref bs), (1, .ref b), (2, .ref r), (3, .int x3)]) (h6 : hin6 x3 L) (R : Rlw b r S O μ) (hM : mP G (Wd b r S O μ) H) (hL : mL G locs) (hc : cells + 2 ≤ 600000) (hs : slots + 164 ≤ 7302250) (K : LNext p l e s m bs below meth c G b r ls cells slots Q) : W p l e room_1 s m #[Value.ref bs] below meth c H locs cells slots Q (F0 m 1366 ls []) := by
  obtain ⟨hx, hb, hml, hown, hts, hX, hbl, hbA, hK⟩ := C.get
  obtain ⟨i1, i2, i3, i4, i5, i6⟩ := h6
  have lm := R.lm
  obtain ⟨v, S', O', μ', e1, e2, R'⟩ := (k_copy (xs (x3 + 1).toNatClampNeg) (xs (x3 + 2).toNatClampNeg) (xs (x3 + 3).toNatClampNeg) (xs (x3 + 4).toNatClampNeg) (xs (x3 + 5).toNatClampNeg) : Call b r _ _) S O μ R
  have hS := C.S hM hL
  refine lv_aload_n hx hb dL_law_1366 rfl (lv_at hl 1 rfl) ?_
  refine lv_aload_n hx hb dL_law_1367 rfl (lv_at hl 0 rfl) ?_
  refine lv_iload_n hx hb dL_law_1368 rfl (lv_at hl 3 rfl) ?_
  refine lv_iconst (v := 1) hx hb dL_law_1369 (by decide) ?_
  refine lv_iadd hx hb dL_law_1370 ?_
  refine va_sld hx hb hX hbl hbA hS i1 dL_law_1371 ?_
  refine lv_aload_n hx hb dL_law_1372 rfl (lv_at hl 0 rfl) ?_
  refine lv_iload_n hx hb dL_law_1373 rfl (lv_at hl 3 rfl) ?_
  refine lv_iconst (v := 2) hx hb dL_law_1374 (by decide) ?_
  refine lv_iadd hx hb dL_law_1375 ?_
  refine va_sld hx hb hX hbl hbA hS i2 dL_law_1376 ?_
  refine lv_aload_n hx hb dL_law_1377 rfl (lv_at hl 0 rfl) ?_
  refine lv_iload_n hx hb dL_law_1378 rfl (lv_at hl 3 rfl) ?_
  refine lv_iconst (v := 3) hx hb dL_law_1379 (by decide) ?_
  refine lv_iadd hx hb dL_law_1380 ?_
  refine va_sld hx hb hX hbl hbA hS i3 dL_law_1381 ?_
  refine lv_aload_n hx hb dL_law_1382 rfl (lv_at hl 0 rfl) ?_
  refine lv_iload_n hx hb dL_law_1383 rfl (lv_at hl 3 rfl) ?_
  refine lv_iconst (v := 4) hx hb dL_law_1384 (by decide) ?_
  refine lv_iadd hx hb dL_law_1385 ?_
  refine va_sld hx hb hX hbl hbA hS i4 dL_law_1386 ?_
  refine lv_aload_n hx hb dL_law_1387 rfl (lv_at hl 0 rfl) ?_
  refine lv_iload_n hx hb dL_law_1388 rfl (lv_at hl 3 rfl) ?_
  refine lv_iconst (v := 5) hx hb dL_law_1389 (by decide) ?_
  refine lv_iadd hx hb dL_law_1390 ?_
  refine va_sld hx hb hX hbl hbA hS i5 dL_law_1391 ?_
  refine m_calli (va_runV (As := [.int (xs (x3 + 1).toNatClampNeg), .int (xs (x3 + 2).toNatClampNeg), .int (xs (x3 + 3).toNatClampNeg), .int (xs (x3 + 4).toNatClampNeg), .int (xs (x3 + 5).toNatClampNeg)]) (rest := []) ⟨hx, hb, hml, hown, hts⟩ (c_X5_copy l G e1) (cwV 5 hts gl_X5_copy rfl rfl rfl hdl_X5_copy ⟨Nat.le_of_ble_eq_true rfl, Nat.le_of_ble_eq_true rfl⟩) (m_preV (ci := 4) hK hM rfl isO5) rfl rfl hl.1 rfl (lv_room (Nat.le_of_ble_eq_true rfl)) dL_law_1392 ⟨by show cells + _ ≤ 600000; omega, by show slots + _ ≤ 7302250; omega⟩) hL (fun H locs hM hL => ?_)
  have hM : mP G (Wd b r S' O μ') H := hM
  have hS := C.S hM hL
  refine lv_aload_n hx hb dL_law_1395 rfl (lv_at hl 2 rfl) ?_
  refine lv_aload_n hx hb dL_law_1396 rfl (lv_at hl 0 rfl) ?_
  refine lv_iload_n hx hb dL_law_1397 rfl (lv_at hl 3 rfl) ?_
  refine lv_iconst (v := 1) hx hb dL_law_1398 (by decide) ?_
  refine lv_iadd hx hb dL_law_1399 ?_
  refine va_sld hx hb hX hbl hbA hS i1 dL_law_1400 ?_
  refine lv_aload_n hx hb dL_law_1401 rfl (lv_at hl 0 rfl) ?_
  refine lv_iload_n hx hb dL_law_1402 rfl (lv_at hl 3 rfl) ?_
  refine lv_iconst (v := 2) hx hb dL_law_1403 (by decide) ?_
  refine lv_iadd hx hb dL_law_1404 ?_
  refine va_sld hx hb hX hbl hbA hS i2 dL_law_1405 ?_
  refine lv_aload_n hx hb dL_law_1406 rfl (lv_at hl 0 rfl) ?_
  refine lv_iload_n hx hb dL_law_1407 rfl (lv_at hl 3 rfl) ?_
  refine lv_iconst (v := 3) hx hb dL_law_1408 (by decide) ?_
  refine lv_iadd hx hb dL_law_1409 ?_
  refine va_sld hx hb hX hbl hbA hS i3 dL_law_1410 ?_
  refine lv_aload_n hx hb dL_law_1411 rfl (lv_at hl 0 rfl) ?_
  refine lv_iload_n hx hb dL_law_1412 rfl (lv_at hl 3 rfl) ?_
  refine lv_iconst (v := 4) hx hb dL_law_1413 (by decide) ?_
  refine lv_iadd hx hb dL_law_1414 ?_
  refine va_sld hx hb hX hbl hbA hS i4 dL_law_1415 ?_
  refine lv_aload_n hx hb dL_law_1416 rfl (lv_at hl 0 rfl) ?_
  refine lv_iload_n hx hb dL_law_1417 rfl (lv_at hl 3 rfl) ?_
  refine lv_iconst (v := 5) hx hb dL_law_1418 (by decide) ?_
  refine lv_iadd hx hb dL_law_1419 ?_
  refine va_sld hx hb hX hbl hbA hS i5 dL_law_1420 ?_
  refine m_calli (va_runV (As := [.int (xs (x3 + 1).toNatClampNeg), .int (xs (x3 + 2).toNatClampNeg), .int (xs (x3 + 3).toNatClampNeg), .int (xs (x3 + 4).toNatClampNeg), .int (xs (x3 + 5).toNatClampNeg)]) (rest := [.int v]) ⟨hx, hb, hml, hown, hts⟩ (c_X6_copy l G e2) (cwV 5 hts gl_X6_copy rfl rfl rfl hdl_X6_copy ⟨Nat.le_of_ble_eq_true rfl, Nat.le_of_ble_eq_true rfl⟩) (m_preV (ci := 5) hK hM rfl (isO6 lm)) rfl rfl hl.1 rfl (lv_room (Nat.le_of_ble_eq_true rfl)) dL_law_1421 ⟨by show cells + 0 + _ ≤ 600000; omega, by show slots + 0 + _ ≤ 7302250; omega⟩) hL (fun H locs hM hL => ?_)
  have hM : mP G (Wd b r S' O' μ') H := hM
  refine lv_icmp_eq (tgt := 1515) hx hb dL_law_1424 (by decide) (fun _ => ?_) (fun q => absurd rfl q)
  exact K _ _ _ _ _ _ _ R' hM hL (by omega) (by omega)
set_option maxHeartbeats 4000000 in
theorem cs_witnessesBy {p : Program} {l : Launch} {e : Env} {s : State} {m : MethodId} {below : List Frame} {meth : Method} {c : Code} {bs L : Nat} {xs : Nat → Int32} {G : mG} {b r : Nat} {S : XS} {O : MS} {μ : mS} {H : Heap} {locs : List Loc} {cells slots : Nat} {Q : State → Prop} {ls : Array Slot} {x3 : Int32} (C : LCtx p s m meth c bs L xs G) (hl : lv_has ls 4 [(0, .ref bs), (1, .ref b), (2, .ref r), (3, .int x3)]) (h6 : hin6 x3 L) (R : Rlw b r S O μ) (hM : mP G (Wd b r S O μ) H) (hL : mL G locs) (hc : cells + 2 ≤ 600000) (hs : slots + 164 ≤ 7302250) (K : LNext p l e s m bs below meth c G b r ls cells slots Q) : W p l e room_1 s m #[Value.ref bs] below meth c H locs cells slots Q (F0 m 1429 ls []) := by
  obtain ⟨hx, hb, hml, hown, hts, hX, hbl, hbA, hK⟩ := C.get
  obtain ⟨i1, i2, i3, i4, i5, i6⟩ := h6
  have lm := R.lm
  obtain ⟨v, S', O', μ', e1, e2, R'⟩ := (k_wby (xs (x3 + 1).toNatClampNeg) (xs (x3 + 2).toNatClampNeg) (xs (x3 + 3).toNatClampNeg) (xs (x3 + 4).toNatClampNeg) : Call b r _ _) S O μ R
  have hS := C.S hM hL
  refine lv_aload_n hx hb dL_law_1429 rfl (lv_at hl 1 rfl) ?_
  refine lv_aload_n hx hb dL_law_1430 rfl (lv_at hl 0 rfl) ?_
  refine lv_iload_n hx hb dL_law_1431 rfl (lv_at hl 3 rfl) ?_
  refine lv_iconst (v := 1) hx hb dL_law_1432 (by decide) ?_
  refine lv_iadd hx hb dL_law_1433 ?_
  refine va_sld hx hb hX hbl hbA hS i1 dL_law_1434 ?_
  refine lv_aload_n hx hb dL_law_1435 rfl (lv_at hl 0 rfl) ?_
  refine lv_iload_n hx hb dL_law_1436 rfl (lv_at hl 3 rfl) ?_
  refine lv_iconst (v := 2) hx hb dL_law_1437 (by decide) ?_
  refine lv_iadd hx hb dL_law_1438 ?_
  refine va_sld hx hb hX hbl hbA hS i2 dL_law_1439 ?_
  refine lv_aload_n hx hb dL_law_1440 rfl (lv_at hl 0 rfl) ?_
  refine lv_iload_n hx hb dL_law_1441 rfl (lv_at hl 3 rfl) ?_
  refine lv_iconst (v := 3) hx hb dL_law_1442 (by decide) ?_
  refine lv_iadd hx hb dL_law_1443 ?_
  refine va_sld hx hb hX hbl hbA hS i3 dL_law_1444 ?_
  refine lv_aload_n hx hb dL_law_1445 rfl (lv_at hl 0 rfl) ?_
  refine lv_iload_n hx hb dL_law_1446 rfl (lv_at hl 3 rfl) ?_
  refine lv_iconst (v := 4) hx hb dL_law_1447 (by decide) ?_
  refine lv_iadd hx hb dL_law_1448 ?_
  refine va_sld hx hb hX hbl hbA hS i4 dL_law_1449 ?_
  refine m_calli (va_runV (As := [.int (xs (x3 + 1).toNatClampNeg), .int (xs (x3 + 2).toNatClampNeg), .int (xs (x3 + 3).toNatClampNeg), .int (xs (x3 + 4).toNatClampNeg)]) (rest := []) ⟨hx, hb, hml, hown, hts⟩ (c_X5_witnessesBy l G e1) (cwV 4 hts gl_X5_witnessesBy rfl rfl rfl hdl_X5_witnessesBy ⟨Nat.le_of_ble_eq_true rfl, Nat.le_of_ble_eq_true rfl⟩) (m_preV (ci := 4) hK hM rfl isO5) rfl rfl hl.1 rfl (lv_room (Nat.le_of_ble_eq_true rfl)) dL_law_1450 ⟨by show cells + _ ≤ 600000; omega, by show slots + _ ≤ 7302250; omega⟩) hL (fun H locs hM hL => ?_)
  have hM : mP G (Wd b r S' O μ') H := hM
  have hS := C.S hM hL
  refine lv_aload_n hx hb dL_law_1453 rfl (lv_at hl 2 rfl) ?_
  refine lv_aload_n hx hb dL_law_1454 rfl (lv_at hl 0 rfl) ?_
  refine lv_iload_n hx hb dL_law_1455 rfl (lv_at hl 3 rfl) ?_
  refine lv_iconst (v := 1) hx hb dL_law_1456 (by decide) ?_
  refine lv_iadd hx hb dL_law_1457 ?_
  refine va_sld hx hb hX hbl hbA hS i1 dL_law_1458 ?_
  refine lv_aload_n hx hb dL_law_1459 rfl (lv_at hl 0 rfl) ?_
  refine lv_iload_n hx hb dL_law_1460 rfl (lv_at hl 3 rfl) ?_
  refine lv_iconst (v := 2) hx hb dL_law_1461 (by decide) ?_
  refine lv_iadd hx hb dL_law_1462 ?_
  refine va_sld hx hb hX hbl hbA hS i2 dL_law_1463 ?_
  refine lv_aload_n hx hb dL_law_1464 rfl (lv_at hl 0 rfl) ?_
  refine lv_iload_n hx hb dL_law_1465 rfl (lv_at hl 3 rfl) ?_
  refine lv_iconst (v := 3) hx hb dL_law_1466 (by decide) ?_
  refine lv_iadd hx hb dL_law_1467 ?_
  refine va_sld hx hb hX hbl hbA hS i3 dL_law_1468 ?_
  refine lv_aload_n hx hb dL_law_1469 rfl (lv_at hl 0 rfl) ?_
  refine lv_iload_n hx hb dL_law_1470 rfl (lv_at hl 3 rfl) ?_
  refine lv_iconst (v := 4) hx hb dL_law_1471 (by decide) ?_
  refine lv_iadd hx hb dL_law_1472 ?_
  refine va_sld hx hb hX hbl hbA hS i4 dL_law_1473 ?_
  refine m_calli (va_runV (As := [.int (xs (x3 + 1).toNatClampNeg), .int (xs (x3 + 2).toNatClampNeg), .int (xs (x3 + 3).toNatClampNeg), .int (xs (x3 + 4).toNatClampNeg)]) (rest := [.int v]) ⟨hx, hb, hml, hown, hts⟩ (c_X6_witnessesBy l G e2) (cwV 4 hts gl_X6_witnessesBy rfl rfl rfl hdl_X6_witnessesBy ⟨Nat.le_of_ble_eq_true rfl, Nat.le_of_ble_eq_true rfl⟩) (m_preV (ci := 5) hK hM rfl (isO6 lm)) rfl rfl hl.1 rfl (lv_room (Nat.le_of_ble_eq_true rfl)) dL_law_1474 ⟨by show cells + 0 + _ ≤ 600000; omega, by show slots + 0 + _ ≤ 7302250; omega⟩) hL (fun H locs hM hL => ?_)
  have hM : mP G (Wd b r S' O' μ') H := hM
  refine lv_icmp_eq (tgt := 1515) hx hb dL_law_1477 (by decide) (fun _ => ?_) (fun q => absurd rfl q)
  exact K _ _ _ _ _ _ _ R' hM hL (by omega) (by omega)
set_option maxHeartbeats 4000000 in
theorem cs_taken {p : Program} {l : Launch} {e : Env} {s : State} {m : MethodId} {below : List Frame} {meth : Method} {c : Code} {bs L : Nat} {xs : Nat → Int32} {G : mG} {b r : Nat} {S : XS} {O : MS} {μ : mS} {H : Heap} {locs : List Loc} {cells slots : Nat} {Q : State → Prop} {ls : Array Slot} {x3 : Int32} (C : LCtx p s m meth c bs L xs G) (hl : lv_has ls 4 [(0, .ref bs), (1, .ref b), (2, .ref r), (3, .int x3)]) (h6 : hin6 x3 L) (R : Rlw b r S O μ) (hM : mP G (Wd b r S O μ) H) (hL : mL G locs) (hc : cells + 2 ≤ 600000) (hs : slots + 164 ≤ 7302250) (K : LNext p l e s m bs below meth c G b r ls cells slots Q) : W p l e room_1 s m #[Value.ref bs] below meth c H locs cells slots Q (F0 m 1482 ls []) := by
  obtain ⟨hx, hb, hml, hown, hts, hX, hbl, hbA, hK⟩ := C.get
  obtain ⟨i1, i2, i3, i4, i5, i6⟩ := h6
  have lm := R.lm
  obtain ⟨v, e1, e2⟩ := (k_taken (xs (x3 + 1).toNatClampNeg) (xs (x3 + 2).toNatClampNeg) : CallR b r _ _) S O μ R
  have hS := C.S hM hL
  refine lv_aload_n hx hb dL_law_1482 rfl (lv_at hl 1 rfl) ?_
  refine lv_aload_n hx hb dL_law_1483 rfl (lv_at hl 0 rfl) ?_
  refine lv_iload_n hx hb dL_law_1484 rfl (lv_at hl 3 rfl) ?_
  refine lv_iconst (v := 1) hx hb dL_law_1485 (by decide) ?_
  refine lv_iadd hx hb dL_law_1486 ?_
  refine va_sld hx hb hX hbl hbA hS i1 dL_law_1487 ?_
  refine lv_aload_n hx hb dL_law_1488 rfl (lv_at hl 0 rfl) ?_
  refine lv_iload_n hx hb dL_law_1489 rfl (lv_at hl 3 rfl) ?_
  refine lv_iconst (v := 2) hx hb dL_law_1490 (by decide) ?_
  refine lv_iadd hx hb dL_law_1491 ?_
  refine va_sld hx hb hX hbl hbA hS i2 dL_law_1492 ?_
  refine m_calli (va_runV (As := [.int (xs (x3 + 1).toNatClampNeg), .int (xs (x3 + 2).toNatClampNeg)]) (rest := []) ⟨hx, hb, hml, hown, hts⟩ (c_X5_taken l G e1) (cwV 2 hts gl_X5_taken rfl rfl rfl hdl_X5_taken ⟨Nat.le_of_ble_eq_true rfl, Nat.le_of_ble_eq_true rfl⟩) (m_preV (ci := 4) hK hM rfl isO5) rfl rfl hl.1 rfl (lv_room (Nat.le_of_ble_eq_true rfl)) dL_law_1493 ⟨by show cells + _ ≤ 600000; omega, by show slots + _ ≤ 7302250; omega⟩) hL (fun H locs hM hL => ?_)
  have hM : mP G (Wd b r S O μ) H := hM
  have hS := C.S hM hL
  refine lv_aload_n hx hb dL_law_1496 rfl (lv_at hl 2 rfl) ?_
  refine lv_aload_n hx hb dL_law_1497 rfl (lv_at hl 0 rfl) ?_
  refine lv_iload_n hx hb dL_law_1498 rfl (lv_at hl 3 rfl) ?_
  refine lv_iconst (v := 1) hx hb dL_law_1499 (by decide) ?_
  refine lv_iadd hx hb dL_law_1500 ?_
  refine va_sld hx hb hX hbl hbA hS i1 dL_law_1501 ?_
  refine lv_aload_n hx hb dL_law_1502 rfl (lv_at hl 0 rfl) ?_
  refine lv_iload_n hx hb dL_law_1503 rfl (lv_at hl 3 rfl) ?_
  refine lv_iconst (v := 2) hx hb dL_law_1504 (by decide) ?_
  refine lv_iadd hx hb dL_law_1505 ?_
  refine va_sld hx hb hX hbl hbA hS i2 dL_law_1506 ?_
  refine m_calli (va_runV (As := [.int (xs (x3 + 1).toNatClampNeg), .int (xs (x3 + 2).toNatClampNeg)]) (rest := [.int v]) ⟨hx, hb, hml, hown, hts⟩ (c_X6_taken l G e2) (cwV 2 hts gl_X6_taken rfl rfl rfl hdl_X6_taken ⟨Nat.le_of_ble_eq_true rfl, Nat.le_of_ble_eq_true rfl⟩) (m_preV (ci := 5) hK hM rfl (isO6 lm)) rfl rfl hl.1 rfl (lv_room (Nat.le_of_ble_eq_true rfl)) dL_law_1507 ⟨by show cells + 0 + _ ≤ 600000; omega, by show slots + 0 + _ ≤ 7302250; omega⟩) hL (fun H locs hM hL => ?_)
  have hM : mP G (Wd b r S O μ) H := hM
  refine lv_icmp_eq (tgt := 1515) hx hb dL_law_1510 (by decide) (fun _ => ?_) (fun q => absurd rfl q)
  exact K _ _ _ _ _ _ _ R hM hL (by omega) (by omega)
