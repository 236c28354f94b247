set_option maxHeartbeats 4000000 in
theorem cs_kinds {p : Program} {l : Launch} {e : Env} {s : State} {m : MethodId} {below : List Frame} {meth : Method} {c : Code} {bs L : Nat} {xs : Nat → Int32} {G : mG} {b r : Nat} {S : XS} {O : MS} {μ : mS} {H : Heap} {locs : List Loc} {cells slots : Nat} {Q : State → Prop} {ls : Array Slot} {x3 : Int32} (C : LCtx p s m meth c bs L xs G) (hl : lv_has ls 4 [(0, .ref bs), (1, .ref b), (2, .ref r), (3, .int x3)]) (h6 : hin6 x3 L) (R : Rlw b r S O μ) (hM : mP G (Wd b r S O μ) H) (hL : mL G locs) (hc : cells + 2 ≤ 600000) (hs : slots + 164 ≤ 7302250) (K : LNext p l e s m bs below meth c G b r ls cells slots Q) : W p l e room_1 s m #[Value.ref bs] below meth c H locs cells slots Q (F0 m 959 ls []) := by
  obtain ⟨hx, hb, hml, hown, hts, hX, hbl, hbA, hK⟩ := C.get
  obtain ⟨i1, i2, i3, i4, i5, i6⟩ := h6
  have lm := R.lm
  obtain ⟨v, S', O', μ', e1, e2, R'⟩ := (k_kinds (xs (x3 + 1).toNatClampNeg) (xs (x3 + 2).toNatClampNeg) (xs (x3 + 3).toNatClampNeg) : Call b r _ _) S O μ R
  have hS := C.S hM hL
  refine lv_aload_n hx hb dL_law_959 rfl (lv_at hl 1 rfl) ?_
  refine lv_aload_n hx hb dL_law_960 rfl (lv_at hl 0 rfl) ?_
  refine lv_iload_n hx hb dL_law_961 rfl (lv_at hl 3 rfl) ?_
  refine lv_iconst (v := 1) hx hb dL_law_962 (by decide) ?_
  refine lv_iadd hx hb dL_law_963 ?_
  refine va_sld hx hb hX hbl hbA hS i1 dL_law_964 ?_
  refine lv_aload_n hx hb dL_law_965 rfl (lv_at hl 0 rfl) ?_
  refine lv_iload_n hx hb dL_law_966 rfl (lv_at hl 3 rfl) ?_
  refine lv_iconst (v := 2) hx hb dL_law_967 (by decide) ?_
  refine lv_iadd hx hb dL_law_968 ?_
  refine va_sld hx hb hX hbl hbA hS i2 dL_law_969 ?_
  refine lv_aload_n hx hb dL_law_970 rfl (lv_at hl 0 rfl) ?_
  refine lv_iload_n hx hb dL_law_971 rfl (lv_at hl 3 rfl) ?_
  refine lv_iconst (v := 3) hx hb dL_law_972 (by decide) ?_
  refine lv_iadd hx hb dL_law_973 ?_
  refine va_sld hx hb hX hbl hbA hS i3 dL_law_974 ?_
  refine m_calli (va_runV (As := [.int (xs (x3 + 1).toNatClampNeg), .int (xs (x3 + 2).toNatClampNeg), .int (xs (x3 + 3).toNatClampNeg)]) (rest := []) ⟨hx, hb, hml, hown, hts⟩ (c_X5_kinds l G e1) (cwV 3 hts gl_X5_kinds rfl rfl rfl hdl_X5_kinds ⟨Nat.le_of_ble_eq_true rfl, Nat.le_of_ble_eq_true rfl⟩) (m_preV (ci := 4) hK hM rfl isO5) rfl rfl hl.1 rfl (lv_room (Nat.le_of_ble_eq_true rfl)) dL_law_975 ⟨by show cells + _ ≤ 600000; omega, by show slots + _ ≤ 7302250; omega⟩) hL (fun H locs hM hL => ?_)
  have hM : mP G (Wd b r S' O μ') H := hM
  have hS := C.S hM hL
  refine lv_aload_n hx hb dL_law_978 rfl (lv_at hl 2 rfl) ?_
  refine lv_aload_n hx hb dL_law_979 rfl (lv_at hl 0 rfl) ?_
  refine lv_iload_n hx hb dL_law_980 rfl (lv_at hl 3 rfl) ?_
  refine lv_iconst (v := 1) hx hb dL_law_981 (by decide) ?_
  refine lv_iadd hx hb dL_law_982 ?_
  refine va_sld hx hb hX hbl hbA hS i1 dL_law_983 ?_
  refine lv_aload_n hx hb dL_law_984 rfl (lv_at hl 0 rfl) ?_
  refine lv_iload_n hx hb dL_law_985 rfl (lv_at hl 3 rfl) ?_
  refine lv_iconst (v := 2) hx hb dL_law_986 (by decide) ?_
  refine lv_iadd hx hb dL_law_987 ?_
  refine va_sld hx hb hX hbl hbA hS i2 dL_law_988 ?_
  refine lv_aload_n hx hb dL_law_989 rfl (lv_at hl 0 rfl) ?_
  refine lv_iload_n hx hb dL_law_990 rfl (lv_at hl 3 rfl) ?_
  refine lv_iconst (v := 3) hx hb dL_law_991 (by decide) ?_
  refine lv_iadd hx hb dL_law_992 ?_
  refine va_sld hx hb hX hbl hbA hS i3 dL_law_993 ?_
  refine m_calli (va_runV (As := [.int (xs (x3 + 1).toNatClampNeg), .int (xs (x3 + 2).toNatClampNeg), .int (xs (x3 + 3).toNatClampNeg)]) (rest := [.int v]) ⟨hx, hb, hml, hown, hts⟩ (c_X6_kinds l G e2) (cwV 3 hts gl_X6_kinds rfl rfl rfl hdl_X6_kinds ⟨Nat.le_of_ble_eq_true rfl, Nat.le_of_ble_eq_true rfl⟩) (m_preV (ci := 5) hK hM rfl (isO6 lm)) rfl rfl hl.1 rfl (lv_room (Nat.le_of_ble_eq_true rfl)) dL_law_994 ⟨by show cells + 0 + _ ≤ 600000; omega, by show slots + 0 + _ ≤ 7302250; omega⟩) hL (fun H locs hM hL => ?_)
  have hM : mP G (Wd b r S' O' μ') H := hM
  refine lv_icmp_eq (tgt := 1515) hx hb dL_law_997 (by decide) (fun _ => ?_) (fun q => absurd rfl q)
  exact K _ _ _ _ _ _ _ R' hM hL (by omega) (by omega)
set_option maxHeartbeats 4000000 in
theorem cs_faces {p : Program} {l : Launch} {e : Env} {s : State} {m : MethodId} {below : List Frame} {meth : Method} {c : Code} {bs L : Nat} {xs : Nat → Int32} {G : mG} {b r : Nat} {S : XS} {O : MS} {μ : mS} {H : Heap} {locs : List Loc} {cells slots : Nat} {Q : State → Prop} {ls : Array Slot} {x3 : Int32} (C : LCtx p s m meth c bs L xs G) (hl : lv_has ls 4 [(0, .ref bs), (1, .ref b), (2, .ref r), (3, .int x3)]) (h6 : hin6 x3 L) (R : Rlw b r S O μ) (hM : mP G (Wd b r S O μ) H) (hL : mL G locs) (hc : cells + 2 ≤ 600000) (hs : slots + 164 ≤ 7302250) (K : LNext p l e s m bs below meth c G b r ls cells slots Q) : W p l e room_1 s m #[Value.ref bs] below meth c H locs cells slots Q (F0 m 1002 ls []) := by
  obtain ⟨hx, hb, hml, hown, hts, hX, hbl, hbA, hK⟩ := C.get
  obtain ⟨i1, i2, i3, i4, i5, i6⟩ := h6
  have lm := R.lm
  obtain ⟨v, S', O', μ', e1, e2, R'⟩ := (k_faces (xs (x3 + 1).toNatClampNeg) (xs (x3 + 2).toNatClampNeg) (xs (x3 + 3).toNatClampNeg) : Call b r _ _) S O μ R
  have hS := C.S hM hL
  refine lv_aload_n hx hb dL_law_1002 rfl (lv_at hl 1 rfl) ?_
  refine lv_aload_n hx hb dL_law_1003 rfl (lv_at hl 0 rfl) ?_
  refine lv_iload_n hx hb dL_law_1004 rfl (lv_at hl 3 rfl) ?_
  refine lv_iconst (v := 1) hx hb dL_law_1005 (by decide) ?_
  refine lv_iadd hx hb dL_law_1006 ?_
  refine va_sld hx hb hX hbl hbA hS i1 dL_law_1007 ?_
  refine lv_aload_n hx hb dL_law_1008 rfl (lv_at hl 0 rfl) ?_
  refine lv_iload_n hx hb dL_law_1009 rfl (lv_at hl 3 rfl) ?_
  refine lv_iconst (v := 2) hx hb dL_law_1010 (by decide) ?_
  refine lv_iadd hx hb dL_law_1011 ?_
  refine va_sld hx hb hX hbl hbA hS i2 dL_law_1012 ?_
  refine lv_aload_n hx hb dL_law_1013 rfl (lv_at hl 0 rfl) ?_
  refine lv_iload_n hx hb dL_law_1014 rfl (lv_at hl 3 rfl) ?_
  refine lv_iconst (v := 3) hx hb dL_law_1015 (by decide) ?_
  refine lv_iadd hx hb dL_law_1016 ?_
  refine va_sld hx hb hX hbl hbA hS i3 dL_law_1017 ?_
  refine m_calli (va_runV (As := [.int (xs (x3 + 1).toNatClampNeg), .int (xs (x3 + 2).toNatClampNeg), .int (xs (x3 + 3).toNatClampNeg)]) (rest := []) ⟨hx, hb, hml, hown, hts⟩ (c_X5_faces l G e1) (cwV 3 hts gl_X5_faces rfl rfl rfl hdl_X5_faces ⟨Nat.le_of_ble_eq_true rfl, Nat.le_of_ble_eq_true rfl⟩) (m_preV (ci := 4) hK hM rfl isO5) rfl rfl hl.1 rfl (lv_room (Nat.le_of_ble_eq_true rfl)) dL_law_1018 ⟨by show cells + _ ≤ 600000; omega, by show slots + _ ≤ 7302250; omega⟩) hL (fun H locs hM hL => ?_)
  have hM : mP G (Wd b r S' O μ') H := hM
  have hS := C.S hM hL
  refine lv_aload_n hx hb dL_law_1021 rfl (lv_at hl 2 rfl) ?_
  refine lv_aload_n hx hb dL_law_1022 rfl (lv_at hl 0 rfl) ?_
  refine lv_iload_n hx hb dL_law_1023 rfl (lv_at hl 3 rfl) ?_
  refine lv_iconst (v := 1) hx hb dL_law_1024 (by decide) ?_
  refine lv_iadd hx hb dL_law_1025 ?_
  refine va_sld hx hb hX hbl hbA hS i1 dL_law_1026 ?_
  refine lv_aload_n hx hb dL_law_1027 rfl (lv_at hl 0 rfl) ?_
  refine lv_iload_n hx hb dL_law_1028 rfl (lv_at hl 3 rfl) ?_
  refine lv_iconst (v := 2) hx hb dL_law_1029 (by decide) ?_
  refine lv_iadd hx hb dL_law_1030 ?_
  refine va_sld hx hb hX hbl hbA hS i2 dL_law_1031 ?_
  refine lv_aload_n hx hb dL_law_1032 rfl (lv_at hl 0 rfl) ?_
  refine lv_iload_n hx hb dL_law_1033 rfl (lv_at hl 3 rfl) ?_
  refine lv_iconst (v := 3) hx hb dL_law_1034 (by decide) ?_
  refine lv_iadd hx hb dL_law_1035 ?_
  refine va_sld hx hb hX hbl hbA hS i3 dL_law_1036 ?_
  refine m_calli (va_runV (As := [.int (xs (x3 + 1).toNatClampNeg), .int (xs (x3 + 2).toNatClampNeg), .int (xs (x3 + 3).toNatClampNeg)]) (rest := [.int v]) ⟨hx, hb, hml, hown, hts⟩ (c_X6_faces l G e2) (cwV 3 hts gl_X6_faces rfl rfl rfl hdl_X6_faces ⟨Nat.le_of_ble_eq_true rfl, Nat.le_of_ble_eq_true rfl⟩) (m_preV (ci := 5) hK hM rfl (isO6 lm)) rfl rfl hl.1 rfl (lv_room (Nat.le_of_ble_eq_true rfl)) dL_law_1037 ⟨by show cells + 0 + _ ≤ 600000; omega, by show slots + 0 + _ ≤ 7302250; omega⟩) hL (fun H locs hM hL => ?_)
  have hM : mP G (Wd b r S' O' μ') H := hM
  refine lv_icmp_eq (tgt := 1515) hx hb dL_law_1040 (by decide) (fun _ => ?_) (fun q => absurd rfl q)
  exact K _ _ _ _ _ _ _ R' hM hL (by omega) (by omega)
set_option maxHeartbeats 4000000 in
theorem cs_keens {p : Program} {l : Launch} {e : Env} {s : State} {m : MethodId} {below : List Frame} {meth : Method} {c : Code} {bs L : Nat} {xs : Nat → Int32} {G : mG} {b r : Nat} {S : XS} {O : MS} {μ : mS} {H : Heap} {locs : List Loc} {cells slots : Nat} {Q : State → Prop} {ls : Array Slot} {x3 : Int32} (C : LCtx p s m meth c bs L xs G) (hl : lv_has ls 4 [(0, .ref bs), (1, .ref b), (2, .ref r), (3, .int x3)]) (h6 : hin6 x3 L) (R : Rlw b r S O μ) (hM : mP G (Wd b r S O μ) H) (hL : mL G locs) (hc : cells + 2 ≤ 600000) (hs : slots + 164 ≤ 7302250) (K : LNext p l e s m bs below meth c G b r ls cells slots Q) : W p l e room_1 s m #[Value.ref bs] below meth c H locs cells slots Q (F0 m 1045 ls []) := by
  obtain ⟨hx, hb, hml, hown, hts, hX, hbl, hbA, hK⟩ := C.get
  obtain ⟨i1, i2, i3, i4, i5, i6⟩ := h6
  have lm := R.lm
  obtain ⟨v, S', O', μ', e1, e2, R'⟩ := (k_keens (xs (x3 + 1).toNatClampNeg) (xs (x3 + 2).toNatClampNeg) (xs (x3 + 3).toNatClampNeg) : Call b r _ _) S O μ R
  have hS := C.S hM hL
  refine lv_aload_n hx hb dL_law_1045 rfl (lv_at hl 1 rfl) ?_
  refine lv_aload_n hx hb dL_law_1046 rfl (lv_at hl 0 rfl) ?_
  refine lv_iload_n hx hb dL_law_1047 rfl (lv_at hl 3 rfl) ?_
  refine lv_iconst (v := 1) hx hb dL_law_1048 (by decide) ?_
  refine lv_iadd hx hb dL_law_1049 ?_
  refine va_sld hx hb hX hbl hbA hS i1 dL_law_1050 ?_
  refine lv_aload_n hx hb dL_law_1051 rfl (lv_at hl 0 rfl) ?_
  refine lv_iload_n hx hb dL_law_1052 rfl (lv_at hl 3 rfl) ?_
  refine lv_iconst (v := 2) hx hb dL_law_1053 (by decide) ?_
  refine lv_iadd hx hb dL_law_1054 ?_
  refine va_sld hx hb hX hbl hbA hS i2 dL_law_1055 ?_
  refine lv_aload_n hx hb dL_law_1056 rfl (lv_at hl 0 rfl) ?_
  refine lv_iload_n hx hb dL_law_1057 rfl (lv_at hl 3 rfl) ?_
  refine lv_iconst (v := 3) hx hb dL_law_1058 (by decide) ?_
  refine lv_iadd hx hb dL_law_1059 ?_
  refine va_sld hx hb hX hbl hbA hS i3 dL_law_1060 ?_
  refine m_calli (va_runV (As := [.int (xs (x3 + 1).toNatClampNeg), .int (xs (x3 + 2).toNatClampNeg), .int (xs (x3 + 3).toNatClampNeg)]) (rest := []) ⟨hx, hb, hml, hown, hts⟩ (c_X5_keens l G e1) (cwV 3 hts gl_X5_keens rfl rfl rfl hdl_X5_keens ⟨Nat.le_of_ble_eq_true rfl, Nat.le_of_ble_eq_true rfl⟩) (m_preV (ci := 4) hK hM rfl isO5) rfl rfl hl.1 rfl (lv_room (Nat.le_of_ble_eq_true rfl)) dL_law_1061 ⟨by show cells + _ ≤ 600000; omega, by show slots + _ ≤ 7302250; omega⟩) hL (fun H locs hM hL => ?_)
  have hM : mP G (Wd b r S' O μ') H := hM
  have hS := C.S hM hL
  refine lv_aload_n hx hb dL_law_1064 rfl (lv_at hl 2 rfl) ?_
  refine lv_aload_n hx hb dL_law_1065 rfl (lv_at hl 0 rfl) ?_
  refine lv_iload_n hx hb dL_law_1066 rfl (lv_at hl 3 rfl) ?_
  refine lv_iconst (v := 1) hx hb dL_law_1067 (by decide) ?_
  refine lv_iadd hx hb dL_law_1068 ?_
  refine va_sld hx hb hX hbl hbA hS i1 dL_law_1069 ?_
  refine lv_aload_n hx hb dL_law_1070 rfl (lv_at hl 0 rfl) ?_
  refine lv_iload_n hx hb dL_law_1071 rfl (lv_at hl 3 rfl) ?_
  refine lv_iconst (v := 2) hx hb dL_law_1072 (by decide) ?_
  refine lv_iadd hx hb dL_law_1073 ?_
  refine va_sld hx hb hX hbl hbA hS i2 dL_law_1074 ?_
  refine lv_aload_n hx hb dL_law_1075 rfl (lv_at hl 0 rfl) ?_
  refine lv_iload_n hx hb dL_law_1076 rfl (lv_at hl 3 rfl) ?_
  refine lv_iconst (v := 3) hx hb dL_law_1077 (by decide) ?_
  refine lv_iadd hx hb dL_law_1078 ?_
  refine va_sld hx hb hX hbl hbA hS i3 dL_law_1079 ?_
  refine m_calli (va_runV (As := [.int (xs (x3 + 1).toNatClampNeg), .int (xs (x3 + 2).toNatClampNeg), .int (xs (x3 + 3).toNatClampNeg)]) (rest := [.int v]) ⟨hx, hb, hml, hown, hts⟩ (c_X6_keens l G e2) (cwV 3 hts gl_X6_keens rfl rfl rfl hdl_X6_keens ⟨Nat.le_of_ble_eq_true rfl, Nat.le_of_ble_eq_true rfl⟩) (m_preV (ci := 5) hK hM rfl (isO6 lm)) rfl rfl hl.1 rfl (lv_room (Nat.le_of_ble_eq_true rfl)) dL_law_1080 ⟨by show cells + 0 + _ ≤ 600000; omega, by show slots + 0 + _ ≤ 7302250; omega⟩) hL (fun H locs hM hL => ?_)
  have hM : mP G (Wd b r S' O' μ') H := hM
  refine lv_icmp_eq (tgt := 1515) hx hb dL_law_1083 (by decide) (fun _ => ?_) (fun q => absurd rfl q)
  exact K _ _ _ _ _ _ _ R' hM hL (by omega) (by omega)
set_option maxHeartbeats 4000000 in
theorem cs_burnt {p : Program} {l : Launch} {e : Env} {s : State} {m : MethodId} {below : List Frame} {meth : Method} {c : Code} {bs L : Nat} {xs : Nat → Int32} {G : mG} {b r : Nat} {S : XS} {O : MS} {μ : mS} {H : Heap} {locs : List Loc} {cells slots : Nat} {Q : State → Prop} {ls : Array Slot} {x3 : Int32} (C : LCtx p s m meth c bs L xs G) (hl : lv_has ls 4 [(0, .ref bs), (1, .ref b), (2, .ref r), (3, .int x3)]) (h6 : hin6 x3 L) (R : Rlw b r S O μ) (hM : mP G (Wd b r S O μ) H) (hL : mL G locs) (hc : cells + 2 ≤ 600000) (hs : slots + 164 ≤ 7302250) (K : LNext p l e s m bs below meth c G b r ls cells slots Q) : W p l e room_1 s m #[Value.ref bs] below meth c H locs cells slots Q (F0 m 1088 ls []) := by
  obtain ⟨hx, hb, hml, hown, hts, hX, hbl, hbA, hK⟩ := C.get
  obtain ⟨i1, i2, i3, i4, i5, i6⟩ := h6
  have lm := R.lm
  obtain ⟨v, S', O', μ', e1, e2, R'⟩ := (k_burnt (xs (x3 + 1).toNatClampNeg) : Call b r _ _) S O μ R
  have hS := C.S hM hL
  refine lv_aload_n hx hb dL_law_1088 rfl (lv_at hl 1 rfl) ?_
  refine lv_aload_n hx hb dL_law_1089 rfl (lv_at hl 0 rfl) ?_
  refine lv_iload_n hx hb dL_law_1090 rfl (lv_at hl 3 rfl) ?_
  refine lv_iconst (v := 1) hx hb dL_law_1091 (by decide) ?_
  refine lv_iadd hx hb dL_law_1092 ?_
  refine va_sld hx hb hX hbl hbA hS i1 dL_law_1093 ?_
  refine m_calli (va_runV (As := [.int (xs (x3 + 1).toNatClampNeg)]) (rest := []) ⟨hx, hb, hml, hown, hts⟩ (c_X5_burnt l G e1) (cwV 1 hts gl_X5_burnt rfl rfl rfl hdl_X5_burnt ⟨Nat.le_of_ble_eq_true rfl, Nat.le_of_ble_eq_true rfl⟩) (m_preV (ci := 4) hK hM rfl isO5) rfl rfl hl.1 rfl (lv_room (Nat.le_of_ble_eq_true rfl)) dL_law_1094 ⟨by show cells + _ ≤ 600000; omega, by show slots + _ ≤ 7302250; omega⟩) hL (fun H locs hM hL => ?_)
  have hM : mP G (Wd b r S' O μ') H := hM
  have hS := C.S hM hL
  refine lv_aload_n hx hb dL_law_1097 rfl (lv_at hl 2 rfl) ?_
  refine lv_aload_n hx hb dL_law_1098 rfl (lv_at hl 0 rfl) ?_
  refine lv_iload_n hx hb dL_law_1099 rfl (lv_at hl 3 rfl) ?_
  refine lv_iconst (v := 1) hx hb dL_law_1100 (by decide) ?_
  refine lv_iadd hx hb dL_law_1101 ?_
  refine va_sld hx hb hX hbl hbA hS i1 dL_law_1102 ?_
  refine m_calli (va_runV (As := [.int (xs (x3 + 1).toNatClampNeg)]) (rest := [.int v]) ⟨hx, hb, hml, hown, hts⟩ (c_X6_burnt l G e2) (cwV 1 hts gl_X6_burnt rfl rfl rfl hdl_X6_burnt ⟨Nat.le_of_ble_eq_true rfl, Nat.le_of_ble_eq_true rfl⟩) (m_preV (ci := 5) hK hM rfl (isO6 lm)) rfl rfl hl.1 rfl (lv_room (Nat.le_of_ble_eq_true rfl)) dL_law_1103 ⟨by show cells + 0 + _ ≤ 600000; omega, by show slots + 0 + _ ≤ 7302250; omega⟩) hL (fun H locs hM hL => ?_)
  have hM : mP G (Wd b r S' O' μ') H := hM
  refine lv_icmp_eq (tgt := 1515) hx hb dL_law_1106 (by decide) (fun _ => ?_) (fun q => absurd rfl q)
  exact K _ _ _ _ _ _ _ R' hM hL (by omega) (by omega)
set_option maxHeartbeats 4000000 in
theorem cs_laws {p : Program} {l : Launch} {e : Env} {s : State} {m : MethodId} {below : List Frame} {meth : Method} {c : Code} {bs L : Nat} {xs : Nat → Int32} {G : mG} {b r : Nat} {S : XS} {O : MS} {μ : mS} {H : Heap} {locs : List Loc} {cells slots : Nat} {Q : State → Prop} {ls : Array Slot} {x3 : Int32} (C : LCtx p s m meth c bs L xs G) (hl : lv_has ls 4 [(0, .ref bs), (1, .ref b), (2, .ref r), (3, .int x3)]) (h6 : hin6 x3 L) (R : Rlw b r S O μ) (hM : mP G (Wd b r S O μ) H) (hL : mL G locs) (hc : cells + 2 ≤ 600000) (hs : slots + 164 ≤ 7302250) (K : LNext p l e s m bs below meth c G b r ls cells slots Q) : W p l e room_1 s m #[Value.ref bs] below meth c H locs cells slots Q (F0 m 1111 ls []) := by
  obtain ⟨hx, hb, hml, hown, hts, hX, hbl, hbA, hK⟩ := C.get
  obtain ⟨i1, i2, i3, i4, i5, i6⟩ := h6
  have lm := R.lm
  obtain ⟨v, S', O', μ', e1, e2, R'⟩ := (k_laws (xs (x3 + 1).toNatClampNeg) : Call b r _ _) S O μ R
  have hS := C.S hM hL
  refine lv_aload_n hx hb dL_law_1111 rfl (lv_at hl 1 rfl) ?_
  refine lv_aload_n hx hb dL_law_1112 rfl (lv_at hl 0 rfl) ?_
  refine lv_iload_n hx hb dL_law_1113 rfl (lv_at hl 3 rfl) ?_
  refine lv_iconst (v := 1) hx hb dL_law_1114 (by decide) ?_
  refine lv_iadd hx hb dL_law_1115 ?_
  refine va_sld hx hb hX hbl hbA hS i1 dL_law_1116 ?_
  refine m_calli (va_runV (As := [.int (xs (x3 + 1).toNatClampNeg)]) (rest := []) ⟨hx, hb, hml, hown, hts⟩ (c_X5_laws l G e1) (cwV 1 hts gl_X5_laws rfl rfl rfl hdl_X5_laws ⟨Nat.le_of_ble_eq_true rfl, Nat.le_of_ble_eq_true rfl⟩) (m_preV (ci := 4) hK hM rfl isO5) rfl rfl hl.1 rfl (lv_room (Nat.le_of_ble_eq_true rfl)) dL_law_1117 ⟨by show cells + _ ≤ 600000; omega, by show slots + _ ≤ 7302250; omega⟩) hL (fun H locs hM hL => ?_)
  have hM : mP G (Wd b r S' O μ') H := hM
  have hS := C.S hM hL
  refine lv_aload_n hx hb dL_law_1120 rfl (lv_at hl 2 rfl) ?_
  refine lv_aload_n hx hb dL_law_1121 rfl (lv_at hl 0 rfl) ?_
  refine lv_iload_n hx hb dL_law_1122 rfl (lv_at hl 3 rfl) ?_
  refine lv_iconst (v := 1) hx hb dL_law_1123 (by decide) ?_
  refine lv_iadd hx hb dL_law_1124 ?_
  refine va_sld hx hb hX hbl hbA hS i1 dL_law_1125 ?_
  refine m_calli (va_runV (As := [.int (xs (x3 + 1).toNatClampNeg)]) (rest := [.int v]) ⟨hx, hb, hml, hown, hts⟩ (c_X6_laws l G e2) (cwV 1 hts gl_X6_laws rfl rfl rfl hdl_X6_laws ⟨Nat.le_of_ble_eq_true rfl, Nat.le_of_ble_eq_true rfl⟩) (m_preV (ci := 5) hK hM rfl (isO6 lm)) rfl rfl hl.1 rfl (lv_room (Nat.le_of_ble_eq_true rfl)) dL_law_1126 ⟨by show cells + 0 + _ ≤ 600000; omega, by show slots + 0 + _ ≤ 7302250; omega⟩) hL (fun H locs hM hL => ?_)
  have hM : mP G (Wd b r S' O' μ') H := hM
  refine lv_icmp_eq (tgt := 1515) hx hb dL_law_1129 (by decide) (fun _ => ?_) (fun q => absurd rfl q)
  exact K _ _ _ _ _ _ _ R' hM hL (by omega) (by omega)
set_option maxHeartbeats 4000000 in
theorem cs_film {p : Program} {l : Launch} {e : Env} {s : State} {m : MethodId} {below : List Frame} {meth : Method} {c : Code} {bs L : Nat} {xs : Nat → Int32} {G : mG} {b r : Nat} {S : XS} {O : MS} {μ : mS} {H : Heap} {locs : List Loc} {cells slots : Nat} {Q : State → Prop} {ls : Array Slot} {x3 : Int32} (C : LCtx p s m meth c bs L xs G) (hl : lv_has ls 4 [(0, .ref bs), (1, .ref b), (2, .ref r), (3, .int x3)]) (h6 : hin6 x3 L) (R : Rlw b r S O μ) (hM : mP G (Wd b r S O μ) H) (hL : mL G locs) (hc : cells + 2 ≤ 600000) (hs : slots + 164 ≤ 7302250) (K : LNext p l e s m bs below meth c G b r ls cells slots Q) : W p l e room_1 s m #[Value.ref bs] below meth c H locs cells slots Q (F0 m 1134 ls []) := by
  obtain ⟨hx, hb, hml, hown, hts, hX, hbl, hbA, hK⟩ := C.get
  obtain ⟨i1, i2, i3, i4, i5, i6⟩ := h6
  have lm := R.lm
  obtain ⟨v, S', O', μ', e1, e2, R'⟩ := (k_film (xs (x3 + 1).toNatClampNeg) (xs (x3 + 2).toNatClampNeg) : Call b r _ _) S O μ R
  have hS := C.S hM hL
  refine lv_aload_n hx hb dL_law_1134 rfl (lv_at hl 1 rfl) ?_
  refine lv_aload_n hx hb dL_law_1135 rfl (lv_at hl 0 rfl) ?_
  refine lv_iload_n hx hb dL_law_1136 rfl (lv_at hl 3 rfl) ?_
  refine lv_iconst (v := 1) hx hb dL_law_1137 (by decide) ?_
  refine lv_iadd hx hb dL_law_1138 ?_
  refine va_sld hx hb hX hbl hbA hS i1 dL_law_1139 ?_
  refine lv_aload_n hx hb dL_law_1140 rfl (lv_at hl 0 rfl) ?_
  refine lv_iload_n hx hb dL_law_1141 rfl (lv_at hl 3 rfl) ?_
  refine lv_iconst (v := 2) hx hb dL_law_1142 (by decide) ?_
  refine lv_iadd hx hb dL_law_1143 ?_
  refine va_sld hx hb hX hbl hbA hS i2 dL_law_1144 ?_
  refine m_calli (va_runV (As := [.int (xs (x3 + 1).toNatClampNeg), .int (xs (x3 + 2).toNatClampNeg)]) (rest := []) ⟨hx, hb, hml, hown, hts⟩ (c_X5_film l G e1) (cwV 2 hts gl_X5_film rfl rfl rfl hdl_X5_film ⟨Nat.le_of_ble_eq_true rfl, Nat.le_of_ble_eq_true rfl⟩) (m_preV (ci := 4) hK hM rfl isO5) rfl rfl hl.1 rfl (lv_room (Nat.le_of_ble_eq_true rfl)) dL_law_1145 ⟨by show cells + _ ≤ 600000; omega, by show slots + _ ≤ 7302250; omega⟩) hL (fun H locs hM hL => ?_)
  have hM : mP G (Wd b r S' O μ') H := hM
  have hS := C.S hM hL
  refine lv_aload_n hx hb dL_law_1148 rfl (lv_at hl 2 rfl) ?_
  refine lv_aload_n hx hb dL_law_1149 rfl (lv_at hl 0 rfl) ?_
  refine lv_iload_n hx hb dL_law_1150 rfl (lv_at hl 3 rfl) ?_
  refine lv_iconst (v := 1) hx hb dL_law_1151 (by decide) ?_
  refine lv_iadd hx hb dL_law_1152 ?_
  refine va_sld hx hb hX hbl hbA hS i1 dL_law_1153 ?_
  refine lv_aload_n hx hb dL_law_1154 rfl (lv_at hl 0 rfl) ?_
  refine lv_iload_n hx hb dL_law_1155 rfl (lv_at hl 3 rfl) ?_
  refine lv_iconst (v := 2) hx hb dL_law_1156 (by decide) ?_
  refine lv_iadd hx hb dL_law_1157 ?_
  refine va_sld hx hb hX hbl hbA hS i2 dL_law_1158 ?_
  refine m_calli (va_runV (As := [.int (xs (x3 + 1).toNatClampNeg), .int (xs (x3 + 2).toNatClampNeg)]) (rest := [.int v]) ⟨hx, hb, hml, hown, hts⟩ (c_X6_film l G e2) (cwV 2 hts gl_X6_film rfl rfl rfl hdl_X6_film ⟨Nat.le_of_ble_eq_true rfl, Nat.le_of_ble_eq_true rfl⟩) (m_preV (ci := 5) hK hM rfl (isO6 lm)) rfl rfl hl.1 rfl (lv_room (Nat.le_of_ble_eq_true rfl)) dL_law_1159 ⟨by show cells + 0 + _ ≤ 600000; omega, by show slots + 0 + _ ≤ 7302250; omega⟩) hL (fun H locs hM hL => ?_)
  have hM : mP G (Wd b r S' O' μ') H := hM
  refine lv_icmp_eq (tgt := 1515) hx hb dL_law_1162 (by decide) (fun _ => ?_) (fun q => absurd rfl q)
  exact K _ _ _ _ _ _ _ R' hM hL (by omega) (by omega)
set_option maxHeartbeats 4000000 in
theorem cs_drawn {p : Program} {l : Launch} {e : Env} {s : State} {m : MethodId} {below : List Frame} {meth : Method} {c : Code} {bs L : Nat} {xs : Nat → Int32} {G : mG} {b r : Nat} {S : XS} {O : MS} {μ : mS} {H : Heap} {locs : List Loc} {cells slots : Nat} {Q : State → Prop} {ls : Array Slot} {x3 : Int32} (C : LCtx p s m meth c bs L xs G) (hl : lv_has ls 4 [(0, .ref bs), (1, .ref b), (2, .ref r), (3, .int x3)]) (h6 : hin6 x3 L) (R : Rlw b r S O μ) (hM : mP G (Wd b r S O μ) H) (hL : mL G locs) (hc : cells + 2 ≤ 600000) (hs : slots + 164 ≤ 7302250) (K : LNext p l e s m bs below meth c G b r ls cells slots Q) : W p l e room_1 s m #[Value.ref bs] below meth c H locs cells slots Q (F0 m 1167 ls []) := by
  obtain ⟨hx, hb, hml, hown, hts, hX, hbl, hbA, hK⟩ := C.get
  obtain ⟨i1, i2, i3, i4, i5, i6⟩ := h6
  have lm := R.lm
  obtain ⟨v, S', O', μ', e1, e2, R'⟩ := (k_drawn (xs (x3 + 1).toNatClampNeg) (xs (x3 + 2).toNatClampNeg) : Call b r _ _) S O μ R
  have hS := C.S hM hL
  refine lv_aload_n hx hb dL_law_1167 rfl (lv_at hl 1 rfl) ?_
  refine lv_aload_n hx hb dL_law_1168 rfl (lv_at hl 0 rfl) ?_
  refine lv_iload_n hx hb dL_law_1169 rfl (lv_at hl 3 rfl) ?_
  refine lv_iconst (v := 1) hx hb dL_law_1170 (by decide) ?_
  refine lv_iadd hx hb dL_law_1171 ?_
  refine va_sld hx hb hX hbl hbA hS i1 dL_law_1172 ?_
  refine lv_aload_n hx hb dL_law_1173 rfl (lv_at hl 0 rfl) ?_
  refine lv_iload_n hx hb dL_law_1174 rfl (lv_at hl 3 rfl) ?_
  refine lv_iconst (v := 2) hx hb dL_law_1175 (by decide) ?_
  refine lv_iadd hx hb dL_law_1176 ?_
  refine va_sld hx hb hX hbl hbA hS i2 dL_law_1177 ?_
  refine m_calli (va_runV (As := [.int (xs (x3 + 1).toNatClampNeg), .int (xs (x3 + 2).toNatClampNeg)]) (rest := []) ⟨hx, hb, hml, hown, hts⟩ (c_X5_drawn l G e1) (cwV 2 hts gl_X5_drawn rfl rfl rfl hdl_X5_drawn ⟨Nat.le_of_ble_eq_true rfl, Nat.le_of_ble_eq_true rfl⟩) (m_preV (ci := 4) hK hM rfl isO5) rfl rfl hl.1 rfl (lv_room (Nat.le_of_ble_eq_true rfl)) dL_law_1178 ⟨by show cells + _ ≤ 600000; omega, by show slots + _ ≤ 7302250; omega⟩) hL (fun H locs hM hL => ?_)
  have hM : mP G (Wd b r S' O μ') H := hM
  have hS := C.S hM hL
  refine lv_aload_n hx hb dL_law_1181 rfl (lv_at hl 2 rfl) ?_
  refine lv_aload_n hx hb dL_law_1182 rfl (lv_at hl 0 rfl) ?_
  refine lv_iload_n hx hb dL_law_1183 rfl (lv_at hl 3 rfl) ?_
  refine lv_iconst (v := 1) hx hb dL_law_1184 (by decide) ?_
  refine lv_iadd hx hb dL_law_1185 ?_
  refine va_sld hx hb hX hbl hbA hS i1 dL_law_1186 ?_
  refine lv_aload_n hx hb dL_law_1187 rfl (lv_at hl 0 rfl) ?_
  refine lv_iload_n hx hb dL_law_1188 rfl (lv_at hl 3 rfl) ?_
  refine lv_iconst (v := 2) hx hb dL_law_1189 (by decide) ?_
  refine lv_iadd hx hb dL_law_1190 ?_
  refine va_sld hx hb hX hbl hbA hS i2 dL_law_1191 ?_
  refine m_calli (va_runV (As := [.int (xs (x3 + 1).toNatClampNeg), .int (xs (x3 + 2).toNatClampNeg)]) (rest := [.int v]) ⟨hx, hb, hml, hown, hts⟩ (c_X6_drawn l G e2) (cwV 2 hts gl_X6_drawn rfl rfl rfl hdl_X6_drawn ⟨Nat.le_of_ble_eq_true rfl, Nat.le_of_ble_eq_true rfl⟩) (m_preV (ci := 5) hK hM rfl (isO6 lm)) rfl rfl hl.1 rfl (lv_room (Nat.le_of_ble_eq_true rfl)) dL_law_1192 ⟨by show cells + 0 + _ ≤ 600000; omega, by show slots + 0 + _ ≤ 7302250; omega⟩) hL (fun H locs hM hL => ?_)
  have hM : mP G (Wd b r S' O' μ') H := hM
  refine lv_icmp_eq (tgt := 1515) hx hb dL_law_1195 (by decide) (fun _ => ?_) (fun q => absurd rfl q)
  exact K _ _ _ _ _ _ _ R' hM hL (by omega) (by omega)
set_option maxHeartbeats 4000000 in
theorem cs_odds {p : Program} {l : Launch} {e : Env} {s : State} {m : MethodId} {below : List Frame} {meth : Method} {c : Code} {bs L : Nat} {xs : Nat → Int32} {G : mG} {b r : Nat} {S : XS} {O : MS} {μ : mS} {H : Heap} {locs : List Loc} {cells slots : Nat} {Q : State → Prop} {ls : Array Slot} {x3 : Int32} (C : LCtx p s m meth c bs L xs G) (hl : lv_has ls 4 [(0, .ref bs), (1, .ref b), (2, .ref r), (3, .int x3)]) (h6 : hin6 x3 L) (R : Rlw b r S O μ) (hM : mP G (Wd b r S O μ) H) (hL : mL G locs) (hc : cells + 2 ≤ 600000) (hs : slots + 164 ≤ 7302250) (K : LNext p l e s m bs below meth c G b r ls cells slots Q) : W p l e room_1 s m #[Value.ref bs] below meth c H locs cells slots Q (F0 m 1200 ls []) := by
  obtain ⟨hx, hb, hml, hown, hts, hX, hbl, hbA, hK⟩ := C.get
  obtain ⟨i1, i2, i3, i4, i5, i6⟩ := h6
  have lm := R.lm
  obtain ⟨v, S', O', μ', e1, e2, R'⟩ := (k_odds (xs (x3 + 1).toNatClampNeg) (xs (x3 + 2).toNatClampNeg) (xs (x3 + 3).toNatClampNeg) (xs (x3 + 4).toNatClampNeg) : Call b r _ _) S O μ R
  have hS := C.S hM hL
  refine lv_aload_n hx hb dL_law_1200 rfl (lv_at hl 1 rfl) ?_
  refine lv_aload_n hx hb dL_law_1201 rfl (lv_at hl 0 rfl) ?_
  refine lv_iload_n hx hb dL_law_1202 rfl (lv_at hl 3 rfl) ?_
  refine lv_iconst (v := 1) hx hb dL_law_1203 (by decide) ?_
  refine lv_iadd hx hb dL_law_1204 ?_
  refine va_sld hx hb hX hbl hbA hS i1 dL_law_1205 ?_
  refine lv_aload_n hx hb dL_law_1206 rfl (lv_at hl 0 rfl) ?_
  refine lv_iload_n hx hb dL_law_1207 rfl (lv_at hl 3 rfl) ?_
  refine lv_iconst (v := 2) hx hb dL_law_1208 (by decide) ?_
  refine lv_iadd hx hb dL_law_1209 ?_
  refine va_sld hx hb hX hbl hbA hS i2 dL_law_1210 ?_
  refine lv_aload_n hx hb dL_law_1211 rfl (lv_at hl 0 rfl) ?_
  refine lv_iload_n hx hb dL_law_1212 rfl (lv_at hl 3 rfl) ?_
  refine lv_iconst (v := 3) hx hb dL_law_1213 (by decide) ?_
  refine lv_iadd hx hb dL_law_1214 ?_
  refine va_sld hx hb hX hbl hbA hS i3 dL_law_1215 ?_
  refine lv_aload_n hx hb dL_law_1216 rfl (lv_at hl 0 rfl) ?_
  refine lv_iload_n hx hb dL_law_1217 rfl (lv_at hl 3 rfl) ?_
  refine lv_iconst (v := 4) hx hb dL_law_1218 (by decide) ?_
  refine lv_iadd hx hb dL_law_1219 ?_
  refine va_sld hx hb hX hbl hbA hS i4 dL_law_1220 ?_
  refine m_calll (va_runV (As := [.int (xs (x3 + 1).toNatClampNeg), .int (xs (x3 + 2).toNatClampNeg), .int (xs (x3 + 3).toNatClampNeg), .int (xs (x3 + 4).toNatClampNeg)]) (rest := []) ⟨hx, hb, hml, hown, hts⟩ (c_X5_odds l G e1) (cwV 4 hts gl_X5_odds rfl rfl rfl hdl_X5_odds ⟨Nat.le_of_ble_eq_true rfl, Nat.le_of_ble_eq_true rfl⟩) (m_preV (ci := 4) hK hM rfl isO5) rfl rfl hl.1 rfl (lv_room (Nat.le_of_ble_eq_true rfl)) dL_law_1221 ⟨by show cells + _ ≤ 600000; omega, by show slots + _ ≤ 7302250; omega⟩) hL (fun H locs hM hL => ?_)
  have hM : mP G (Wd b r S' O μ') H := hM
  have hS := C.S hM hL
  refine lv_aload_n hx hb dL_law_1224 rfl (lv_at hl 2 rfl) ?_
  refine lv_aload_n hx hb dL_law_1225 rfl (lv_at hl 0 rfl) ?_
  refine lv_iload_n hx hb dL_law_1226 rfl (lv_at hl 3 rfl) ?_
  refine lv_iconst (v := 1) hx hb dL_law_1227 (by decide) ?_
  refine lv_iadd hx hb dL_law_1228 ?_
  refine va_sld hx hb hX hbl hbA hS i1 dL_law_1229 ?_
  refine lv_aload_n hx hb dL_law_1230 rfl (lv_at hl 0 rfl) ?_
  refine lv_iload_n hx hb dL_law_1231 rfl (lv_at hl 3 rfl) ?_
  refine lv_iconst (v := 2) hx hb dL_law_1232 (by decide) ?_
  refine lv_iadd hx hb dL_law_1233 ?_
  refine va_sld hx hb hX hbl hbA hS i2 dL_law_1234 ?_
  refine lv_aload_n hx hb dL_law_1235 rfl (lv_at hl 0 rfl) ?_
  refine lv_iload_n hx hb dL_law_1236 rfl (lv_at hl 3 rfl) ?_
  refine lv_iconst (v := 3) hx hb dL_law_1237 (by decide) ?_
  refine lv_iadd hx hb dL_law_1238 ?_
  refine va_sld hx hb hX hbl hbA hS i3 dL_law_1239 ?_
  refine lv_aload_n hx hb dL_law_1240 rfl (lv_at hl 0 rfl) ?_
  refine lv_iload_n hx hb dL_law_1241 rfl (lv_at hl 3 rfl) ?_
  refine lv_iconst (v := 4) hx hb dL_law_1242 (by decide) ?_
  refine lv_iadd hx hb dL_law_1243 ?_
  refine va_sld hx hb hX hbl hbA hS i4 dL_law_1244 ?_
  refine m_calll (va_runV (As := [.int (xs (x3 + 1).toNatClampNeg), .int (xs (x3 + 2).toNatClampNeg), .int (xs (x3 + 3).toNatClampNeg), .int (xs (x3 + 4).toNatClampNeg)]) (rest := [.long v]) ⟨hx, hb, hml, hown, hts⟩ (c_X6_odds l G e2) (cwV 4 hts gl_X6_odds rfl rfl rfl hdl_X6_odds ⟨Nat.le_of_ble_eq_true rfl, Nat.le_of_ble_eq_true rfl⟩) (m_preV (ci := 5) hK hM rfl (isO6 lm)) rfl rfl hl.1 rfl (lv_room (Nat.le_of_ble_eq_true rfl)) dL_law_1245 ⟨by show cells + 0 + _ ≤ 600000; omega, by show slots + 0 + _ ≤ 7302250; omega⟩) hL (fun H locs hM hL => ?_)
  have hM : mP G (Wd b r S' O' μ') H := hM
  refine W.lcmp hx hb dL_law_1248 ?_
  refine lv_if_eq (tgt := 1515) hx hb dL_law_1249 (by decide) (fun _ => ?_) (fun q => absurd (lg_cmp_self v) q)
  exact K _ _ _ _ _ _ _ R' hM hL (by omega) (by omega)
