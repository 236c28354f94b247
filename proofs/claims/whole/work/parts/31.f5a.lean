abbrev rm_X5_init : Room := { frames := 2, cells := 84, slots := 1195, locals := 54 }
set_option maxHeartbeats 4000000 in
set_option maxRecDepth 100000 in
theorem c_X5_init (l : Launch) (G : mG) {h0 : Nat} {σ : mS} {z : mS} (h : f_X5_init h0 σ = some z) : Met l yX5_init wsX5_init rm_X5_init (va_Pc [.ref h0] (mB G σ)) (mQ G (.returned none) z) 84 1195 (mF G) := by
  refine m_start (cc := cX5_init) (maxL := 4) (ret := none) (by decide) rfl [.ref h0] (Nat.le_of_ble_eq_true rfl) ?_
  intro p e s m args below meth c ls hx hb hr hml hown hts hlocks hnm hK hM hl
  have hown : s.vm.findClass RX5 = some m.cls := hown
  have hnm : meth.name = "<init>" := hnm
  obtain ⟨locs, hlocs⟩ : ∃ l : List Loc, l = [] := ⟨_, rfl⟩
  have hL : mL G locs := by rw [hlocs]; exact mL_nil G
  rw [← hlocs]
  generalize s.heap = H at hM ⊢
  have hl : lv_has ls 4 [(0, .ref h0)] := hl
  obtain ⟨Q, hQ⟩ : ∃ Q, Q = MQ below (mQ G (.returned none) z) args s 84 1195 (mF G) := ⟨_, rfl⟩
  rw [← hQ]
  have w0 := (hts (.methodLink RX5 1 objectInit) (List.mem_of_getElem? (i := 1) rfl))
  have w1 := (hts (.instanceMethod objectInit) (List.mem_of_getElem? (i := 2) rfl))
  have w2 := (hts (.code objectInit ⟨#[0xb1]⟩ 1 none) (List.mem_of_getElem? (i := 3) rfl))
  have w3 := (hts (.classLink RX5 9 RX2) (List.mem_of_getElem? (i := 4) rfl))
  have hU5 : ∀ w ∈ wsX50, w.before args s = true := fun w h => hts w (List.mem_cons_of_mem _ (List.mem_append_left _ (List.mem_append_left _ (List.mem_append_left _ (List.mem_append_left _ (List.mem_append_right _ h))))))
  have w5 := (hts (.fieldLink RX5 11 "HandkerchiefsDropped" "texts" "[LHandkerchiefsDropped$Law;") (List.mem_of_getElem? (i := 5) rfl))
  have hU4 : ∀ w ∈ wsX40, w.before args s = true := fun w h => hts w (List.mem_cons_of_mem _ (List.mem_append_left _ (List.mem_append_left _ (List.mem_append_left _ (List.mem_append_right _ h)))))
  have w7 := (hts (.classLink RX5 15 RX4) (List.mem_of_getElem? (i := 6) rfl))
  have w8 := (hts (.instantiable RX4 9) (List.mem_of_getElem? (i := 7) rfl))
  have w9 := (hts (.initialized RX4) (List.mem_of_getElem? (i := 8) rfl))
  have w10 := (hts (.instanceMethod yX4_init) (List.mem_of_getElem? (i := 25) rfl))
  have w11 := (hts (.fieldLink RX5 18 "HandkerchiefsDropped" "tape" "LHandkerchiefsDropped$Tape;") (List.mem_of_getElem? (i := 9) rfl))
  have w12 := (hts (.classLink RX5 22 RX3) (List.mem_of_getElem? (i := 10) rfl))
  have w13 := (hts (.fieldLink RX5 24 "HandkerchiefsDropped" "sheets" "[LHandkerchiefsDropped$Sheet;") (List.mem_of_getElem? (i := 11) rfl))
  have w14 := (hts (.classLink RX5 28 RX0) (List.mem_of_getElem? (i := 12) rfl))
  have w15 := (hts (.fieldLink RX5 30 "HandkerchiefsDropped" "behind" "[LHandkerchiefsDropped$Assize;") (List.mem_of_getElem? (i := 13) rfl))
  have hU2 : ∀ w ∈ wsX20, w.before args s = true := fun w h => hts w (List.mem_cons_of_mem _ (List.mem_append_left _ (List.mem_append_left _ (List.mem_append_right _ h))))
  have w17 := (hts (.instantiable RX2 4) (List.mem_of_getElem? (i := 14) rfl))
  have w18 := (hts (.initialized RX2) (List.mem_of_getElem? (i := 15) rfl))
  have w19 := (hts (.arrayClass .int) (List.mem_of_getElem? (i := 16) rfl))
  have w20 := (hts (.methodLink RX5 34 yX2_init) (List.mem_of_getElem? (i := 31) rfl))
  have w21 := (hts (.instanceMethod yX2_init) (List.mem_of_getElem? (i := 32) rfl))
  have w22 := (hts (.fieldLink RX5 37 "HandkerchiefsDropped" "textCount" "I") (List.mem_of_getElem? (i := 17) rfl))
  have hU0 : ∀ w ∈ wsX00, w.before args s = true := fun w h => hts w (List.mem_cons_of_mem _ (List.mem_append_left _ (List.mem_append_right _ h)))
  have w24 := (hts (.instantiable RX0 15) (List.mem_of_getElem? (i := 18) rfl))
  have w25 := (hts (.initialized RX0) (List.mem_of_getElem? (i := 19) rfl))
  have w26 := (hts (.methodLink RX5 41 yX0_init) (List.mem_of_getElem? (i := 39) rfl))
  have w27 := (hts (.instanceMethod yX0_init) (List.mem_of_getElem? (i := 40) rfl))
  have w28 := (hts (.fieldLink RX5 44 "HandkerchiefsDropped" "now" "LHandkerchiefsDropped$Assize;") (List.mem_of_getElem? (i := 20) rfl))
  have w29 := (hts (.fieldLink RX5 48 "HandkerchiefsDropped" "kept" "LHandkerchiefsDropped$Assize;") (List.mem_of_getElem? (i := 21) rfl))
  have w30 := (hts (.fieldLink RX5 51 "HandkerchiefsDropped" "thought" "LHandkerchiefsDropped$Assize;") (List.mem_of_getElem? (i := 22) rfl))
  have hU3 : ∀ w ∈ wsX30, w.before args s = true := fun w h => hts w (List.mem_cons_of_mem _ (List.mem_append_right _ h))
  have w32 := (hts (.instantiable RX3 3) (List.mem_of_getElem? (i := 23) rfl))
  have w33 := (hts (.initialized RX3) (List.mem_of_getElem? (i := 24) rfl))
  have w34 := (hts (.instanceMethod yX3_init) (List.mem_of_getElem? (i := 59) rfl))
  rw [f_X5_init.eq_1] at h
  refine lv_aload_n hx hb dX5_init_0 rfl (lv_at hl 0 rfl) ?_
  refine W.objInit hx hb hown w0 w1 w2 rfl (by rw [hml]; exact hl.1) rfl dX5_init_1 (Nat.le_of_ble_eq_true rfl) (Nat.le_of_ble_eq_true rfl) ?_
  refine W.eq (g2 := F0 m 4 ls []) rfl ?_
  refine lv_aload_n hx hb dX5_init_4 rfl (lv_at hl 0 rfl) ?_
  refine lv_bipush hx hb dX5_init_5 kB_6 ?_
  refine m_anew (N' := 6) hx hb hown w3 hK hM 1 rfl (List.mem_of_getElem? (i := 0) rfl) (by decide) (by decide) (by decide) (Nat.le_of_ble_eq_true rfl) (Nat.le_of_ble_eq_true rfl) dX5_init_7 (fun H hM => ?_)
  obtain ⟨t101, et101⟩ : ∃ t, t = nR_ (σ) 1 6 := ⟨_, rfl⟩
  have h := vl_at et101 h
  have hM : mP G t101 H := by rw [et101]; exact hM
  obtain ⟨r102, er102⟩ : ∃ r : Nat, r = (σ).1 := ⟨_, rfl⟩
  have h := vl_at er102 h
  rw [← er102]
  refine m_putF (ci := 4) hx hb hU5 tyX5 tyX5_ok nmX5 hown hK hM hL rfl 0 (by decide) w5 rfl hnm rfl rfl rfl h dX5_init_10 (fun t103 H locs h hM hL => ?_)
  refine lv_aload_n hx hb dX5_init_13 rfl (lv_at hl 0 rfl) ?_
  refine m_new (ci := 3) hx hb hU4 tyX4 tyX4_ok hown w7 w8 w9 hK hM rfl hfs_X4 (Nat.le_of_ble_eq_true rfl) (Nat.le_of_ble_eq_true rfl) dX5_init_14 (fun H hM => ?_)
  obtain ⟨t104, et104⟩ : ∃ t, t = nO t103 3 df_X4 := ⟨_, rfl⟩
  have h := vl_at et104 h
  have hM : mP G t104 H := by rw [et104]; exact hM
  obtain ⟨r105, er105⟩ : ∃ r : Nat, r = t103.1 := ⟨_, rfl⟩
  have h := vl_at er105 h
  rw [← er105]
  refine lv_dup hx hb dX5_init_17 rfl ?_
  obtain ⟨q106, hq106, h⟩ := ob_some h
  refine m_callv (va_runIN (As := []) (rest := [.ref r105, .ref h0]) ⟨hx, hb, hml, hown, hts⟩ (c_X4_init l G hq106) ⟨(m_nest 0 hts gX5_init_X4_init_n17 rfl rfl rfl hK (List.mem_of_getElem? (i := 0) rfl) w9 hd_X4_init ⟨Nat.le_of_ble_eq_true rfl, Nat.le_of_ble_eq_true rfl⟩), rfl, w10⟩ (m_preS hK hM) rfl rfl hl.1 rfl (lv_room (Nat.le_of_ble_eq_true rfl)) dX5_init_18 ⟨Nat.le_of_ble_eq_true rfl, Nat.le_of_ble_eq_true rfl⟩) hL (fun H locs hM hL => ?_)
  refine m_putF (ci := 4) hx hb hU5 tyX5 tyX5_ok nmX5 hown hK hM hL rfl 1 (by decide) w11 rfl hnm rfl rfl rfl h dX5_init_21 (fun t107 H locs h hM hL => ?_)
  refine lv_aload_n hx hb dX5_init_24 rfl (lv_at hl 0 rfl) ?_
  refine lv_iconst hx hb dX5_init_25 kI_4 ?_
  refine m_anew (N' := 4) hx hb hown w12 hK hM 2 rfl (List.mem_of_getElem? (i := 1) rfl) (by decide) (by decide) (by decide) (Nat.le_of_ble_eq_true rfl) (Nat.le_of_ble_eq_true rfl) dX5_init_26 (fun H hM => ?_)
  obtain ⟨t108, et108⟩ : ∃ t, t = nR_ t107 2 4 := ⟨_, rfl⟩
  have h := vl_at et108 h
  have hM : mP G t108 H := by rw [et108]; exact hM
  obtain ⟨r109, er109⟩ : ∃ r : Nat, r = t107.1 := ⟨_, rfl⟩
  have h := vl_at er109 h
  rw [← er109]
  refine m_putF (ci := 4) hx hb hU5 tyX5 tyX5_ok nmX5 hown hK hM hL rfl 2 (by decide) w13 rfl hnm rfl rfl rfl h dX5_init_29 (fun t110 H locs h hM hL => ?_)
  refine lv_aload_n hx hb dX5_init_32 rfl (lv_at hl 0 rfl) ?_
  refine lv_iconst hx hb dX5_init_33 kI_4 ?_
  refine m_anew (N' := 4) hx hb hown w14 hK hM 3 rfl (List.mem_of_getElem? (i := 2) rfl) (by decide) (by decide) (by decide) (Nat.le_of_ble_eq_true rfl) (Nat.le_of_ble_eq_true rfl) dX5_init_34 (fun H hM => ?_)
  obtain ⟨t111, et111⟩ : ∃ t, t = nR_ t110 3 4 := ⟨_, rfl⟩
  have h := vl_at et111 h
  have hM : mP G t111 H := by rw [et111]; exact hM
  obtain ⟨r112, er112⟩ : ∃ r : Nat, r = t110.1 := ⟨_, rfl⟩
  have h := vl_at er112 h
  rw [← er112]
  refine m_putF (ci := 4) hx hb hU5 tyX5 tyX5_ok nmX5 hown hK hM hL rfl 6 (by decide) w15 rfl hnm rfl rfl rfl h dX5_init_37 (fun t113 H locs h hM hL => ?_)
  refine m_new (ci := 1) hx hb hU2 tyX2 tyX2_ok hown w3 w17 w18 hK hM rfl hfs_X2 (Nat.le_of_ble_eq_true rfl) (Nat.le_of_ble_eq_true rfl) dX5_init_40 (fun H hM => ?_)
  obtain ⟨t114, et114⟩ : ∃ t, t = nO t113 1 df_X2 := ⟨_, rfl⟩
  have h := vl_at et114 h
  have hM : mP G t114 H := by rw [et114]; exact hM
  obtain ⟨r115, er115⟩ : ∃ r : Nat, r = t113.1 := ⟨_, rfl⟩
  have h := vl_at er115 h
  rw [← er115]
  refine lv_dup hx hb dX5_init_43 rfl ?_
  refine lv_iconst hx hb dX5_init_44 kI_0 ?_
  refine lv_iconst hx hb dX5_init_45 kI_3 ?_
  refine m_newa (N' := 3) hx hb w19 hK hM (by decide) (by decide) (by decide) (Nat.le_of_ble_eq_true rfl) (Nat.le_of_ble_eq_true rfl) dX5_init_46 (fun H hM => ?_)
  obtain ⟨t116, et116⟩ : ∃ t, t = nI_ t114 3 := ⟨_, rfl⟩
  have h := vl_at et116 h
  have hM : mP G t116 H := by rw [et116]; exact hM
  obtain ⟨r117, er117⟩ : ∃ r : Nat, r = t114.1 := ⟨_, rfl⟩
  have h := vl_at er117 h
  rw [← er117]
  refine lv_dup hx hb dX5_init_48 rfl ?_
  refine lv_iconst hx hb dX5_init_49 kI_0 ?_
  refine lv_iconst hx hb dX5_init_50 kI_m1 ?_
  refine m_iast hx hb hK hM hL h dX5_init_51 (fun t118 H locs h hM hL => ?_)
  refine lv_dup hx hb dX5_init_52 rfl ?_
  refine lv_iconst hx hb dX5_init_53 kI_1 ?_
  refine lv_bipush hx hb dX5_init_54 kB_6 ?_
  refine m_iast hx hb hK hM hL h dX5_init_56 (fun t119 H locs h hM hL => ?_)
  refine lv_dup hx hb dX5_init_57 rfl ?_
  refine lv_iconst hx hb dX5_init_58 kI_2 ?_
  refine lv_bipush hx hb dX5_init_59 kB_m3 ?_
  refine m_iast hx hb hK hM hL h dX5_init_61 (fun t120 H locs h hM hL => ?_)
  refine lv_iconst hx hb dX5_init_62 kI_1 ?_
  refine lv_iconst hx hb dX5_init_63 kI_2 ?_
  obtain ⟨q121, hq121, h⟩ := ob_some h
  refine m_callv (va_runI (As := [.int (0 : Int32), .ref r117, .int (1 : Int32), .int (2 : Int32)]) (rest := [.ref r115]) ⟨hx, hb, hml, hown, hts⟩ (c_X2_init l G hq121) (cwI 4 hts gX5_init_X2_init rfl rfl rfl w18 w20 w21 rfl hd_X2_init ⟨Nat.le_of_ble_eq_true rfl, Nat.le_of_ble_eq_true rfl⟩) (m_preS hK hM) rfl rfl hl.1 rfl (lv_room (Nat.le_of_ble_eq_true rfl)) dX5_init_64 ⟨Nat.le_of_ble_eq_true rfl, Nat.le_of_ble_eq_true rfl⟩) hL (fun H locs hM hL => ?_)
  refine lv_astore_n (lv' := [(1, .ref r115), (0, .ref h0)]) hx hb dX5_init_67 rfl hl (by decide) rfl (fun ls hl => ?_)
  refine lv_aload_n hx hb dX5_init_68 rfl (lv_at hl 1 rfl) ?_
  refine m_getR (ci := 4) hx hb hU5 hown hK hM rfl 0 (by decide) w5 h dX5_init_69 (fun r122 gr122 h => ?_)
  refine lv_iconst hx hb dX5_init_72 kI_0 ?_
  refine lv_aload_n hx hb dX5_init_73 rfl (lv_at hl 0 rfl) ?_
  refine m_aast hx hb hK hM hL 1 1 rfl rfl h dX5_init_74 (fun t123 H locs h hM hL => ?_)
  refine lv_aload_n hx hb dX5_init_75 rfl (lv_at hl 1 rfl) ?_
  refine lv_iconst hx hb dX5_init_76 kI_1 ?_
  refine m_put (ci := 4) hx hb hU5 tyX5 tyX5_ok nmX5 hown hK hM hL rfl 7 (by decide) w22 rfl rfl rfl h dX5_init_77 (fun t124 H locs h hM hL => ?_)
  refine lv_sipush hx hb dX5_init_80 kS_160 ?_
  refine m_newa (N' := 160) hx hb w19 hK hM (by decide) (by decide) (by decide) (Nat.le_of_ble_eq_true rfl) (Nat.le_of_ble_eq_true rfl) dX5_init_83 (fun H hM => ?_)
  obtain ⟨t125, et125⟩ : ∃ t, t = nI_ t124 160 := ⟨_, rfl⟩
  have h := vl_at et125 h
  have hM : mP G t125 H := by rw [et125]; exact hM
  obtain ⟨r126, er126⟩ : ∃ r : Nat, r = t124.1 := ⟨_, rfl⟩
  have h := vl_at er126 h
  rw [← er126]
  refine lv_astore_n (lv' := [(2, .ref r126), (1, .ref r115), (0, .ref h0)]) hx hb dX5_init_85 rfl hl (by decide) rfl (fun ls hl => ?_)
  refine lv_aload_n hx hb dX5_init_86 rfl (lv_at hl 2 rfl) ?_
  refine m_new (ci := 0) hx hb hU0 tyX0 tyX0_ok hown w14 w24 w25 hK hM rfl hfs_X0 (Nat.le_of_ble_eq_true rfl) (Nat.le_of_ble_eq_true rfl) dX5_init_87 (fun H hM => ?_)
  obtain ⟨t127, et127⟩ : ∃ t, t = nO t125 0 df_X0 := ⟨_, rfl⟩
  have h := vl_at et127 h
  have hM : mP G t127 H := by rw [et127]; exact hM
  obtain ⟨r128, er128⟩ : ∃ r : Nat, r = t125.1 := ⟨_, rfl⟩
  have h := vl_at er128 h
  rw [← er128]
  refine lv_dup hx hb dX5_init_90 rfl ?_
  refine lv_aload_n hx hb dX5_init_91 rfl (lv_at hl 1 rfl) ?_
  refine lv_aload_n hx hb dX5_init_92 rfl (lv_at hl 0 rfl) ?_
  obtain ⟨q129, hq129, h⟩ := ob_some h
  refine m_callv (va_runI (As := [.ref r115, .ref r126]) (rest := [.ref r128, .ref h0]) ⟨hx, hb, hml, hown, hts⟩ (c_X0_init l G hq129) (cwI 2 hts gX5_init_X0_init rfl rfl rfl w25 w26 w27 rfl hd_X0_init ⟨Nat.le_of_ble_eq_true rfl, Nat.le_of_ble_eq_true rfl⟩) (m_preS hK hM) rfl rfl hl.1 rfl (lv_room (Nat.le_of_ble_eq_true rfl)) dX5_init_93 ⟨Nat.le_of_ble_eq_true rfl, Nat.le_of_ble_eq_true rfl⟩) hL (fun H locs hM hL => ?_)
  refine m_putF (ci := 4) hx hb hU5 tyX5 tyX5_ok nmX5 hown hK hM hL rfl 3 (by decide) w28 rfl hnm rfl rfl rfl h dX5_init_96 (fun t130 H locs h hM hL => ?_)
  refine lv_aload_n hx hb dX5_init_99 rfl (lv_at hl 2 rfl) ?_
  refine m_new (ci := 0) hx hb hU0 tyX0 tyX0_ok hown w14 w24 w25 hK hM rfl hfs_X0 (Nat.le_of_ble_eq_true rfl) (Nat.le_of_ble_eq_true rfl) dX5_init_100 (fun H hM => ?_)
  obtain ⟨t131, et131⟩ : ∃ t, t = nO t130 0 df_X0 := ⟨_, rfl⟩
  have h := vl_at et131 h
  have hM : mP G t131 H := by rw [et131]; exact hM
  obtain ⟨r132, er132⟩ : ∃ r : Nat, r = t130.1 := ⟨_, rfl⟩
  have h := vl_at er132 h
  rw [← er132]
  refine lv_dup hx hb dX5_init_103 rfl ?_
  refine lv_aload_n hx hb dX5_init_104 rfl (lv_at hl 1 rfl) ?_
  refine lv_aload_n hx hb dX5_init_105 rfl (lv_at hl 0 rfl) ?_
  obtain ⟨q133, hq133, h⟩ := ob_some h
  refine m_callv (va_runI (As := [.ref r115, .ref r126]) (rest := [.ref r132, .ref h0]) ⟨hx, hb, hml, hown, hts⟩ (c_X0_init l G hq133) (cwI 2 hts gX5_init_X0_init rfl rfl rfl w25 w26 w27 rfl hd_X0_init ⟨Nat.le_of_ble_eq_true rfl, Nat.le_of_ble_eq_true rfl⟩) (m_preS hK hM) rfl rfl hl.1 rfl (lv_room (Nat.le_of_ble_eq_true rfl)) dX5_init_106 ⟨Nat.le_of_ble_eq_true rfl, Nat.le_of_ble_eq_true rfl⟩) hL (fun H locs hM hL => ?_)
  refine m_putF (ci := 4) hx hb hU5 tyX5 tyX5_ok nmX5 hown hK hM hL rfl 4 (by decide) w29 rfl hnm rfl rfl rfl h dX5_init_109 (fun t134 H locs h hM hL => ?_)
  refine lv_aload_n hx hb dX5_init_112 rfl (lv_at hl 2 rfl) ?_
  refine m_new (ci := 0) hx hb hU0 tyX0 tyX0_ok hown w14 w24 w25 hK hM rfl hfs_X0 (Nat.le_of_ble_eq_true rfl) (Nat.le_of_ble_eq_true rfl) dX5_init_113 (fun H hM => ?_)
  obtain ⟨t135, et135⟩ : ∃ t, t = nO t134 0 df_X0 := ⟨_, rfl⟩
  have h := vl_at et135 h
  have hM : mP G t135 H := by rw [et135]; exact hM
  obtain ⟨r136, er136⟩ : ∃ r : Nat, r = t134.1 := ⟨_, rfl⟩
  have h := vl_at er136 h
  rw [← er136]
  refine lv_dup hx hb dX5_init_116 rfl ?_
  refine lv_aload_n hx hb dX5_init_117 rfl (lv_at hl 1 rfl) ?_
  refine lv_aload_n hx hb dX5_init_118 rfl (lv_at hl 0 rfl) ?_
  obtain ⟨q137, hq137, h⟩ := ob_some h
  refine m_callv (va_runI (As := [.ref r115, .ref r126]) (rest := [.ref r136, .ref h0]) ⟨hx, hb, hml, hown, hts⟩ (c_X0_init l G hq137) (cwI 2 hts gX5_init_X0_init rfl rfl rfl w25 w26 w27 rfl hd_X0_init ⟨Nat.le_of_ble_eq_true rfl, Nat.le_of_ble_eq_true rfl⟩) (m_preS hK hM) rfl rfl hl.1 rfl (lv_room (Nat.le_of_ble_eq_true rfl)) dX5_init_119 ⟨Nat.le_of_ble_eq_true rfl, Nat.le_of_ble_eq_true rfl⟩) hL (fun H locs hM hL => ?_)
  refine m_putF (ci := 4) hx hb hU5 tyX5 tyX5_ok nmX5 hown hK hM hL rfl 5 (by decide) w30 rfl hnm rfl rfl rfl h dX5_init_122 (fun t138 H locs h hM hL => ?_)
  refine lv_aload_n hx hb dX5_init_125 rfl (lv_at hl 2 rfl) ?_
  refine m_getR (ci := 4) hx hb hU5 hown hK hM rfl 6 (by decide) w15 h dX5_init_126 (fun r139 gr139 h => ?_)
  refine lv_iconst hx hb dX5_init_129 kI_0 ?_
  refine lv_aload_n hx hb dX5_init_130 rfl (lv_at hl 2 rfl) ?_
  refine m_getR (ci := 4) hx hb hU5 hown hK hM rfl 3 (by decide) w28 h dX5_init_131 (fun r140 gr140 h => ?_)
  refine m_aast hx hb hK hM hL 3 0 rfl rfl h dX5_init_134 (fun t141 H locs h hM hL => ?_)
  refine lv_iconst hx hb dX5_init_135 kI_1 ?_
  refine lv_istore_n (lv' := [(3, .int (1 : Int32)), (2, .ref r126), (1, .ref r115), (0, .ref h0)]) hx hb dX5_init_136 rfl hl (by decide) rfl (fun ls hl => ?_)
  refine lv_iload_n hx hb dX5_init_137 rfl (lv_at hl 0 rfl) ?_
  refine lv_aload_n hx hb dX5_init_138 rfl (lv_at hl 3 rfl) ?_
  refine m_getR (ci := 4) hx hb hU5 hown hK hM rfl 6 (by decide) w15 h dX5_init_139 (fun r142 gr142 h => ?_)
  refine m_rlen hx hb hK hM 3 rfl h dX5_init_142 (fun v143 gv143 h => ?_)
  refine lv_icmp_ge (tgt := 167) hx hb dX5_init_143 (by decide) (fun c144 => ?_) (fun c144 => ?_)
  · exact absurd c144 (on_some h).1
  have h := (on_some h).2
  refine lv_aload_n hx hb dX5_init_146 rfl (lv_at hl 3 rfl) ?_
  refine m_getR (ci := 4) hx hb hU5 hown hK hM rfl 6 (by decide) w15 h dX5_init_147 (fun r145 gr145 h => ?_)
  refine lv_iload_n hx hb dX5_init_150 rfl (lv_at hl 0 rfl) ?_
  refine m_new (ci := 0) hx hb hU0 tyX0 tyX0_ok hown w14 w24 w25 hK hM rfl hfs_X0 (Nat.le_of_ble_eq_true rfl) (Nat.le_of_ble_eq_true rfl) dX5_init_151 (fun H hM => ?_)
  obtain ⟨t146, et146⟩ : ∃ t, t = nO t141 0 df_X0 := ⟨_, rfl⟩
  have h := vl_at et146 h
  have hM : mP G t146 H := by rw [et146]; exact hM
  obtain ⟨r147, er147⟩ : ∃ r : Nat, r = t141.1 := ⟨_, rfl⟩
  have h := vl_at er147 h
  rw [← er147]
  refine lv_dup hx hb dX5_init_154 rfl ?_
  refine lv_aload_n hx hb dX5_init_155 rfl (lv_at hl 2 rfl) ?_
  refine lv_aload_n hx hb dX5_init_156 rfl (lv_at hl 1 rfl) ?_
  obtain ⟨q148, hq148, h⟩ := ob_some h
  refine m_callv (va_runI (As := [.ref r115, .ref r126]) (rest := [.ref r147, .int (1 : Int32), .ref r145]) ⟨hx, hb, hml, hown, hts⟩ (c_X0_init l G hq148) (cwI 2 hts gX5_init_X0_init rfl rfl rfl w25 w26 w27 rfl hd_X0_init ⟨Nat.le_of_ble_eq_true rfl, Nat.le_of_ble_eq_true rfl⟩) (m_preS hK hM) rfl rfl hl.1 rfl (lv_room (Nat.le_of_ble_eq_true rfl)) dX5_init_157 ⟨Nat.le_of_ble_eq_true rfl, Nat.le_of_ble_eq_true rfl⟩) hL (fun H locs hM hL => ?_)
  refine m_aast hx hb hK hM hL 3 0 rfl rfl h dX5_init_160 (fun t149 H locs h hM hL => ?_)
  obtain ⟨v150, ev150⟩ : ∃ y : Int32, y = (1 : Int32) + (1 : Int32) := ⟨_, rfl⟩
  have h := vl_at ev150 h
  refine lv_iinc (v := v150) (lv' := [(3, .int v150), (2, .ref r126), (1, .ref r115), (0, .ref h0)]) hx hb dX5_init_161 hl (k := 0) rfl (by rw [ev150, kI_1]) (by decide) rfl (fun ls hl => ?_)
  refine lv_goto (tgt := 137) hx hb dX5_init_164 (by decide) ?_
  refine lv_iload_n hx hb dX5_init_137 rfl (lv_at hl 0 rfl) ?_
  refine lv_aload_n hx hb dX5_init_138 rfl (lv_at hl 3 rfl) ?_
  refine m_getR (ci := 4) hx hb hU5 hown hK hM rfl 6 (by decide) w15 h dX5_init_139 (fun r151 gr151 h => ?_)
  refine m_rlen hx hb hK hM 3 rfl h dX5_init_142 (fun v152 gv152 h => ?_)
  refine lv_icmp_ge (tgt := 167) hx hb dX5_init_143 (by decide) (fun c153 => ?_) (fun c153 => ?_)
  · exact absurd c153 (on_some h).1
  have h := (on_some h).2
  refine lv_aload_n hx hb dX5_init_146 rfl (lv_at hl 3 rfl) ?_
  refine m_getR (ci := 4) hx hb hU5 hown hK hM rfl 6 (by decide) w15 h dX5_init_147 (fun r154 gr154 h => ?_)
  refine lv_iload_n hx hb dX5_init_150 rfl (lv_at hl 0 rfl) ?_
  refine m_new (ci := 0) hx hb hU0 tyX0 tyX0_ok hown w14 w24 w25 hK hM rfl hfs_X0 (Nat.le_of_ble_eq_true rfl) (Nat.le_of_ble_eq_true rfl) dX5_init_151 (fun H hM => ?_)
  obtain ⟨t155, et155⟩ : ∃ t, t = nO t149 0 df_X0 := ⟨_, rfl⟩
  have h := vl_at et155 h
  have hM : mP G t155 H := by rw [et155]; exact hM
  obtain ⟨r156, er156⟩ : ∃ r : Nat, r = t149.1 := ⟨_, rfl⟩
  have h := vl_at er156 h
  rw [← er156]
  refine lv_dup hx hb dX5_init_154 rfl ?_
  refine lv_aload_n hx hb dX5_init_155 rfl (lv_at hl 2 rfl) ?_
  refine lv_aload_n hx hb dX5_init_156 rfl (lv_at hl 1 rfl) ?_
  obtain ⟨q157, hq157, h⟩ := ob_some h
  refine m_callv (va_runI (As := [.ref r115, .ref r126]) (rest := [.ref r156, .int v150, .ref r154]) ⟨hx, hb, hml, hown, hts⟩ (c_X0_init l G hq157) (cwI 2 hts gX5_init_X0_init rfl rfl rfl w25 w26 w27 rfl hd_X0_init ⟨Nat.le_of_ble_eq_true rfl, Nat.le_of_ble_eq_true rfl⟩) (m_preS hK hM) rfl rfl hl.1 rfl (lv_room (Nat.le_of_ble_eq_true rfl)) dX5_init_157 ⟨Nat.le_of_ble_eq_true rfl, Nat.le_of_ble_eq_true rfl⟩) hL (fun H locs hM hL => ?_)
  refine m_aast hx hb hK hM hL 3 0 rfl rfl h dX5_init_160 (fun t158 H locs h hM hL => ?_)
  obtain ⟨v159, ev159⟩ : ∃ y : Int32, y = v150 + (1 : Int32) := ⟨_, rfl⟩
  have h := vl_at ev159 h
  refine lv_iinc (v := v159) (lv' := [(3, .int v159), (2, .ref r126), (1, .ref r115), (0, .ref h0)]) hx hb dX5_init_161 hl (k := 0) rfl (by rw [ev159, kI_1]) (by decide) rfl (fun ls hl => ?_)
  refine lv_goto (tgt := 137) hx hb dX5_init_164 (by decide) ?_
  refine lv_iload_n hx hb dX5_init_137 rfl (lv_at hl 0 rfl) ?_
  refine lv_aload_n hx hb dX5_init_138 rfl (lv_at hl 3 rfl) ?_
  refine m_getR (ci := 4) hx hb hU5 hown hK hM rfl 6 (by decide) w15 h dX5_init_139 (fun r160 gr160 h => ?_)
  refine m_rlen hx hb hK hM 3 rfl h dX5_init_142 (fun v161 gv161 h => ?_)
  refine lv_icmp_ge (tgt := 167) hx hb dX5_init_143 (by decide) (fun c162 => ?_) (fun c162 => ?_)
  · exact absurd c162 (on_some h).1
  have h := (on_some h).2
  refine lv_aload_n hx hb dX5_init_146 rfl (lv_at hl 3 rfl) ?_
  refine m_getR (ci := 4) hx hb hU5 hown hK hM rfl 6 (by decide) w15 h dX5_init_147 (fun r163 gr163 h => ?_)
  refine lv_iload_n hx hb dX5_init_150 rfl (lv_at hl 0 rfl) ?_
  refine m_new (ci := 0) hx hb hU0 tyX0 tyX0_ok hown w14 w24 w25 hK hM rfl hfs_X0 (Nat.le_of_ble_eq_true rfl) (Nat.le_of_ble_eq_true rfl) dX5_init_151 (fun H hM => ?_)
  obtain ⟨t164, et164⟩ : ∃ t, t = nO t158 0 df_X0 := ⟨_, rfl⟩
  have h := vl_at et164 h
  have hM : mP G t164 H := by rw [et164]; exact hM
  obtain ⟨r165, er165⟩ : ∃ r : Nat, r = t158.1 := ⟨_, rfl⟩
  have h := vl_at er165 h
  rw [← er165]
  refine lv_dup hx hb dX5_init_154 rfl ?_
  refine lv_aload_n hx hb dX5_init_155 rfl (lv_at hl 2 rfl) ?_
  refine lv_aload_n hx hb dX5_init_156 rfl (lv_at hl 1 rfl) ?_
  obtain ⟨q166, hq166, h⟩ := ob_some h
  refine m_callv (va_runI (As := [.ref r115, .ref r126]) (rest := [.ref r165, .int v159, .ref r163]) ⟨hx, hb, hml, hown, hts⟩ (c_X0_init l G hq166) (cwI 2 hts gX5_init_X0_init rfl rfl rfl w25 w26 w27 rfl hd_X0_init ⟨Nat.le_of_ble_eq_true rfl, Nat.le_of_ble_eq_true rfl⟩) (m_preS hK hM) rfl rfl hl.1 rfl (lv_room (Nat.le_of_ble_eq_true rfl)) dX5_init_157 ⟨Nat.le_of_ble_eq_true rfl, Nat.le_of_ble_eq_true rfl⟩) hL (fun H locs hM hL => ?_)
  refine m_aast hx hb hK hM hL 3 0 rfl rfl h dX5_init_160 (fun t167 H locs h hM hL => ?_)
  obtain ⟨v168, ev168⟩ : ∃ y : Int32, y = v159 + (1 : Int32) := ⟨_, rfl⟩
  have h := vl_at ev168 h
  refine lv_iinc (v := v168) (lv' := [(3, .int v168), (2, .ref r126), (1, .ref r115), (0, .ref h0)]) hx hb dX5_init_161 hl (k := 0) rfl (by rw [ev168, kI_1]) (by decide) rfl (fun ls hl => ?_)
  refine lv_goto (tgt := 137) hx hb dX5_init_164 (by decide) ?_
  refine lv_iload_n hx hb dX5_init_137 rfl (lv_at hl 0 rfl) ?_
  refine lv_aload_n hx hb dX5_init_138 rfl (lv_at hl 3 rfl) ?_
  refine m_getR (ci := 4) hx hb hU5 hown hK hM rfl 6 (by decide) w15 h dX5_init_139 (fun r169 gr169 h => ?_)
  refine m_rlen hx hb hK hM 3 rfl h dX5_init_142 (fun v170 gv170 h => ?_)
  refine lv_icmp_ge (tgt := 167) hx hb dX5_init_143 (by decide) (fun c171 => ?_) (fun c171 => ?_)
  rotate_left
  · exact absurd (oi_some h).1 c171
  have h := (oi_some h).2
  refine lv_iconst hx hb dX5_init_167 kI_0 ?_
  refine lv_istore_n (lv' := [(3, .int (0 : Int32)), (2, .ref r126), (1, .ref r115), (0, .ref h0)]) hx hb dX5_init_168 rfl hl (by decide) rfl (fun ls hl => ?_)
  refine lv_iload_n hx hb dX5_init_169 rfl (lv_at hl 0 rfl) ?_
  refine lv_iconst hx hb dX5_init_170 kI_4 ?_
  refine lv_icmp_ge (tgt := 193) hx hb dX5_init_171 (by decide) (fun c172 => ?_) (fun c172 => ?_)
  · exact absurd c172 (by decide)
  refine lv_aload_n hx hb dX5_init_174 rfl (lv_at hl 3 rfl) ?_
  refine m_getR (ci := 4) hx hb hU5 hown hK hM rfl 2 (by decide) w13 h dX5_init_175 (fun r173 gr173 h => ?_)
  refine lv_iload_n hx hb dX5_init_178 rfl (lv_at hl 0 rfl) ?_
  refine m_new (ci := 2) hx hb hU3 tyX3 tyX3_ok hown w12 w32 w33 hK hM rfl hfs_X3 (Nat.le_of_ble_eq_true rfl) (Nat.le_of_ble_eq_true rfl) dX5_init_179 (fun H hM => ?_)
  obtain ⟨t174, et174⟩ : ∃ t, t = nO t167 2 df_X3 := ⟨_, rfl⟩
  have h := vl_at et174 h
  have hM : mP G t174 H := by rw [et174]; exact hM
  obtain ⟨r175, er175⟩ : ∃ r : Nat, r = t167.1 := ⟨_, rfl⟩
  have h := vl_at er175 h
  rw [← er175]
  refine lv_dup hx hb dX5_init_182 rfl ?_
  obtain ⟨q176, hq176, h⟩ := ob_some h
  refine m_callv (va_runIN (As := []) (rest := [.ref r175, .int (0 : Int32), .ref r173]) ⟨hx, hb, hml, hown, hts⟩ (c_X3_init l G hq176) ⟨(m_nest 0 hts gX5_init_X3_init_n54 rfl rfl rfl hK (List.mem_of_getElem? (i := 18) rfl) w33 hd_X3_init ⟨Nat.le_of_ble_eq_true rfl, Nat.le_of_ble_eq_true rfl⟩), rfl, w34⟩ (m_preS hK hM) rfl rfl hl.1 rfl (lv_room (Nat.le_of_ble_eq_true rfl)) dX5_init_183 ⟨Nat.le_of_ble_eq_true rfl, Nat.le_of_ble_eq_true rfl⟩) hL (fun H locs hM hL => ?_)
  refine m_aast hx hb hK hM hL 2 2 rfl rfl h dX5_init_186 (fun t177 H locs h hM hL => ?_)
  obtain ⟨v178, ev178⟩ : ∃ y : Int32, y = (0 : Int32) + (1 : Int32) := ⟨_, rfl⟩
  have h := vl_at ev178 h
  refine lv_iinc (v := v178) (lv' := [(3, .int v178), (2, .ref r126), (1, .ref r115), (0, .ref h0)]) hx hb dX5_init_187 hl (k := 0) rfl (by rw [ev178, kI_1]) (by decide) rfl (fun ls hl => ?_)
  refine lv_goto (tgt := 169) hx hb dX5_init_190 (by decide) ?_
  refine lv_iload_n hx hb dX5_init_169 rfl (lv_at hl 0 rfl) ?_
  refine lv_iconst hx hb dX5_init_170 kI_4 ?_
  refine lv_icmp_ge (tgt := 193) hx hb dX5_init_171 (by decide) (fun c179 => ?_) (fun c179 => ?_)
  · exact absurd c179 (on_some h).1
  have h := (on_some h).2
  refine lv_aload_n hx hb dX5_init_174 rfl (lv_at hl 3 rfl) ?_
  refine m_getR (ci := 4) hx hb hU5 hown hK hM rfl 2 (by decide) w13 h dX5_init_175 (fun r180 gr180 h => ?_)
  refine lv_iload_n hx hb dX5_init_178 rfl (lv_at hl 0 rfl) ?_
  refine m_new (ci := 2) hx hb hU3 tyX3 tyX3_ok hown w12 w32 w33 hK hM rfl hfs_X3 (Nat.le_of_ble_eq_true rfl) (Nat.le_of_ble_eq_true rfl) dX5_init_179 (fun H hM => ?_)
  obtain ⟨t181, et181⟩ : ∃ t, t = nO t177 2 df_X3 := ⟨_, rfl⟩
  have h := vl_at et181 h
  have hM : mP G t181 H := by rw [et181]; exact hM
  obtain ⟨r182, er182⟩ : ∃ r : Nat, r = t177.1 := ⟨_, rfl⟩
  have h := vl_at er182 h
  rw [← er182]
  refine lv_dup hx hb dX5_init_182 rfl ?_
  obtain ⟨q183, hq183, h⟩ := ob_some h
  refine m_callv (va_runIN (As := []) (rest := [.ref r182, .int v178, .ref r180]) ⟨hx, hb, hml, hown, hts⟩ (c_X3_init l G hq183) ⟨(m_nest 0 hts gX5_init_X3_init_n54 rfl rfl rfl hK (List.mem_of_getElem? (i := 18) rfl) w33 hd_X3_init ⟨Nat.le_of_ble_eq_true rfl, Nat.le_of_ble_eq_true rfl⟩), rfl, w34⟩ (m_preS hK hM) rfl rfl hl.1 rfl (lv_room (Nat.le_of_ble_eq_true rfl)) dX5_init_183 ⟨Nat.le_of_ble_eq_true rfl, Nat.le_of_ble_eq_true rfl⟩) hL (fun H locs hM hL => ?_)
  refine m_aast hx hb hK hM hL 2 2 rfl rfl h dX5_init_186 (fun t184 H locs h hM hL => ?_)
  obtain ⟨v185, ev185⟩ : ∃ y : Int32, y = v178 + (1 : Int32) := ⟨_, rfl⟩
  have h := vl_at ev185 h
  refine lv_iinc (v := v185) (lv' := [(3, .int v185), (2, .ref r126), (1, .ref r115), (0, .ref h0)]) hx hb dX5_init_187 hl (k := 0) rfl (by rw [ev185, kI_1]) (by decide) rfl (fun ls hl => ?_)
  refine lv_goto (tgt := 169) hx hb dX5_init_190 (by decide) ?_
  refine lv_iload_n hx hb dX5_init_169 rfl (lv_at hl 0 rfl) ?_
  refine lv_iconst hx hb dX5_init_170 kI_4 ?_
  refine lv_icmp_ge (tgt := 193) hx hb dX5_init_171 (by decide) (fun c186 => ?_) (fun c186 => ?_)
  · exact absurd c186 (on_some h).1
  have h := (on_some h).2
  refine lv_aload_n hx hb dX5_init_174 rfl (lv_at hl 3 rfl) ?_
  refine m_getR (ci := 4) hx hb hU5 hown hK hM rfl 2 (by decide) w13 h dX5_init_175 (fun r187 gr187 h => ?_)
  refine lv_iload_n hx hb dX5_init_178 rfl (lv_at hl 0 rfl) ?_
  refine m_new (ci := 2) hx hb hU3 tyX3 tyX3_ok hown w12 w32 w33 hK hM rfl hfs_X3 (Nat.le_of_ble_eq_true rfl) (Nat.le_of_ble_eq_true rfl) dX5_init_179 (fun H hM => ?_)
  obtain ⟨t188, et188⟩ : ∃ t, t = nO t184 2 df_X3 := ⟨_, rfl⟩
  have h := vl_at et188 h
  have hM : mP G t188 H := by rw [et188]; exact hM
  obtain ⟨r189, er189⟩ : ∃ r : Nat, r = t184.1 := ⟨_, rfl⟩
  have h := vl_at er189 h
  rw [← er189]
  refine lv_dup hx hb dX5_init_182 rfl ?_
  obtain ⟨q190, hq190, h⟩ := ob_some h
  refine m_callv (va_runIN (As := []) (rest := [.ref r189, .int v185, .ref r187]) ⟨hx, hb, hml, hown, hts⟩ (c_X3_init l G hq190) ⟨(m_nest 0 hts gX5_init_X3_init_n54 rfl rfl rfl hK (List.mem_of_getElem? (i := 18) rfl) w33 hd_X3_init ⟨Nat.le_of_ble_eq_true rfl, Nat.le_of_ble_eq_true rfl⟩), rfl, w34⟩ (m_preS hK hM) rfl rfl hl.1 rfl (lv_room (Nat.le_of_ble_eq_true rfl)) dX5_init_183 ⟨Nat.le_of_ble_eq_true rfl, Nat.le_of_ble_eq_true rfl⟩) hL (fun H locs hM hL => ?_)
  refine m_aast hx hb hK hM hL 2 2 rfl rfl h dX5_init_186 (fun t191 H locs h hM hL => ?_)
  obtain ⟨v192, ev192⟩ : ∃ y : Int32, y = v185 + (1 : Int32) := ⟨_, rfl⟩
  have h := vl_at ev192 h
  refine lv_iinc (v := v192) (lv' := [(3, .int v192), (2, .ref r126), (1, .ref r115), (0, .ref h0)]) hx hb dX5_init_187 hl (k := 0) rfl (by rw [ev192, kI_1]) (by decide) rfl (fun ls hl => ?_)
  refine lv_goto (tgt := 169) hx hb dX5_init_190 (by decide) ?_
  refine lv_iload_n hx hb dX5_init_169 rfl (lv_at hl 0 rfl) ?_
  refine lv_iconst hx hb dX5_init_170 kI_4 ?_
  refine lv_icmp_ge (tgt := 193) hx hb dX5_init_171 (by decide) (fun c193 => ?_) (fun c193 => ?_)
  · exact absurd c193 (on_some h).1
  have h := (on_some h).2
  refine lv_aload_n hx hb dX5_init_174 rfl (lv_at hl 3 rfl) ?_
  refine m_getR (ci := 4) hx hb hU5 hown hK hM rfl 2 (by decide) w13 h dX5_init_175 (fun r194 gr194 h => ?_)
  refine lv_iload_n hx hb dX5_init_178 rfl (lv_at hl 0 rfl) ?_
  refine m_new (ci := 2) hx hb hU3 tyX3 tyX3_ok hown w12 w32 w33 hK hM rfl hfs_X3 (Nat.le_of_ble_eq_true rfl) (Nat.le_of_ble_eq_true rfl) dX5_init_179 (fun H hM => ?_)
  obtain ⟨t195, et195⟩ : ∃ t, t = nO t191 2 df_X3 := ⟨_, rfl⟩
  have h := vl_at et195 h
  have hM : mP G t195 H := by rw [et195]; exact hM
  obtain ⟨r196, er196⟩ : ∃ r : Nat, r = t191.1 := ⟨_, rfl⟩
  have h := vl_at er196 h
  rw [← er196]
  refine lv_dup hx hb dX5_init_182 rfl ?_
  obtain ⟨q197, hq197, h⟩ := ob_some h
  refine m_callv (va_runIN (As := []) (rest := [.ref r196, .int v192, .ref r194]) ⟨hx, hb, hml, hown, hts⟩ (c_X3_init l G hq197) ⟨(m_nest 0 hts gX5_init_X3_init_n54 rfl rfl rfl hK (List.mem_of_getElem? (i := 18) rfl) w33 hd_X3_init ⟨Nat.le_of_ble_eq_true rfl, Nat.le_of_ble_eq_true rfl⟩), rfl, w34⟩ (m_preS hK hM) rfl rfl hl.1 rfl (lv_room (Nat.le_of_ble_eq_true rfl)) dX5_init_183 ⟨Nat.le_of_ble_eq_true rfl, Nat.le_of_ble_eq_true rfl⟩) hL (fun H locs hM hL => ?_)
  refine m_aast hx hb hK hM hL 2 2 rfl rfl h dX5_init_186 (fun t198 H locs h hM hL => ?_)
  obtain ⟨v199, ev199⟩ : ∃ y : Int32, y = v192 + (1 : Int32) := ⟨_, rfl⟩
  have h := vl_at ev199 h
  refine lv_iinc (v := v199) (lv' := [(3, .int v199), (2, .ref r126), (1, .ref r115), (0, .ref h0)]) hx hb dX5_init_187 hl (k := 0) rfl (by rw [ev199, kI_1]) (by decide) rfl (fun ls hl => ?_)
  refine lv_goto (tgt := 169) hx hb dX5_init_190 (by decide) ?_
  refine lv_iload_n hx hb dX5_init_169 rfl (lv_at hl 0 rfl) ?_
  refine lv_iconst hx hb dX5_init_170 kI_4 ?_
  refine lv_icmp_ge (tgt := 193) hx hb dX5_init_171 (by decide) (fun c200 => ?_) (fun c200 => ?_)
  rotate_left
  · exact absurd (oi_some h).1 c200
  have h := (oi_some h).2
  subst hQ
  cases h
  exact m_vret hx hb hr hM hL dX5_init_193 hlocks
abbrev rm_X5_count : Room := { frames := 1, cells := 0, slots := 0, locals := 22 }
set_option maxHeartbeats 4000000 in
set_option maxRecDepth 100000 in
theorem c_X5_count (l : Launch) (G : mG) {h0 : Nat} {x1 : Int32} {σ : mS} {z : Int32} (h : f_X5_count h0 x1 σ = some z) : Met l yX5_count wsX5_count rm_X5_count (va_Pc [.ref h0, .int x1] (mB G σ)) (mQ G (.returned (some (.int z))) (σ)) 0 0 (mF G) := by
  refine m_start (cc := cX5_count) (maxL := 2) (ret := (some .int)) (by decide) rfl [.ref h0, .int x1] (Nat.le_of_ble_eq_true rfl) ?_
  intro p e s m args below meth c ls hx hb hr hml hown hts hlocks hnm hK hM hl
  have hown : s.vm.findClass RX5 = some m.cls := hown
  have hnm : meth.name = "count" := hnm
  obtain ⟨locs, hlocs⟩ : ∃ l : List Loc, l = [] := ⟨_, rfl⟩
  have hL : mL G locs := by rw [hlocs]; exact mL_nil G
  rw [← hlocs]
  generalize s.heap = H at hM ⊢
  have hl : lv_has ls 2 [(0, .ref h0), (1, .int x1)] := hl
  obtain ⟨Q, hQ⟩ : ∃ Q, Q = MQ below (mQ G (.returned (some (.int z))) (σ)) args s 0 0 (mF G) := ⟨_, rfl⟩
  rw [← hQ]
  have hU5 : ∀ w ∈ wsX50, w.before args s = true := fun w h => hts w (List.mem_cons_of_mem _ (List.mem_append_left _ (List.mem_append_left _ (List.mem_append_left _ (List.mem_append_right _ h)))))
  have w1 := (hts (.fieldLink RX5 44 "HandkerchiefsDropped" "now" "LHandkerchiefsDropped$Assize;") (List.mem_of_getElem? (i := 1) rfl))
  have hU0 : ∀ w ∈ wsX00, w.before args s = true := fun w h => hts w (List.mem_cons_of_mem _ (List.mem_append_left _ (List.mem_append_left _ (List.mem_append_right _ h))))
  have w3 := (hts (.fieldLink RX5 37 "HandkerchiefsDropped" "textCount" "I") (List.mem_of_getElem? (i := 2) rfl))
  have hU2 : ∀ w ∈ wsX20, w.before args s = true := fun w h => hts w (List.mem_cons_of_mem _ (List.mem_append_left _ (List.mem_append_right _ h)))
  have w5 := (hts (.fieldLink RX5 18 "HandkerchiefsDropped" "tape" "LHandkerchiefsDropped$Tape;") (List.mem_of_getElem? (i := 3) rfl))
  have hU4 : ∀ w ∈ wsX40, w.before args s = true := fun w h => hts w (List.mem_cons_of_mem _ (List.mem_append_right _ h))
  rw [f_X5_count.eq_1] at h
  refine lv_iload_n hx hb dX5_count_0 rfl (lv_at hl 1 rfl) ?_
  by_cases c20 : x1 = (0 : Int32)
  · have h := (if_pos c20).symm.trans h
    refine m_tin (tgt := 40) (off := 39) hx hb c20 dX5_count_1 (by decide) (by decide) (by decide) (by decide) ?_
    refine lv_aload_n hx hb dX5_count_40 rfl (lv_at hl 0 rfl) ?_
    refine m_getR (ci := 4) hx hb hU5 hown hK hM rfl 3 (by decide) w1 h dX5_count_41 (fun r21 gr21 h => ?_)
    refine m_getIN (ci := 0) (host := RX5) hx hb hU0 hown hK hM rfl 13 (by decide) (List.mem_of_getElem? (i := 16) rfl) h dX5_count_44 (fun v22 gv22 h => ?_)
    subst hQ
    have h := Option.some.inj h
    subst h
    exact m_iret hx hb hr hM hL dX5_count_47 hlocks
  have h := (if_neg c20).symm.trans h
  by_cases c23 : x1 = (1 : Int32)
  · have h := (if_pos c23).symm.trans h
    refine m_tin (tgt := 48) (off := 47) hx hb c23 dX5_count_1 (by decide) (by decide) (by decide) (by decide) ?_
    refine lv_aload_n hx hb dX5_count_48 rfl (lv_at hl 0 rfl) ?_
    refine m_getR (ci := 4) hx hb hU5 hown hK hM rfl 3 (by decide) w1 h dX5_count_49 (fun r24 gr24 h => ?_)
    refine m_getIN (ci := 0) (host := RX5) hx hb hU0 hown hK hM rfl 12 (by decide) (List.mem_of_getElem? (i := 15) rfl) h dX5_count_52 (fun v25 gv25 h => ?_)
    subst hQ
    have h := Option.some.inj h
    subst h
    exact m_iret hx hb hr hM hL dX5_count_55 hlocks
  have h := (if_neg c23).symm.trans h
  by_cases c26 : x1 = (2 : Int32)
  · have h := (if_pos c26).symm.trans h
    refine m_tin (tgt := 56) (off := 55) hx hb c26 dX5_count_1 (by decide) (by decide) (by decide) (by decide) ?_
    refine lv_aload_n hx hb dX5_count_56 rfl (lv_at hl 0 rfl) ?_
    refine m_getR (ci := 4) hx hb hU5 hown hK hM rfl 3 (by decide) w1 h dX5_count_57 (fun r27 gr27 h => ?_)
    obtain ⟨o28, h⟩ := oi_some h
    obtain ⟨q29, hq29, h⟩ := ob_some h
    refine m_calli (va_runV (As := []) (rest := []) ⟨hx, hb, hml, hown, hts⟩ (c_X0_lying l G hq29) (cwV 0 hts gX5_count_X0_lying rfl rfl rfl hd_X0_lyingv ⟨Nat.le_of_ble_eq_true rfl, Nat.le_of_ble_eq_true rfl⟩) (m_preV (ci := 0) hK hM rfl o28) rfl rfl hl.1 rfl (lv_room (Nat.le_of_ble_eq_true rfl)) dX5_count_60 ⟨Nat.le_of_ble_eq_true rfl, Nat.le_of_ble_eq_true rfl⟩) hL (fun H locs hM hL => ?_)
    subst hQ
    have h := Option.some.inj h
    subst h
    exact m_iret hx hb hr hM hL dX5_count_63 hlocks
  have h := (if_neg c26).symm.trans h
  by_cases c30 : x1 = (3 : Int32)
  · have h := (if_pos c30).symm.trans h
    refine m_tin (tgt := 64) (off := 63) hx hb c30 dX5_count_1 (by decide) (by decide) (by decide) (by decide) ?_
    refine lv_aload_n hx hb dX5_count_64 rfl (lv_at hl 0 rfl) ?_
    refine m_getI (ci := 4) hx hb hU5 hown hK hM rfl 7 (by decide) w3 h dX5_count_65 (fun v31 gv31 h => ?_)
    subst hQ
    have h := Option.some.inj h
    subst h
    exact m_iret hx hb hr hM hL dX5_count_68 hlocks
  have h := (if_neg c30).symm.trans h
  by_cases c32 : x1 = (4 : Int32)
  · have h := (if_pos c32).symm.trans h
    refine m_tin (tgt := 69) (off := 68) hx hb c32 dX5_count_1 (by decide) (by decide) (by decide) (by decide) ?_
    refine lv_aload_n hx hb dX5_count_69 rfl (lv_at hl 0 rfl) ?_
    refine m_getR (ci := 4) hx hb hU5 hown hK hM rfl 3 (by decide) w1 h dX5_count_70 (fun r33 gr33 h => ?_)
    refine m_getRN (ci := 0) (host := RX5) hx hb hU0 hown hK hM rfl 14 (by decide) (List.mem_of_getElem? (i := 17) rfl) h dX5_count_73 (fun r34 gr34 h => ?_)
    refine m_getIN (ci := 1) (host := RX5) hx hb hU2 hown hK hM rfl 0 (by decide) (List.mem_of_getElem? (i := 2) rfl) h dX5_count_76 (fun v35 gv35 h => ?_)
    subst hQ
    have h := Option.some.inj h
    subst h
    exact m_iret hx hb hr hM hL dX5_count_79 hlocks
  have h := (if_neg c32).symm.trans h
  by_cases c36 : x1 = (5 : Int32)
  · have h := (if_pos c36).symm.trans h
    refine m_tin (tgt := 80) (off := 79) hx hb c36 dX5_count_1 (by decide) (by decide) (by decide) (by decide) ?_
    refine lv_aload_n hx hb dX5_count_80 rfl (lv_at hl 0 rfl) ?_
    refine m_getR (ci := 4) hx hb hU5 hown hK hM rfl 1 (by decide) w5 h dX5_count_81 (fun r37 gr37 h => ?_)
    refine m_getIN (ci := 3) (host := RX5) hx hb hU4 hown hK hM rfl 3 (by decide) (List.mem_of_getElem? (i := 1) rfl) h dX5_count_84 (fun v38 gv38 h => ?_)
    subst hQ
    have h := Option.some.inj h
    subst h
    exact m_iret hx hb hr hM hL dX5_count_87 hlocks
  have h := (if_neg c36).symm.trans h
  refine lv_tableOut (tgt := 88) hx hb dX5_count_1 (by have q0 := lv_neT (a := 0) c20 (by decide); have q1 := lv_neT (a := 1) c23 (by decide); have q2 := lv_neT (a := 2) c26 (by decide); have q3 := lv_neT (a := 3) c30 (by decide); have q4 := lv_neT (a := 4) c32 (by decide); have q5 := lv_neT (a := 5) c36 (by decide); omega) (by decide) ?_
  refine lv_bipush hx hb dX5_count_88 kB_m2 ?_
  subst hQ
  have h := Option.some.inj h
  subst h
  exact m_iret hx hb hr hM hL dX5_count_90 hlocks
abbrev rm_X5_isOfCourt : Room := { frames := 1, cells := 0, slots := 0, locals := 21 }
theorem z_X5_isOfCourt (x0 x1 : Int32) : narrow .boolean (.int (f_X5_isOfCourt x0 x1)) = .int (f_X5_isOfCourt x0 x1) := by
  rw [f_X5_isOfCourt.eq_1]
  try dsimp only [vl]
  (repeat' split) <;> first | rfl | apply z_X5_isBelow
set_option maxHeartbeats 4000000 in
set_option maxRecDepth 100000 in
theorem c_X5_isOfCourt (l : Launch) (G : mG) (x0 : Int32) (x1 : Int32) {σ : mS} : Met l yX5_isOfCourt wsX5_isOfCourt rm_X5_isOfCourt (va_Pc [.int x0, .int x1] (mB G σ)) (mQ G (.returned (some (.int (f_X5_isOfCourt x0 x1)))) (σ)) 0 0 (mF G) := by
  obtain ⟨z, h⟩ : ∃ z, f_X5_isOfCourt x0 x1 = z := ⟨_, rfl⟩
  rw [h]
  refine m_start (cc := cX5_isOfCourt) (maxL := 2) (ret := (some .boolean)) (by decide) rfl [.int x0, .int x1] (Nat.le_of_ble_eq_true rfl) ?_
  intro p e s m args below meth c ls hx hb hr hml hown hts hlocks hnm hK hM hl
  have hown : s.vm.findClass RX5 = some m.cls := hown
  have hnm : meth.name = "isOfCourt" := hnm
  obtain ⟨locs, hlocs⟩ : ∃ l : List Loc, l = [] := ⟨_, rfl⟩
  have hL : mL G locs := by rw [hlocs]; exact mL_nil G
  rw [← hlocs]
  generalize s.heap = H at hM ⊢
  have hl : lv_has ls 2 [(0, .int x0), (1, .int x1)] := hl
  obtain ⟨Q, hQ⟩ : ∃ Q, Q = MQ below (mQ G (.returned (some (.int z))) (σ)) args s 0 0 (mF G) := ⟨_, rfl⟩
  rw [← hQ]
  rw [f_X5_isOfCourt.eq_1] at h
  refine lv_iload_n hx hb dX5_isOfCourt_0 rfl (lv_at hl 0 rfl) ?_
  by_cases c5 : x0 = (0 : Int32)
  · have h := (if_pos c5).symm.trans h
    refine m_lin (tgt := 28) (off := 27) hx hb c5 dX5_isOfCourt_1 (by decide) (by decide) (by decide) ?_
    refine lv_iload_n hx hb dX5_isOfCourt_28 rfl (lv_at hl 1 rfl) ?_
    refine lv_bipush hx hb dX5_isOfCourt_29 kB_10 ?_
    refine m_calli (va_runS (As := [.int x1, .int (10 : Int32)]) (rest := []) ⟨hx, hb, hml, hown, hts⟩ (c_X5_isBelow l G x1 (10 : Int32)) (va_cwS 2 hts gX5_isOfCourt_X5_isBelow rfl rfl rfl hd_X5_isBelow ⟨Nat.le_of_ble_eq_true rfl, Nat.le_of_ble_eq_true rfl⟩) (m_preS hK hM) rfl rfl hl.1 rfl (lv_room (Nat.le_of_ble_eq_true rfl)) dX5_isOfCourt_31 ⟨Nat.le_of_ble_eq_true rfl, Nat.le_of_ble_eq_true rfl⟩) hL (fun H locs hM hL => ?_)
    subst hQ
    subst h
    exact m_zret (x := (f_X5_isBelow x1 (10 : Int32))) hx hb hr (z_X5_isBelow _ _) hM hL dX5_isOfCourt_34 hlocks
  have h := (if_neg c5).symm.trans h
  by_cases c6 : x0 = (1 : Int32)
  · have h := (if_pos c6).symm.trans h
    refine m_lin (tgt := 35) (off := 34) hx hb c6 dX5_isOfCourt_1 (by decide) (by decide) (by decide) ?_
    refine lv_iload_n hx hb dX5_isOfCourt_35 rfl (lv_at hl 1 rfl) ?_
    refine lv_bipush hx hb dX5_isOfCourt_36 kB_6 ?_
    refine m_calli (va_runS (As := [.int x1, .int (6 : Int32)]) (rest := []) ⟨hx, hb, hml, hown, hts⟩ (c_X5_isBelow l G x1 (6 : Int32)) (va_cwS 2 hts gX5_isOfCourt_X5_isBelow rfl rfl rfl hd_X5_isBelow ⟨Nat.le_of_ble_eq_true rfl, Nat.le_of_ble_eq_true rfl⟩) (m_preS hK hM) rfl rfl hl.1 rfl (lv_room (Nat.le_of_ble_eq_true rfl)) dX5_isOfCourt_38 ⟨Nat.le_of_ble_eq_true rfl, Nat.le_of_ble_eq_true rfl⟩) hL (fun H locs hM hL => ?_)
    subst hQ
    subst h
    exact m_zret (x := (f_X5_isBelow x1 (6 : Int32))) hx hb hr (z_X5_isBelow _ _) hM hL dX5_isOfCourt_41 hlocks
  have h := (if_neg c6).symm.trans h
  refine lv_lookup (tgt := 42) (off := 41) hx hb dX5_isOfCourt_1 (by decide) (by show Op.lookupswitch.offset [(0, 27), (1, 34)] 41 _ = _; rw [lv_osw c5 (by decide), lv_osw c6 (by decide)]; rfl) (by decide) ?_
  refine lv_iload_n hx hb dX5_isOfCourt_42 rfl (lv_at hl 0 rfl) ?_
  refine lv_iconst hx hb dX5_isOfCourt_43 kI_2 ?_
  refine lv_icmp_eq (tgt := 52) hx hb dX5_isOfCourt_44 (by decide) (fun c7 => ?_) (fun c7 => ?_)
  · have h := (if_pos c7).symm.trans h
    refine lv_iconst hx hb dX5_isOfCourt_52 kI_1 ?_
    refine lv_goto (tgt := 57) hx hb dX5_isOfCourt_53 (by decide) ?_
    subst hQ
    subst h
    exact m_zret (x := (1 : Int32)) hx hb hr rfl hM hL dX5_isOfCourt_57 hlocks
  · have h := (if_neg c7).symm.trans h
    refine lv_iload_n hx hb dX5_isOfCourt_47 rfl (lv_at hl 0 rfl) ?_
    refine lv_iconst hx hb dX5_isOfCourt_48 kI_3 ?_
    refine lv_icmp_ne (tgt := 56) hx hb dX5_isOfCourt_49 (by decide) (fun c8 => ?_) (fun c8 => ?_)
    · have h := (if_neg c8).symm.trans h
      refine lv_iconst hx hb dX5_isOfCourt_56 kI_0 ?_
      subst hQ
      subst h
      exact m_zret (x := (0 : Int32)) hx hb hr rfl hM hL dX5_isOfCourt_57 hlocks
    · have h := (if_pos c8).symm.trans h
      refine lv_iconst hx hb dX5_isOfCourt_52 kI_1 ?_
      refine lv_goto (tgt := 57) hx hb dX5_isOfCourt_53 (by decide) ?_
      subst hQ
      subst h
      exact m_zret (x := (1 : Int32)) hx hb hr rfl hM hL dX5_isOfCourt_57 hlocks
abbrev rm_X5_mostOfCourt : Room := { frames := 0, cells := 0, slots := 0, locals := 0 }
set_option maxHeartbeats 4000000 in
set_option maxRecDepth 100000 in
theorem c_X5_mostOfCourt (l : Launch) (G : mG) (x0 : Int32) {σ : mS} : Met l yX5_mostOfCourt wsX5_mostOfCourt rm_X5_mostOfCourt (va_Pc [.int x0] (mB G σ)) (mQ G (.returned (some (.int (f_X5_mostOfCourt x0)))) (σ)) 0 0 (mF G) := by
  obtain ⟨z, h⟩ : ∃ z, f_X5_mostOfCourt x0 = z := ⟨_, rfl⟩
  rw [h]
  refine m_start (cc := cX5_mostOfCourt) (maxL := 1) (ret := (some .int)) (by decide) rfl [.int x0] (Nat.le_of_ble_eq_true rfl) ?_
  intro p e s m args below meth c ls hx hb hr hml hown hts hlocks hnm hK hM hl
  have hown : s.vm.findClass RX5 = some m.cls := hown
  have hnm : meth.name = "mostOfCourt" := hnm
  obtain ⟨locs, hlocs⟩ : ∃ l : List Loc, l = [] := ⟨_, rfl⟩
  have hL : mL G locs := by rw [hlocs]; exact mL_nil G
  rw [← hlocs]
  generalize s.heap = H at hM ⊢
  have hl : lv_has ls 1 [(0, .int x0)] := hl
  obtain ⟨Q, hQ⟩ : ∃ Q, Q = MQ below (mQ G (.returned (some (.int z))) (σ)) args s 0 0 (mF G) := ⟨_, rfl⟩
  rw [← hQ]
  rw [f_X5_mostOfCourt.eq_1] at h
  refine lv_iload_n hx hb dX5_mostOfCourt_0 rfl (lv_at hl 0 rfl) ?_
  by_cases c3 : x0 = (2 : Int32)
  · have h := (if_pos c3).symm.trans h
    refine m_lin (tgt := 28) (off := 27) hx hb c3 dX5_mostOfCourt_1 (by decide) (by decide) (by decide) ?_
    refine lv_sipush hx hb dX5_mostOfCourt_28 kS_999 ?_
    subst hQ
    subst h
    exact m_iret hx hb hr hM hL dX5_mostOfCourt_31 hlocks
  have h := (if_neg c3).symm.trans h
  by_cases c4 : x0 = (3 : Int32)
  · have h := (if_pos c4).symm.trans h
    refine m_lin (tgt := 32) (off := 31) hx hb c4 dX5_mostOfCourt_1 (by decide) (by decide) (by decide) ?_
    refine lv_sipush hx hb dX5_mostOfCourt_32 kS_1023 ?_
    subst hQ
    subst h
    exact m_iret hx hb hr hM hL dX5_mostOfCourt_35 hlocks
  have h := (if_neg c4).symm.trans h
  refine lv_lookup (tgt := 36) (off := 35) hx hb dX5_mostOfCourt_1 (by decide) (by show Op.lookupswitch.offset [(2, 27), (3, 31)] 35 _ = _; rw [lv_osw c3 (by decide), lv_osw c4 (by decide)]; rfl) (by decide) ?_
  refine lv_bipush hx hb dX5_mostOfCourt_36 kB_99 ?_
  subst hQ
  subst h
  exact m_iret hx hb hr hM hL dX5_mostOfCourt_38 hlocks
abbrev rm_X5_replaced : Room := { frames := 0, cells := 0, slots := 0, locals := 0 }
set_option maxHeartbeats 4000000 in
set_option maxRecDepth 100000 in
theorem c_X5_replaced (l : Launch) (G : mG) {h0 : Nat} {x1 : Int32} {x2 : Int32} {σ : mS} {z : Int32 × mS} (h : f_X5_replaced h0 x1 x2 σ = some z) : Met l yX5_replaced wsX5_replaced rm_X5_replaced (va_Pc [.ref h0, .int x1, .int x2] (mB G σ)) (mQ G (.returned (some (.int z.1))) z.2) 0 0 (mF G) := by
  refine m_start (cc := cX5_replaced) (maxL := 4) (ret := (some .int)) (by decide) rfl [.ref h0, .int x1, .int x2] (Nat.le_of_ble_eq_true rfl) ?_
  intro p e s m args below meth c ls hx hb hr hml hown hts hlocks hnm hK hM hl
  have hown : s.vm.findClass RX5 = some m.cls := hown
  have hnm : meth.name = "replaced" := hnm
  obtain ⟨locs, hlocs⟩ : ∃ l : List Loc, l = [] := ⟨_, rfl⟩
  have hL : mL G locs := by rw [hlocs]; exact mL_nil G
  rw [← hlocs]
  generalize s.heap = H at hM ⊢
  have hl : lv_has ls 4 [(0, .ref h0), (1, .int x1), (2, .int x2)] := hl
  obtain ⟨Q, hQ⟩ : ∃ Q, Q = MQ below (mQ G (.returned (some (.int z.1))) z.2) args s 0 0 (mF G) := ⟨_, rfl⟩
  rw [← hQ]
  rw [f_X5_replaced.eq_1] at h
  refine lv_aload_n hx hb dX5_replaced_0 rfl (lv_at hl 0 rfl) ?_
  refine lv_iload_n hx hb dX5_replaced_1 rfl (lv_at hl 1 rfl) ?_
  refine m_iald hx hb hK hM h dX5_replaced_2 (fun v3 gv3 h => ?_)
  refine lv_istore_n (lv' := [(3, .int v3), (0, .ref h0), (1, .int x1), (2, .int x2)]) hx hb dX5_replaced_3 rfl hl (by decide) rfl (fun ls hl => ?_)
  refine lv_aload_n hx hb dX5_replaced_4 rfl (lv_at hl 1 rfl) ?_
  refine lv_iload_n hx hb dX5_replaced_5 rfl (lv_at hl 2 rfl) ?_
  refine lv_iload_n hx hb dX5_replaced_6 rfl (lv_at hl 3 rfl) ?_
  refine m_iast hx hb hK hM hL h dX5_replaced_7 (fun t4 H locs h hM hL => ?_)
  refine lv_iload_n hx hb dX5_replaced_8 rfl (lv_at hl 0 rfl) ?_
  subst hQ
  have h := Option.some.inj h
  subst h
  exact m_iret hx hb hr hM hL dX5_replaced_9 hlocks
abbrev rm_X5_court : Room := { frames := 2, cells := 0, slots := 0, locals := 42 }
set_option maxHeartbeats 4000000 in
set_option maxRecDepth 100000 in
theorem c_X5_court (l : Launch) (G : mG) {h0 : Nat} {x1 : Int32} {x2 : Int32} {x3 : Int32} {σ : mS} {z : Int32 × mS} (h : f_X5_court h0 x1 x2 x3 σ = some z) : Met l yX5_court wsX5_court rm_X5_court (va_Pc [.ref h0, .int x1, .int x2, .int x3] (mB G σ)) (mQ G (.returned (some (.int z.1))) z.2) 0 0 (mF G) := by
  refine m_start (cc := cX5_court) (maxL := 5) (ret := (some .int)) (by decide) rfl [.ref h0, .int x1, .int x2, .int x3] (Nat.le_of_ble_eq_true rfl) ?_
  intro p e s m args below meth c ls hx hb hr hml hown hts hlocks hnm hK hM hl
  have hown : s.vm.findClass RX5 = some m.cls := hown
  have hnm : meth.name = "court" := hnm
  obtain ⟨locs, hlocs⟩ : ∃ l : List Loc, l = [] := ⟨_, rfl⟩
  have hL : mL G locs := by rw [hlocs]; exact mL_nil G
  rw [← hlocs]
  generalize s.heap = H at hM ⊢
  have hl : lv_has ls 5 [(0, .ref h0), (1, .int x1), (2, .int x2), (3, .int x3)] := hl
  obtain ⟨Q, hQ⟩ : ∃ Q, Q = MQ below (mQ G (.returned (some (.int z.1))) z.2) args s 0 0 (mF G) := ⟨_, rfl⟩
  rw [← hQ]
  have hU5 : ∀ w ∈ wsX50, w.before args s = true := fun w h => hts w (List.mem_cons_of_mem _ (List.mem_append_left _ (List.mem_append_right _ h)))
  have w1 := (hts (.fieldLink RX5 44 "HandkerchiefsDropped" "now" "LHandkerchiefsDropped$Assize;") (List.mem_of_getElem? (i := 1) rfl))
  have hU0 : ∀ w ∈ wsX00, w.before args s = true := fun w h => hts w (List.mem_cons_of_mem _ (List.mem_append_right _ h))
  have hN64 : ∀ (x2 : Int32) (x3 : Int32) (s0 : Nat) (σ : mS), f_X5_court_64 x2 x3 s0 σ = some z → ∀ (H : Heap) (locs : List Loc) (ls : Array Slot), mP G σ H → mL G locs → lv_has ls 5 [(2, .int x2), (3, .int x3)] → W p l e rm_X5_court s m args below meth c H locs 0 0 Q (F0 m 64 ls [.ref s0]) := by
    intro x2 x3 s0 σ h H locs ls hM hL hl
    rw [f_X5_court_64.eq_1] at h
    refine lv_iload_n hx hb dX5_court_64 rfl (lv_at hl 0 rfl) ?_
    refine lv_iload_n hx hb dX5_court_65 rfl (lv_at hl 1 rfl) ?_
    obtain ⟨q23, hq23, h⟩ := ob_some h
    refine m_calli (va_runS (As := [.ref s0, .int x2, .int x3]) (rest := []) ⟨hx, hb, hml, hown, hts⟩ (c_X5_replaced l G hq23) (va_cwS 3 hts gX5_court_X5_replaced rfl rfl rfl hd_X5_replaced ⟨Nat.le_of_ble_eq_true rfl, Nat.le_of_ble_eq_true rfl⟩) (m_preS hK hM) rfl rfl hl.1 rfl (lv_room (Nat.le_of_ble_eq_true rfl)) dX5_court_66 ⟨Nat.le_of_ble_eq_true rfl, Nat.le_of_ble_eq_true rfl⟩) hL (fun H locs hM hL => ?_)
    subst hQ
    have h := Option.some.inj h
    subst h
    exact m_iret hx hb hr hM hL dX5_court_69 hlocks
  have hN92 : ∀ (h0 : Nat) (x1 : Int32) (x3 : Int32) (s0 : Int32) (σ : mS), f_X5_court_92 h0 x1 x3 s0 σ = some z → ∀ (H : Heap) (locs : List Loc) (ls : Array Slot), mP G σ H → mL G locs → lv_has ls 5 [(0, .ref h0), (1, .int x1), (3, .int x3)] → W p l e rm_X5_court s m args below meth c H locs 0 0 Q (F0 m 92 ls [.int s0]) := by
    intro h0 x1 x3 s0 σ h H locs ls hM hL hl
    rw [f_X5_court_92.eq_1] at h
    refine lv_istore (lv' := [(4, .int s0), (0, .ref h0), (1, .int x1), (3, .int x3)]) hx hb dX5_court_92 hl (by decide) rfl (fun ls hl => ?_)
    refine lv_iload_n hx hb dX5_court_94 rfl (lv_at hl 2 rfl) ?_
    refine lv_iconst hx hb dX5_court_95 kI_2 ?_
    refine lv_icmp_ne (tgt := 110) hx hb dX5_court_96 (by decide) (fun c24 => ?_) (fun c24 => ?_)
    · have h := (if_neg c24).symm.trans h
      refine lv_aload_n hx hb dX5_court_110 rfl (lv_at hl 1 rfl) ?_
      refine m_getR (ci := 4) hx hb hU5 hown hK hM rfl 3 (by decide) w1 h dX5_court_111 (fun r25 gr25 h => ?_)
      refine lv_iload_n hx hb dX5_court_114 rfl (lv_at hl 3 rfl) ?_
      refine m_putN (host := RX5) (ci := 0) hx hb hU0 tyX0 tyX0_ok nmX0 hown hK hM hL rfl 11 (by decide) (List.mem_of_getElem? (i := 14) rfl) rfl rfl rfl h dX5_court_115 (fun t26 H locs h hM hL => ?_)
      refine lv_iload hx hb dX5_court_118 (lv_at hl 0 rfl) ?_
      subst hQ
      have h := Option.some.inj h
      subst h
      exact m_iret hx hb hr hM hL dX5_court_120 hlocks
    · have h := (if_pos c24).symm.trans h
      refine lv_aload_n hx hb dX5_court_99 rfl (lv_at hl 1 rfl) ?_
      refine m_getR (ci := 4) hx hb hU5 hown hK hM rfl 3 (by decide) w1 h dX5_court_100 (fun r27 gr27 h => ?_)
      refine lv_iload_n hx hb dX5_court_103 rfl (lv_at hl 3 rfl) ?_
      refine m_putN (host := RX5) (ci := 0) hx hb hU0 tyX0 tyX0_ok nmX0 hown hK hM hL rfl 12 (by decide) (List.mem_of_getElem? (i := 15) rfl) rfl rfl rfl h dX5_court_104 (fun t28 H locs h hM hL => ?_)
      refine lv_goto (tgt := 118) hx hb dX5_court_107 (by decide) ?_
      refine lv_iload hx hb dX5_court_118 (lv_at hl 0 rfl) ?_
      subst hQ
      have h := Option.some.inj h
      subst h
      exact m_iret hx hb hr hM hL dX5_court_120 hlocks
  rw [f_X5_court.eq_1] at h
  refine lv_iload_n hx hb dX5_court_0 rfl (lv_at hl 1 rfl) ?_
  refine lv_iload_n hx hb dX5_court_1 rfl (lv_at hl 2 rfl) ?_
  refine m_calli (va_runS (As := [.int x1, .int x2]) (rest := []) ⟨hx, hb, hml, hown, hts⟩ (c_X5_isOfCourt l G x1 x2) (va_cwS 2 hts gX5_court_X5_isOfCourt rfl rfl rfl hd_X5_isOfCourt ⟨Nat.le_of_ble_eq_true rfl, Nat.le_of_ble_eq_true rfl⟩) (m_preS hK hM) rfl rfl hl.1 rfl (lv_room (Nat.le_of_ble_eq_true rfl)) dX5_court_2 ⟨Nat.le_of_ble_eq_true rfl, Nat.le_of_ble_eq_true rfl⟩) hL (fun H locs hM hL => ?_)
  refine lv_if_ne (tgt := 12) hx hb dX5_court_5 (by decide) (fun c29 => ?_) (fun c29 => ?_)
  · have h := (if_neg c29).symm.trans h
    refine lv_iload_n hx hb dX5_court_12 rfl (lv_at hl 3 rfl) ?_
    refine lv_iload_n hx hb dX5_court_13 rfl (lv_at hl 1 rfl) ?_
    suffices hJ : ∀ (v31 : Int32) (ls : Array Slot), v31 = (if x1 = 0 then (-99 : Int32) else (0 : Int32)) → lv_has ls 5 [(0, .ref h0), (1, .int x1), (2, .int x2), (3, .int x3)] → W p l e rm_X5_court s m args below meth c H locs 0 0 Q (F0 m 23 ls [.int v31, .int x3]) by
      refine lv_if_ne (tgt := 22) hx hb dX5_court_14 (by decide) (fun c30 => ?_) (fun c30 => ?_)
      · refine lv_iconst hx hb dX5_court_22 kI_0 ?_
        exact hJ _ _ (((if_neg c30).trans rfl).symm) (lv_sub hl [0, 1, 2, 3] rfl)
      · refine lv_bipush hx hb dX5_court_17 kB_m99 ?_
        refine lv_goto (tgt := 23) hx hb dX5_court_19 (by decide) ?_
        exact hJ _ _ (((if_pos c30).trans rfl).symm) (lv_sub hl [0, 1, 2, 3] rfl)
    intro v31 ls ev31 hl
    have h := vl_at ev31 h
    refine lv_icmp_lt (tgt := 34) hx hb dX5_court_23 (by decide) (fun c32 => ?_) (fun c32 => ?_)
    · have h := (if_pos c32).symm.trans h
      refine lv_sipush hx hb dX5_court_34 kS_m7000 ?_
      subst hQ
      have h := Option.some.inj h
      subst h
      exact m_iret hx hb hr hM hL dX5_court_37 hlocks
    · have h := (if_neg c32).symm.trans h
      refine lv_iload_n hx hb dX5_court_26 rfl (lv_at hl 3 rfl) ?_
      refine lv_iload_n hx hb dX5_court_27 rfl (lv_at hl 1 rfl) ?_
      refine m_calli (va_runS (As := [.int x1]) (rest := [.int x3]) ⟨hx, hb, hml, hown, hts⟩ (c_X5_mostOfCourt l G x1) (va_cwS 1 hts gX5_court_X5_mostOfCourt rfl rfl rfl hd_X5_mostOfCourt ⟨Nat.le_of_ble_eq_true rfl, Nat.le_of_ble_eq_true rfl⟩) (m_preS hK hM) rfl rfl hl.1 rfl (lv_room (Nat.le_of_ble_eq_true rfl)) dX5_court_28 ⟨Nat.le_of_ble_eq_true rfl, Nat.le_of_ble_eq_true rfl⟩) hL (fun H locs hM hL => ?_)
      refine lv_icmp_le (tgt := 38) hx hb dX5_court_31 (by decide) (fun c33 => ?_) (fun c33 => ?_)
      · have h := (if_pos c33).symm.trans h
        refine lv_iload_n hx hb dX5_court_38 rfl (lv_at hl 1 rfl) ?_
        refine lv_iconst hx hb dX5_court_39 kI_2 ?_
        refine lv_icmp_ge (tgt := 70) hx hb dX5_court_40 (by decide) (fun c34 => ?_) (fun c34 => ?_)
        · have h := (if_pos c34).symm.trans h
          refine lv_iload_n hx hb dX5_court_70 rfl (lv_at hl 1 rfl) ?_
          refine lv_iconst hx hb dX5_court_71 kI_2 ?_
          refine lv_icmp_ne (tgt := 85) hx hb dX5_court_72 (by decide) (fun c35 => ?_) (fun c35 => ?_)
          · have h := (if_neg c35).symm.trans h
            refine lv_aload_n hx hb dX5_court_85 rfl (lv_at hl 0 rfl) ?_
            refine m_getR (ci := 4) hx hb hU5 hown hK hM rfl 3 (by decide) w1 h dX5_court_86 (fun r36 gr36 h => ?_)
            refine m_getIN (ci := 0) (host := RX5) hx hb hU0 hown hK hM rfl 11 (by decide) (List.mem_of_getElem? (i := 14) rfl) h dX5_court_89 (fun v37 gv37 h => ?_)
            refine hN92 _ _ _ _ _ h _ _ _ hM hL (lv_sub hl [0, 1, 3] rfl)
          · have h := (if_pos c35).symm.trans h
            refine lv_aload_n hx hb dX5_court_75 rfl (lv_at hl 0 rfl) ?_
            refine m_getR (ci := 4) hx hb hU5 hown hK hM rfl 3 (by decide) w1 h dX5_court_76 (fun r38 gr38 h => ?_)
            refine m_getIN (ci := 0) (host := RX5) hx hb hU0 hown hK hM rfl 12 (by decide) (List.mem_of_getElem? (i := 15) rfl) h dX5_court_79 (fun v39 gv39 h => ?_)
            refine lv_goto (tgt := 92) hx hb dX5_court_82 (by decide) ?_
            refine hN92 _ _ _ _ _ h _ _ _ hM hL (lv_sub hl [0, 1, 3] rfl)
        · have h := (if_neg c34).symm.trans h
          refine lv_iload_n hx hb dX5_court_43 rfl (lv_at hl 1 rfl) ?_
          refine lv_if_ne (tgt := 57) hx hb dX5_court_44 (by decide) (fun c40 => ?_) (fun c40 => ?_)
          · have h := (if_neg c40).symm.trans h
            refine lv_aload_n hx hb dX5_court_57 rfl (lv_at hl 0 rfl) ?_
            refine m_getR (ci := 4) hx hb hU5 hown hK hM rfl 3 (by decide) w1 h dX5_court_58 (fun r41 gr41 h => ?_)
            refine m_getRN (ci := 0) (host := RX5) hx hb hU0 hown hK hM rfl 1 (by decide) (List.mem_of_getElem? (i := 4) rfl) h dX5_court_61 (fun r42 gr42 h => ?_)
            refine hN64 _ _ _ _ h _ _ _ hM hL (lv_sub hl [2, 3] rfl)
          · have h := (if_pos c40).symm.trans h
            refine lv_aload_n hx hb dX5_court_47 rfl (lv_at hl 0 rfl) ?_
            refine m_getR (ci := 4) hx hb hU5 hown hK hM rfl 3 (by decide) w1 h dX5_court_48 (fun r43 gr43 h => ?_)
            refine m_getRN (ci := 0) (host := RX5) hx hb hU0 hown hK hM rfl 0 (by decide) (List.mem_of_getElem? (i := 3) rfl) h dX5_court_51 (fun r44 gr44 h => ?_)
            refine lv_goto (tgt := 64) hx hb dX5_court_54 (by decide) ?_
            refine hN64 _ _ _ _ h _ _ _ hM hL (lv_sub hl [2, 3] rfl)
      · have h := (if_neg c33).symm.trans h
        refine lv_sipush hx hb dX5_court_34 kS_m7000 ?_
        subst hQ
        have h := Option.some.inj h
        subst h
        exact m_iret hx hb hr hM hL dX5_court_37 hlocks
  · have h := (if_pos c29).symm.trans h
    refine lv_sipush hx hb dX5_court_8 kS_m5000 ?_
    subst hQ
    have h := Option.some.inj h
    subst h
    exact m_iret hx hb hr hM hL dX5_court_11 hlocks
abbrev rm_X5_bench : Room := { frames := 2, cells := 0, slots := 0, locals := 43 }
set_option maxHeartbeats 4000000 in
set_option maxRecDepth 100000 in
theorem c_X5_bench (l : Launch) (G : mG) {h0 : Nat} {x1 : Int32} {x2 : Int32} {σ : mS} {z : Int32} (h : f_X5_bench h0 x1 x2 σ = some z) : Met l yX5_bench wsX5_bench rm_X5_bench (va_Pc [.ref h0, .int x1, .int x2] (mB G σ)) (mQ G (.returned (some (.int z))) (σ)) 0 0 (mF G) := by
  refine m_start (cc := cX5_bench) (maxL := 3) (ret := (some .int)) (by decide) rfl [.ref h0, .int x1, .int x2] (Nat.le_of_ble_eq_true rfl) ?_
  intro p e s m args below meth c ls hx hb hr hml hown hts hlocks hnm hK hM hl
  have hown : s.vm.findClass RX5 = some m.cls := hown
  have hnm : meth.name = "bench" := hnm
  obtain ⟨locs, hlocs⟩ : ∃ l : List Loc, l = [] := ⟨_, rfl⟩
  have hL : mL G locs := by rw [hlocs]; exact mL_nil G
  rw [← hlocs]
  generalize s.heap = H at hM ⊢
  have hl : lv_has ls 3 [(0, .ref h0), (1, .int x1), (2, .int x2)] := hl
  obtain ⟨Q, hQ⟩ : ∃ Q, Q = MQ below (mQ G (.returned (some (.int z))) (σ)) args s 0 0 (mF G) := ⟨_, rfl⟩
  rw [← hQ]
  have hU5 : ∀ w ∈ wsX50, w.before args s = true := fun w h => hts w (List.mem_cons_of_mem _ (List.mem_append_left _ (List.mem_append_right _ h)))
  have w1 := (hts (.fieldLink RX5 44 "HandkerchiefsDropped" "now" "LHandkerchiefsDropped$Assize;") (List.mem_of_getElem? (i := 1) rfl))
  have hU0 : ∀ w ∈ wsX00, w.before args s = true := fun w h => hts w (List.mem_cons_of_mem _ (List.mem_append_right _ h))
  rw [f_X5_bench.eq_1] at h
  refine lv_iload_n hx hb dX5_bench_0 rfl (lv_at hl 1 rfl) ?_
  by_cases c21 : x1 = (0 : Int32)
  · have h := (if_pos c21).symm.trans h
    refine m_tin (tgt := 36) (off := 35) hx hb c21 dX5_bench_1 (by decide) (by decide) (by decide) (by decide) ?_
    refine lv_iconst hx hb dX5_bench_36 kI_0 ?_
    refine lv_iload_n hx hb dX5_bench_37 rfl (lv_at hl 2 rfl) ?_
    refine m_calli (va_runS (As := [.int (0 : Int32), .int x2]) (rest := []) ⟨hx, hb, hml, hown, hts⟩ (c_X5_isOfCourt l G (0 : Int32) x2) (va_cwS 2 hts gX5_bench_X5_isOfCourt rfl rfl rfl hd_X5_isOfCourt ⟨Nat.le_of_ble_eq_true rfl, Nat.le_of_ble_eq_true rfl⟩) (m_preS hK hM) rfl rfl hl.1 rfl (lv_room (Nat.le_of_ble_eq_true rfl)) dX5_bench_38 ⟨Nat.le_of_ble_eq_true rfl, Nat.le_of_ble_eq_true rfl⟩) hL (fun H locs hM hL => ?_)
    refine lv_if_eq (tgt := 56) hx hb dX5_bench_41 (by decide) (fun c22 => ?_) (fun c22 => ?_)
    · have h := (if_pos c22).symm.trans h
      refine lv_sipush hx hb dX5_bench_56 kS_m5000 ?_
      subst hQ
      have h := Option.some.inj h
      subst h
      exact m_iret hx hb hr hM hL dX5_bench_59 hlocks
    · have h := (if_neg c22).symm.trans h
      refine lv_aload_n hx hb dX5_bench_44 rfl (lv_at hl 0 rfl) ?_
      refine m_getR (ci := 4) hx hb hU5 hown hK hM rfl 3 (by decide) w1 h dX5_bench_45 (fun r23 gr23 h => ?_)
      refine m_getRN (ci := 0) (host := RX5) hx hb hU0 hown hK hM rfl 0 (by decide) (List.mem_of_getElem? (i := 3) rfl) h dX5_bench_48 (fun r24 gr24 h => ?_)
      refine lv_iload_n hx hb dX5_bench_51 rfl (lv_at hl 2 rfl) ?_
      refine m_iald hx hb hK hM h dX5_bench_52 (fun v25 gv25 h => ?_)
      refine lv_goto (tgt := 59) hx hb dX5_bench_53 (by decide) ?_
      subst hQ
      have h := Option.some.inj h
      subst h
      exact m_iret hx hb hr hM hL dX5_bench_59 hlocks
  have h := (if_neg c21).symm.trans h
  by_cases c26 : x1 = (1 : Int32)
  · have h := (if_pos c26).symm.trans h
    refine m_tin (tgt := 60) (off := 59) hx hb c26 dX5_bench_1 (by decide) (by decide) (by decide) (by decide) ?_
    refine lv_iconst hx hb dX5_bench_60 kI_1 ?_
    refine lv_iload_n hx hb dX5_bench_61 rfl (lv_at hl 2 rfl) ?_
    refine m_calli (va_runS (As := [.int (1 : Int32), .int x2]) (rest := []) ⟨hx, hb, hml, hown, hts⟩ (c_X5_isOfCourt l G (1 : Int32) x2) (va_cwS 2 hts gX5_bench_X5_isOfCourt rfl rfl rfl hd_X5_isOfCourt ⟨Nat.le_of_ble_eq_true rfl, Nat.le_of_ble_eq_true rfl⟩) (m_preS hK hM) rfl rfl hl.1 rfl (lv_room (Nat.le_of_ble_eq_true rfl)) dX5_bench_62 ⟨Nat.le_of_ble_eq_true rfl, Nat.le_of_ble_eq_true rfl⟩) hL (fun H locs hM hL => ?_)
    refine lv_if_eq (tgt := 80) hx hb dX5_bench_65 (by decide) (fun c27 => ?_) (fun c27 => ?_)
    · have h := (if_pos c27).symm.trans h
      refine lv_sipush hx hb dX5_bench_80 kS_m5000 ?_
      subst hQ
      have h := Option.some.inj h
      subst h
      exact m_iret hx hb hr hM hL dX5_bench_83 hlocks
    · have h := (if_neg c27).symm.trans h
      refine lv_aload_n hx hb dX5_bench_68 rfl (lv_at hl 0 rfl) ?_
      refine m_getR (ci := 4) hx hb hU5 hown hK hM rfl 3 (by decide) w1 h dX5_bench_69 (fun r28 gr28 h => ?_)
      refine m_getRN (ci := 0) (host := RX5) hx hb hU0 hown hK hM rfl 1 (by decide) (List.mem_of_getElem? (i := 4) rfl) h dX5_bench_72 (fun r29 gr29 h => ?_)
      refine lv_iload_n hx hb dX5_bench_75 rfl (lv_at hl 2 rfl) ?_
      refine m_iald hx hb hK hM h dX5_bench_76 (fun v30 gv30 h => ?_)
      refine lv_goto (tgt := 83) hx hb dX5_bench_77 (by decide) ?_
      subst hQ
      have h := Option.some.inj h
      subst h
      exact m_iret hx hb hr hM hL dX5_bench_83 hlocks
  have h := (if_neg c26).symm.trans h
  by_cases c31 : x1 = (2 : Int32)
  · have h := (if_pos c31).symm.trans h
    refine m_tin (tgt := 84) (off := 83) hx hb c31 dX5_bench_1 (by decide) (by decide) (by decide) (by decide) ?_
    refine lv_aload_n hx hb dX5_bench_84 rfl (lv_at hl 0 rfl) ?_
    refine m_getR (ci := 4) hx hb hU5 hown hK hM rfl 3 (by decide) w1 h dX5_bench_85 (fun r32 gr32 h => ?_)
    refine m_getIN (ci := 0) (host := RX5) hx hb hU0 hown hK hM rfl 11 (by decide) (List.mem_of_getElem? (i := 14) rfl) h dX5_bench_88 (fun v33 gv33 h => ?_)
    subst hQ
    have h := Option.some.inj h
    subst h
    exact m_iret hx hb hr hM hL dX5_bench_91 hlocks
  have h := (if_neg c31).symm.trans h
  by_cases c34 : x1 = (3 : Int32)
  · have h := (if_pos c34).symm.trans h
    refine m_tin (tgt := 92) (off := 91) hx hb c34 dX5_bench_1 (by decide) (by decide) (by decide) (by decide) ?_
    refine lv_aload_n hx hb dX5_bench_92 rfl (lv_at hl 0 rfl) ?_
    refine m_getR (ci := 4) hx hb hU5 hown hK hM rfl 3 (by decide) w1 h dX5_bench_93 (fun r35 gr35 h => ?_)
    obtain ⟨o36, h⟩ := oi_some h
    obtain ⟨q37, hq37, h⟩ := ob_some h
    refine m_calli (va_runV (As := []) (rest := []) ⟨hx, hb, hml, hown, hts⟩ (c_X0_verdict l G hq37) (cwV 0 hts gX5_bench_X0_verdict rfl rfl rfl hd_X0_verdictv ⟨Nat.le_of_ble_eq_true rfl, Nat.le_of_ble_eq_true rfl⟩) (m_preV (ci := 0) hK hM rfl o36) rfl rfl hl.1 rfl (lv_room (Nat.le_of_ble_eq_true rfl)) dX5_bench_96 ⟨Nat.le_of_ble_eq_true rfl, Nat.le_of_ble_eq_true rfl⟩) hL (fun H locs hM hL => ?_)
    subst hQ
    have h := Option.some.inj h
    subst h
    exact m_iret hx hb hr hM hL dX5_bench_99 hlocks
  have h := (if_neg c34).symm.trans h
  by_cases c38 : x1 = (4 : Int32)
  · have h := (if_pos c38).symm.trans h
    refine m_tin (tgt := 100) (off := 99) hx hb c38 dX5_bench_1 (by decide) (by decide) (by decide) (by decide) ?_
    refine lv_aload_n hx hb dX5_bench_100 rfl (lv_at hl 0 rfl) ?_
    refine m_getR (ci := 4) hx hb hU5 hown hK hM rfl 3 (by decide) w1 h dX5_bench_101 (fun r39 gr39 h => ?_)
    refine m_getIN (ci := 0) (host := RX5) hx hb hU0 hown hK hM rfl 12 (by decide) (List.mem_of_getElem? (i := 15) rfl) h dX5_bench_104 (fun v40 gv40 h => ?_)
    refine lv_bipush hx hb dX5_bench_107 kB_6 ?_
    refine lv_irem hx hb dX5_bench_109 (by decide) ?_
    subst hQ
    have h := Option.some.inj h
    subst h
    exact m_iret hx hb hr hM hL dX5_bench_110 hlocks
  have h := (if_neg c38).symm.trans h
  refine lv_tableOut (tgt := 111) hx hb dX5_bench_1 (by have q0 := lv_neT (a := 0) c21 (by decide); have q1 := lv_neT (a := 1) c26 (by decide); have q2 := lv_neT (a := 2) c31 (by decide); have q3 := lv_neT (a := 3) c34 (by decide); have q4 := lv_neT (a := 4) c38 (by decide); omega) (by decide) ?_
  refine lv_sipush hx hb dX5_bench_111 kS_m5000 ?_
  subst hQ
  have h := Option.some.inj h
  subst h
  exact m_iret hx hb hr hM hL dX5_bench_114 hlocks
abbrev rm_X5_isByte : Room := { frames := 1, cells := 0, slots := 0, locals := 21 }
theorem z_X5_isByte (x0 : Int32) : narrow .boolean (.int (f_X5_isByte x0)) = .int (f_X5_isByte x0) := by
  rw [f_X5_isByte.eq_1]
  try dsimp only [vl]
  (repeat' split) <;> first | rfl | apply z_X5_isBelow
set_option maxHeartbeats 4000000 in
set_option maxRecDepth 100000 in
theorem c_X5_isByte (l : Launch) (G : mG) (x0 : Int32) {σ : mS} : Met l yX5_isByte wsX5_isByte rm_X5_isByte (va_Pc [.int x0] (mB G σ)) (mQ G (.returned (some (.int (f_X5_isByte x0)))) (σ)) 0 0 (mF G) := by
  obtain ⟨z, h⟩ : ∃ z, f_X5_isByte x0 = z := ⟨_, rfl⟩
  rw [h]
  refine m_start (cc := cX5_isByte) (maxL := 1) (ret := (some .boolean)) (by decide) rfl [.int x0] (Nat.le_of_ble_eq_true rfl) ?_
  intro p e s m args below meth c ls hx hb hr hml hown hts hlocks hnm hK hM hl
  have hown : s.vm.findClass RX5 = some m.cls := hown
  have hnm : meth.name = "isByte" := hnm
  obtain ⟨locs, hlocs⟩ : ∃ l : List Loc, l = [] := ⟨_, rfl⟩
  have hL : mL G locs := by rw [hlocs]; exact mL_nil G
  rw [← hlocs]
  generalize s.heap = H at hM ⊢
  have hl : lv_has ls 1 [(0, .int x0)] := hl
  obtain ⟨Q, hQ⟩ : ∃ Q, Q = MQ below (mQ G (.returned (some (.int z))) (σ)) args s 0 0 (mF G) := ⟨_, rfl⟩
  rw [← hQ]
  rw [f_X5_isByte.eq_1] at h
  refine lv_iload_n hx hb dX5_isByte_0 rfl (lv_at hl 0 rfl) ?_
  refine lv_sipush hx hb dX5_isByte_1 kS_256 ?_
  refine m_calli (va_runS (As := [.int x0, .int (256 : Int32)]) (rest := []) ⟨hx, hb, hml, hown, hts⟩ (c_X5_isBelow l G x0 (256 : Int32)) (va_cwS 2 hts gX5_isByte_X5_isBelow rfl rfl rfl hd_X5_isBelow ⟨Nat.le_of_ble_eq_true rfl, Nat.le_of_ble_eq_true rfl⟩) (m_preS hK hM) rfl rfl hl.1 rfl (lv_room (Nat.le_of_ble_eq_true rfl)) dX5_isByte_4 ⟨Nat.le_of_ble_eq_true rfl, Nat.le_of_ble_eq_true rfl⟩) hL (fun H locs hM hL => ?_)
  subst hQ
  subst h
  exact m_zret (x := (f_X5_isBelow x0 (256 : Int32))) hx hb hr (z_X5_isBelow _ _) hM hL dX5_isByte_7 hlocks
abbrev rm_X5_feed : Room := { frames := 2, cells := 0, slots := 0, locals := 41 }
set_option maxHeartbeats 4000000 in
set_option maxRecDepth 100000 in
theorem c_X5_feed (l : Launch) (G : mG) {h0 : Nat} {x1 : Int32} {x2 : Int32} {x3 : Int32} {x4 : Int32} {x5 : Int32} {x6 : Int32} {σ : mS} {z : Int32 × mS} (h : f_X5_feed h0 x1 x2 x3 x4 x5 x6 σ = some z) : Met l yX5_feed wsX5_feed rm_X5_feed (va_Pc [.ref h0, .int x1, .int x2, .int x3, .int x4, .int x5, .int x6] (mB G σ)) (mQ G (.returned (some (.int z.1))) z.2) 0 0 (mF G) := by
  refine m_start (cc := cX5_feed) (maxL := 8) (ret := (some .int)) (by decide) rfl [.ref h0, .int x1, .int x2, .int x3, .int x4, .int x5, .int x6] (Nat.le_of_ble_eq_true rfl) ?_
  intro p e s m args below meth c ls hx hb hr hml hown hts hlocks hnm hK hM hl
  have hown : s.vm.findClass RX5 = some m.cls := hown
  have hnm : meth.name = "feed" := hnm
  obtain ⟨locs, hlocs⟩ : ∃ l : List Loc, l = [] := ⟨_, rfl⟩
  have hL : mL G locs := by rw [hlocs]; exact mL_nil G
  rw [← hlocs]
  generalize s.heap = H at hM ⊢
  have hl : lv_has ls 8 [(0, .ref h0), (1, .int x1), (2, .int x2), (3, .int x3), (4, .int x4), (5, .int x5), (6, .int x6)] := hl
  obtain ⟨Q, hQ⟩ : ∃ Q, Q = MQ below (mQ G (.returned (some (.int z.1))) z.2) args s 0 0 (mF G) := ⟨_, rfl⟩
  rw [← hQ]
  have hU5 : ∀ w ∈ wsX50, w.before args s = true := fun w h => hts w (List.mem_cons_of_mem _ (List.mem_append_left _ (List.mem_append_right _ h)))
  have w1 := (hts (.fieldLink RX5 18 "HandkerchiefsDropped" "tape" "LHandkerchiefsDropped$Tape;") (List.mem_of_getElem? (i := 1) rfl))
  have hU4 : ∀ w ∈ wsX40, w.before args s = true := fun w h => hts w (List.mem_cons_of_mem _ (List.mem_append_right _ h))
  have hN80 : ∀ (n : Nat) (h0 : Nat) (x1 : Int32) (x3 : Int32) (x4 : Int32) (x5 : Int32) (x6 : Int32) (x7 : Int32) (σ : mS), f_X5_feed_80 n h0 x1 x3 x4 x5 x6 x7 σ = some z → ∀ (H : Heap) (locs : List Loc) (ls : Array Slot), mP G σ H → mL G locs → lv_has ls 8 [(0, .ref h0), (1, .int x1), (3, .int x3), (4, .int x4), (5, .int x5), (6, .int x6), (7, .int x7)] → W p l e rm_X5_feed s m args below meth c H locs 0 0 Q (F0 m 80 ls []) := by
    intro n
    induction n with
    | zero =>
      intro h0 x1 x3 x4 x5 x6 x7 σ h
      exact nomatch (show (none : Option (Int32 × mS)) = some z from h)
    | succ n ih =>
      intro h0 x1 x3 x4 x5 x6 x7 σ h H locs ls hM hL hl
      rw [f_X5_feed_80.eq_2] at h
      refine lv_iload hx hb dX5_feed_80 (lv_at hl 6 rfl) ?_
      refine lv_iload_n hx hb dX5_feed_82 rfl (lv_at hl 1 rfl) ?_
      refine lv_icmp_ge (tgt := 133) hx hb dX5_feed_83 (by decide) (fun c25 => ?_) (fun c25 => ?_)
      · have h := (if_pos c25).symm.trans h
        refine lv_aload_n hx hb dX5_feed_133 rfl (lv_at hl 0 rfl) ?_
        refine m_getR (ci := 4) hx hb hU5 hown hK hM rfl 1 (by decide) w1 h dX5_feed_134 (fun r26 gr26 h => ?_)
        refine m_getIN (ci := 3) (host := RX5) hx hb hU4 hown hK hM rfl 3 (by decide) (List.mem_of_getElem? (i := 1) rfl) h dX5_feed_137 (fun v27 gv27 h => ?_)
        subst hQ
        have h := Option.some.inj h
        subst h
        exact m_iret hx hb hr hM hL dX5_feed_140 hlocks
      · have h := (if_neg c25).symm.trans h
        refine lv_aload_n hx hb dX5_feed_86 rfl (lv_at hl 0 rfl) ?_
        refine m_getR (ci := 4) hx hb hU5 hown hK hM rfl 1 (by decide) w1 h dX5_feed_87 (fun r28 gr28 h => ?_)
        refine lv_iload hx hb dX5_feed_90 (lv_at hl 6 rfl) ?_
        refine lv_iconst hx hb dX5_feed_92 kI_1 ?_
        suffices hJ : ∀ (v32 : Int32) (ls : Array Slot), v32 = (if x7 = (1 : Int32) then x3 else if x7 = (2 : Int32) then x4 else if x7 = (3 : Int32) then x5 else x6) → lv_has ls 8 [(0, .ref h0), (1, .int x1), (3, .int x3), (4, .int x4), (5, .int x5), (6, .int x6), (7, .int x7)] → W p l e rm_X5_feed s m args below meth c H locs 0 0 Q (F0 m 124 ls [.int v32, .ref r28]) by
          refine lv_icmp_ne (tgt := 100) hx hb dX5_feed_93 (by decide) (fun c29 => ?_) (fun c29 => ?_)
          · refine lv_iload hx hb dX5_feed_100 (lv_at hl 6 rfl) ?_
            refine lv_iconst hx hb dX5_feed_102 kI_2 ?_
            refine lv_icmp_ne (tgt := 111) hx hb dX5_feed_103 (by decide) (fun c30 => ?_) (fun c30 => ?_)
            · refine lv_iload hx hb dX5_feed_111 (lv_at hl 6 rfl) ?_
              refine lv_iconst hx hb dX5_feed_113 kI_3 ?_
              refine lv_icmp_ne (tgt := 122) hx hb dX5_feed_114 (by decide) (fun c31 => ?_) (fun c31 => ?_)
              · refine lv_iload hx hb dX5_feed_122 (lv_at hl 5 rfl) ?_
                exact hJ _ _ (((if_neg c29).trans ((if_neg c30).trans ((if_neg c31).trans rfl))).symm) (lv_sub hl [0, 1, 2, 3, 4, 5, 6] rfl)
              · refine lv_iload hx hb dX5_feed_117 (lv_at hl 4 rfl) ?_
                refine lv_goto (tgt := 124) hx hb dX5_feed_119 (by decide) ?_
                exact hJ _ _ (((if_neg c29).trans ((if_neg c30).trans ((if_pos c31).trans rfl))).symm) (lv_sub hl [0, 1, 2, 3, 4, 5, 6] rfl)
            · refine lv_iload hx hb dX5_feed_106 (lv_at hl 3 rfl) ?_
              refine lv_goto (tgt := 124) hx hb dX5_feed_108 (by decide) ?_
              exact hJ _ _ (((if_neg c29).trans ((if_pos c30).trans rfl)).symm) (lv_sub hl [0, 1, 2, 3, 4, 5, 6] rfl)
          · refine lv_iload_n hx hb dX5_feed_96 rfl (lv_at hl 2 rfl) ?_
            refine lv_goto (tgt := 124) hx hb dX5_feed_97 (by decide) ?_
            exact hJ _ _ (((if_pos c29).trans rfl).symm) (lv_sub hl [0, 1, 2, 3, 4, 5, 6] rfl)
        intro v32 ls ev32 hl
        have h := vl_at ev32 h
        obtain ⟨o33, h⟩ := oi_some h
        obtain ⟨q34, hq34, h⟩ := ob_some h
        refine m_callv (va_runV (As := [.int v32]) (rest := []) ⟨hx, hb, hml, hown, hts⟩ (c_X4_append l G hq34) (cwV 1 hts gX5_feed_X4_append rfl rfl rfl hd_X4_appendv ⟨Nat.le_of_ble_eq_true rfl, Nat.le_of_ble_eq_true rfl⟩) (m_preV (ci := 3) hK hM rfl o33) rfl rfl hl.1 rfl (lv_room (Nat.le_of_ble_eq_true rfl)) dX5_feed_124 ⟨Nat.le_of_ble_eq_true rfl, Nat.le_of_ble_eq_true rfl⟩) hL (fun H locs hM hL => ?_)
        obtain ⟨v35, ev35⟩ : ∃ y : Int32, y = x7 + (1 : Int32) := ⟨_, rfl⟩
        have h := vl_at ev35 h
        refine lv_iinc (v := v35) (lv' := [(7, .int v35), (0, .ref h0), (1, .int x1), (3, .int x3), (4, .int x4), (5, .int x5), (6, .int x6)]) hx hb dX5_feed_127 hl (k := 6) rfl (by rw [ev35, kI_1]) (by decide) rfl (fun ls hl => ?_)
        refine lv_goto (tgt := 80) hx hb dX5_feed_130 (by decide) ?_
        exact ih _ _ _ _ _ _ _ _ h _ _ _ hM hL (lv_sub hl [1, 2, 3, 4, 5, 6, 0] rfl)
  rw [f_X5_feed.eq_1] at h
  refine lv_iload_n hx hb dX5_feed_0 rfl (lv_at hl 1 rfl) ?_
  refine lv_iconst hx hb dX5_feed_1 kI_1 ?_
  refine lv_icmp_lt (tgt := 48) hx hb dX5_feed_2 (by decide) (fun c36 => ?_) (fun c36 => ?_)
  · have h := (if_pos c36).symm.trans h
    refine lv_bipush hx hb dX5_feed_48 kB_m2 ?_
    subst hQ
    have h := Option.some.inj h
    subst h
    exact m_iret hx hb hr hM hL dX5_feed_50 hlocks
  · have h := (if_neg c36).symm.trans h
    refine lv_iload_n hx hb dX5_feed_5 rfl (lv_at hl 1 rfl) ?_
    refine lv_iconst hx hb dX5_feed_6 kI_5 ?_
    refine lv_icmp_gt (tgt := 48) hx hb dX5_feed_7 (by decide) (fun c37 => ?_) (fun c37 => ?_)
    · have h := (if_pos c37).symm.trans h
      refine lv_bipush hx hb dX5_feed_48 kB_m2 ?_
      subst hQ
      have h := Option.some.inj h
      subst h
      exact m_iret hx hb hr hM hL dX5_feed_50 hlocks
    · have h := (if_neg c37).symm.trans h
      refine lv_iload_n hx hb dX5_feed_10 rfl (lv_at hl 2 rfl) ?_
      refine m_calli (va_runS (As := [.int x2]) (rest := []) ⟨hx, hb, hml, hown, hts⟩ (c_X5_isByte l G x2) (va_cwS 1 hts gX5_feed_X5_isByte rfl rfl rfl hd_X5_isByte ⟨Nat.le_of_ble_eq_true rfl, Nat.le_of_ble_eq_true rfl⟩) (m_preS hK hM) rfl rfl hl.1 rfl (lv_room (Nat.le_of_ble_eq_true rfl)) dX5_feed_11 ⟨Nat.le_of_ble_eq_true rfl, Nat.le_of_ble_eq_true rfl⟩) hL (fun H locs hM hL => ?_)
      refine lv_if_eq (tgt := 48) hx hb dX5_feed_14 (by decide) (fun c38 => ?_) (fun c38 => ?_)
      · have h := (if_pos c38).symm.trans h
        refine lv_bipush hx hb dX5_feed_48 kB_m2 ?_
        subst hQ
        have h := Option.some.inj h
        subst h
        exact m_iret hx hb hr hM hL dX5_feed_50 hlocks
      · have h := (if_neg c38).symm.trans h
        refine lv_iload_n hx hb dX5_feed_17 rfl (lv_at hl 3 rfl) ?_
        refine m_calli (va_runS (As := [.int x3]) (rest := []) ⟨hx, hb, hml, hown, hts⟩ (c_X5_isByte l G x3) (va_cwS 1 hts gX5_feed_X5_isByte rfl rfl rfl hd_X5_isByte ⟨Nat.le_of_ble_eq_true rfl, Nat.le_of_ble_eq_true rfl⟩) (m_preS hK hM) rfl rfl hl.1 rfl (lv_room (Nat.le_of_ble_eq_true rfl)) dX5_feed_18 ⟨Nat.le_of_ble_eq_true rfl, Nat.le_of_ble_eq_true rfl⟩) hL (fun H locs hM hL => ?_)
        refine lv_if_eq (tgt := 48) hx hb dX5_feed_21 (by decide) (fun c39 => ?_) (fun c39 => ?_)
        · have h := (if_pos c39).symm.trans h
          refine lv_bipush hx hb dX5_feed_48 kB_m2 ?_
          subst hQ
          have h := Option.some.inj h
          subst h
          exact m_iret hx hb hr hM hL dX5_feed_50 hlocks
        · have h := (if_neg c39).symm.trans h
          refine lv_iload hx hb dX5_feed_24 (lv_at hl 4 rfl) ?_
          refine m_calli (va_runS (As := [.int x4]) (rest := []) ⟨hx, hb, hml, hown, hts⟩ (c_X5_isByte l G x4) (va_cwS 1 hts gX5_feed_X5_isByte rfl rfl rfl hd_X5_isByte ⟨Nat.le_of_ble_eq_true rfl, Nat.le_of_ble_eq_true rfl⟩) (m_preS hK hM) rfl rfl hl.1 rfl (lv_room (Nat.le_of_ble_eq_true rfl)) dX5_feed_26 ⟨Nat.le_of_ble_eq_true rfl, Nat.le_of_ble_eq_true rfl⟩) hL (fun H locs hM hL => ?_)
          refine lv_if_eq (tgt := 48) hx hb dX5_feed_29 (by decide) (fun c40 => ?_) (fun c40 => ?_)
          · have h := (if_pos c40).symm.trans h
            refine lv_bipush hx hb dX5_feed_48 kB_m2 ?_
            subst hQ
            have h := Option.some.inj h
            subst h
            exact m_iret hx hb hr hM hL dX5_feed_50 hlocks
          · have h := (if_neg c40).symm.trans h
            refine lv_iload hx hb dX5_feed_32 (lv_at hl 5 rfl) ?_
            refine m_calli (va_runS (As := [.int x5]) (rest := []) ⟨hx, hb, hml, hown, hts⟩ (c_X5_isByte l G x5) (va_cwS 1 hts gX5_feed_X5_isByte rfl rfl rfl hd_X5_isByte ⟨Nat.le_of_ble_eq_true rfl, Nat.le_of_ble_eq_true rfl⟩) (m_preS hK hM) rfl rfl hl.1 rfl (lv_room (Nat.le_of_ble_eq_true rfl)) dX5_feed_34 ⟨Nat.le_of_ble_eq_true rfl, Nat.le_of_ble_eq_true rfl⟩) hL (fun H locs hM hL => ?_)
            refine lv_if_eq (tgt := 48) hx hb dX5_feed_37 (by decide) (fun c41 => ?_) (fun c41 => ?_)
            · have h := (if_pos c41).symm.trans h
              refine lv_bipush hx hb dX5_feed_48 kB_m2 ?_
              subst hQ
              have h := Option.some.inj h
              subst h
              exact m_iret hx hb hr hM hL dX5_feed_50 hlocks
            · have h := (if_neg c41).symm.trans h
              refine lv_iload hx hb dX5_feed_40 (lv_at hl 6 rfl) ?_
              refine m_calli (va_runS (As := [.int x6]) (rest := []) ⟨hx, hb, hml, hown, hts⟩ (c_X5_isByte l G x6) (va_cwS 1 hts gX5_feed_X5_isByte rfl rfl rfl hd_X5_isByte ⟨Nat.le_of_ble_eq_true rfl, Nat.le_of_ble_eq_true rfl⟩) (m_preS hK hM) rfl rfl hl.1 rfl (lv_room (Nat.le_of_ble_eq_true rfl)) dX5_feed_42 ⟨Nat.le_of_ble_eq_true rfl, Nat.le_of_ble_eq_true rfl⟩) hL (fun H locs hM hL => ?_)
              refine lv_if_ne (tgt := 51) hx hb dX5_feed_45 (by decide) (fun c42 => ?_) (fun c42 => ?_)
              · have h := (if_neg c42).symm.trans h
                refine lv_aload_n hx hb dX5_feed_51 rfl (lv_at hl 0 rfl) ?_
                refine m_getR (ci := 4) hx hb hU5 hown hK hM rfl 1 (by decide) w1 h dX5_feed_52 (fun r43 gr43 h => ?_)
                refine m_getIN (ci := 3) (host := RX5) hx hb hU4 hown hK hM rfl 3 (by decide) (List.mem_of_getElem? (i := 1) rfl) h dX5_feed_55 (fun v44 gv44 h => ?_)
                refine lv_iload_n hx hb dX5_feed_58 rfl (lv_at hl 1 rfl) ?_
                refine lv_iadd hx hb dX5_feed_59 ?_
                refine lv_sipush hx hb dX5_feed_60 kS_160 ?_
                refine lv_icmp_le (tgt := 69) hx hb dX5_feed_63 (by decide) (fun c45 => ?_) (fun c45 => ?_)
                · have h := (if_pos c45).symm.trans h
                  refine lv_aload_n hx hb dX5_feed_69 rfl (lv_at hl 0 rfl) ?_
                  refine m_getR (ci := 4) hx hb hU5 hown hK hM rfl 1 (by decide) w1 h dX5_feed_70 (fun r46 gr46 h => ?_)
                  refine lv_iload_n hx hb dX5_feed_73 rfl (lv_at hl 2 rfl) ?_
                  obtain ⟨o47, h⟩ := oi_some h
                  obtain ⟨q48, hq48, h⟩ := ob_some h
                  refine m_callv (va_runV (As := [.int x2]) (rest := []) ⟨hx, hb, hml, hown, hts⟩ (c_X4_append l G hq48) (cwV 1 hts gX5_feed_X4_append rfl rfl rfl hd_X4_appendv ⟨Nat.le_of_ble_eq_true rfl, Nat.le_of_ble_eq_true rfl⟩) (m_preV (ci := 3) hK hM rfl o47) rfl rfl hl.1 rfl (lv_room (Nat.le_of_ble_eq_true rfl)) dX5_feed_74 ⟨Nat.le_of_ble_eq_true rfl, Nat.le_of_ble_eq_true rfl⟩) hL (fun H locs hM hL => ?_)
                  refine lv_iconst hx hb dX5_feed_77 kI_1 ?_
                  refine lv_istore (lv' := [(7, .int (1 : Int32)), (0, .ref h0), (1, .int x1), (2, .int x2), (3, .int x3), (4, .int x4), (5, .int x5), (6, .int x6)]) hx hb dX5_feed_78 hl (by decide) rfl (fun ls hl => ?_)
                  refine hN80 _ _ _ _ _ _ _ _ _ h _ _ _ hM hL (lv_sub hl [1, 2, 4, 5, 6, 7, 0] rfl)
                · have h := (if_neg c45).symm.trans h
                  refine lv_bipush hx hb dX5_feed_66 kB_m4 ?_
                  subst hQ
                  have h := Option.some.inj h
                  subst h
                  exact m_iret hx hb hr hM hL dX5_feed_68 hlocks
              · have h := (if_pos c42).symm.trans h
                refine lv_bipush hx hb dX5_feed_48 kB_m2 ?_
                subst hQ
                have h := Option.some.inj h
                subst h
                exact m_iret hx hb hr hM hL dX5_feed_50 hlocks
abbrev rm_X5_text : Room := { frames := 122, cells := 2, slots := 164, locals := 2701 }
set_option maxHeartbeats 4000000 in
set_option maxRecDepth 100000 in
theorem c_X5_text (l : Launch) (G : mG) {h0 : Nat} {σ : mS} {z : Int32 × mS} (h : f_X5_text h0 σ = some z) : Met l yX5_text wsX5_text rm_X5_text (va_Pc [.ref h0] (mB G σ)) (mQ G (.returned (some (.int z.1))) z.2) 2 164 (mF G) := by
  refine m_start (cc := cX5_text) (maxL := 3) (ret := (some .int)) (by decide) rfl [.ref h0] (Nat.le_of_ble_eq_true rfl) ?_
  intro p e s m args below meth c ls hx hb hr hml hown hts hlocks hnm hK hM hl
  have hown : s.vm.findClass RX5 = some m.cls := hown
  have hnm : meth.name = "text" := hnm
  obtain ⟨locs, hlocs⟩ : ∃ l : List Loc, l = [] := ⟨_, rfl⟩
  have hL : mL G locs := by rw [hlocs]; exact mL_nil G
  rw [← hlocs]
  generalize s.heap = H at hM ⊢
  have hl : lv_has ls 3 [(0, .ref h0)] := hl
  obtain ⟨Q, hQ⟩ : ∃ Q, Q = MQ below (mQ G (.returned (some (.int z.1))) z.2) args s 2 164 (mF G) := ⟨_, rfl⟩
  rw [← hQ]
  have hU5 : ∀ w ∈ wsX50, w.before args s = true := fun w h => hts w (List.mem_cons_of_mem _ (List.mem_append_left _ (List.mem_append_left _ (List.mem_append_right _ h))))
  have w1 := (hts (.fieldLink RX5 37 "HandkerchiefsDropped" "textCount" "I") (List.mem_of_getElem? (i := 1) rfl))
  have w2 := (hts (.fieldLink RX5 18 "HandkerchiefsDropped" "tape" "LHandkerchiefsDropped$Tape;") (List.mem_of_getElem? (i := 2) rfl))
  have hU4 : ∀ w ∈ wsX40, w.before args s = true := fun w h => hts w (List.mem_cons_of_mem _ (List.mem_append_left _ (List.mem_append_right _ h)))
  have w4 := (hts (.fieldLink RX5 11 "HandkerchiefsDropped" "texts" "[LHandkerchiefsDropped$Law;") (List.mem_of_getElem? (i := 3) rfl))
  rw [f_X5_text.eq_1] at h
  refine lv_aload_n hx hb dX5_text_0 rfl (lv_at hl 0 rfl) ?_
  refine m_getI (ci := 4) hx hb hU5 hown hK hM rfl 7 (by decide) w1 h dX5_text_1 (fun v17 gv17 h => ?_)
  refine lv_bipush hx hb dX5_text_4 kB_6 ?_
  refine lv_icmp_lt (tgt := 12) hx hb dX5_text_6 (by decide) (fun c18 => ?_) (fun c18 => ?_)
  · have h := (if_pos c18).symm.trans h
    refine lv_aload_n hx hb dX5_text_12 rfl (lv_at hl 0 rfl) ?_
    refine m_getR (ci := 4) hx hb hU5 hown hK hM rfl 1 (by decide) w2 h dX5_text_13 (fun r19 gr19 h => ?_)
    obtain ⟨o20, h⟩ := oi_some h
    obtain ⟨q21, hq21, h⟩ := ob_some h
    refine m_calli (va_runV (As := []) (rest := []) ⟨hx, hb, hml, hown, hts⟩ (c_X4_fault l G hq21) (cwV 0 hts gX5_text_X4_fault rfl rfl rfl hd_X4_faultv ⟨Nat.le_of_ble_eq_true rfl, Nat.le_of_ble_eq_true rfl⟩) (m_preV (ci := 3) hK hM rfl o20) rfl rfl hl.1 rfl (lv_room (Nat.le_of_ble_eq_true rfl)) dX5_text_16 ⟨Nat.le_of_ble_eq_true rfl, Nat.le_of_ble_eq_true rfl⟩) hL (fun H locs hM hL => ?_)
    refine lv_istore_n (lv' := [(1, .int q21.1), (0, .ref h0)]) hx hb dX5_text_19 rfl hl (by decide) rfl (fun ls hl => ?_)
    refine lv_aload_n hx hb dX5_text_20 rfl (lv_at hl 1 rfl) ?_
    refine m_getR (ci := 4) hx hb hU5 hown hK hM rfl 1 (by decide) w2 h dX5_text_21 (fun r22 gr22 h => ?_)
    refine lv_iconst hx hb dX5_text_24 kI_0 ?_
    refine m_putN (host := RX5) (ci := 3) hx hb hU4 tyX4 tyX4_ok nmX4 hown hK hM hL rfl 3 (by decide) (List.mem_of_getElem? (i := 1) rfl) rfl rfl rfl h dX5_text_25 (fun t23 H locs h hM hL => ?_)
    refine lv_iload_n hx hb dX5_text_28 rfl (lv_at hl 0 rfl) ?_
    refine lv_iconst hx hb dX5_text_29 kI_m1 ?_
    refine lv_icmp_eq (tgt := 38) hx hb dX5_text_30 (by decide) (fun c24 => ?_) (fun c24 => ?_)
    · have h := (if_pos c24).symm.trans h
      refine lv_aload_n hx hb dX5_text_38 rfl (lv_at hl 1 rfl) ?_
      refine m_getI (ci := 4) hx hb hU5 hown hK hM rfl 7 (by decide) w1 h dX5_text_39 (fun v25 gv25 h => ?_)
      refine lv_istore_n (lv' := [(2, .int v25), (1, .int q21.1), (0, .ref h0)]) hx hb dX5_text_42 rfl hl (by decide) rfl (fun ls hl => ?_)
      refine lv_aload_n hx hb dX5_text_43 rfl (lv_at hl 2 rfl) ?_
      refine m_getR (ci := 4) hx hb hU5 hown hK hM rfl 0 (by decide) w4 h dX5_text_44 (fun r26 gr26 h => ?_)
      refine lv_iload_n hx hb dX5_text_47 rfl (lv_at hl 0 rfl) ?_
      refine lv_aload_n hx hb dX5_text_48 rfl (lv_at hl 2 rfl) ?_
      refine m_getR (ci := 4) hx hb hU5 hown hK hM rfl 1 (by decide) w2 h dX5_text_49 (fun r27 gr27 h => ?_)
      refine lv_iload_n hx hb dX5_text_52 rfl (lv_at hl 0 rfl) ?_
      obtain ⟨o28, h⟩ := oi_some h
      obtain ⟨q29, hq29, h⟩ := ob_some h
      refine m_callr (va_runV (As := [.int v25]) (rest := [.int v25, .ref r26]) ⟨hx, hb, hml, hown, hts⟩ (c_X4_lawRead l G hq29) (cwV 1 hts gX5_text_X4_lawRead rfl rfl rfl hd_X4_lawReadv ⟨Nat.le_of_ble_eq_true rfl, Nat.le_of_ble_eq_true rfl⟩) (m_preV (ci := 3) hK hM rfl o28) rfl rfl hl.1 rfl (lv_room (Nat.le_of_ble_eq_true rfl)) dX5_text_53 ⟨Nat.le_of_ble_eq_true rfl, Nat.le_of_ble_eq_true rfl⟩) hL (fun H locs hM hL => ?_)
      refine m_aast hx hb hK hM hL 1 1 rfl rfl h dX5_text_56 (fun t30 H locs h hM hL => ?_)
      refine lv_aload_n hx hb dX5_text_57 rfl (lv_at hl 2 rfl) ?_
      refine lv_dup hx hb dX5_text_58 rfl ?_
      refine m_getI (ci := 4) hx hb hU5 hown hK hM rfl 7 (by decide) w1 h dX5_text_59 (fun v31 gv31 h => ?_)
      refine lv_iconst hx hb dX5_text_62 kI_1 ?_
      refine lv_iadd hx hb dX5_text_63 ?_
      refine m_put (ci := 4) hx hb hU5 tyX5 tyX5_ok nmX5 hown hK hM hL rfl 7 (by decide) w1 rfl rfl rfl h dX5_text_64 (fun t32 H locs h hM hL => ?_)
      refine lv_iload_n hx hb dX5_text_67 rfl (lv_at hl 0 rfl) ?_
      subst hQ
      have h := Option.some.inj h
      subst h
      exact m_iret hx hb hr hM hL dX5_text_68 hlocks
    · have h := (if_neg c24).symm.trans h
      refine lv_bipush hx hb dX5_text_33 kB_m100 ?_
      refine lv_iload_n hx hb dX5_text_35 rfl (lv_at hl 0 rfl) ?_
      refine lv_isub hx hb dX5_text_36 ?_
      refine W.widen (k := 2) (n := 164) (by omega) (by omega) ?_
      subst hQ
      have h := Option.some.inj h
      subst h
      exact m_iret hx hb hr hM hL dX5_text_37 hlocks
  · have h := (if_neg c18).symm.trans h
    refine lv_bipush hx hb dX5_text_9 kB_m4 ?_
    refine W.widen (k := 2) (n := 164) (by omega) (by omega) ?_
    subst hQ
    have h := Option.some.inj h
    subst h
    exact m_iret hx hb hr hM hL dX5_text_11 hlocks
abbrev rm_X5_force : Room := { frames := 1, cells := 0, slots := 0, locals := 21 }
set_option maxHeartbeats 4000000 in
set_option maxRecDepth 100000 in
theorem c_X5_force (l : Launch) (G : mG) {h0 : Nat} {x1 : Int32} {σ : mS} {z : Int32 × mS} (h : f_X5_force h0 x1 σ = some z) : Met l yX5_force wsX5_force rm_X5_force (va_Pc [.ref h0, .int x1] (mB G σ)) (mQ G (.returned (some (.int z.1))) z.2) 0 0 (mF G) := by
  refine m_start (cc := cX5_force) (maxL := 3) (ret := (some .int)) (by decide) rfl [.ref h0, .int x1] (Nat.le_of_ble_eq_true rfl) ?_
  intro p e s m args below meth c ls hx hb hr hml hown hts hlocks hnm hK hM hl
  have hown : s.vm.findClass RX5 = some m.cls := hown
  have hnm : meth.name = "force" := hnm
  obtain ⟨locs, hlocs⟩ : ∃ l : List Loc, l = [] := ⟨_, rfl⟩
  have hL : mL G locs := by rw [hlocs]; exact mL_nil G
  rw [← hlocs]
  generalize s.heap = H at hM ⊢
  have hl : lv_has ls 3 [(0, .ref h0), (1, .int x1)] := hl
  obtain ⟨Q, hQ⟩ : ∃ Q, Q = MQ below (mQ G (.returned (some (.int z.1))) z.2) args s 0 0 (mF G) := ⟨_, rfl⟩
  rw [← hQ]
  have hU5 : ∀ w ∈ wsX50, w.before args s = true := fun w h => hts w (List.mem_cons_of_mem _ (List.mem_append_left _ (List.mem_append_left _ (List.mem_append_right _ h))))
  have w1 := (hts (.fieldLink RX5 37 "HandkerchiefsDropped" "textCount" "I") (List.mem_of_getElem? (i := 1) rfl))
  have w2 := (hts (.fieldLink RX5 44 "HandkerchiefsDropped" "now" "LHandkerchiefsDropped$Assize;") (List.mem_of_getElem? (i := 2) rfl))
  have hU0 : ∀ w ∈ wsX00, w.before args s = true := fun w h => hts w (List.mem_cons_of_mem _ (List.mem_append_left _ (List.mem_append_right _ h)))
  have hU2 : ∀ w ∈ wsX20, w.before args s = true := fun w h => hts w (List.mem_cons_of_mem _ (List.mem_append_right _ h))
  have w5 := (hts (.fieldLink RX5 11 "HandkerchiefsDropped" "texts" "[LHandkerchiefsDropped$Law;") (List.mem_of_getElem? (i := 3) rfl))
  rw [f_X5_force.eq_1] at h
  refine lv_iload_n hx hb dX5_force_0 rfl (lv_at hl 1 rfl) ?_
  refine lv_aload_n hx hb dX5_force_1 rfl (lv_at hl 0 rfl) ?_
  refine m_getI (ci := 4) hx hb hU5 hown hK hM rfl 7 (by decide) w1 h dX5_force_2 (fun v10 gv10 h => ?_)
  refine m_calli (va_runS (As := [.int x1, .int v10]) (rest := []) ⟨hx, hb, hml, hown, hts⟩ (c_X5_isBelow l G x1 v10) (va_cwS 2 hts gX5_force_X5_isBelow rfl rfl rfl hd_X5_isBelow ⟨Nat.le_of_ble_eq_true rfl, Nat.le_of_ble_eq_true rfl⟩) (m_preS hK hM) rfl rfl hl.1 rfl (lv_room (Nat.le_of_ble_eq_true rfl)) dX5_force_5 ⟨Nat.le_of_ble_eq_true rfl, Nat.le_of_ble_eq_true rfl⟩) hL (fun H locs hM hL => ?_)
  refine lv_if_ne (tgt := 14) hx hb dX5_force_8 (by decide) (fun c11 => ?_) (fun c11 => ?_)
  · have h := (if_neg c11).symm.trans h
    refine lv_aload_n hx hb dX5_force_14 rfl (lv_at hl 0 rfl) ?_
    refine m_getR (ci := 4) hx hb hU5 hown hK hM rfl 3 (by decide) w2 h dX5_force_15 (fun r12 gr12 h => ?_)
    refine m_getRN (ci := 0) (host := RX5) hx hb hU0 hown hK hM rfl 14 (by decide) (List.mem_of_getElem? (i := 17) rfl) h dX5_force_18 (fun r13 gr13 h => ?_)
    refine m_getIN (ci := 1) (host := RX5) hx hb hU2 hown hK hM rfl 0 (by decide) (List.mem_of_getElem? (i := 2) rfl) h dX5_force_21 (fun v14 gv14 h => ?_)
    refine lv_istore_n (lv' := [(2, .int v14), (0, .ref h0), (1, .int x1)]) hx hb dX5_force_24 rfl hl (by decide) rfl (fun ls hl => ?_)
    refine lv_aload_n hx hb dX5_force_25 rfl (lv_at hl 1 rfl) ?_
    refine m_getR (ci := 4) hx hb hU5 hown hK hM rfl 3 (by decide) w2 h dX5_force_26 (fun r15 gr15 h => ?_)
    refine lv_aload_n hx hb dX5_force_29 rfl (lv_at hl 1 rfl) ?_
    refine m_getR (ci := 4) hx hb hU5 hown hK hM rfl 0 (by decide) w5 h dX5_force_30 (fun r16 gr16 h => ?_)
    refine lv_iload_n hx hb dX5_force_33 rfl (lv_at hl 2 rfl) ?_
    refine m_aald hx hb hK hM 1 rfl h dX5_force_34 (fun r17 gr17 h => ?_)
    refine m_putN (host := RX5) (ci := 0) hx hb hU0 tyX0 tyX0_ok nmX0 hown hK hM hL rfl 14 (by decide) (List.mem_of_getElem? (i := 17) rfl) rfl rfl rfl h dX5_force_35 (fun t18 H locs h hM hL => ?_)
    refine lv_iload_n hx hb dX5_force_38 rfl (lv_at hl 0 rfl) ?_
    subst hQ
    have h := Option.some.inj h
    subst h
    exact m_iret hx hb hr hM hL dX5_force_39 hlocks
  · have h := (if_pos c11).symm.trans h
    refine lv_bipush hx hb dX5_force_11 kB_m2 ?_
    subst hQ
    have h := Option.some.inj h
    subst h
    exact m_iret hx hb hr hM hL dX5_force_13 hlocks
abbrev rm_X5_asks : Room := { frames := 3, cells := 0, slots := 0, locals := 81 }
set_option maxHeartbeats 4000000 in
set_option maxRecDepth 100000 in
theorem c_X5_asks (l : Launch) (G : mG) {h0 : Nat} {x1 : Int32} {x2 : Int32} {σ : mS} {z : Int32 × mS} (h : f_X5_asks h0 x1 x2 σ = some z) : Met l yX5_asks wsX5_asks rm_X5_asks (va_Pc [.ref h0, .int x1, .int x2] (mB G σ)) (mQ G (.returned (some (.int z.1))) z.2) 0 0 (mF G) := by
  refine m_start (cc := cX5_asks) (maxL := 3) (ret := (some .int)) (by decide) rfl [.ref h0, .int x1, .int x2] (Nat.le_of_ble_eq_true rfl) ?_
  intro p e s m args below meth c ls hx hb hr hml hown hts hlocks hnm hK hM hl
  have hown : s.vm.findClass RX5 = some m.cls := hown
  have hnm : meth.name = "asks" := hnm
  obtain ⟨locs, hlocs⟩ : ∃ l : List Loc, l = [] := ⟨_, rfl⟩
  have hL : mL G locs := by rw [hlocs]; exact mL_nil G
  rw [← hlocs]
  generalize s.heap = H at hM ⊢
  have hl : lv_has ls 3 [(0, .ref h0), (1, .int x1), (2, .int x2)] := hl
  obtain ⟨Q, hQ⟩ : ∃ Q, Q = MQ below (mQ G (.returned (some (.int z.1))) z.2) args s 0 0 (mF G) := ⟨_, rfl⟩
  rw [← hQ]
  have hU5 : ∀ w ∈ wsX50, w.before args s = true := fun w h => hts w (List.mem_cons_of_mem _ (List.mem_append_left _ (List.mem_append_left _ (List.mem_append_right _ h))))
  have w1 := (hts (.fieldLink RX5 44 "HandkerchiefsDropped" "now" "LHandkerchiefsDropped$Assize;") (List.mem_of_getElem? (i := 1) rfl))
  have hU0 : ∀ w ∈ wsX00, w.before args s = true := fun w h => hts w (List.mem_cons_of_mem _ (List.mem_append_left _ (List.mem_append_right _ h)))
  rw [f_X5_asks.eq_1] at h
  refine lv_iload_n hx hb dX5_asks_0 rfl (lv_at hl 1 rfl) ?_
  refine lv_iconst hx hb dX5_asks_1 kI_3 ?_
  refine m_calli (va_runS (As := [.int x1, .int (3 : Int32)]) (rest := []) ⟨hx, hb, hml, hown, hts⟩ (c_X5_isBelow l G x1 (3 : Int32)) (va_cwS 2 hts gX5_asks_X5_isBelow rfl rfl rfl hd_X5_isBelow ⟨Nat.le_of_ble_eq_true rfl, Nat.le_of_ble_eq_true rfl⟩) (m_preS hK hM) rfl rfl hl.1 rfl (lv_room (Nat.le_of_ble_eq_true rfl)) dX5_asks_2 ⟨Nat.le_of_ble_eq_true rfl, Nat.le_of_ble_eq_true rfl⟩) hL (fun H locs hM hL => ?_)
  refine lv_if_eq (tgt := 19) hx hb dX5_asks_5 (by decide) (fun c11 => ?_) (fun c11 => ?_)
  · have h := (if_pos c11).symm.trans h
    refine lv_sipush hx hb dX5_asks_19 kS_m1000 ?_
    subst hQ
    have h := Option.some.inj h
    subst h
    exact m_iret hx hb hr hM hL dX5_asks_22 hlocks
  · have h := (if_neg c11).symm.trans h
    refine lv_aload_n hx hb dX5_asks_8 rfl (lv_at hl 0 rfl) ?_
    refine m_getR (ci := 4) hx hb hU5 hown hK hM rfl 3 (by decide) w1 h dX5_asks_9 (fun r12 gr12 h => ?_)
    refine lv_iload_n hx hb dX5_asks_12 rfl (lv_at hl 2 rfl) ?_
    obtain ⟨o13, h⟩ := oi_some h
    obtain ⟨q14, hq14, h⟩ := ob_some h
    refine m_calli (va_runV (As := [.int x2]) (rest := []) ⟨hx, hb, hml, hown, hts⟩ (c_X0_hasWitness l G hq14) (cwV 1 hts gX5_asks_X0_hasWitness rfl rfl rfl hd_X0_hasWitnessv ⟨Nat.le_of_ble_eq_true rfl, Nat.le_of_ble_eq_true rfl⟩) (m_preV (ci := 0) hK hM rfl o13) rfl rfl hl.1 rfl (lv_room (Nat.le_of_ble_eq_true rfl)) dX5_asks_13 ⟨Nat.le_of_ble_eq_true rfl, Nat.le_of_ble_eq_true rfl⟩) hL (fun H locs hM hL => ?_)
    refine lv_if_ne (tgt := 23) hx hb dX5_asks_16 (by decide) (fun c15 => ?_) (fun c15 => ?_)
    · have h := (if_neg c15).symm.trans h
      refine lv_aload_n hx hb dX5_asks_23 rfl (lv_at hl 0 rfl) ?_
      refine m_getR (ci := 4) hx hb hU5 hown hK hM rfl 3 (by decide) w1 h dX5_asks_24 (fun r16 gr16 h => ?_)
      refine m_getRN (ci := 0) (host := RX5) hx hb hU0 hown hK hM rfl 14 (by decide) (List.mem_of_getElem? (i := 17) rfl) h dX5_asks_27 (fun r17 gr17 h => ?_)
      refine lv_iload_n hx hb dX5_asks_30 rfl (lv_at hl 1 rfl) ?_
      refine lv_aload_n hx hb dX5_asks_31 rfl (lv_at hl 0 rfl) ?_
      refine m_getR (ci := 4) hx hb hU5 hown hK hM rfl 3 (by decide) w1 h dX5_asks_32 (fun r18 gr18 h => ?_)
      refine lv_iload_n hx hb dX5_asks_35 rfl (lv_at hl 2 rfl) ?_
      obtain ⟨o19, h⟩ := oi_some h
      obtain ⟨q20, hq20, h⟩ := ob_some h
      refine m_calli (va_runV (As := [.int x1, .ref r18, .int x2]) (rest := []) ⟨hx, hb, hml, hown, hts⟩ (c_X2_says l G hq20) (cwV 3 hts gX5_asks_X2_says rfl rfl rfl hd_X2_saysv ⟨Nat.le_of_ble_eq_true rfl, Nat.le_of_ble_eq_true rfl⟩) (m_preV (ci := 1) hK hM rfl o19) rfl rfl hl.1 rfl (lv_room (Nat.le_of_ble_eq_true rfl)) dX5_asks_36 ⟨Nat.le_of_ble_eq_true rfl, Nat.le_of_ble_eq_true rfl⟩) hL (fun H locs hM hL => ?_)
      subst hQ
      have h := Option.some.inj h
      subst h
      exact m_iret hx hb hr hM hL dX5_asks_39 hlocks
    · have h := (if_pos c15).symm.trans h
      refine lv_sipush hx hb dX5_asks_19 kS_m1000 ?_
      subst hQ
      have h := Option.some.inj h
      subst h
      exact m_iret hx hb hr hM hL dX5_asks_22 hlocks
abbrev rm_X5_witness : Room := { frames := 1, cells := 0, slots := 0, locals := 24 }
set_option maxHeartbeats 4000000 in
set_option maxRecDepth 100000 in
theorem c_X5_witness (l : Launch) (G : mG) {h0 : Nat} {x1 : Int32} {x2 : Int32} {x3 : Int32} {σ : mS} {z : Int32 × mS} (h : f_X5_witness h0 x1 x2 x3 σ = some z) : Met l yX5_witness wsX5_witness rm_X5_witness (va_Pc [.ref h0, .int x1, .int x2, .int x3] (mB G σ)) (mQ G (.returned (some (.int z.1))) z.2) 0 0 (mF G) := by
  refine m_start (cc := cX5_witness) (maxL := 4) (ret := (some .int)) (by decide) rfl [.ref h0, .int x1, .int x2, .int x3] (Nat.le_of_ble_eq_true rfl) ?_
  intro p e s m args below meth c ls hx hb hr hml hown hts hlocks hnm hK hM hl
  have hown : s.vm.findClass RX5 = some m.cls := hown
  have hnm : meth.name = "witness" := hnm
  obtain ⟨locs, hlocs⟩ : ∃ l : List Loc, l = [] := ⟨_, rfl⟩
  have hL : mL G locs := by rw [hlocs]; exact mL_nil G
  rw [← hlocs]
  generalize s.heap = H at hM ⊢
  have hl : lv_has ls 4 [(0, .ref h0), (1, .int x1), (2, .int x2), (3, .int x3)] := hl
  obtain ⟨Q, hQ⟩ : ∃ Q, Q = MQ below (mQ G (.returned (some (.int z.1))) z.2) args s 0 0 (mF G) := ⟨_, rfl⟩
  rw [← hQ]
  have hU5 : ∀ w ∈ wsX50, w.before args s = true := fun w h => hts w (List.mem_cons_of_mem _ (List.mem_append_left _ (List.mem_append_right _ h)))
  have w1 := (hts (.fieldLink RX5 44 "HandkerchiefsDropped" "now" "LHandkerchiefsDropped$Assize;") (List.mem_of_getElem? (i := 1) rfl))
  have hU0 : ∀ w ∈ wsX00, w.before args s = true := fun w h => hts w (List.mem_cons_of_mem _ (List.mem_append_right _ h))
  rw [f_X5_witness.eq_1] at h
  refine lv_iload_n hx hb dX5_witness_0 rfl (lv_at hl 1 rfl) ?_
  refine lv_bipush hx hb dX5_witness_1 kB_60 ?_
  refine m_calli (va_runS (As := [.int x1, .int (60 : Int32)]) (rest := []) ⟨hx, hb, hml, hown, hts⟩ (c_X5_isBelow l G x1 (60 : Int32)) (va_cwS 2 hts gX5_witness_X5_isBelow rfl rfl rfl hd_X5_isBelow ⟨Nat.le_of_ble_eq_true rfl, Nat.le_of_ble_eq_true rfl⟩) (m_preS hK hM) rfl rfl hl.1 rfl (lv_room (Nat.le_of_ble_eq_true rfl)) dX5_witness_3 ⟨Nat.le_of_ble_eq_true rfl, Nat.le_of_ble_eq_true rfl⟩) hL (fun H locs hM hL => ?_)
  refine lv_if_eq (tgt := 28) hx hb dX5_witness_6 (by decide) (fun c10 => ?_) (fun c10 => ?_)
  · have h := (if_pos c10).symm.trans h
    refine lv_bipush hx hb dX5_witness_28 kB_m2 ?_
    subst hQ
    have h := Option.some.inj h
    subst h
    exact m_iret hx hb hr hM hL dX5_witness_30 hlocks
  · have h := (if_neg c10).symm.trans h
    refine lv_iload_n hx hb dX5_witness_9 rfl (lv_at hl 2 rfl) ?_
    refine lv_sipush hx hb dX5_witness_10 kS_1024 ?_
    refine m_calli (va_runS (As := [.int x2, .int (1024 : Int32)]) (rest := []) ⟨hx, hb, hml, hown, hts⟩ (c_X5_isBelow l G x2 (1024 : Int32)) (va_cwS 2 hts gX5_witness_X5_isBelow rfl rfl rfl hd_X5_isBelow ⟨Nat.le_of_ble_eq_true rfl, Nat.le_of_ble_eq_true rfl⟩) (m_preS hK hM) rfl rfl hl.1 rfl (lv_room (Nat.le_of_ble_eq_true rfl)) dX5_witness_13 ⟨Nat.le_of_ble_eq_true rfl, Nat.le_of_ble_eq_true rfl⟩) hL (fun H locs hM hL => ?_)
    refine lv_if_eq (tgt := 28) hx hb dX5_witness_16 (by decide) (fun c11 => ?_) (fun c11 => ?_)
    · have h := (if_pos c11).symm.trans h
      refine lv_bipush hx hb dX5_witness_28 kB_m2 ?_
      subst hQ
      have h := Option.some.inj h
      subst h
      exact m_iret hx hb hr hM hL dX5_witness_30 hlocks
    · have h := (if_neg c11).symm.trans h
      refine lv_iload_n hx hb dX5_witness_19 rfl (lv_at hl 3 rfl) ?_
      refine lv_bipush hx hb dX5_witness_20 kB_100 ?_
      refine m_calli (va_runS (As := [.int x3, .int (100 : Int32)]) (rest := []) ⟨hx, hb, hml, hown, hts⟩ (c_X5_isBelow l G x3 (100 : Int32)) (va_cwS 2 hts gX5_witness_X5_isBelow rfl rfl rfl hd_X5_isBelow ⟨Nat.le_of_ble_eq_true rfl, Nat.le_of_ble_eq_true rfl⟩) (m_preS hK hM) rfl rfl hl.1 rfl (lv_room (Nat.le_of_ble_eq_true rfl)) dX5_witness_22 ⟨Nat.le_of_ble_eq_true rfl, Nat.le_of_ble_eq_true rfl⟩) hL (fun H locs hM hL => ?_)
      refine lv_if_ne (tgt := 31) hx hb dX5_witness_25 (by decide) (fun c12 => ?_) (fun c12 => ?_)
      · have h := (if_neg c12).symm.trans h
        refine lv_aload_n hx hb dX5_witness_31 rfl (lv_at hl 0 rfl) ?_
        refine m_getR (ci := 4) hx hb hU5 hown hK hM rfl 3 (by decide) w1 h dX5_witness_32 (fun r13 gr13 h => ?_)
        refine m_getIN (ci := 0) (host := RX5) hx hb hU0 hown hK hM rfl 13 (by decide) (List.mem_of_getElem? (i := 16) rfl) h dX5_witness_35 (fun v14 gv14 h => ?_)
        refine lv_bipush hx hb dX5_witness_38 kB_6 ?_
        refine lv_icmp_lt (tgt := 48) hx hb dX5_witness_40 (by decide) (fun c15 => ?_) (fun c15 => ?_)
        · have h := (if_pos c15).symm.trans h
          refine lv_aload_n hx hb dX5_witness_48 rfl (lv_at hl 0 rfl) ?_
          refine m_getR (ci := 4) hx hb hU5 hown hK hM rfl 3 (by decide) w1 h dX5_witness_49 (fun r16 gr16 h => ?_)
          refine lv_iload_n hx hb dX5_witness_52 rfl (lv_at hl 1 rfl) ?_
          refine lv_iload_n hx hb dX5_witness_53 rfl (lv_at hl 2 rfl) ?_
          refine lv_iload_n hx hb dX5_witness_54 rfl (lv_at hl 3 rfl) ?_
          obtain ⟨o17, h⟩ := oi_some h
          obtain ⟨q18, hq18, h⟩ := ob_some h
          refine m_calli (va_runV (As := [.int x1, .int x2, .int x3]) (rest := []) ⟨hx, hb, hml, hown, hts⟩ (c_X0_welcome l G hq18) (cwV 3 hts gX5_witness_X0_welcome rfl rfl rfl hd_X0_welcomev ⟨Nat.le_of_ble_eq_true rfl, Nat.le_of_ble_eq_true rfl⟩) (m_preV (ci := 0) hK hM rfl o17) rfl rfl hl.1 rfl (lv_room (Nat.le_of_ble_eq_true rfl)) dX5_witness_55 ⟨Nat.le_of_ble_eq_true rfl, Nat.le_of_ble_eq_true rfl⟩) hL (fun H locs hM hL => ?_)
          subst hQ
          have h := Option.some.inj h
          subst h
          exact m_iret hx hb hr hM hL dX5_witness_58 hlocks
        · have h := (if_neg c15).symm.trans h
          refine lv_bipush hx hb dX5_witness_43 kB_m4 ?_
          refine lv_goto (tgt := 58) hx hb dX5_witness_45 (by decide) ?_
          subst hQ
          have h := Option.some.inj h
          subst h
          exact m_iret hx hb hr hM hL dX5_witness_58 hlocks
      · have h := (if_pos c12).symm.trans h
        refine lv_bipush hx hb dX5_witness_28 kB_m2 ?_
        subst hQ
        have h := Option.some.inj h
        subst h
        exact m_iret hx hb hr hM hL dX5_witness_30 hlocks
abbrev rm_X5_put : Room := { frames := 2, cells := 0, slots := 0, locals := 42 }
set_option maxHeartbeats 4000000 in
set_option maxRecDepth 100000 in
theorem c_X5_put (l : Launch) (G : mG) {h0 : Nat} {x1 : Int32} {x2 : Int32} {x3 : Int32} {σ : mS} {z : Int32 × mS} (h : f_X5_put h0 x1 x2 x3 σ = some z) : Met l yX5_put wsX5_put rm_X5_put (va_Pc [.ref h0, .int x1, .int x2, .int x3] (mB G σ)) (mQ G (.returned (some (.int z.1))) z.2) 0 0 (mF G) := by
  refine m_start (cc := cX5_put) (maxL := 4) (ret := (some .int)) (by decide) rfl [.ref h0, .int x1, .int x2, .int x3] (Nat.le_of_ble_eq_true rfl) ?_
  intro p e s m args below meth c ls hx hb hr hml hown hts hlocks hnm hK hM hl
  have hown : s.vm.findClass RX5 = some m.cls := hown
  have hnm : meth.name = "put" := hnm
  obtain ⟨locs, hlocs⟩ : ∃ l : List Loc, l = [] := ⟨_, rfl⟩
  have hL : mL G locs := by rw [hlocs]; exact mL_nil G
  rw [← hlocs]
  generalize s.heap = H at hM ⊢
  have hl : lv_has ls 4 [(0, .ref h0), (1, .int x1), (2, .int x2), (3, .int x3)] := hl
  obtain ⟨Q, hQ⟩ : ∃ Q, Q = MQ below (mQ G (.returned (some (.int z.1))) z.2) args s 0 0 (mF G) := ⟨_, rfl⟩
  rw [← hQ]
  have hU5 : ∀ w ∈ wsX50, w.before args s = true := fun w h => hts w (List.mem_cons_of_mem _ (List.mem_append_left _ (List.mem_append_right _ h)))
  have w1 := (hts (.fieldLink RX5 44 "HandkerchiefsDropped" "now" "LHandkerchiefsDropped$Assize;") (List.mem_of_getElem? (i := 1) rfl))
  have hU0 : ∀ w ∈ wsX00, w.before args s = true := fun w h => hts w (List.mem_cons_of_mem _ (List.mem_append_right _ h))
  have hN65 : ∀ (x1 : Int32) (x3 : Int32) (s0 : Nat) (σ : mS), f_X5_put_65 x1 x3 s0 σ = some z → ∀ (H : Heap) (locs : List Loc) (ls : Array Slot), mP G σ H → mL G locs → lv_has ls 4 [(1, .int x1), (3, .int x3)] → W p l e rm_X5_put s m args below meth c H locs 0 0 Q (F0 m 65 ls [.ref s0]) := by
    intro x1 x3 s0 σ h H locs ls hM hL hl
    rw [f_X5_put_65.eq_1] at h
    refine lv_iload_n hx hb dX5_put_65 rfl (lv_at hl 0 rfl) ?_
    refine lv_iload_n hx hb dX5_put_66 rfl (lv_at hl 1 rfl) ?_
    obtain ⟨q15, hq15, h⟩ := ob_some h
    refine m_calli (va_runS (As := [.ref s0, .int x1, .int x3]) (rest := []) ⟨hx, hb, hml, hown, hts⟩ (c_X5_replaced l G hq15) (va_cwS 3 hts gX5_put_X5_replaced rfl rfl rfl hd_X5_replaced ⟨Nat.le_of_ble_eq_true rfl, Nat.le_of_ble_eq_true rfl⟩) (m_preS hK hM) rfl rfl hl.1 rfl (lv_room (Nat.le_of_ble_eq_true rfl)) dX5_put_67 ⟨Nat.le_of_ble_eq_true rfl, Nat.le_of_ble_eq_true rfl⟩) hL (fun H locs hM hL => ?_)
    subst hQ
    have h := Option.some.inj h
    subst h
    exact m_iret hx hb hr hM hL dX5_put_70 hlocks
  rw [f_X5_put.eq_1] at h
  refine lv_aload_n hx hb dX5_put_0 rfl (lv_at hl 0 rfl) ?_
  refine m_getR (ci := 4) hx hb hU5 hown hK hM rfl 3 (by decide) w1 h dX5_put_1 (fun r16 gr16 h => ?_)
  refine lv_iload_n hx hb dX5_put_4 rfl (lv_at hl 1 rfl) ?_
  obtain ⟨o17, h⟩ := oi_some h
  obtain ⟨q18, hq18, h⟩ := ob_some h
  refine m_calli (va_runV (As := [.int x1]) (rest := []) ⟨hx, hb, hml, hown, hts⟩ (c_X0_hasWitness l G hq18) (cwV 1 hts gX5_put_X0_hasWitness rfl rfl rfl hd_X0_hasWitnessv ⟨Nat.le_of_ble_eq_true rfl, Nat.le_of_ble_eq_true rfl⟩) (m_preV (ci := 0) hK hM rfl o17) rfl rfl hl.1 rfl (lv_room (Nat.le_of_ble_eq_true rfl)) dX5_put_5 ⟨Nat.le_of_ble_eq_true rfl, Nat.le_of_ble_eq_true rfl⟩) hL (fun H locs hM hL => ?_)
  refine lv_if_ne (tgt := 14) hx hb dX5_put_8 (by decide) (fun c19 => ?_) (fun c19 => ?_)
  · have h := (if_neg c19).symm.trans h
    refine lv_iload_n hx hb dX5_put_14 rfl (lv_at hl 2 rfl) ?_
    refine lv_iconst hx hb dX5_put_15 kI_2 ?_
    refine m_calli (va_runS (As := [.int x2, .int (2 : Int32)]) (rest := []) ⟨hx, hb, hml, hown, hts⟩ (c_X5_isBelow l G x2 (2 : Int32)) (va_cwS 2 hts gX5_put_X5_isBelow rfl rfl rfl hd_X5_isBelow ⟨Nat.le_of_ble_eq_true rfl, Nat.le_of_ble_eq_true rfl⟩) (m_preS hK hM) rfl rfl hl.1 rfl (lv_room (Nat.le_of_ble_eq_true rfl)) dX5_put_16 ⟨Nat.le_of_ble_eq_true rfl, Nat.le_of_ble_eq_true rfl⟩) hL (fun H locs hM hL => ?_)
    refine lv_if_eq (tgt := 41) hx hb dX5_put_19 (by decide) (fun c20 => ?_) (fun c20 => ?_)
    · have h := (if_pos c20).symm.trans h
      refine lv_bipush hx hb dX5_put_41 kB_m7 ?_
      subst hQ
      have h := Option.some.inj h
      subst h
      exact m_iret hx hb hr hM hL dX5_put_43 hlocks
    · have h := (if_neg c20).symm.trans h
      refine lv_iload_n hx hb dX5_put_22 rfl (lv_at hl 3 rfl) ?_
      refine lv_iload_n hx hb dX5_put_23 rfl (lv_at hl 2 rfl) ?_
      suffices hJ : ∀ (v22 : Int32) (ls : Array Slot), v22 = (if x2 = 0 then (1024 : Int32) else (100 : Int32)) → lv_has ls 4 [(0, .ref h0), (1, .int x1), (2, .int x2), (3, .int x3)] → W p l e rm_X5_put s m args below meth c H locs 0 0 Q (F0 m 35 ls [.int v22, .int x3]) by
        refine lv_if_ne (tgt := 33) hx hb dX5_put_24 (by decide) (fun c21 => ?_) (fun c21 => ?_)
        · refine lv_bipush hx hb dX5_put_33 kB_100 ?_
          exact hJ _ _ (((if_neg c21).trans rfl).symm) (lv_sub hl [0, 1, 2, 3] rfl)
        · refine lv_sipush hx hb dX5_put_27 kS_1024 ?_
          refine lv_goto (tgt := 35) hx hb dX5_put_30 (by decide) ?_
          exact hJ _ _ (((if_pos c21).trans rfl).symm) (lv_sub hl [0, 1, 2, 3] rfl)
      intro v22 ls ev22 hl
      have h := vl_at ev22 h
      refine m_calli (va_runS (As := [.int x3, .int v22]) (rest := []) ⟨hx, hb, hml, hown, hts⟩ (c_X5_isBelow l G x3 v22) (va_cwS 2 hts gX5_put_X5_isBelow rfl rfl rfl hd_X5_isBelow ⟨Nat.le_of_ble_eq_true rfl, Nat.le_of_ble_eq_true rfl⟩) (m_preS hK hM) rfl rfl hl.1 rfl (lv_room (Nat.le_of_ble_eq_true rfl)) dX5_put_35 ⟨Nat.le_of_ble_eq_true rfl, Nat.le_of_ble_eq_true rfl⟩) hL (fun H locs hM hL => ?_)
      refine lv_if_ne (tgt := 44) hx hb dX5_put_38 (by decide) (fun c23 => ?_) (fun c23 => ?_)
      · have h := (if_neg c23).symm.trans h
        refine lv_iload_n hx hb dX5_put_44 rfl (lv_at hl 2 rfl) ?_
        refine lv_if_ne (tgt := 58) hx hb dX5_put_45 (by decide) (fun c24 => ?_) (fun c24 => ?_)
        · have h := (if_neg c24).symm.trans h
          refine lv_aload_n hx hb dX5_put_58 rfl (lv_at hl 0 rfl) ?_
          refine m_getR (ci := 4) hx hb hU5 hown hK hM rfl 3 (by decide) w1 h dX5_put_59 (fun r25 gr25 h => ?_)
          refine m_getRN (ci := 0) (host := RX5) hx hb hU0 hown hK hM rfl 5 (by decide) (List.mem_of_getElem? (i := 8) rfl) h dX5_put_62 (fun r26 gr26 h => ?_)
          refine hN65 _ _ _ _ h _ _ _ hM hL (lv_sub hl [1, 3] rfl)
        · have h := (if_pos c24).symm.trans h
          refine lv_aload_n hx hb dX5_put_48 rfl (lv_at hl 0 rfl) ?_
          refine m_getR (ci := 4) hx hb hU5 hown hK hM rfl 3 (by decide) w1 h dX5_put_49 (fun r27 gr27 h => ?_)
          refine m_getRN (ci := 0) (host := RX5) hx hb hU0 hown hK hM rfl 4 (by decide) (List.mem_of_getElem? (i := 7) rfl) h dX5_put_52 (fun r28 gr28 h => ?_)
          refine lv_goto (tgt := 65) hx hb dX5_put_55 (by decide) ?_
          refine hN65 _ _ _ _ h _ _ _ hM hL (lv_sub hl [1, 3] rfl)
      · have h := (if_pos c23).symm.trans h
        refine lv_bipush hx hb dX5_put_41 kB_m7 ?_
        subst hQ
        have h := Option.some.inj h
        subst h
        exact m_iret hx hb hr hM hL dX5_put_43 hlocks
  · have h := (if_pos c19).symm.trans h
    refine lv_bipush hx hb dX5_put_11 kB_m5 ?_
    subst hQ
    have h := Option.some.inj h
    subst h
    exact m_iret hx hb hr hM hL dX5_put_13 hlocks
abbrev rm_X5_told : Room := { frames := 6, cells := 0, slots := 0, locals := 149 }
set_option maxHeartbeats 4000000 in
set_option maxRecDepth 100000 in
theorem c_X5_told (l : Launch) (G : mG) {h0 : Nat} {x1 : Int32} {x2 : Int32} {σ : mS} {z : Int32 × mS} (h : f_X5_told h0 x1 x2 σ = some z) : Met l yX5_told wsX5_told rm_X5_told (va_Pc [.ref h0, .int x1, .int x2] (mB G σ)) (mQ G (.returned (some (.int z.1))) z.2) 0 0 (mF G) := by
  refine m_start (cc := cX5_told) (maxL := 3) (ret := (some .int)) (by decide) rfl [.ref h0, .int x1, .int x2] (Nat.le_of_ble_eq_true rfl) ?_
  intro p e s m args below meth c ls hx hb hr hml hown hts hlocks hnm hK hM hl
  have hown : s.vm.findClass RX5 = some m.cls := hown
  have hnm : meth.name = "told" := hnm
  obtain ⟨locs, hlocs⟩ : ∃ l : List Loc, l = [] := ⟨_, rfl⟩
  have hL : mL G locs := by rw [hlocs]; exact mL_nil G
  rw [← hlocs]
  generalize s.heap = H at hM ⊢
  have hl : lv_has ls 3 [(0, .ref h0), (1, .int x1), (2, .int x2)] := hl
  obtain ⟨Q, hQ⟩ : ∃ Q, Q = MQ below (mQ G (.returned (some (.int z.1))) z.2) args s 0 0 (mF G) := ⟨_, rfl⟩
  rw [← hQ]
  have hU5 : ∀ w ∈ wsX50, w.before args s = true := fun w h => hts w (List.mem_cons_of_mem _ (List.mem_append_left _ (List.mem_append_left _ (List.mem_append_right _ h))))
  have w1 := (hts (.fieldLink RX5 44 "HandkerchiefsDropped" "now" "LHandkerchiefsDropped$Assize;") (List.mem_of_getElem? (i := 1) rfl))
  have hU0 : ∀ w ∈ wsX00, w.before args s = true := fun w h => hts w (List.mem_cons_of_mem _ (List.mem_append_left _ (List.mem_append_right _ h)))
  rw [f_X5_told.eq_1] at h
  refine lv_aload_n hx hb dX5_told_0 rfl (lv_at hl 0 rfl) ?_
  refine m_getR (ci := 4) hx hb hU5 hown hK hM rfl 3 (by decide) w1 h dX5_told_1 (fun r41 gr41 h => ?_)
  refine lv_iload_n hx hb dX5_told_4 rfl (lv_at hl 1 rfl) ?_
  obtain ⟨o42, h⟩ := oi_some h
  obtain ⟨q43, hq43, h⟩ := ob_some h
  refine m_calli (va_runV (As := [.int x1]) (rest := []) ⟨hx, hb, hml, hown, hts⟩ (c_X0_hasWitness l G hq43) (cwV 1 hts gX5_told_X0_hasWitness rfl rfl rfl hd_X0_hasWitnessv ⟨Nat.le_of_ble_eq_true rfl, Nat.le_of_ble_eq_true rfl⟩) (m_preV (ci := 0) hK hM rfl o42) rfl rfl hl.1 rfl (lv_room (Nat.le_of_ble_eq_true rfl)) dX5_told_5 ⟨Nat.le_of_ble_eq_true rfl, Nat.le_of_ble_eq_true rfl⟩) hL (fun H locs hM hL => ?_)
  refine lv_if_ne (tgt := 14) hx hb dX5_told_8 (by decide) (fun c44 => ?_) (fun c44 => ?_)
  · have h := (if_neg c44).symm.trans h
    refine lv_iload_n hx hb dX5_told_14 rfl (lv_at hl 2 rfl) ?_
    by_cases c45 : x2 = (0 : Int32)
    · have h := (if_pos c45).symm.trans h
      refine m_tin (tgt := 64) (off := 49) hx hb c45 dX5_told_15 (by decide) (by decide) (by decide) (by decide) ?_
      refine lv_aload_n hx hb dX5_told_64 rfl (lv_at hl 0 rfl) ?_
      refine m_getR (ci := 4) hx hb hU5 hown hK hM rfl 3 (by decide) w1 h dX5_told_65 (fun r46 gr46 h => ?_)
      refine m_getRN (ci := 0) (host := RX5) hx hb hU0 hown hK hM rfl 4 (by decide) (List.mem_of_getElem? (i := 7) rfl) h dX5_told_68 (fun r47 gr47 h => ?_)
      refine lv_iload_n hx hb dX5_told_71 rfl (lv_at hl 1 rfl) ?_
      refine m_iald hx hb hK hM h dX5_told_72 (fun v48 gv48 h => ?_)
      subst hQ
      have h := Option.some.inj h
      subst h
      exact m_iret hx hb hr hM hL dX5_told_73 hlocks
    have h := (if_neg c45).symm.trans h
    by_cases c49 : x2 = (1 : Int32)
    · have h := (if_pos c49).symm.trans h
      refine m_tin (tgt := 74) (off := 59) hx hb c49 dX5_told_15 (by decide) (by decide) (by decide) (by decide) ?_
      refine lv_aload_n hx hb dX5_told_74 rfl (lv_at hl 0 rfl) ?_
      refine m_getR (ci := 4) hx hb hU5 hown hK hM rfl 3 (by decide) w1 h dX5_told_75 (fun r50 gr50 h => ?_)
      refine m_getRN (ci := 0) (host := RX5) hx hb hU0 hown hK hM rfl 5 (by decide) (List.mem_of_getElem? (i := 8) rfl) h dX5_told_78 (fun r51 gr51 h => ?_)
      refine lv_iload_n hx hb dX5_told_81 rfl (lv_at hl 1 rfl) ?_
      refine m_iald hx hb hK hM h dX5_told_82 (fun v52 gv52 h => ?_)
      subst hQ
      have h := Option.some.inj h
      subst h
      exact m_iret hx hb hr hM hL dX5_told_83 hlocks
    have h := (if_neg c49).symm.trans h
    by_cases c53 : x2 = (2 : Int32)
    · have h := (if_pos c53).symm.trans h
      refine m_tin (tgt := 84) (off := 69) hx hb c53 dX5_told_15 (by decide) (by decide) (by decide) (by decide) ?_
      refine lv_aload_n hx hb dX5_told_84 rfl (lv_at hl 0 rfl) ?_
      refine m_getR (ci := 4) hx hb hU5 hown hK hM rfl 3 (by decide) w1 h dX5_told_85 (fun r54 gr54 h => ?_)
      refine m_getRN (ci := 0) (host := RX5) hx hb hU0 hown hK hM rfl 6 (by decide) (List.mem_of_getElem? (i := 9) rfl) h dX5_told_88 (fun r55 gr55 h => ?_)
      refine lv_iload_n hx hb dX5_told_91 rfl (lv_at hl 1 rfl) ?_
      refine m_iald hx hb hK hM h dX5_told_92 (fun v56 gv56 h => ?_)
      subst hQ
      have h := Option.some.inj h
      subst h
      exact m_iret hx hb hr hM hL dX5_told_93 hlocks
    have h := (if_neg c53).symm.trans h
    by_cases c57 : x2 = (3 : Int32)
    · have h := (if_pos c57).symm.trans h
      refine m_tin (tgt := 94) (off := 79) hx hb c57 dX5_told_15 (by decide) (by decide) (by decide) (by decide) ?_
      refine lv_aload_n hx hb dX5_told_94 rfl (lv_at hl 0 rfl) ?_
      refine m_getR (ci := 4) hx hb hU5 hown hK hM rfl 3 (by decide) w1 h dX5_told_95 (fun r58 gr58 h => ?_)
      refine m_getRN (ci := 0) (host := RX5) hx hb hU0 hown hK hM rfl 2 (by decide) (List.mem_of_getElem? (i := 5) rfl) h dX5_told_98 (fun r59 gr59 h => ?_)
      refine lv_iload_n hx hb dX5_told_101 rfl (lv_at hl 1 rfl) ?_
      refine m_iald hx hb hK hM h dX5_told_102 (fun v60 gv60 h => ?_)
      subst hQ
      have h := Option.some.inj h
      subst h
      exact m_iret hx hb hr hM hL dX5_told_103 hlocks
    have h := (if_neg c57).symm.trans h
    by_cases c61 : x2 = (4 : Int32)
    · have h := (if_pos c61).symm.trans h
      refine m_tin (tgt := 104) (off := 89) hx hb c61 dX5_told_15 (by decide) (by decide) (by decide) (by decide) ?_
      refine lv_aload_n hx hb dX5_told_104 rfl (lv_at hl 0 rfl) ?_
      refine m_getR (ci := 4) hx hb hU5 hown hK hM rfl 3 (by decide) w1 h dX5_told_105 (fun r62 gr62 h => ?_)
      refine m_getRN (ci := 0) (host := RX5) hx hb hU0 hown hK hM rfl 3 (by decide) (List.mem_of_getElem? (i := 6) rfl) h dX5_told_108 (fun r63 gr63 h => ?_)
      refine lv_iload_n hx hb dX5_told_111 rfl (lv_at hl 1 rfl) ?_
      refine m_iald hx hb hK hM h dX5_told_112 (fun v64 gv64 h => ?_)
      subst hQ
      have h := Option.some.inj h
      subst h
      exact m_iret hx hb hr hM hL dX5_told_113 hlocks
    have h := (if_neg c61).symm.trans h
    by_cases c65 : x2 = (5 : Int32)
    · have h := (if_pos c65).symm.trans h
      refine m_tin (tgt := 114) (off := 99) hx hb c65 dX5_told_15 (by decide) (by decide) (by decide) (by decide) ?_
      refine lv_aload_n hx hb dX5_told_114 rfl (lv_at hl 0 rfl) ?_
      refine m_getR (ci := 4) hx hb hU5 hown hK hM rfl 3 (by decide) w1 h dX5_told_115 (fun r66 gr66 h => ?_)
      refine lv_iload_n hx hb dX5_told_118 rfl (lv_at hl 1 rfl) ?_
      obtain ⟨o67, h⟩ := oi_some h
      obtain ⟨q68, hq68, h⟩ := ob_some h
      refine m_calli (va_runV (As := [.int x1]) (rest := []) ⟨hx, hb, hml, hown, hts⟩ (c_X0_drops l G hq68) (cwV 1 hts gX5_told_X0_drops rfl rfl rfl hd_X0_dropsv ⟨Nat.le_of_ble_eq_true rfl, Nat.le_of_ble_eq_true rfl⟩) (m_preV (ci := 0) hK hM rfl o67) rfl rfl hl.1 rfl (lv_room (Nat.le_of_ble_eq_true rfl)) dX5_told_119 ⟨Nat.le_of_ble_eq_true rfl, Nat.le_of_ble_eq_true rfl⟩) hL (fun H locs hM hL => ?_)
      subst hQ
      have h := Option.some.inj h
      subst h
      exact m_iret hx hb hr hM hL dX5_told_122 hlocks
    have h := (if_neg c65).symm.trans h
    by_cases c69 : x2 = (6 : Int32)
    · have h := (if_pos c69).symm.trans h
      refine m_tin (tgt := 123) (off := 108) hx hb c69 dX5_told_15 (by decide) (by decide) (by decide) (by decide) ?_
      refine lv_aload_n hx hb dX5_told_123 rfl (lv_at hl 0 rfl) ?_
      refine m_getR (ci := 4) hx hb hU5 hown hK hM rfl 3 (by decide) w1 h dX5_told_124 (fun r70 gr70 h => ?_)
      refine lv_iload_n hx hb dX5_told_127 rfl (lv_at hl 1 rfl) ?_
      obtain ⟨o71, h⟩ := oi_some h
      obtain ⟨q72, hq72, h⟩ := ob_some h
      refine m_calli (va_runV (As := [.int x1]) (rest := []) ⟨hx, hb, hml, hown, hts⟩ (c_X0_waits l G hq72) (cwV 1 hts gX5_told_X0_waits rfl rfl rfl hd_X0_waitsv ⟨Nat.le_of_ble_eq_true rfl, Nat.le_of_ble_eq_true rfl⟩) (m_preV (ci := 0) hK hM rfl o71) rfl rfl hl.1 rfl (lv_room (Nat.le_of_ble_eq_true rfl)) dX5_told_128 ⟨Nat.le_of_ble_eq_true rfl, Nat.le_of_ble_eq_true rfl⟩) hL (fun H locs hM hL => ?_)
      subst hQ
      have h := Option.some.inj h
      subst h
      exact m_iret hx hb hr hM hL dX5_told_131 hlocks
    have h := (if_neg c69).symm.trans h
    by_cases c73 : x2 = (7 : Int32)
    · have h := (if_pos c73).symm.trans h
      refine m_tin (tgt := 132) (off := 117) hx hb c73 dX5_told_15 (by decide) (by decide) (by decide) (by decide) ?_
      refine lv_aload_n hx hb dX5_told_132 rfl (lv_at hl 0 rfl) ?_
      refine m_getR (ci := 4) hx hb hU5 hown hK hM rfl 3 (by decide) w1 h dX5_told_133 (fun r74 gr74 h => ?_)
      refine lv_iload_n hx hb dX5_told_136 rfl (lv_at hl 1 rfl) ?_
      obtain ⟨o75, h⟩ := oi_some h
      obtain ⟨q76, hq76, h⟩ := ob_some h
      refine m_calli (va_runV (As := [.int x1]) (rest := []) ⟨hx, hb, hml, hown, hts⟩ (c_X0_linensOf l G hq76) (cwV 1 hts gX5_told_X0_linensOf rfl rfl rfl hd_X0_linensOfv ⟨Nat.le_of_ble_eq_true rfl, Nat.le_of_ble_eq_true rfl⟩) (m_preV (ci := 0) hK hM rfl o75) rfl rfl hl.1 rfl (lv_room (Nat.le_of_ble_eq_true rfl)) dX5_told_137 ⟨Nat.le_of_ble_eq_true rfl, Nat.le_of_ble_eq_true rfl⟩) hL (fun H locs hM hL => ?_)
      subst hQ
      have h := Option.some.inj h
      subst h
      exact m_iret hx hb hr hM hL dX5_told_140 hlocks
    have h := (if_neg c73).symm.trans h
    by_cases c77 : x2 = (8 : Int32)
    · have h := (if_pos c77).symm.trans h
      refine m_tin (tgt := 141) (off := 126) hx hb c77 dX5_told_15 (by decide) (by decide) (by decide) (by decide) ?_
      refine lv_aload_n hx hb dX5_told_141 rfl (lv_at hl 0 rfl) ?_
      refine m_getR (ci := 4) hx hb hU5 hown hK hM rfl 3 (by decide) w1 h dX5_told_142 (fun r78 gr78 h => ?_)
      refine lv_iload_n hx hb dX5_told_145 rfl (lv_at hl 1 rfl) ?_
      obtain ⟨o79, h⟩ := oi_some h
      obtain ⟨q80, hq80, h⟩ := ob_some h
      refine m_calli (va_runV (As := [.int x1]) (rest := []) ⟨hx, hb, hml, hown, hts⟩ (c_X0_stooping l G hq80) (cwV 1 hts gX5_told_X0_stooping rfl rfl rfl hd_X0_stoopingv ⟨Nat.le_of_ble_eq_true rfl, Nat.le_of_ble_eq_true rfl⟩) (m_preV (ci := 0) hK hM rfl o79) rfl rfl hl.1 rfl (lv_room (Nat.le_of_ble_eq_true rfl)) dX5_told_146 ⟨Nat.le_of_ble_eq_true rfl, Nat.le_of_ble_eq_true rfl⟩) hL (fun H locs hM hL => ?_)
      subst hQ
      have h := Option.some.inj h
      subst h
      exact m_iret hx hb hr hM hL dX5_told_149 hlocks
    have h := (if_neg c77).symm.trans h
    refine lv_tableOut (tgt := 150) hx hb dX5_told_15 (by have q0 := lv_neT (a := 0) c45 (by decide); have q1 := lv_neT (a := 1) c49 (by decide); have q2 := lv_neT (a := 2) c53 (by decide); have q3 := lv_neT (a := 3) c57 (by decide); have q4 := lv_neT (a := 4) c61 (by decide); have q5 := lv_neT (a := 5) c65 (by decide); have q6 := lv_neT (a := 6) c69 (by decide); have q7 := lv_neT (a := 7) c73 (by decide); have q8 := lv_neT (a := 8) c77 (by decide); omega) (by decide) ?_
    refine lv_bipush hx hb dX5_told_150 kB_m7 ?_
    subst hQ
    have h := Option.some.inj h
    subst h
    exact m_iret hx hb hr hM hL dX5_told_152 hlocks
  · have h := (if_pos c44).symm.trans h
    refine lv_bipush hx hb dX5_told_11 kB_m5 ?_
    subst hQ
    have h := Option.some.inj h
    subst h
    exact m_iret hx hb hr hM hL dX5_told_13 hlocks
abbrev rm_X5_regard : Room := { frames := 5, cells := 0, slots := 0, locals := 126 }
set_option maxHeartbeats 4000000 in
set_option maxRecDepth 100000 in
theorem c_X5_regard (l : Launch) (G : mG) {h0 : Nat} {x1 : Int32} {x2 : Int32} {x3 : Int32} {σ : mS} {z : Int32 × mS} (h : f_X5_regard h0 x1 x2 x3 σ = some z) : Met l yX5_regard wsX5_regard rm_X5_regard (va_Pc [.ref h0, .int x1, .int x2, .int x3] (mB G σ)) (mQ G (.returned (some (.int z.1))) z.2) 0 0 (mF G) := by
  refine m_start (cc := cX5_regard) (maxL := 4) (ret := (some .int)) (by decide) rfl [.ref h0, .int x1, .int x2, .int x3] (Nat.le_of_ble_eq_true rfl) ?_
  intro p e s m args below meth c ls hx hb hr hml hown hts hlocks hnm hK hM hl
  have hown : s.vm.findClass RX5 = some m.cls := hown
  have hnm : meth.name = "regard" := hnm
  obtain ⟨locs, hlocs⟩ : ∃ l : List Loc, l = [] := ⟨_, rfl⟩
  have hL : mL G locs := by rw [hlocs]; exact mL_nil G
  rw [← hlocs]
  generalize s.heap = H at hM ⊢
  have hl : lv_has ls 4 [(0, .ref h0), (1, .int x1), (2, .int x2), (3, .int x3)] := hl
  obtain ⟨Q, hQ⟩ : ∃ Q, Q = MQ below (mQ G (.returned (some (.int z.1))) z.2) args s 0 0 (mF G) := ⟨_, rfl⟩
  rw [← hQ]
  have hU5 : ∀ w ∈ wsX50, w.before args s = true := fun w h => hts w (List.mem_cons_of_mem _ (List.mem_append_left _ (List.mem_append_left _ (List.mem_append_right _ h))))
  have w1 := (hts (.fieldLink RX5 44 "HandkerchiefsDropped" "now" "LHandkerchiefsDropped$Assize;") (List.mem_of_getElem? (i := 1) rfl))
  rw [f_X5_regard.eq_1] at h
  refine lv_aload_n hx hb dX5_regard_0 rfl (lv_at hl 0 rfl) ?_
  refine m_getR (ci := 4) hx hb hU5 hown hK hM rfl 3 (by decide) w1 h dX5_regard_1 (fun r15 gr15 h => ?_)
  refine lv_iload_n hx hb dX5_regard_4 rfl (lv_at hl 1 rfl) ?_
  obtain ⟨o16, h⟩ := oi_some h
  obtain ⟨q17, hq17, h⟩ := ob_some h
  refine m_calli (va_runV (As := [.int x1]) (rest := []) ⟨hx, hb, hml, hown, hts⟩ (c_X0_hasWitness l G hq17) (cwV 1 hts gX5_regard_X0_hasWitness rfl rfl rfl hd_X0_hasWitnessv ⟨Nat.le_of_ble_eq_true rfl, Nat.le_of_ble_eq_true rfl⟩) (m_preV (ci := 0) hK hM rfl o16) rfl rfl hl.1 rfl (lv_room (Nat.le_of_ble_eq_true rfl)) dX5_regard_5 ⟨Nat.le_of_ble_eq_true rfl, Nat.le_of_ble_eq_true rfl⟩) hL (fun H locs hM hL => ?_)
  refine lv_if_eq (tgt := 20) hx hb dX5_regard_8 (by decide) (fun c18 => ?_) (fun c18 => ?_)
  · have h := (if_pos c18).symm.trans h
    refine lv_bipush hx hb dX5_regard_20 kB_m5 ?_
    subst hQ
    have h := Option.some.inj h
    subst h
    exact m_iret hx hb hr hM hL dX5_regard_22 hlocks
  · have h := (if_neg c18).symm.trans h
    refine lv_iload_n hx hb dX5_regard_11 rfl (lv_at hl 2 rfl) ?_
    refine lv_bipush hx hb dX5_regard_12 kB_6 ?_
    refine m_calli (va_runS (As := [.int x2, .int (6 : Int32)]) (rest := []) ⟨hx, hb, hml, hown, hts⟩ (c_X5_isBelow l G x2 (6 : Int32)) (va_cwS 2 hts gX5_regard_X5_isBelow rfl rfl rfl hd_X5_isBelow ⟨Nat.le_of_ble_eq_true rfl, Nat.le_of_ble_eq_true rfl⟩) (m_preS hK hM) rfl rfl hl.1 rfl (lv_room (Nat.le_of_ble_eq_true rfl)) dX5_regard_14 ⟨Nat.le_of_ble_eq_true rfl, Nat.le_of_ble_eq_true rfl⟩) hL (fun H locs hM hL => ?_)
    refine lv_if_ne (tgt := 23) hx hb dX5_regard_17 (by decide) (fun c19 => ?_) (fun c19 => ?_)
    · have h := (if_neg c19).symm.trans h
      refine lv_iload_n hx hb dX5_regard_23 rfl (lv_at hl 3 rfl) ?_
      by_cases c20 : x3 = (0 : Int32)
      · have h := (if_pos c20).symm.trans h
        refine m_lin (tgt := 52) (off := 28) hx hb c20 dX5_regard_24 (by decide) (by decide) (by decide) ?_
        refine lv_aload_n hx hb dX5_regard_52 rfl (lv_at hl 0 rfl) ?_
        refine m_getR (ci := 4) hx hb hU5 hown hK hM rfl 3 (by decide) w1 h dX5_regard_53 (fun r21 gr21 h => ?_)
        refine lv_iload_n hx hb dX5_regard_56 rfl (lv_at hl 1 rfl) ?_
        refine lv_iload_n hx hb dX5_regard_57 rfl (lv_at hl 2 rfl) ?_
        obtain ⟨o22, h⟩ := oi_some h
        obtain ⟨q23, hq23, h⟩ := ob_some h
        refine m_calli (va_runV (As := [.int x1, .int x2]) (rest := []) ⟨hx, hb, hml, hown, hts⟩ (c_X0_looks l G hq23) (cwV 2 hts gX5_regard_X0_looks rfl rfl rfl hd_X0_looksv ⟨Nat.le_of_ble_eq_true rfl, Nat.le_of_ble_eq_true rfl⟩) (m_preV (ci := 0) hK hM rfl o22) rfl rfl hl.1 rfl (lv_room (Nat.le_of_ble_eq_true rfl)) dX5_regard_58 ⟨Nat.le_of_ble_eq_true rfl, Nat.le_of_ble_eq_true rfl⟩) hL (fun H locs hM hL => ?_)
        subst hQ
        have h := Option.some.inj h
        subst h
        exact m_iret hx hb hr hM hL dX5_regard_61 hlocks
      have h := (if_neg c20).symm.trans h
      by_cases c24 : x3 = (1 : Int32)
      · have h := (if_pos c24).symm.trans h
        refine m_lin (tgt := 62) (off := 38) hx hb c24 dX5_regard_24 (by decide) (by decide) (by decide) ?_
        refine lv_aload_n hx hb dX5_regard_62 rfl (lv_at hl 0 rfl) ?_
        refine m_getR (ci := 4) hx hb hU5 hown hK hM rfl 3 (by decide) w1 h dX5_regard_63 (fun r25 gr25 h => ?_)
        refine lv_iload_n hx hb dX5_regard_66 rfl (lv_at hl 2 rfl) ?_
        refine lv_iload_n hx hb dX5_regard_67 rfl (lv_at hl 1 rfl) ?_
        obtain ⟨o26, h⟩ := oi_some h
        obtain ⟨q27, hq27, h⟩ := ob_some h
        refine m_calli (va_runV (As := [.int x2, .int x1]) (rest := []) ⟨hx, hb, hml, hown, hts⟩ (c_X0_stoops l G hq27) (cwV 2 hts gX5_regard_X0_stoops rfl rfl rfl hd_X0_stoopsv ⟨Nat.le_of_ble_eq_true rfl, Nat.le_of_ble_eq_true rfl⟩) (m_preV (ci := 0) hK hM rfl o26) rfl rfl hl.1 rfl (lv_room (Nat.le_of_ble_eq_true rfl)) dX5_regard_68 ⟨Nat.le_of_ble_eq_true rfl, Nat.le_of_ble_eq_true rfl⟩) hL (fun H locs hM hL => ?_)
        refine lv_if_eq (tgt := 78) hx hb dX5_regard_71 (by decide) (fun c28 => ?_) (fun c28 => ?_)
        · have h := (if_pos c28).symm.trans h
          refine lv_iconst hx hb dX5_regard_78 kI_0 ?_
          subst hQ
          have h := Option.some.inj h
          subst h
          exact m_iret hx hb hr hM hL dX5_regard_79 hlocks
        · have h := (if_neg c28).symm.trans h
          refine lv_iconst hx hb dX5_regard_74 kI_1 ?_
          refine lv_goto (tgt := 79) hx hb dX5_regard_75 (by decide) ?_
          subst hQ
          have h := Option.some.inj h
          subst h
          exact m_iret hx hb hr hM hL dX5_regard_79 hlocks
      have h := (if_neg c24).symm.trans h
      refine lv_lookup (tgt := 80) (off := 56) hx hb dX5_regard_24 (by decide) (by show Op.lookupswitch.offset [(0, 28), (1, 38)] 56 _ = _; rw [lv_osw c20 (by decide), lv_osw c24 (by decide)]; rfl) (by decide) ?_
      refine lv_bipush hx hb dX5_regard_80 kB_m7 ?_
      subst hQ
      have h := Option.some.inj h
      subst h
      exact m_iret hx hb hr hM hL dX5_regard_82 hlocks
    · have h := (if_pos c19).symm.trans h
      refine lv_bipush hx hb dX5_regard_20 kB_m5 ?_
      subst hQ
      have h := Option.some.inj h
      subst h
      exact m_iret hx hb hr hM hL dX5_regard_22 hlocks
abbrev rm_X5_linen : Room := { frames := 2, cells := 0, slots := 0, locals := 42 }
set_option maxHeartbeats 4000000 in
set_option maxRecDepth 100000 in
theorem c_X5_linen (l : Launch) (G : mG) {h0 : Nat} {x1 : Int32} {x2 : Int32} {σ : mS} {z : Int32} (h : f_X5_linen h0 x1 x2 σ = some z) : Met l yX5_linen wsX5_linen rm_X5_linen (va_Pc [.ref h0, .int x1, .int x2] (mB G σ)) (mQ G (.returned (some (.int z))) (σ)) 0 0 (mF G) := by
  refine m_start (cc := cX5_linen) (maxL := 3) (ret := (some .int)) (by decide) rfl [.ref h0, .int x1, .int x2] (Nat.le_of_ble_eq_true rfl) ?_
  intro p e s m args below meth c ls hx hb hr hml hown hts hlocks hnm hK hM hl
  have hown : s.vm.findClass RX5 = some m.cls := hown
  have hnm : meth.name = "linen" := hnm
  obtain ⟨locs, hlocs⟩ : ∃ l : List Loc, l = [] := ⟨_, rfl⟩
  have hL : mL G locs := by rw [hlocs]; exact mL_nil G
  rw [← hlocs]
  generalize s.heap = H at hM ⊢
  have hl : lv_has ls 3 [(0, .ref h0), (1, .int x1), (2, .int x2)] := hl
  obtain ⟨Q, hQ⟩ : ∃ Q, Q = MQ below (mQ G (.returned (some (.int z))) (σ)) args s 0 0 (mF G) := ⟨_, rfl⟩
  rw [← hQ]
  have hU5 : ∀ w ∈ wsX50, w.before args s = true := fun w h => hts w (List.mem_cons_of_mem _ (List.mem_append_left _ (List.mem_append_right _ h)))
  have w1 := (hts (.fieldLink RX5 44 "HandkerchiefsDropped" "now" "LHandkerchiefsDropped$Assize;") (List.mem_of_getElem? (i := 1) rfl))
  have hU0 : ∀ w ∈ wsX00, w.before args s = true := fun w h => hts w (List.mem_cons_of_mem _ (List.mem_append_right _ h))
  rw [f_X5_linen.eq_1] at h
  refine lv_aload_n hx hb dX5_linen_0 rfl (lv_at hl 0 rfl) ?_
  refine m_getR (ci := 4) hx hb hU5 hown hK hM rfl 3 (by decide) w1 h dX5_linen_1 (fun r17 gr17 h => ?_)
  refine lv_iload_n hx hb dX5_linen_4 rfl (lv_at hl 1 rfl) ?_
  obtain ⟨o18, h⟩ := oi_some h
  obtain ⟨q19, hq19, h⟩ := ob_some h
  refine m_calli (va_runV (As := [.int x1]) (rest := []) ⟨hx, hb, hml, hown, hts⟩ (c_X0_lies l G hq19) (cwV 1 hts gX5_linen_X0_lies rfl rfl rfl hd_X0_liesv ⟨Nat.le_of_ble_eq_true rfl, Nat.le_of_ble_eq_true rfl⟩) (m_preV (ci := 0) hK hM rfl o18) rfl rfl hl.1 rfl (lv_room (Nat.le_of_ble_eq_true rfl)) dX5_linen_5 ⟨Nat.le_of_ble_eq_true rfl, Nat.le_of_ble_eq_true rfl⟩) hL (fun H locs hM hL => ?_)
  refine lv_if_ne (tgt := 14) hx hb dX5_linen_8 (by decide) (fun c20 => ?_) (fun c20 => ?_)
  · have h := (if_neg c20).symm.trans h
    refine lv_iload_n hx hb dX5_linen_14 rfl (lv_at hl 2 rfl) ?_
    by_cases c21 : x2 = (0 : Int32)
    · have h := (if_pos c21).symm.trans h
      refine m_tin (tgt := 40) (off := 25) hx hb c21 dX5_linen_15 (by decide) (by decide) (by decide) (by decide) ?_
      refine lv_aload_n hx hb dX5_linen_40 rfl (lv_at hl 0 rfl) ?_
      refine m_getR (ci := 4) hx hb hU5 hown hK hM rfl 3 (by decide) w1 h dX5_linen_41 (fun r22 gr22 h => ?_)
      refine m_getRN (ci := 0) (host := RX5) hx hb hU0 hown hK hM rfl 7 (by decide) (List.mem_of_getElem? (i := 10) rfl) h dX5_linen_44 (fun r23 gr23 h => ?_)
      refine lv_iload_n hx hb dX5_linen_47 rfl (lv_at hl 1 rfl) ?_
      refine m_iald hx hb hK hM h dX5_linen_48 (fun v24 gv24 h => ?_)
      subst hQ
      have h := Option.some.inj h
      subst h
      exact m_iret hx hb hr hM hL dX5_linen_49 hlocks
    have h := (if_neg c21).symm.trans h
    by_cases c25 : x2 = (1 : Int32)
    · have h := (if_pos c25).symm.trans h
      refine m_tin (tgt := 50) (off := 35) hx hb c25 dX5_linen_15 (by decide) (by decide) (by decide) (by decide) ?_
      refine lv_aload_n hx hb dX5_linen_50 rfl (lv_at hl 0 rfl) ?_
      refine m_getR (ci := 4) hx hb hU5 hown hK hM rfl 3 (by decide) w1 h dX5_linen_51 (fun r26 gr26 h => ?_)
      refine m_getRN (ci := 0) (host := RX5) hx hb hU0 hown hK hM rfl 8 (by decide) (List.mem_of_getElem? (i := 11) rfl) h dX5_linen_54 (fun r27 gr27 h => ?_)
      refine lv_iload_n hx hb dX5_linen_57 rfl (lv_at hl 1 rfl) ?_
      refine m_iald hx hb hK hM h dX5_linen_58 (fun v28 gv28 h => ?_)
      subst hQ
      have h := Option.some.inj h
      subst h
      exact m_iret hx hb hr hM hL dX5_linen_59 hlocks
    have h := (if_neg c25).symm.trans h
    by_cases c29 : x2 = (2 : Int32)
    · have h := (if_pos c29).symm.trans h
      refine m_tin (tgt := 60) (off := 45) hx hb c29 dX5_linen_15 (by decide) (by decide) (by decide) (by decide) ?_
      refine lv_aload_n hx hb dX5_linen_60 rfl (lv_at hl 0 rfl) ?_
      refine m_getR (ci := 4) hx hb hU5 hown hK hM rfl 3 (by decide) w1 h dX5_linen_61 (fun r30 gr30 h => ?_)
      refine m_getRN (ci := 0) (host := RX5) hx hb hU0 hown hK hM rfl 9 (by decide) (List.mem_of_getElem? (i := 12) rfl) h dX5_linen_64 (fun r31 gr31 h => ?_)
      refine lv_iload_n hx hb dX5_linen_67 rfl (lv_at hl 1 rfl) ?_
      refine m_iald hx hb hK hM h dX5_linen_68 (fun v32 gv32 h => ?_)
      subst hQ
      have h := Option.some.inj h
      subst h
      exact m_iret hx hb hr hM hL dX5_linen_69 hlocks
    have h := (if_neg c29).symm.trans h
    refine lv_tableOut (tgt := 70) hx hb dX5_linen_15 (by have q0 := lv_neT (a := 0) c21 (by decide); have q1 := lv_neT (a := 1) c25 (by decide); have q2 := lv_neT (a := 2) c29 (by decide); omega) (by decide) ?_
    refine lv_bipush hx hb dX5_linen_70 kB_m7 ?_
    subst hQ
    have h := Option.some.inj h
    subst h
    exact m_iret hx hb hr hM hL dX5_linen_72 hlocks
  · have h := (if_pos c20).symm.trans h
    refine lv_bipush hx hb dX5_linen_11 kB_m6 ?_
    subst hQ
    have h := Option.some.inj h
    subst h
    exact m_iret hx hb hr hM hL dX5_linen_13 hlocks
abbrev rm_X5_drop : Room := { frames := 5, cells := 0, slots := 0, locals := 129 }
set_option maxHeartbeats 4000000 in
set_option maxRecDepth 100000 in
theorem c_X5_drop (l : Launch) (G : mG) {h0 : Nat} {x1 : Int32} {σ : mS} {z : Int32 × mS} (h : f_X5_drop h0 x1 σ = some z) : Met l yX5_drop wsX5_drop rm_X5_drop (va_Pc [.ref h0, .int x1] (mB G σ)) (mQ G (.returned (some (.int z.1))) z.2) 0 0 (mF G) := by
  refine m_start (cc := cX5_drop) (maxL := 2) (ret := (some .int)) (by decide) rfl [.ref h0, .int x1] (Nat.le_of_ble_eq_true rfl) ?_
  intro p e s m args below meth c ls hx hb hr hml hown hts hlocks hnm hK hM hl
  have hown : s.vm.findClass RX5 = some m.cls := hown
  have hnm : meth.name = "drop" := hnm
  obtain ⟨locs, hlocs⟩ : ∃ l : List Loc, l = [] := ⟨_, rfl⟩
  have hL : mL G locs := by rw [hlocs]; exact mL_nil G
  rw [← hlocs]
  generalize s.heap = H at hM ⊢
  have hl : lv_has ls 2 [(0, .ref h0), (1, .int x1)] := hl
  obtain ⟨Q, hQ⟩ : ∃ Q, Q = MQ below (mQ G (.returned (some (.int z.1))) z.2) args s 0 0 (mF G) := ⟨_, rfl⟩
  rw [← hQ]
  have hU5 : ∀ w ∈ wsX50, w.before args s = true := fun w h => hts w (List.mem_cons_of_mem _ (List.mem_append_left _ (List.mem_append_left _ (List.mem_append_right _ h))))
  have w1 := (hts (.fieldLink RX5 44 "HandkerchiefsDropped" "now" "LHandkerchiefsDropped$Assize;") (List.mem_of_getElem? (i := 1) rfl))
  have hU0 : ∀ w ∈ wsX00, w.before args s = true := fun w h => hts w (List.mem_cons_of_mem _ (List.mem_append_left _ (List.mem_append_right _ h)))
  rw [f_X5_drop.eq_1] at h
  refine lv_aload_n hx hb dX5_drop_0 rfl (lv_at hl 0 rfl) ?_
  refine m_getR (ci := 4) hx hb hU5 hown hK hM rfl 3 (by decide) w1 h dX5_drop_1 (fun r16 gr16 h => ?_)
  refine lv_iload_n hx hb dX5_drop_4 rfl (lv_at hl 1 rfl) ?_
  obtain ⟨o17, h⟩ := oi_some h
  obtain ⟨q18, hq18, h⟩ := ob_some h
  refine m_calli (va_runV (As := [.int x1]) (rest := []) ⟨hx, hb, hml, hown, hts⟩ (c_X0_hasWitness l G hq18) (cwV 1 hts gX5_drop_X0_hasWitness rfl rfl rfl hd_X0_hasWitnessv ⟨Nat.le_of_ble_eq_true rfl, Nat.le_of_ble_eq_true rfl⟩) (m_preV (ci := 0) hK hM rfl o17) rfl rfl hl.1 rfl (lv_room (Nat.le_of_ble_eq_true rfl)) dX5_drop_5 ⟨Nat.le_of_ble_eq_true rfl, Nat.le_of_ble_eq_true rfl⟩) hL (fun H locs hM hL => ?_)
  refine lv_if_ne (tgt := 14) hx hb dX5_drop_8 (by decide) (fun c19 => ?_) (fun c19 => ?_)
  · have h := (if_neg c19).symm.trans h
    refine lv_aload_n hx hb dX5_drop_14 rfl (lv_at hl 0 rfl) ?_
    refine m_getR (ci := 4) hx hb hU5 hown hK hM rfl 3 (by decide) w1 h dX5_drop_15 (fun r20 gr20 h => ?_)
    refine m_getRN (ci := 0) (host := RX5) hx hb hU0 hown hK hM rfl 4 (by decide) (List.mem_of_getElem? (i := 7) rfl) h dX5_drop_18 (fun r21 gr21 h => ?_)
    refine lv_iload_n hx hb dX5_drop_21 rfl (lv_at hl 1 rfl) ?_
    refine m_iald hx hb hK hM h dX5_drop_22 (fun v22 gv22 h => ?_)
    refine lv_if_ne (tgt := 28) hx hb dX5_drop_23 (by decide) (fun c23 => ?_) (fun c23 => ?_)
    · have h := (if_neg c23).symm.trans h
      refine lv_aload_n hx hb dX5_drop_28 rfl (lv_at hl 0 rfl) ?_
      refine m_getR (ci := 4) hx hb hU5 hown hK hM rfl 3 (by decide) w1 h dX5_drop_29 (fun r24 gr24 h => ?_)
      refine lv_iload_n hx hb dX5_drop_32 rfl (lv_at hl 1 rfl) ?_
      obtain ⟨o25, h⟩ := oi_some h
      obtain ⟨q26, hq26, h⟩ := ob_some h
      refine m_calli (va_runV (As := [.int x1]) (rest := []) ⟨hx, hb, hml, hown, hts⟩ (c_X0_canLetFall l G hq26) (cwV 1 hts gX5_drop_X0_canLetFall rfl rfl rfl hd_X0_canLetFallv ⟨Nat.le_of_ble_eq_true rfl, Nat.le_of_ble_eq_true rfl⟩) (m_preV (ci := 0) hK hM rfl o25) rfl rfl hl.1 rfl (lv_room (Nat.le_of_ble_eq_true rfl)) dX5_drop_33 ⟨Nat.le_of_ble_eq_true rfl, Nat.le_of_ble_eq_true rfl⟩) hL (fun H locs hM hL => ?_)
      refine lv_if_eq (tgt := 50) hx hb dX5_drop_36 (by decide) (fun c27 => ?_) (fun c27 => ?_)
      · have h := (if_pos c27).symm.trans h
        refine lv_bipush hx hb dX5_drop_50 kB_m4 ?_
        subst hQ
        have h := Option.some.inj h
        subst h
        exact m_iret hx hb hr hM hL dX5_drop_52 hlocks
      · have h := (if_neg c27).symm.trans h
        refine lv_aload_n hx hb dX5_drop_39 rfl (lv_at hl 0 rfl) ?_
        refine m_getR (ci := 4) hx hb hU5 hown hK hM rfl 3 (by decide) w1 h dX5_drop_40 (fun r28 gr28 h => ?_)
        refine lv_iload_n hx hb dX5_drop_43 rfl (lv_at hl 1 rfl) ?_
        obtain ⟨o29, h⟩ := oi_some h
        obtain ⟨q30, hq30, h⟩ := ob_some h
        refine m_calli (va_runV (As := [.int x1]) (rest := []) ⟨hx, hb, hml, hown, hts⟩ (c_X0_letFall l G hq30) (cwV 1 hts gX5_drop_X0_letFall rfl rfl rfl hd_X0_letFallv ⟨Nat.le_of_ble_eq_true rfl, Nat.le_of_ble_eq_true rfl⟩) (m_preV (ci := 0) hK hM rfl o29) rfl rfl hl.1 rfl (lv_room (Nat.le_of_ble_eq_true rfl)) dX5_drop_44 ⟨Nat.le_of_ble_eq_true rfl, Nat.le_of_ble_eq_true rfl⟩) hL (fun H locs hM hL => ?_)
        refine lv_goto (tgt := 52) hx hb dX5_drop_47 (by decide) ?_
        subst hQ
        have h := Option.some.inj h
        subst h
        exact m_iret hx hb hr hM hL dX5_drop_52 hlocks
    · have h := (if_pos c23).symm.trans h
      refine lv_iconst hx hb dX5_drop_26 kI_m1 ?_
      subst hQ
      have h := Option.some.inj h
      subst h
      exact m_iret hx hb hr hM hL dX5_drop_27 hlocks
  · have h := (if_pos c19).symm.trans h
    refine lv_bipush hx hb dX5_drop_11 kB_m5 ?_
    subst hQ
    have h := Option.some.inj h
    subst h
    exact m_iret hx hb hr hM hL dX5_drop_13 hlocks
abbrev rm_X5_hour : Room := { frames := 5, cells := 0, slots := 0, locals := 130 }
set_option maxHeartbeats 4000000 in
set_option maxRecDepth 100000 in
theorem c_X5_hour (l : Launch) (G : mG) {h0 : Nat} {σ : mS} {z : Int32 × mS} (h : f_X5_hour h0 σ = some z) : Met l yX5_hour wsX5_hour rm_X5_hour (va_Pc [.ref h0] (mB G σ)) (mQ G (.returned (some (.int z.1))) z.2) 0 0 (mF G) := by
  refine m_start (cc := cX5_hour) (maxL := 1) (ret := (some .int)) (by decide) rfl [.ref h0] (Nat.le_of_ble_eq_true rfl) ?_
  intro p e s m args below meth c ls hx hb hr hml hown hts hlocks hnm hK hM hl
  have hown : s.vm.findClass RX5 = some m.cls := hown
  have hnm : meth.name = "hour" := hnm
  obtain ⟨locs, hlocs⟩ : ∃ l : List Loc, l = [] := ⟨_, rfl⟩
  have hL : mL G locs := by rw [hlocs]; exact mL_nil G
  rw [← hlocs]
  generalize s.heap = H at hM ⊢
  have hl : lv_has ls 1 [(0, .ref h0)] := hl
  obtain ⟨Q, hQ⟩ : ∃ Q, Q = MQ below (mQ G (.returned (some (.int z.1))) z.2) args s 0 0 (mF G) := ⟨_, rfl⟩
  rw [← hQ]
  have hU5 : ∀ w ∈ wsX50, w.before args s = true := fun w h => hts w (List.mem_cons_of_mem _ (List.mem_append_left _ (List.mem_append_left _ (List.mem_append_right _ h))))
  have w1 := (hts (.fieldLink RX5 44 "HandkerchiefsDropped" "now" "LHandkerchiefsDropped$Assize;") (List.mem_of_getElem? (i := 1) rfl))
  have hU0 : ∀ w ∈ wsX00, w.before args s = true := fun w h => hts w (List.mem_cons_of_mem _ (List.mem_append_left _ (List.mem_append_right _ h)))
  rw [f_X5_hour.eq_1] at h
  refine lv_aload_n hx hb dX5_hour_0 rfl (lv_at hl 0 rfl) ?_
  refine m_getR (ci := 4) hx hb hU5 hown hK hM rfl 3 (by decide) w1 h dX5_hour_1 (fun r7 gr7 h => ?_)
  refine m_getIN (ci := 0) (host := RX5) hx hb hU0 hown hK hM rfl 12 (by decide) (List.mem_of_getElem? (i := 15) rfl) h dX5_hour_4 (fun v8 gv8 h => ?_)
  refine lv_sipush hx hb dX5_hour_7 kS_999 ?_
  refine lv_icmp_lt (tgt := 18) hx hb dX5_hour_10 (by decide) (fun c9 => ?_) (fun c9 => ?_)
  · have h := (if_pos c9).symm.trans h
    refine lv_aload_n hx hb dX5_hour_18 rfl (lv_at hl 0 rfl) ?_
    refine m_getR (ci := 4) hx hb hU5 hown hK hM rfl 3 (by decide) w1 h dX5_hour_19 (fun r10 gr10 h => ?_)
    refine lv_iconst hx hb dX5_hour_22 kI_1 ?_
    obtain ⟨o11, h⟩ := oi_some h
    obtain ⟨q12, hq12, h⟩ := ob_some h
    refine m_calli (va_runV (As := [.int (1 : Int32)]) (rest := []) ⟨hx, hb, hml, hown, hts⟩ (c_X0_passHours l G hq12) (cwV 1 hts gX5_hour_X0_passHours rfl rfl rfl hd_X0_passHoursv ⟨Nat.le_of_ble_eq_true rfl, Nat.le_of_ble_eq_true rfl⟩) (m_preV (ci := 0) hK hM rfl o11) rfl rfl hl.1 rfl (lv_room (Nat.le_of_ble_eq_true rfl)) dX5_hour_23 ⟨Nat.le_of_ble_eq_true rfl, Nat.le_of_ble_eq_true rfl⟩) hL (fun H locs hM hL => ?_)
    subst hQ
    have h := Option.some.inj h
    subst h
    exact m_iret hx hb hr hM hL dX5_hour_26 hlocks
  · have h := (if_neg c9).symm.trans h
    refine lv_bipush hx hb dX5_hour_13 kB_m3 ?_
    refine lv_goto (tgt := 26) hx hb dX5_hour_15 (by decide) ?_
    subst hQ
    have h := Option.some.inj h
    subst h
    exact m_iret hx hb hr hM hL dX5_hour_26 hlocks
