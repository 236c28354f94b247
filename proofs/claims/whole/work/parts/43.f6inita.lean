abbrev rm_X6_init : Room := { frames := 5, cells := 20, slots := 2265, locals := 109 }
set_option maxHeartbeats 4000000 in
set_option maxRecDepth 100000 in
theorem c_X6_init (l : Launch) (G : mG) {h0 : Nat} {σ : mS} {z : mS} (h : f_X6_init h0 σ = some z) : Met l yX6_init wsX6_init rm_X6_init (va_Pc [.ref h0] (mB G σ)) (mQ G (.returned none) z) 20 2265 (mF G) := by
  refine m_start (cc := cX6_init) (maxL := 2) (ret := none) (by decide) rfl [.ref h0] (Nat.le_of_ble_eq_true rfl) ?_
  intro p e s m args below meth c ls hx hb hr hml hown hts hlocks hnm hK hM hl
  have hown : s.vm.findClass RX6 = some m.cls := hown
  have hnm : meth.name = "<init>" := hnm
  obtain ⟨locs, hlocs⟩ : ∃ l : List Loc, l = [] := ⟨_, rfl⟩
  have hL : mL G locs := by rw [hlocs]; exact mL_nil G
  rw [← hlocs]
  generalize s.heap = H at hM ⊢
  have hl : lv_has ls 2 [(0, .ref h0)] := hl
  obtain ⟨Q, hQ⟩ : ∃ Q, Q = MQ below (mQ G (.returned none) z) args s 20 2265 (mF G) := ⟨_, rfl⟩
  rw [← hQ]
  have w0 := (hts (.methodLink RX6 1 objectInit) (List.mem_of_getElem? (i := 1) rfl))
  have w1 := (hts (.instanceMethod objectInit) (List.mem_of_getElem? (i := 2) rfl))
  have w2 := (hts (.code objectInit ⟨#[0xb1]⟩ 1 none) (List.mem_of_getElem? (i := 3) rfl))
  have w3 := (hts (.arrayClass .int) (List.mem_of_getElem? (i := 4) rfl))
  have hU6 : ∀ w ∈ wsX60, w.before args s = true := fun w h => hts w (List.mem_cons_of_mem _ (List.mem_append_right _ h))
  have w5 := (hts (.fieldLink RX6 7 "HandkerchiefsDroppedModel" "kind" "[I") (List.mem_of_getElem? (i := 5) rfl))
  have w6 := (hts (.fieldLink RX6 13 "HandkerchiefsDroppedModel" "moreOf" "[I") (List.mem_of_getElem? (i := 6) rfl))
  have w7 := (hts (.fieldLink RX6 16 "HandkerchiefsDroppedModel" "rows" "[I") (List.mem_of_getElem? (i := 7) rfl))
  have w8 := (hts (.fieldLink RX6 19 "HandkerchiefsDroppedModel" "linens" "[I") (List.mem_of_getElem? (i := 8) rfl))
  have w9 := (hts (.fieldLink RX6 22 "HandkerchiefsDroppedModel" "weights" "[I") (List.mem_of_getElem? (i := 9) rfl))
  have w10 := (hts (.fieldLink RX6 25 "HandkerchiefsDroppedModel" "keen" "[I") (List.mem_of_getElem? (i := 10) rfl))
  have w11 := (hts (.fieldLink RX6 28 "HandkerchiefsDroppedModel" "tape" "[I") (List.mem_of_getElem? (i := 11) rfl))
  have w12 := (hts (.fieldLink RX6 31 "HandkerchiefsDroppedModel" "codes" "[I") (List.mem_of_getElem? (i := 12) rfl))
  have w13 := (hts (.fieldLink RX6 34 "HandkerchiefsDroppedModel" "starts" "[I") (List.mem_of_getElem? (i := 13) rfl))
  have w14 := (hts (.fieldLink RX6 37 "HandkerchiefsDroppedModel" "imageRows" "[I") (List.mem_of_getElem? (i := 14) rfl))
  have w15 := (hts (.fieldLink RX6 40 "HandkerchiefsDroppedModel" "imageHeld" "[I") (List.mem_of_getElem? (i := 15) rfl))
  have w16 := (hts (.fieldLink RX6 43 "HandkerchiefsDroppedModel" "sheetSort" "[I") (List.mem_of_getElem? (i := 16) rfl))
  have w17 := (hts (.fieldLink RX6 46 "HandkerchiefsDroppedModel" "sheetSize" "[I") (List.mem_of_getElem? (i := 17) rfl))
  have w18 := (hts (.fieldLink RX6 49 "HandkerchiefsDroppedModel" "cells" "[I") (List.mem_of_getElem? (i := 18) rfl))
  have w19 := (hts (.fieldLink RX6 52 "HandkerchiefsDroppedModel" "law" "[I") (List.mem_of_getElem? (i := 19) rfl))
  have w20 := (hts (.fieldLink RX6 55 "HandkerchiefsDroppedModel" "words" "[I") (List.mem_of_getElem? (i := 20) rfl))
  have w21 := (hts (.fieldLink RX6 58 "HandkerchiefsDroppedModel" "held" "[I") (List.mem_of_getElem? (i := 21) rfl))
  have w22 := (hts (.fieldLink RX6 61 "HandkerchiefsDroppedModel" "stack" "[I") (List.mem_of_getElem? (i := 22) rfl))
  have w23 := (hts (.fieldLink RX6 64 "HandkerchiefsDroppedModel" "named" "[I") (List.mem_of_getElem? (i := 23) rfl))
  have w24 := (hts (.fieldLink RX6 67 "HandkerchiefsDroppedModel" "kept" "[I") (List.mem_of_getElem? (i := 24) rfl))
  have w25 := (hts (.fieldLink RX6 70 "HandkerchiefsDroppedModel" "taped" "I") (List.mem_of_getElem? (i := 25) rfl))
  have hN1102 : ∀ (n : Nat) (h0 : Nat) (x1 : Int32) (σ : mS), f_X6_init_1102 n h0 x1 σ = some z → ∀ (H : Heap) (locs : List Loc) (ls : Array Slot), mP G σ H → mL G locs → lv_has ls 2 [(0, .ref h0), (1, .int x1)] → W p l e rm_X6_init s m args below meth c H locs 20 2265 Q (F0 m 1102 ls []) := by
    intro n
    induction n with
    | zero =>
      intro h0 x1 σ h
      exact nomatch (show (none : Option mS) = some z from h)
    | succ n ih =>
      intro h0 x1 σ h H locs ls hM hL hl
      rw [f_X6_init_1102.eq_2] at h
      refine lv_iload_n hx hb dX6_init_1102 rfl (lv_at hl 1 rfl) ?_
      refine lv_bipush hx hb dX6_init_1103 kB_35 ?_
      refine lv_icmp_ge (tgt := 1126) hx hb dX6_init_1105 (by decide) (fun c235 => ?_) (fun c235 => ?_)
      · have h := (if_pos c235).symm.trans h
        refine lv_aload_n hx hb dX6_init_1126 rfl (lv_at hl 0 rfl) ?_
        refine lv_bipush hx hb dX6_init_1127 kB_35 ?_
        refine m_put (ci := 5) hx hb hU6 tyX6 tyX6_ok nmX6 hown hK hM hL rfl 10 (by decide) w25 rfl rfl rfl h dX6_init_1129 (fun t236 H locs h hM hL => ?_)
        refine lv_aload_n hx hb dX6_init_1132 rfl (lv_at hl 0 rfl) ?_
        obtain ⟨o237, h⟩ := oi_some h
        obtain ⟨q238, hq238, h⟩ := ob_some h
        refine m_calli (va_runV (As := []) (rest := []) ⟨hx, hb, hml, hown, hts⟩ (c_X6_text l G hq238) (cwV 0 hts gX6_init_X6_text rfl rfl rfl hd_X6_textv ⟨Nat.le_of_ble_eq_true rfl, Nat.le_of_ble_eq_true rfl⟩) (m_preV (ci := 5) hK hM rfl o237) rfl rfl hl.1 rfl (lv_room (Nat.le_of_ble_eq_true rfl)) dX6_init_1133 ⟨Nat.le_of_ble_eq_true rfl, Nat.le_of_ble_eq_true rfl⟩) hL (fun H locs hM hL => ?_)
        refine lv_pop hx hb dX6_init_1136 rfl ?_
        subst hQ
        cases h
        exact m_vret hx hb hr hM hL dX6_init_1137 hlocks
      · have h := (if_neg c235).symm.trans h
        refine lv_aload_n hx hb dX6_init_1108 rfl (lv_at hl 0 rfl) ?_
        refine m_getR (ci := 5) hx hb hU6 hown hK hM rfl 9 (by decide) w11 h dX6_init_1109 (fun r239 gr239 h => ?_)
        refine lv_iload_n hx hb dX6_init_1112 rfl (lv_at hl 1 rfl) ?_
        refine lv_aload_n hx hb dX6_init_1113 rfl (lv_at hl 0 rfl) ?_
        refine m_getR (ci := 5) hx hb hU6 hown hK hM rfl 21 (by decide) w19 h dX6_init_1114 (fun r240 gr240 h => ?_)
        refine lv_iload_n hx hb dX6_init_1117 rfl (lv_at hl 1 rfl) ?_
        refine m_iald hx hb hK hM h dX6_init_1118 (fun v241 gv241 h => ?_)
        refine m_iast hx hb hK hM hL h dX6_init_1119 (fun t242 H locs h hM hL => ?_)
        obtain ⟨v243, ev243⟩ : ∃ y : Int32, y = x1 + (1 : Int32) := ⟨_, rfl⟩
        have h := vl_at ev243 h
        refine lv_iinc (v := v243) (lv' := [(1, .int v243), (0, .ref h0)]) hx hb dX6_init_1120 hl (k := 1) rfl (by rw [ev243, kI_1]) (by decide) rfl (fun ls hl => ?_)
        refine lv_goto (tgt := 1102) hx hb dX6_init_1123 (by decide) ?_
        exact ih _ _ _ h _ _ _ hM hL (lv_sub hl [1, 0] rfl)
  rw [f_X6_init.eq_1] at h
  refine lv_aload_n hx hb dX6_init_0 rfl (lv_at hl 0 rfl) ?_
  refine W.objInit hx hb hown w0 w1 w2 rfl (by rw [hml]; exact hl.1) rfl dX6_init_1 (Nat.le_of_ble_eq_true rfl) (Nat.le_of_ble_eq_true rfl) ?_
  refine W.eq (g2 := F0 m 4 ls []) rfl ?_
  refine lv_aload_n hx hb dX6_init_4 rfl (lv_at hl 0 rfl) ?_
  refine lv_bipush hx hb dX6_init_5 kB_6 ?_
  refine m_newa (N' := 6) hx hb w3 hK hM (by decide) (by decide) (by decide) (Nat.le_of_ble_eq_true rfl) (Nat.le_of_ble_eq_true rfl) dX6_init_7 (fun H hM => ?_)
  obtain ⟨t244, et244⟩ : ∃ t, t = nI_ (σ) 6 := ⟨_, rfl⟩
  have h := vl_at et244 h
  have hM : mP G t244 H := by rw [et244]; exact hM
  obtain ⟨r245, er245⟩ : ∃ r : Nat, r = (σ).1 := ⟨_, rfl⟩
  have h := vl_at er245 h
  rw [← er245]
  refine m_putF (ci := 5) hx hb hU6 tyX6 tyX6_ok nmX6 hown hK hM hL rfl 1 (by decide) w5 rfl hnm rfl rfl rfl h dX6_init_9 (fun t246 H locs h hM hL => ?_)
  refine lv_aload_n hx hb dX6_init_12 rfl (lv_at hl 0 rfl) ?_
  refine lv_bipush hx hb dX6_init_13 kB_6 ?_
  refine m_newa (N' := 6) hx hb w3 hK hM (by decide) (by decide) (by decide) (Nat.le_of_ble_eq_true rfl) (Nat.le_of_ble_eq_true rfl) dX6_init_15 (fun H hM => ?_)
  obtain ⟨t247, et247⟩ : ∃ t, t = nI_ t246 6 := ⟨_, rfl⟩
  have h := vl_at et247 h
  have hM : mP G t247 H := by rw [et247]; exact hM
  obtain ⟨r248, er248⟩ : ∃ r : Nat, r = t246.1 := ⟨_, rfl⟩
  have h := vl_at er248 h
  rw [← er248]
  refine m_putF (ci := 5) hx hb hU6 tyX6 tyX6_ok nmX6 hown hK hM hL rfl 2 (by decide) w6 rfl hnm rfl rfl rfl h dX6_init_17 (fun t249 H locs h hM hL => ?_)
  refine lv_aload_n hx hb dX6_init_20 rfl (lv_at hl 0 rfl) ?_
  refine lv_bipush hx hb dX6_init_21 kB_18 ?_
  refine m_newa (N' := 18) hx hb w3 hK hM (by decide) (by decide) (by decide) (Nat.le_of_ble_eq_true rfl) (Nat.le_of_ble_eq_true rfl) dX6_init_23 (fun H hM => ?_)
  obtain ⟨t250, et250⟩ : ∃ t, t = nI_ t249 18 := ⟨_, rfl⟩
  have h := vl_at et250 h
  have hM : mP G t250 H := by rw [et250]; exact hM
  obtain ⟨r251, er251⟩ : ∃ r : Nat, r = t249.1 := ⟨_, rfl⟩
  have h := vl_at er251 h
  rw [← er251]
  refine m_putF (ci := 5) hx hb hU6 tyX6 tyX6_ok nmX6 hown hK hM hL rfl 3 (by decide) w7 rfl hnm rfl rfl rfl h dX6_init_25 (fun t252 H locs h hM hL => ?_)
  refine lv_aload_n hx hb dX6_init_28 rfl (lv_at hl 0 rfl) ?_
  refine lv_bipush hx hb dX6_init_29 kB_24 ?_
  refine m_newa (N' := 24) hx hb w3 hK hM (by decide) (by decide) (by decide) (Nat.le_of_ble_eq_true rfl) (Nat.le_of_ble_eq_true rfl) dX6_init_31 (fun H hM => ?_)
  obtain ⟨t253, et253⟩ : ∃ t, t = nI_ t252 24 := ⟨_, rfl⟩
  have h := vl_at et253 h
  have hM : mP G t253 H := by rw [et253]; exact hM
  obtain ⟨r254, er254⟩ : ∃ r : Nat, r = t252.1 := ⟨_, rfl⟩
  have h := vl_at er254 h
  rw [← er254]
  refine lv_dup hx hb dX6_init_33 rfl ?_
  refine lv_iconst hx hb dX6_init_34 kI_0 ?_
  refine lv_iconst hx hb dX6_init_35 kI_m1 ?_
  refine m_iast hx hb hK hM hL h dX6_init_36 (fun t255 H locs h hM hL => ?_)
  refine lv_dup hx hb dX6_init_37 rfl ?_
  refine lv_iconst hx hb dX6_init_38 kI_1 ?_
  refine lv_iconst hx hb dX6_init_39 kI_0 ?_
  refine m_iast hx hb hK hM hL h dX6_init_40 (fun t256 H locs h hM hL => ?_)
  refine lv_dup hx hb dX6_init_41 rfl ?_
  refine lv_iconst hx hb dX6_init_42 kI_2 ?_
  refine lv_iconst hx hb dX6_init_43 kI_0 ?_
  refine m_iast hx hb hK hM hL h dX6_init_44 (fun t257 H locs h hM hL => ?_)
  refine lv_dup hx hb dX6_init_45 rfl ?_
  refine lv_iconst hx hb dX6_init_46 kI_3 ?_
  refine lv_iconst hx hb dX6_init_47 kI_m1 ?_
  refine m_iast hx hb hK hM hL h dX6_init_48 (fun t258 H locs h hM hL => ?_)
  refine lv_dup hx hb dX6_init_49 rfl ?_
  refine lv_iconst hx hb dX6_init_50 kI_4 ?_
  refine lv_iconst hx hb dX6_init_51 kI_0 ?_
  refine m_iast hx hb hK hM hL h dX6_init_52 (fun t259 H locs h hM hL => ?_)
  refine lv_dup hx hb dX6_init_53 rfl ?_
  refine lv_iconst hx hb dX6_init_54 kI_5 ?_
  refine lv_iconst hx hb dX6_init_55 kI_0 ?_
  refine m_iast hx hb hK hM hL h dX6_init_56 (fun t260 H locs h hM hL => ?_)
  refine lv_dup hx hb dX6_init_57 rfl ?_
  refine lv_bipush hx hb dX6_init_58 kB_6 ?_
  refine lv_iconst hx hb dX6_init_60 kI_m1 ?_
  refine m_iast hx hb hK hM hL h dX6_init_61 (fun t261 H locs h hM hL => ?_)
  refine lv_dup hx hb dX6_init_62 rfl ?_
  refine lv_bipush hx hb dX6_init_63 kB_7 ?_
  refine lv_iconst hx hb dX6_init_65 kI_0 ?_
  refine m_iast hx hb hK hM hL h dX6_init_66 (fun t262 H locs h hM hL => ?_)
  refine lv_dup hx hb dX6_init_67 rfl ?_
  refine lv_bipush hx hb dX6_init_68 kB_8 ?_
  refine lv_iconst hx hb dX6_init_70 kI_0 ?_
  refine m_iast hx hb hK hM hL h dX6_init_71 (fun t263 H locs h hM hL => ?_)
  refine lv_dup hx hb dX6_init_72 rfl ?_
  refine lv_bipush hx hb dX6_init_73 kB_9 ?_
  refine lv_iconst hx hb dX6_init_75 kI_m1 ?_
  refine m_iast hx hb hK hM hL h dX6_init_76 (fun t264 H locs h hM hL => ?_)
  refine lv_dup hx hb dX6_init_77 rfl ?_
  refine lv_bipush hx hb dX6_init_78 kB_10 ?_
  refine lv_iconst hx hb dX6_init_80 kI_0 ?_
  refine m_iast hx hb hK hM hL h dX6_init_81 (fun t265 H locs h hM hL => ?_)
  refine lv_dup hx hb dX6_init_82 rfl ?_
  refine lv_bipush hx hb dX6_init_83 kB_11 ?_
  refine lv_iconst hx hb dX6_init_85 kI_0 ?_
  refine m_iast hx hb hK hM hL h dX6_init_86 (fun t266 H locs h hM hL => ?_)
  refine lv_dup hx hb dX6_init_87 rfl ?_
  refine lv_bipush hx hb dX6_init_88 kB_12 ?_
  refine lv_iconst hx hb dX6_init_90 kI_m1 ?_
  refine m_iast hx hb hK hM hL h dX6_init_91 (fun t267 H locs h hM hL => ?_)
  refine lv_dup hx hb dX6_init_92 rfl ?_
  refine lv_bipush hx hb dX6_init_93 kB_13 ?_
  refine lv_iconst hx hb dX6_init_95 kI_0 ?_
  refine m_iast hx hb hK hM hL h dX6_init_96 (fun t268 H locs h hM hL => ?_)
  refine lv_dup hx hb dX6_init_97 rfl ?_
  refine lv_bipush hx hb dX6_init_98 kB_14 ?_
  refine lv_iconst hx hb dX6_init_100 kI_0 ?_
  refine m_iast hx hb hK hM hL h dX6_init_101 (fun t269 H locs h hM hL => ?_)
  refine lv_dup hx hb dX6_init_102 rfl ?_
  refine lv_bipush hx hb dX6_init_103 kB_15 ?_
  refine lv_iconst hx hb dX6_init_105 kI_m1 ?_
  refine m_iast hx hb hK hM hL h dX6_init_106 (fun t270 H locs h hM hL => ?_)
  refine lv_dup hx hb dX6_init_107 rfl ?_
  refine lv_bipush hx hb dX6_init_108 kB_16 ?_
  refine lv_iconst hx hb dX6_init_110 kI_0 ?_
  refine m_iast hx hb hK hM hL h dX6_init_111 (fun t271 H locs h hM hL => ?_)
  refine lv_dup hx hb dX6_init_112 rfl ?_
  refine lv_bipush hx hb dX6_init_113 kB_17 ?_
  refine lv_iconst hx hb dX6_init_115 kI_0 ?_
  refine m_iast hx hb hK hM hL h dX6_init_116 (fun t272 H locs h hM hL => ?_)
  refine lv_dup hx hb dX6_init_117 rfl ?_
  refine lv_bipush hx hb dX6_init_118 kB_18 ?_
  refine lv_iconst hx hb dX6_init_120 kI_m1 ?_
  refine m_iast hx hb hK hM hL h dX6_init_121 (fun t273 H locs h hM hL => ?_)
  refine lv_dup hx hb dX6_init_122 rfl ?_
  refine lv_bipush hx hb dX6_init_123 kB_19 ?_
  refine lv_iconst hx hb dX6_init_125 kI_0 ?_
  refine m_iast hx hb hK hM hL h dX6_init_126 (fun t274 H locs h hM hL => ?_)
  refine lv_dup hx hb dX6_init_127 rfl ?_
  refine lv_bipush hx hb dX6_init_128 kB_20 ?_
  refine lv_iconst hx hb dX6_init_130 kI_0 ?_
  refine m_iast hx hb hK hM hL h dX6_init_131 (fun t275 H locs h hM hL => ?_)
  refine lv_dup hx hb dX6_init_132 rfl ?_
  refine lv_bipush hx hb dX6_init_133 kB_21 ?_
  refine lv_iconst hx hb dX6_init_135 kI_m1 ?_
  refine m_iast hx hb hK hM hL h dX6_init_136 (fun t276 H locs h hM hL => ?_)
  refine lv_dup hx hb dX6_init_137 rfl ?_
  refine lv_bipush hx hb dX6_init_138 kB_22 ?_
  refine lv_iconst hx hb dX6_init_140 kI_0 ?_
  refine m_iast hx hb hK hM hL h dX6_init_141 (fun t277 H locs h hM hL => ?_)
  refine lv_dup hx hb dX6_init_142 rfl ?_
  refine lv_bipush hx hb dX6_init_143 kB_23 ?_
  refine lv_iconst hx hb dX6_init_145 kI_0 ?_
  refine m_iast hx hb hK hM hL h dX6_init_146 (fun t278 H locs h hM hL => ?_)
  refine m_putF (ci := 5) hx hb hU6 tyX6 tyX6_ok nmX6 hown hK hM hL rfl 4 (by decide) w8 rfl hnm rfl rfl rfl h dX6_init_147 (fun t279 H locs h hM hL => ?_)
  refine lv_aload_n hx hb dX6_init_150 rfl (lv_at hl 0 rfl) ?_
  refine lv_bipush hx hb dX6_init_151 kB_10 ?_
  refine m_newa (N' := 10) hx hb w3 hK hM (by decide) (by decide) (by decide) (Nat.le_of_ble_eq_true rfl) (Nat.le_of_ble_eq_true rfl) dX6_init_153 (fun H hM => ?_)
  obtain ⟨t280, et280⟩ : ∃ t, t = nI_ t279 10 := ⟨_, rfl⟩
  have h := vl_at et280 h
  have hM : mP G t280 H := by rw [et280]; exact hM
  obtain ⟨r281, er281⟩ : ∃ r : Nat, r = t279.1 := ⟨_, rfl⟩
  have h := vl_at er281 h
  rw [← er281]
  refine m_putF (ci := 5) hx hb hU6 tyX6 tyX6_ok nmX6 hown hK hM hL rfl 5 (by decide) w9 rfl hnm rfl rfl rfl h dX6_init_155 (fun t282 H locs h hM hL => ?_)
  refine lv_aload_n hx hb dX6_init_158 rfl (lv_at hl 0 rfl) ?_
  refine lv_bipush hx hb dX6_init_159 kB_6 ?_
  refine m_newa (N' := 6) hx hb w3 hK hM (by decide) (by decide) (by decide) (Nat.le_of_ble_eq_true rfl) (Nat.le_of_ble_eq_true rfl) dX6_init_161 (fun H hM => ?_)
  obtain ⟨t283, et283⟩ : ∃ t, t = nI_ t282 6 := ⟨_, rfl⟩
  have h := vl_at et283 h
  have hM : mP G t283 H := by rw [et283]; exact hM
  obtain ⟨r284, er284⟩ : ∃ r : Nat, r = t282.1 := ⟨_, rfl⟩
  have h := vl_at er284 h
  rw [← er284]
  refine lv_dup hx hb dX6_init_163 rfl ?_
  refine lv_iconst hx hb dX6_init_164 kI_0 ?_
  refine lv_bipush hx hb dX6_init_165 kB_50 ?_
  refine m_iast hx hb hK hM hL h dX6_init_167 (fun t285 H locs h hM hL => ?_)
  refine lv_dup hx hb dX6_init_168 rfl ?_
  refine lv_iconst hx hb dX6_init_169 kI_1 ?_
  refine lv_bipush hx hb dX6_init_170 kB_50 ?_
  refine m_iast hx hb hK hM hL h dX6_init_172 (fun t286 H locs h hM hL => ?_)
  refine lv_dup hx hb dX6_init_173 rfl ?_
  refine lv_iconst hx hb dX6_init_174 kI_2 ?_
  refine lv_bipush hx hb dX6_init_175 kB_50 ?_
  refine m_iast hx hb hK hM hL h dX6_init_177 (fun t287 H locs h hM hL => ?_)
  refine lv_dup hx hb dX6_init_178 rfl ?_
  refine lv_iconst hx hb dX6_init_179 kI_3 ?_
  refine lv_bipush hx hb dX6_init_180 kB_50 ?_
  refine m_iast hx hb hK hM hL h dX6_init_182 (fun t288 H locs h hM hL => ?_)
  refine lv_dup hx hb dX6_init_183 rfl ?_
  refine lv_iconst hx hb dX6_init_184 kI_4 ?_
  refine lv_bipush hx hb dX6_init_185 kB_50 ?_
  refine m_iast hx hb hK hM hL h dX6_init_187 (fun t289 H locs h hM hL => ?_)
  refine lv_dup hx hb dX6_init_188 rfl ?_
  refine lv_iconst hx hb dX6_init_189 kI_5 ?_
  refine lv_bipush hx hb dX6_init_190 kB_50 ?_
  refine m_iast hx hb hK hM hL h dX6_init_192 (fun t290 H locs h hM hL => ?_)
  refine m_putF (ci := 5) hx hb hU6 tyX6 tyX6_ok nmX6 hown hK hM hL rfl 6 (by decide) w10 rfl hnm rfl rfl rfl h dX6_init_193 (fun t291 H locs h hM hL => ?_)
  refine lv_aload_n hx hb dX6_init_196 rfl (lv_at hl 0 rfl) ?_
  refine lv_sipush hx hb dX6_init_197 kS_160 ?_
  refine m_newa (N' := 160) hx hb w3 hK hM (by decide) (by decide) (by decide) (Nat.le_of_ble_eq_true rfl) (Nat.le_of_ble_eq_true rfl) dX6_init_200 (fun H hM => ?_)
  obtain ⟨t292, et292⟩ : ∃ t, t = nI_ t291 160 := ⟨_, rfl⟩
  have h := vl_at et292 h
  have hM : mP G t292 H := by rw [et292]; exact hM
  obtain ⟨r293, er293⟩ : ∃ r : Nat, r = t291.1 := ⟨_, rfl⟩
  have h := vl_at er293 h
  rw [← er293]
  refine m_putF (ci := 5) hx hb hU6 tyX6 tyX6_ok nmX6 hown hK hM hL rfl 9 (by decide) w11 rfl hnm rfl rfl rfl h dX6_init_202 (fun t294 H locs h hM hL => ?_)
  refine lv_aload_n hx hb dX6_init_205 rfl (lv_at hl 0 rfl) ?_
  refine lv_sipush hx hb dX6_init_206 kS_1200 ?_
  refine m_newa (N' := 1200) hx hb w3 hK hM (by decide) (by decide) (by decide) (Nat.le_of_ble_eq_true rfl) (Nat.le_of_ble_eq_true rfl) dX6_init_209 (fun H hM => ?_)
  obtain ⟨t295, et295⟩ : ∃ t, t = nI_ t294 1200 := ⟨_, rfl⟩
  have h := vl_at et295 h
  have hM : mP G t295 H := by rw [et295]; exact hM
  obtain ⟨r296, er296⟩ : ∃ r : Nat, r = t294.1 := ⟨_, rfl⟩
  have h := vl_at er296 h
  rw [← er296]
  refine m_putF (ci := 5) hx hb hU6 tyX6 tyX6_ok nmX6 hown hK hM hL rfl 11 (by decide) w12 rfl hnm rfl rfl rfl h dX6_init_211 (fun t297 H locs h hM hL => ?_)
  refine lv_aload_n hx hb dX6_init_214 rfl (lv_at hl 0 rfl) ?_
  refine lv_bipush hx hb dX6_init_215 kB_24 ?_
  refine m_newa (N' := 24) hx hb w3 hK hM (by decide) (by decide) (by decide) (Nat.le_of_ble_eq_true rfl) (Nat.le_of_ble_eq_true rfl) dX6_init_217 (fun H hM => ?_)
  obtain ⟨t298, et298⟩ : ∃ t, t = nI_ t297 24 := ⟨_, rfl⟩
  have h := vl_at et298 h
  have hM : mP G t298 H := by rw [et298]; exact hM
  obtain ⟨r299, er299⟩ : ∃ r : Nat, r = t297.1 := ⟨_, rfl⟩
  have h := vl_at er299 h
  rw [← er299]
  refine m_putF (ci := 5) hx hb hU6 tyX6 tyX6_ok nmX6 hown hK hM hL rfl 12 (by decide) w13 rfl hnm rfl rfl rfl h dX6_init_219 (fun t300 H locs h hM hL => ?_)
  refine lv_aload_n hx hb dX6_init_222 rfl (lv_at hl 0 rfl) ?_
  refine lv_bipush hx hb dX6_init_223 kB_58 ?_
  refine m_newa (N' := 58) hx hb w3 hK hM (by decide) (by decide) (by decide) (Nat.le_of_ble_eq_true rfl) (Nat.le_of_ble_eq_true rfl) dX6_init_225 (fun H hM => ?_)
  obtain ⟨t301, et301⟩ : ∃ t, t = nI_ t300 58 := ⟨_, rfl⟩
  have h := vl_at et301 h
  have hM : mP G t301 H := by rw [et301]; exact hM
  obtain ⟨r302, er302⟩ : ∃ r : Nat, r = t300.1 := ⟨_, rfl⟩
  have h := vl_at er302 h
  rw [← er302]
  refine m_putF (ci := 5) hx hb hU6 tyX6 tyX6_ok nmX6 hown hK hM hL rfl 16 (by decide) w14 rfl hnm rfl rfl rfl h dX6_init_227 (fun t303 H locs h hM hL => ?_)
  refine lv_aload_n hx hb dX6_init_230 rfl (lv_at hl 0 rfl) ?_
  refine lv_iconst hx hb dX6_init_231 kI_4 ?_
  refine m_newa (N' := 4) hx hb w3 hK hM (by decide) (by decide) (by decide) (Nat.le_of_ble_eq_true rfl) (Nat.le_of_ble_eq_true rfl) dX6_init_232 (fun H hM => ?_)
  obtain ⟨t304, et304⟩ : ∃ t, t = nI_ t303 4 := ⟨_, rfl⟩
  have h := vl_at et304 h
  have hM : mP G t304 H := by rw [et304]; exact hM
  obtain ⟨r305, er305⟩ : ∃ r : Nat, r = t303.1 := ⟨_, rfl⟩
  have h := vl_at er305 h
  rw [← er305]
  refine m_putF (ci := 5) hx hb hU6 tyX6 tyX6_ok nmX6 hown hK hM hL rfl 17 (by decide) w15 rfl hnm rfl rfl rfl h dX6_init_234 (fun t306 H locs h hM hL => ?_)
  refine lv_aload_n hx hb dX6_init_237 rfl (lv_at hl 0 rfl) ?_
  refine lv_iconst hx hb dX6_init_238 kI_4 ?_
  refine m_newa (N' := 4) hx hb w3 hK hM (by decide) (by decide) (by decide) (Nat.le_of_ble_eq_true rfl) (Nat.le_of_ble_eq_true rfl) dX6_init_239 (fun H hM => ?_)
  obtain ⟨t307, et307⟩ : ∃ t, t = nI_ t306 4 := ⟨_, rfl⟩
  have h := vl_at et307 h
  have hM : mP G t307 H := by rw [et307]; exact hM
  obtain ⟨r308, er308⟩ : ∃ r : Nat, r = t306.1 := ⟨_, rfl⟩
  have h := vl_at er308 h
  rw [← er308]
  refine lv_dup hx hb dX6_init_241 rfl ?_
  refine lv_iconst hx hb dX6_init_242 kI_0 ?_
  refine lv_iconst hx hb dX6_init_243 kI_m1 ?_
  refine m_iast hx hb hK hM hL h dX6_init_244 (fun t309 H locs h hM hL => ?_)
  refine lv_dup hx hb dX6_init_245 rfl ?_
  refine lv_iconst hx hb dX6_init_246 kI_1 ?_
  refine lv_iconst hx hb dX6_init_247 kI_m1 ?_
  refine m_iast hx hb hK hM hL h dX6_init_248 (fun t310 H locs h hM hL => ?_)
  refine lv_dup hx hb dX6_init_249 rfl ?_
  refine lv_iconst hx hb dX6_init_250 kI_2 ?_
  refine lv_iconst hx hb dX6_init_251 kI_m1 ?_
  refine m_iast hx hb hK hM hL h dX6_init_252 (fun t311 H locs h hM hL => ?_)
  refine lv_dup hx hb dX6_init_253 rfl ?_
  refine lv_iconst hx hb dX6_init_254 kI_3 ?_
  refine lv_iconst hx hb dX6_init_255 kI_m1 ?_
  refine m_iast hx hb hK hM hL h dX6_init_256 (fun t312 H locs h hM hL => ?_)
  refine m_putF (ci := 5) hx hb hU6 tyX6 tyX6_ok nmX6 hown hK hM hL rfl 18 (by decide) w16 rfl hnm rfl rfl rfl h dX6_init_257 (fun t313 H locs h hM hL => ?_)
  refine lv_aload_n hx hb dX6_init_260 rfl (lv_at hl 0 rfl) ?_
  refine lv_iconst hx hb dX6_init_261 kI_4 ?_
  refine m_newa (N' := 4) hx hb w3 hK hM (by decide) (by decide) (by decide) (Nat.le_of_ble_eq_true rfl) (Nat.le_of_ble_eq_true rfl) dX6_init_262 (fun H hM => ?_)
  obtain ⟨t314, et314⟩ : ∃ t, t = nI_ t313 4 := ⟨_, rfl⟩
  have h := vl_at et314 h
  have hM : mP G t314 H := by rw [et314]; exact hM
  obtain ⟨r315, er315⟩ : ∃ r : Nat, r = t313.1 := ⟨_, rfl⟩
  have h := vl_at er315 h
  rw [← er315]
  refine m_putF (ci := 5) hx hb hU6 tyX6 tyX6_ok nmX6 hown hK hM hL rfl 19 (by decide) w17 rfl hnm rfl rfl rfl h dX6_init_264 (fun t316 H locs h hM hL => ?_)
  refine lv_aload_n hx hb dX6_init_267 rfl (lv_at hl 0 rfl) ?_
  refine lv_sipush hx hb dX6_init_268 kS_160 ?_
  refine m_newa (N' := 160) hx hb w3 hK hM (by decide) (by decide) (by decide) (Nat.le_of_ble_eq_true rfl) (Nat.le_of_ble_eq_true rfl) dX6_init_271 (fun H hM => ?_)
  obtain ⟨t317, et317⟩ : ∃ t, t = nI_ t316 160 := ⟨_, rfl⟩
  have h := vl_at et317 h
  have hM : mP G t317 H := by rw [et317]; exact hM
  obtain ⟨r318, er318⟩ : ∃ r : Nat, r = t316.1 := ⟨_, rfl⟩
  have h := vl_at er318 h
  rw [← er318]
  refine m_putF (ci := 5) hx hb hU6 tyX6 tyX6_ok nmX6 hown hK hM hL rfl 20 (by decide) w18 rfl hnm rfl rfl rfl h dX6_init_273 (fun t319 H locs h hM hL => ?_)
  refine lv_aload_n hx hb dX6_init_276 rfl (lv_at hl 0 rfl) ?_
  refine lv_bipush hx hb dX6_init_277 kB_35 ?_
  refine m_newa (N' := 35) hx hb w3 hK hM (by decide) (by decide) (by decide) (Nat.le_of_ble_eq_true rfl) (Nat.le_of_ble_eq_true rfl) dX6_init_279 (fun H hM => ?_)
  obtain ⟨t320, et320⟩ : ∃ t, t = nI_ t319 35 := ⟨_, rfl⟩
  have h := vl_at et320 h
  have hM : mP G t320 H := by rw [et320]; exact hM
  obtain ⟨r321, er321⟩ : ∃ r : Nat, r = t319.1 := ⟨_, rfl⟩
  have h := vl_at er321 h
  rw [← er321]
  refine lv_dup hx hb dX6_init_281 rfl ?_
  refine lv_iconst hx hb dX6_init_282 kI_0 ?_
  refine lv_bipush hx hb dX6_init_283 kB_108 ?_
  refine m_iast hx hb hK hM hL h dX6_init_285 (fun t322 H locs h hM hL => ?_)
  refine lv_dup hx hb dX6_init_286 rfl ?_
  refine lv_iconst hx hb dX6_init_287 kI_1 ?_
  refine lv_bipush hx hb dX6_init_288 kB_111 ?_
  refine m_iast hx hb hK hM hL h dX6_init_290 (fun t323 H locs h hM hL => ?_)
  refine lv_dup hx hb dX6_init_291 rfl ?_
  refine lv_iconst hx hb dX6_init_292 kI_2 ?_
  refine lv_bipush hx hb dX6_init_293 kB_111 ?_
  refine m_iast hx hb hK hM hL h dX6_init_295 (fun t324 H locs h hM hL => ?_)
  refine lv_dup hx hb dX6_init_296 rfl ?_
  refine lv_iconst hx hb dX6_init_297 kI_3 ?_
  refine lv_bipush hx hb dX6_init_298 kB_107 ?_
  refine m_iast hx hb hK hM hL h dX6_init_300 (fun t325 H locs h hM hL => ?_)
  refine lv_dup hx hb dX6_init_301 rfl ?_
  refine lv_iconst hx hb dX6_init_302 kI_4 ?_
  refine lv_bipush hx hb dX6_init_303 kB_115 ?_
  refine m_iast hx hb hK hM hL h dX6_init_305 (fun t326 H locs h hM hL => ?_)
  refine lv_dup hx hb dX6_init_306 rfl ?_
  refine lv_iconst hx hb dX6_init_307 kI_5 ?_
  refine lv_bipush hx hb dX6_init_308 kB_32 ?_
  refine m_iast hx hb hK hM hL h dX6_init_310 (fun t327 H locs h hM hL => ?_)
  refine lv_dup hx hb dX6_init_311 rfl ?_
  refine lv_bipush hx hb dX6_init_312 kB_6 ?_
  refine lv_bipush hx hb dX6_init_314 kB_102 ?_
  refine m_iast hx hb hK hM hL h dX6_init_316 (fun t328 H locs h hM hL => ?_)
  refine lv_dup hx hb dX6_init_317 rfl ?_
  refine lv_bipush hx hb dX6_init_318 kB_7 ?_
  refine lv_bipush hx hb dX6_init_320 kB_97 ?_
  refine m_iast hx hb hK hM hL h dX6_init_322 (fun t329 H locs h hM hL => ?_)
  refine lv_dup hx hb dX6_init_323 rfl ?_
  refine lv_bipush hx hb dX6_init_324 kB_8 ?_
  refine lv_bipush hx hb dX6_init_326 kB_99 ?_
  refine m_iast hx hb hK hM hL h dX6_init_328 (fun t330 H locs h hM hL => ?_)
  refine lv_dup hx hb dX6_init_329 rfl ?_
  refine lv_bipush hx hb dX6_init_330 kB_9 ?_
  refine lv_bipush hx hb dX6_init_332 kB_101 ?_
  refine m_iast hx hb hK hM hL h dX6_init_334 (fun t331 H locs h hM hL => ?_)
  refine lv_dup hx hb dX6_init_335 rfl ?_
  refine lv_bipush hx hb dX6_init_336 kB_10 ?_
  refine lv_bipush hx hb dX6_init_338 kB_32 ?_
  refine m_iast hx hb hK hM hL h dX6_init_340 (fun t332 H locs h hM hL => ?_)
  refine lv_dup hx hb dX6_init_341 rfl ?_
  refine lv_bipush hx hb dX6_init_342 kB_11 ?_
  refine lv_bipush hx hb dX6_init_344 kB_59 ?_
  refine m_iast hx hb hK hM hL h dX6_init_346 (fun t333 H locs h hM hL => ?_)
  refine lv_dup hx hb dX6_init_347 rfl ?_
  refine lv_bipush hx hb dX6_init_348 kB_12 ?_
  refine lv_bipush hx hb dX6_init_350 kB_32 ?_
  refine m_iast hx hb hK hM hL h dX6_init_352 (fun t334 H locs h hM hL => ?_)
  refine lv_dup hx hb dX6_init_353 rfl ?_
  refine lv_bipush hx hb dX6_init_354 kB_13 ?_
  refine lv_bipush hx hb dX6_init_356 kB_119 ?_
  refine m_iast hx hb hK hM hL h dX6_init_358 (fun t335 H locs h hM hL => ?_)
  refine lv_dup hx hb dX6_init_359 rfl ?_
  refine lv_bipush hx hb dX6_init_360 kB_14 ?_
  refine lv_bipush hx hb dX6_init_362 kB_97 ?_
  refine m_iast hx hb hK hM hL h dX6_init_364 (fun t336 H locs h hM hL => ?_)
  refine lv_dup hx hb dX6_init_365 rfl ?_
  refine lv_bipush hx hb dX6_init_366 kB_15 ?_
  refine lv_bipush hx hb dX6_init_368 kB_105 ?_
  refine m_iast hx hb hK hM hL h dX6_init_370 (fun t337 H locs h hM hL => ?_)
  refine lv_dup hx hb dX6_init_371 rfl ?_
  refine lv_bipush hx hb dX6_init_372 kB_16 ?_
  refine lv_bipush hx hb dX6_init_374 kB_116 ?_
  refine m_iast hx hb hK hM hL h dX6_init_376 (fun t338 H locs h hM hL => ?_)
  refine lv_dup hx hb dX6_init_377 rfl ?_
  refine lv_bipush hx hb dX6_init_378 kB_17 ?_
  refine lv_bipush hx hb dX6_init_380 kB_115 ?_
  refine m_iast hx hb hK hM hL h dX6_init_382 (fun t339 H locs h hM hL => ?_)
  refine lv_dup hx hb dX6_init_383 rfl ?_
  refine lv_bipush hx hb dX6_init_384 kB_18 ?_
  refine lv_bipush hx hb dX6_init_386 kB_32 ?_
  refine m_iast hx hb hK hM hL h dX6_init_388 (fun t340 H locs h hM hL => ?_)
  refine lv_dup hx hb dX6_init_389 rfl ?_
  refine lv_bipush hx hb dX6_init_390 kB_19 ?_
  refine lv_bipush hx hb dX6_init_392 kB_54 ?_
  refine m_iast hx hb hK hM hL h dX6_init_394 (fun t341 H locs h hM hL => ?_)
  refine lv_dup hx hb dX6_init_395 rfl ?_
  refine lv_bipush hx hb dX6_init_396 kB_20 ?_
  refine lv_bipush hx hb dX6_init_398 kB_32 ?_
  refine m_iast hx hb hK hM hL h dX6_init_400 (fun t342 H locs h hM hL => ?_)
  refine lv_dup hx hb dX6_init_401 rfl ?_
  refine lv_bipush hx hb dX6_init_402 kB_21 ?_
  refine lv_bipush hx hb dX6_init_404 kB_59 ?_
  refine m_iast hx hb hK hM hL h dX6_init_406 (fun t343 H locs h hM hL => ?_)
  refine lv_dup hx hb dX6_init_407 rfl ?_
  refine lv_bipush hx hb dX6_init_408 kB_22 ?_
  refine lv_bipush hx hb dX6_init_410 kB_32 ?_
  refine m_iast hx hb hK hM hL h dX6_init_412 (fun t344 H locs h hM hL => ?_)
  refine lv_dup hx hb dX6_init_413 rfl ?_
  refine lv_bipush hx hb dX6_init_414 kB_23 ?_
  refine lv_bipush hx hb dX6_init_416 kB_100 ?_
  refine m_iast hx hb hK hM hL h dX6_init_418 (fun t345 H locs h hM hL => ?_)
  refine lv_dup hx hb dX6_init_419 rfl ?_
  refine lv_bipush hx hb dX6_init_420 kB_24 ?_
  refine lv_bipush hx hb dX6_init_422 kB_114 ?_
  refine m_iast hx hb hK hM hL h dX6_init_424 (fun t346 H locs h hM hL => ?_)
  refine lv_dup hx hb dX6_init_425 rfl ?_
  refine lv_bipush hx hb dX6_init_426 kB_25 ?_
  refine lv_bipush hx hb dX6_init_428 kB_111 ?_
  refine m_iast hx hb hK hM hL h dX6_init_430 (fun t347 H locs h hM hL => ?_)
  refine lv_dup hx hb dX6_init_431 rfl ?_
  refine lv_bipush hx hb dX6_init_432 kB_26 ?_
  refine lv_bipush hx hb dX6_init_434 kB_112 ?_
  refine m_iast hx hb hK hM hL h dX6_init_436 (fun t348 H locs h hM hL => ?_)
  refine lv_dup hx hb dX6_init_437 rfl ?_
  refine lv_bipush hx hb dX6_init_438 kB_27 ?_
  refine lv_bipush hx hb dX6_init_440 kB_115 ?_
  refine m_iast hx hb hK hM hL h dX6_init_442 (fun t349 H locs h hM hL => ?_)
  refine lv_dup hx hb dX6_init_443 rfl ?_
  refine lv_bipush hx hb dX6_init_444 kB_28 ?_
  refine lv_bipush hx hb dX6_init_446 kB_32 ?_
  refine m_iast hx hb hK hM hL h dX6_init_448 (fun t350 H locs h hM hL => ?_)
  refine lv_dup hx hb dX6_init_449 rfl ?_
  refine lv_bipush hx hb dX6_init_450 kB_29 ?_
  refine lv_bipush hx hb dX6_init_452 kB_104 ?_
  refine m_iast hx hb hK hM hL h dX6_init_454 (fun t351 H locs h hM hL => ?_)
  refine lv_dup hx hb dX6_init_455 rfl ?_
  refine lv_bipush hx hb dX6_init_456 kB_30 ?_
  refine lv_bipush hx hb dX6_init_458 kB_111 ?_
  refine m_iast hx hb hK hM hL h dX6_init_460 (fun t352 H locs h hM hL => ?_)
  refine lv_dup hx hb dX6_init_461 rfl ?_
  refine lv_bipush hx hb dX6_init_462 kB_31 ?_
  refine lv_bipush hx hb dX6_init_464 kB_117 ?_
  refine m_iast hx hb hK hM hL h dX6_init_466 (fun t353 H locs h hM hL => ?_)
  refine lv_dup hx hb dX6_init_467 rfl ?_
  refine lv_bipush hx hb dX6_init_468 kB_32 ?_
  refine lv_bipush hx hb dX6_init_470 kB_114 ?_
  refine m_iast hx hb hK hM hL h dX6_init_472 (fun t354 H locs h hM hL => ?_)
  refine lv_dup hx hb dX6_init_473 rfl ?_
  refine lv_bipush hx hb dX6_init_474 kB_33 ?_
  refine lv_bipush hx hb dX6_init_476 kB_32 ?_
  refine m_iast hx hb hK hM hL h dX6_init_478 (fun t355 H locs h hM hL => ?_)
  refine lv_dup hx hb dX6_init_479 rfl ?_
  refine lv_bipush hx hb dX6_init_480 kB_34 ?_
  refine lv_bipush hx hb dX6_init_482 kB_59 ?_
  refine m_iast hx hb hK hM hL h dX6_init_484 (fun t356 H locs h hM hL => ?_)
  refine m_putF (ci := 5) hx hb hU6 tyX6 tyX6_ok nmX6 hown hK hM hL rfl 21 (by decide) w19 rfl hnm rfl rfl rfl h dX6_init_485 (fun t357 H locs h hM hL => ?_)
  refine lv_aload_n hx hb dX6_init_488 rfl (lv_at hl 0 rfl) ?_
  refine lv_bipush hx hb dX6_init_489 kB_96 ?_
  refine m_newa (N' := 96) hx hb w3 hK hM (by decide) (by decide) (by decide) (Nat.le_of_ble_eq_true rfl) (Nat.le_of_ble_eq_true rfl) dX6_init_491 (fun H hM => ?_)
  obtain ⟨t358, et358⟩ : ∃ t, t = nI_ t357 96 := ⟨_, rfl⟩
  have h := vl_at et358 h
  have hM : mP G t358 H := by rw [et358]; exact hM
  obtain ⟨r359, er359⟩ : ∃ r : Nat, r = t357.1 := ⟨_, rfl⟩
  have h := vl_at er359 h
  rw [← er359]
  refine lv_dup hx hb dX6_init_493 rfl ?_
  refine lv_iconst hx hb dX6_init_494 kI_0 ?_
  refine lv_bipush hx hb dX6_init_495 kB_108 ?_
  refine m_iast hx hb hK hM hL h dX6_init_497 (fun t360 H locs h hM hL => ?_)
  refine lv_dup hx hb dX6_init_498 rfl ?_
  refine lv_iconst hx hb dX6_init_499 kI_1 ?_
  refine lv_bipush hx hb dX6_init_500 kB_111 ?_
  refine m_iast hx hb hK hM hL h dX6_init_502 (fun t361 H locs h hM hL => ?_)
  refine lv_dup hx hb dX6_init_503 rfl ?_
  refine lv_iconst hx hb dX6_init_504 kI_2 ?_
  refine lv_bipush hx hb dX6_init_505 kB_111 ?_
  refine m_iast hx hb hK hM hL h dX6_init_507 (fun t362 H locs h hM hL => ?_)
  refine lv_dup hx hb dX6_init_508 rfl ?_
  refine lv_iconst hx hb dX6_init_509 kI_3 ?_
  refine lv_bipush hx hb dX6_init_510 kB_107 ?_
  refine m_iast hx hb hK hM hL h dX6_init_512 (fun t363 H locs h hM hL => ?_)
  refine lv_dup hx hb dX6_init_513 rfl ?_
  refine lv_iconst hx hb dX6_init_514 kI_4 ?_
  refine lv_bipush hx hb dX6_init_515 kB_115 ?_
  refine m_iast hx hb hK hM hL h dX6_init_517 (fun t364 H locs h hM hL => ?_)
  refine lv_dup hx hb dX6_init_518 rfl ?_
  refine lv_iconst hx hb dX6_init_519 kI_5 ?_
  refine lv_bipush hx hb dX6_init_520 kB_32 ?_
  refine m_iast hx hb hK hM hL h dX6_init_522 (fun t365 H locs h hM hL => ?_)
  refine lv_dup hx hb dX6_init_523 rfl ?_
  refine lv_bipush hx hb dX6_init_524 kB_6 ?_
  refine lv_bipush hx hb dX6_init_526 kB_32 ?_
  refine m_iast hx hb hK hM hL h dX6_init_528 (fun t366 H locs h hM hL => ?_)
  refine lv_dup hx hb dX6_init_529 rfl ?_
  refine lv_bipush hx hb dX6_init_530 kB_7 ?_
  refine lv_bipush hx hb dX6_init_532 kB_32 ?_
  refine m_iast hx hb hK hM hL h dX6_init_534 (fun t367 H locs h hM hL => ?_)
  refine lv_dup hx hb dX6_init_535 rfl ?_
  refine lv_bipush hx hb dX6_init_536 kB_8 ?_
  refine lv_bipush hx hb dX6_init_538 kB_119 ?_
  refine m_iast hx hb hK hM hL h dX6_init_540 (fun t368 H locs h hM hL => ?_)
  refine lv_dup hx hb dX6_init_541 rfl ?_
  refine lv_bipush hx hb dX6_init_542 kB_9 ?_
  refine lv_bipush hx hb dX6_init_544 kB_97 ?_
  refine m_iast hx hb hK hM hL h dX6_init_546 (fun t369 H locs h hM hL => ?_)
  refine lv_dup hx hb dX6_init_547 rfl ?_
  refine lv_bipush hx hb dX6_init_548 kB_10 ?_
  refine lv_bipush hx hb dX6_init_550 kB_105 ?_
  refine m_iast hx hb hK hM hL h dX6_init_552 (fun t370 H locs h hM hL => ?_)
  refine lv_dup hx hb dX6_init_553 rfl ?_
  refine lv_bipush hx hb dX6_init_554 kB_11 ?_
  refine lv_bipush hx hb dX6_init_556 kB_116 ?_
  refine m_iast hx hb hK hM hL h dX6_init_558 (fun t371 H locs h hM hL => ?_)
  refine lv_dup hx hb dX6_init_559 rfl ?_
  refine lv_bipush hx hb dX6_init_560 kB_12 ?_
  refine lv_bipush hx hb dX6_init_562 kB_115 ?_
  refine m_iast hx hb hK hM hL h dX6_init_564 (fun t372 H locs h hM hL => ?_)
  refine lv_dup hx hb dX6_init_565 rfl ?_
  refine lv_bipush hx hb dX6_init_566 kB_13 ?_
  refine lv_bipush hx hb dX6_init_568 kB_32 ?_
  refine m_iast hx hb hK hM hL h dX6_init_570 (fun t373 H locs h hM hL => ?_)
  refine lv_dup hx hb dX6_init_571 rfl ?_
  refine lv_bipush hx hb dX6_init_572 kB_14 ?_
  refine lv_bipush hx hb dX6_init_574 kB_32 ?_
  refine m_iast hx hb hK hM hL h dX6_init_576 (fun t374 H locs h hM hL => ?_)
  refine lv_dup hx hb dX6_init_577 rfl ?_
  refine lv_bipush hx hb dX6_init_578 kB_15 ?_
  refine lv_bipush hx hb dX6_init_580 kB_32 ?_
  refine m_iast hx hb hK hM hL h dX6_init_582 (fun t375 H locs h hM hL => ?_)
  refine lv_dup hx hb dX6_init_583 rfl ?_
  refine lv_bipush hx hb dX6_init_584 kB_16 ?_
  refine lv_bipush hx hb dX6_init_586 kB_100 ?_
  refine m_iast hx hb hK hM hL h dX6_init_588 (fun t376 H locs h hM hL => ?_)
  refine lv_dup hx hb dX6_init_589 rfl ?_
  refine lv_bipush hx hb dX6_init_590 kB_17 ?_
  refine lv_bipush hx hb dX6_init_592 kB_114 ?_
  refine m_iast hx hb hK hM hL h dX6_init_594 (fun t377 H locs h hM hL => ?_)
  refine lv_dup hx hb dX6_init_595 rfl ?_
  refine lv_bipush hx hb dX6_init_596 kB_18 ?_
  refine lv_bipush hx hb dX6_init_598 kB_111 ?_
  refine m_iast hx hb hK hM hL h dX6_init_600 (fun t378 H locs h hM hL => ?_)
  refine lv_dup hx hb dX6_init_601 rfl ?_
  refine lv_bipush hx hb dX6_init_602 kB_19 ?_
  refine lv_bipush hx hb dX6_init_604 kB_112 ?_
  refine m_iast hx hb hK hM hL h dX6_init_606 (fun t379 H locs h hM hL => ?_)
  refine lv_dup hx hb dX6_init_607 rfl ?_
  refine lv_bipush hx hb dX6_init_608 kB_20 ?_
  refine lv_bipush hx hb dX6_init_610 kB_115 ?_
  refine m_iast hx hb hK hM hL h dX6_init_612 (fun t380 H locs h hM hL => ?_)
  refine lv_dup hx hb dX6_init_613 rfl ?_
  refine lv_bipush hx hb dX6_init_614 kB_21 ?_
  refine lv_bipush hx hb dX6_init_616 kB_32 ?_
  refine m_iast hx hb hK hM hL h dX6_init_618 (fun t381 H locs h hM hL => ?_)
  refine lv_dup hx hb dX6_init_619 rfl ?_
  refine lv_bipush hx hb dX6_init_620 kB_22 ?_
  refine lv_bipush hx hb dX6_init_622 kB_32 ?_
  refine m_iast hx hb hK hM hL h dX6_init_624 (fun t382 H locs h hM hL => ?_)
  refine lv_dup hx hb dX6_init_625 rfl ?_
  refine lv_bipush hx hb dX6_init_626 kB_23 ?_
  refine lv_bipush hx hb dX6_init_628 kB_32 ?_
  refine m_iast hx hb hK hM hL h dX6_init_630 (fun t383 H locs h hM hL => ?_)
  refine lv_dup hx hb dX6_init_631 rfl ?_
  refine lv_bipush hx hb dX6_init_632 kB_24 ?_
  refine lv_bipush hx hb dX6_init_634 kB_102 ?_
  refine m_iast hx hb hK hM hL h dX6_init_636 (fun t384 H locs h hM hL => ?_)
  refine lv_dup hx hb dX6_init_637 rfl ?_
  refine lv_bipush hx hb dX6_init_638 kB_25 ?_
  refine lv_bipush hx hb dX6_init_640 kB_97 ?_
  refine m_iast hx hb hK hM hL h dX6_init_642 (fun t385 H locs h hM hL => ?_)
  refine lv_dup hx hb dX6_init_643 rfl ?_
  refine lv_bipush hx hb dX6_init_644 kB_26 ?_
  refine lv_bipush hx hb dX6_init_646 kB_99 ?_
  refine m_iast hx hb hK hM hL h dX6_init_648 (fun t386 H locs h hM hL => ?_)
  refine lv_dup hx hb dX6_init_649 rfl ?_
  refine lv_bipush hx hb dX6_init_650 kB_27 ?_
  refine lv_bipush hx hb dX6_init_652 kB_101 ?_
  refine m_iast hx hb hK hM hL h dX6_init_654 (fun t387 H locs h hM hL => ?_)
  refine lv_dup hx hb dX6_init_655 rfl ?_
  refine lv_bipush hx hb dX6_init_656 kB_28 ?_
  refine lv_bipush hx hb dX6_init_658 kB_32 ?_
  refine m_iast hx hb hK hM hL h dX6_init_660 (fun t388 H locs h hM hL => ?_)
  refine lv_dup hx hb dX6_init_661 rfl ?_
  refine lv_bipush hx hb dX6_init_662 kB_29 ?_
  refine lv_bipush hx hb dX6_init_664 kB_32 ?_
  refine m_iast hx hb hK hM hL h dX6_init_666 (fun t389 H locs h hM hL => ?_)
  refine lv_dup hx hb dX6_init_667 rfl ?_
  refine lv_bipush hx hb dX6_init_668 kB_30 ?_
  refine lv_bipush hx hb dX6_init_670 kB_32 ?_
  refine m_iast hx hb hK hM hL h dX6_init_672 (fun t390 H locs h hM hL => ?_)
  refine lv_dup hx hb dX6_init_673 rfl ?_
  refine lv_bipush hx hb dX6_init_674 kB_31 ?_
  refine lv_bipush hx hb dX6_init_676 kB_32 ?_
  refine m_iast hx hb hK hM hL h dX6_init_678 (fun t391 H locs h hM hL => ?_)
  refine lv_dup hx hb dX6_init_679 rfl ?_
  refine lv_bipush hx hb dX6_init_680 kB_32 ?_
  refine lv_bipush hx hb dX6_init_682 kB_107 ?_
  refine m_iast hx hb hK hM hL h dX6_init_684 (fun t392 H locs h hM hL => ?_)
  refine lv_dup hx hb dX6_init_685 rfl ?_
  refine lv_bipush hx hb dX6_init_686 kB_33 ?_
  refine lv_bipush hx hb dX6_init_688 kB_110 ?_
  refine m_iast hx hb hK hM hL h dX6_init_690 (fun t393 H locs h hM hL => ?_)
  refine lv_dup hx hb dX6_init_691 rfl ?_
  refine lv_bipush hx hb dX6_init_692 kB_34 ?_
  refine lv_bipush hx hb dX6_init_694 kB_111 ?_
  refine m_iast hx hb hK hM hL h dX6_init_696 (fun t394 H locs h hM hL => ?_)
  refine lv_dup hx hb dX6_init_697 rfl ?_
  refine lv_bipush hx hb dX6_init_698 kB_35 ?_
  refine lv_bipush hx hb dX6_init_700 kB_119 ?_
  refine m_iast hx hb hK hM hL h dX6_init_702 (fun t395 H locs h hM hL => ?_)
  refine lv_dup hx hb dX6_init_703 rfl ?_
  refine lv_bipush hx hb dX6_init_704 kB_36 ?_
  refine lv_bipush hx hb dX6_init_706 kB_110 ?_
  refine m_iast hx hb hK hM hL h dX6_init_708 (fun t396 H locs h hM hL => ?_)
  refine lv_dup hx hb dX6_init_709 rfl ?_
  refine lv_bipush hx hb dX6_init_710 kB_37 ?_
  refine lv_bipush hx hb dX6_init_712 kB_32 ?_
  refine m_iast hx hb hK hM hL h dX6_init_714 (fun t397 H locs h hM hL => ?_)
  refine lv_dup hx hb dX6_init_715 rfl ?_
  refine lv_bipush hx hb dX6_init_716 kB_38 ?_
  refine lv_bipush hx hb dX6_init_718 kB_32 ?_
  refine m_iast hx hb hK hM hL h dX6_init_720 (fun t398 H locs h hM hL => ?_)
  refine lv_dup hx hb dX6_init_721 rfl ?_
  refine lv_bipush hx hb dX6_init_722 kB_39 ?_
  refine lv_bipush hx hb dX6_init_724 kB_32 ?_
  refine m_iast hx hb hK hM hL h dX6_init_726 (fun t399 H locs h hM hL => ?_)
  refine lv_dup hx hb dX6_init_727 rfl ?_
  refine lv_bipush hx hb dX6_init_728 kB_40 ?_
  refine lv_bipush hx hb dX6_init_730 kB_104 ?_
  refine m_iast hx hb hK hM hL h dX6_init_732 (fun t400 H locs h hM hL => ?_)
  refine lv_dup hx hb dX6_init_733 rfl ?_
  refine lv_bipush hx hb dX6_init_734 kB_41 ?_
  refine lv_bipush hx hb dX6_init_736 kB_111 ?_
  refine m_iast hx hb hK hM hL h dX6_init_738 (fun t401 H locs h hM hL => ?_)
  refine lv_dup hx hb dX6_init_739 rfl ?_
  refine lv_bipush hx hb dX6_init_740 kB_42 ?_
  refine lv_bipush hx hb dX6_init_742 kB_117 ?_
  refine m_iast hx hb hK hM hL h dX6_init_744 (fun t402 H locs h hM hL => ?_)
  refine lv_dup hx hb dX6_init_745 rfl ?_
  refine lv_bipush hx hb dX6_init_746 kB_43 ?_
  refine lv_bipush hx hb dX6_init_748 kB_114 ?_
  refine m_iast hx hb hK hM hL h dX6_init_750 (fun t403 H locs h hM hL => ?_)
  refine lv_dup hx hb dX6_init_751 rfl ?_
  refine lv_bipush hx hb dX6_init_752 kB_44 ?_
  refine lv_bipush hx hb dX6_init_754 kB_32 ?_
  refine m_iast hx hb hK hM hL h dX6_init_756 (fun t404 H locs h hM hL => ?_)
  refine lv_dup hx hb dX6_init_757 rfl ?_
  refine lv_bipush hx hb dX6_init_758 kB_45 ?_
  refine lv_bipush hx hb dX6_init_760 kB_32 ?_
  refine m_iast hx hb hK hM hL h dX6_init_762 (fun t405 H locs h hM hL => ?_)
  refine lv_dup hx hb dX6_init_763 rfl ?_
  refine lv_bipush hx hb dX6_init_764 kB_46 ?_
  refine lv_bipush hx hb dX6_init_766 kB_32 ?_
  refine m_iast hx hb hK hM hL h dX6_init_768 (fun t406 H locs h hM hL => ?_)
  refine lv_dup hx hb dX6_init_769 rfl ?_
  refine lv_bipush hx hb dX6_init_770 kB_47 ?_
  refine lv_bipush hx hb dX6_init_772 kB_32 ?_
  refine m_iast hx hb hK hM hL h dX6_init_774 (fun t407 H locs h hM hL => ?_)
  refine lv_dup hx hb dX6_init_775 rfl ?_
  refine lv_bipush hx hb dX6_init_776 kB_48 ?_
  refine lv_bipush hx hb dX6_init_778 kB_108 ?_
  refine m_iast hx hb hK hM hL h dX6_init_780 (fun t408 H locs h hM hL => ?_)
  refine lv_dup hx hb dX6_init_781 rfl ?_
  refine lv_bipush hx hb dX6_init_782 kB_49 ?_
  refine lv_bipush hx hb dX6_init_784 kB_121 ?_
  refine m_iast hx hb hK hM hL h dX6_init_786 (fun t409 H locs h hM hL => ?_)
  refine lv_dup hx hb dX6_init_787 rfl ?_
  refine lv_bipush hx hb dX6_init_788 kB_50 ?_
  refine lv_bipush hx hb dX6_init_790 kB_105 ?_
  refine m_iast hx hb hK hM hL h dX6_init_792 (fun t410 H locs h hM hL => ?_)
  refine lv_dup hx hb dX6_init_793 rfl ?_
  refine lv_bipush hx hb dX6_init_794 kB_51 ?_
  refine lv_bipush hx hb dX6_init_796 kB_110 ?_
  refine m_iast hx hb hK hM hL h dX6_init_798 (fun t411 H locs h hM hL => ?_)
  refine lv_dup hx hb dX6_init_799 rfl ?_
  refine lv_bipush hx hb dX6_init_800 kB_52 ?_
  refine lv_bipush hx hb dX6_init_802 kB_103 ?_
  refine m_iast hx hb hK hM hL h dX6_init_804 (fun t412 H locs h hM hL => ?_)
  refine lv_dup hx hb dX6_init_805 rfl ?_
  refine lv_bipush hx hb dX6_init_806 kB_53 ?_
  refine lv_bipush hx hb dX6_init_808 kB_32 ?_
  refine m_iast hx hb hK hM hL h dX6_init_810 (fun t413 H locs h hM hL => ?_)
  refine lv_dup hx hb dX6_init_811 rfl ?_
  refine lv_bipush hx hb dX6_init_812 kB_54 ?_
  refine lv_bipush hx hb dX6_init_814 kB_32 ?_
  refine m_iast hx hb hK hM hL h dX6_init_816 (fun t414 H locs h hM hL => ?_)
  refine lv_dup hx hb dX6_init_817 rfl ?_
  refine lv_bipush hx hb dX6_init_818 kB_55 ?_
  refine lv_bipush hx hb dX6_init_820 kB_32 ?_
  refine m_iast hx hb hK hM hL h dX6_init_822 (fun t415 H locs h hM hL => ?_)
  refine lv_dup hx hb dX6_init_823 rfl ?_
  refine lv_bipush hx hb dX6_init_824 kB_56 ?_
  refine lv_bipush hx hb dX6_init_826 kB_97 ?_
  refine m_iast hx hb hK hM hL h dX6_init_828 (fun t416 H locs h hM hL => ?_)
  refine lv_dup hx hb dX6_init_829 rfl ?_
  refine lv_bipush hx hb dX6_init_830 kB_57 ?_
  refine lv_bipush hx hb dX6_init_832 kB_100 ?_
  refine m_iast hx hb hK hM hL h dX6_init_834 (fun t417 H locs h hM hL => ?_)
  refine lv_dup hx hb dX6_init_835 rfl ?_
  refine lv_bipush hx hb dX6_init_836 kB_58 ?_
  refine lv_bipush hx hb dX6_init_838 kB_109 ?_
  refine m_iast hx hb hK hM hL h dX6_init_840 (fun t418 H locs h hM hL => ?_)
  refine lv_dup hx hb dX6_init_841 rfl ?_
  refine lv_bipush hx hb dX6_init_842 kB_59 ?_
  refine lv_bipush hx hb dX6_init_844 kB_105 ?_
  refine m_iast hx hb hK hM hL h dX6_init_846 (fun t419 H locs h hM hL => ?_)
  refine lv_dup hx hb dX6_init_847 rfl ?_
  refine lv_bipush hx hb dX6_init_848 kB_60 ?_
  refine lv_bipush hx hb dX6_init_850 kB_116 ?_
  refine m_iast hx hb hK hM hL h dX6_init_852 (fun t420 H locs h hM hL => ?_)
  refine lv_dup hx hb dX6_init_853 rfl ?_
  refine lv_bipush hx hb dX6_init_854 kB_61 ?_
  refine lv_bipush hx hb dX6_init_856 kB_116 ?_
  refine m_iast hx hb hK hM hL h dX6_init_858 (fun t421 H locs h hM hL => ?_)
  refine lv_dup hx hb dX6_init_859 rfl ?_
  refine lv_bipush hx hb dX6_init_860 kB_62 ?_
  refine lv_bipush hx hb dX6_init_862 kB_101 ?_
  refine m_iast hx hb hK hM hL h dX6_init_864 (fun t422 H locs h hM hL => ?_)
  refine lv_dup hx hb dX6_init_865 rfl ?_
  refine lv_bipush hx hb dX6_init_866 kB_63 ?_
  refine lv_bipush hx hb dX6_init_868 kB_100 ?_
  refine m_iast hx hb hK hM hL h dX6_init_870 (fun t423 H locs h hM hL => ?_)
  refine lv_dup hx hb dX6_init_871 rfl ?_
  refine lv_bipush hx hb dX6_init_872 kB_64 ?_
  refine lv_bipush hx hb dX6_init_874 kB_109 ?_
  refine m_iast hx hb hK hM hL h dX6_init_876 (fun t424 H locs h hM hL => ?_)
  refine lv_dup hx hb dX6_init_877 rfl ?_
  refine lv_bipush hx hb dX6_init_878 kB_65 ?_
  refine lv_bipush hx hb dX6_init_880 kB_111 ?_
  refine m_iast hx hb hK hM hL h dX6_init_882 (fun t425 H locs h hM hL => ?_)
  refine lv_dup hx hb dX6_init_883 rfl ?_
  refine lv_bipush hx hb dX6_init_884 kB_66 ?_
  refine lv_bipush hx hb dX6_init_886 kB_114 ?_
  refine m_iast hx hb hK hM hL h dX6_init_888 (fun t426 H locs h hM hL => ?_)
  refine lv_dup hx hb dX6_init_889 rfl ?_
  refine lv_bipush hx hb dX6_init_890 kB_67 ?_
  refine lv_bipush hx hb dX6_init_892 kB_101 ?_
  refine m_iast hx hb hK hM hL h dX6_init_894 (fun t427 H locs h hM hL => ?_)
  refine lv_dup hx hb dX6_init_895 rfl ?_
  refine lv_bipush hx hb dX6_init_896 kB_68 ?_
  refine lv_bipush hx hb dX6_init_898 kB_32 ?_
  refine m_iast hx hb hK hM hL h dX6_init_900 (fun t428 H locs h hM hL => ?_)
  refine lv_dup hx hb dX6_init_901 rfl ?_
  refine lv_bipush hx hb dX6_init_902 kB_69 ?_
  refine lv_bipush hx hb dX6_init_904 kB_32 ?_
  refine m_iast hx hb hK hM hL h dX6_init_906 (fun t429 H locs h hM hL => ?_)
  refine lv_dup hx hb dX6_init_907 rfl ?_
  refine lv_bipush hx hb dX6_init_908 kB_70 ?_
  refine lv_bipush hx hb dX6_init_910 kB_32 ?_
  refine m_iast hx hb hK hM hL h dX6_init_912 (fun t430 H locs h hM hL => ?_)
  refine lv_dup hx hb dX6_init_913 rfl ?_
  refine lv_bipush hx hb dX6_init_914 kB_71 ?_
  refine lv_bipush hx hb dX6_init_916 kB_32 ?_
  refine m_iast hx hb hK hM hL h dX6_init_918 (fun t431 H locs h hM hL => ?_)
  refine lv_dup hx hb dX6_init_919 rfl ?_
  refine lv_bipush hx hb dX6_init_920 kB_72 ?_
  refine lv_bipush hx hb dX6_init_922 kB_111 ?_
  refine m_iast hx hb hK hM hL h dX6_init_924 (fun t432 H locs h hM hL => ?_)
  refine lv_dup hx hb dX6_init_925 rfl ?_
  refine lv_bipush hx hb dX6_init_926 kB_73 ?_
  refine lv_bipush hx hb dX6_init_928 kB_114 ?_
  refine m_iast hx hb hK hM hL h dX6_init_930 (fun t433 H locs h hM hL => ?_)
  refine lv_dup hx hb dX6_init_931 rfl ?_
  refine lv_bipush hx hb dX6_init_932 kB_74 ?_
  refine lv_bipush hx hb dX6_init_934 kB_32 ?_
  refine m_iast hx hb hK hM hL h dX6_init_936 (fun t434 H locs h hM hL => ?_)
  refine lv_dup hx hb dX6_init_937 rfl ?_
  refine lv_bipush hx hb dX6_init_938 kB_75 ?_
  refine lv_bipush hx hb dX6_init_940 kB_32 ?_
  refine m_iast hx hb hK hM hL h dX6_init_942 (fun t435 H locs h hM hL => ?_)
  refine lv_dup hx hb dX6_init_943 rfl ?_
  refine lv_bipush hx hb dX6_init_944 kB_76 ?_
  refine lv_bipush hx hb dX6_init_946 kB_32 ?_
  refine m_iast hx hb hK hM hL h dX6_init_948 (fun t436 H locs h hM hL => ?_)
  refine lv_dup hx hb dX6_init_949 rfl ?_
  refine lv_bipush hx hb dX6_init_950 kB_77 ?_
  refine lv_bipush hx hb dX6_init_952 kB_32 ?_
  refine m_iast hx hb hK hM hL h dX6_init_954 (fun t437 H locs h hM hL => ?_)
  refine lv_dup hx hb dX6_init_955 rfl ?_
  refine lv_bipush hx hb dX6_init_956 kB_78 ?_
  refine lv_bipush hx hb dX6_init_958 kB_32 ?_
  refine m_iast hx hb hK hM hL h dX6_init_960 (fun t438 H locs h hM hL => ?_)
  refine lv_dup hx hb dX6_init_961 rfl ?_
  refine lv_bipush hx hb dX6_init_962 kB_79 ?_
  refine lv_bipush hx hb dX6_init_964 kB_32 ?_
  refine m_iast hx hb hK hM hL h dX6_init_966 (fun t439 H locs h hM hL => ?_)
  refine lv_dup hx hb dX6_init_967 rfl ?_
  refine lv_bipush hx hb dX6_init_968 kB_80 ?_
  refine lv_bipush hx hb dX6_init_970 kB_97 ?_
  refine m_iast hx hb hK hM hL h dX6_init_972 (fun t440 H locs h hM hL => ?_)
  refine lv_dup hx hb dX6_init_973 rfl ?_
  refine lv_bipush hx hb dX6_init_974 kB_81 ?_
  refine lv_bipush hx hb dX6_init_976 kB_110 ?_
  refine m_iast hx hb hK hM hL h dX6_init_978 (fun t441 H locs h hM hL => ?_)
  refine lv_dup hx hb dX6_init_979 rfl ?_
  refine lv_bipush hx hb dX6_init_980 kB_82 ?_
  refine lv_bipush hx hb dX6_init_982 kB_100 ?_
  refine m_iast hx hb hK hM hL h dX6_init_984 (fun t442 H locs h hM hL => ?_)
  refine lv_dup hx hb dX6_init_985 rfl ?_
  refine lv_bipush hx hb dX6_init_986 kB_83 ?_
  refine lv_bipush hx hb dX6_init_988 kB_32 ?_
  refine m_iast hx hb hK hM hL h dX6_init_990 (fun t443 H locs h hM hL => ?_)
  refine lv_dup hx hb dX6_init_991 rfl ?_
  refine lv_bipush hx hb dX6_init_992 kB_84 ?_
  refine lv_bipush hx hb dX6_init_994 kB_32 ?_
  refine m_iast hx hb hK hM hL h dX6_init_996 (fun t444 H locs h hM hL => ?_)
  refine lv_dup hx hb dX6_init_997 rfl ?_
  refine lv_bipush hx hb dX6_init_998 kB_85 ?_
  refine lv_bipush hx hb dX6_init_1000 kB_32 ?_
  refine m_iast hx hb hK hM hL h dX6_init_1002 (fun t445 H locs h hM hL => ?_)
  refine lv_dup hx hb dX6_init_1003 rfl ?_
  refine lv_bipush hx hb dX6_init_1004 kB_86 ?_
  refine lv_bipush hx hb dX6_init_1006 kB_32 ?_
  refine m_iast hx hb hK hM hL h dX6_init_1008 (fun t446 H locs h hM hL => ?_)
  refine lv_dup hx hb dX6_init_1009 rfl ?_
  refine lv_bipush hx hb dX6_init_1010 kB_87 ?_
  refine lv_bipush hx hb dX6_init_1012 kB_32 ?_
  refine m_iast hx hb hK hM hL h dX6_init_1014 (fun t447 H locs h hM hL => ?_)
  refine lv_dup hx hb dX6_init_1015 rfl ?_
  refine lv_bipush hx hb dX6_init_1016 kB_88 ?_
  refine lv_bipush hx hb dX6_init_1018 kB_110 ?_
  refine m_iast hx hb hK hM hL h dX6_init_1020 (fun t448 H locs h hM hL => ?_)
  refine lv_dup hx hb dX6_init_1021 rfl ?_
  refine lv_bipush hx hb dX6_init_1022 kB_89 ?_
  refine lv_bipush hx hb dX6_init_1024 kB_111 ?_
  refine m_iast hx hb hK hM hL h dX6_init_1026 (fun t449 H locs h hM hL => ?_)
  refine lv_dup hx hb dX6_init_1027 rfl ?_
  refine lv_bipush hx hb dX6_init_1028 kB_90 ?_
  refine lv_bipush hx hb dX6_init_1030 kB_116 ?_
  refine m_iast hx hb hK hM hL h dX6_init_1032 (fun t450 H locs h hM hL => ?_)
  refine lv_dup hx hb dX6_init_1033 rfl ?_
  refine lv_bipush hx hb dX6_init_1034 kB_91 ?_
  refine lv_bipush hx hb dX6_init_1036 kB_32 ?_
  refine m_iast hx hb hK hM hL h dX6_init_1038 (fun t451 H locs h hM hL => ?_)
  refine lv_dup hx hb dX6_init_1039 rfl ?_
  refine lv_bipush hx hb dX6_init_1040 kB_92 ?_
  refine lv_bipush hx hb dX6_init_1042 kB_32 ?_
  refine m_iast hx hb hK hM hL h dX6_init_1044 (fun t452 H locs h hM hL => ?_)
  refine lv_dup hx hb dX6_init_1045 rfl ?_
  refine lv_bipush hx hb dX6_init_1046 kB_93 ?_
  refine lv_bipush hx hb dX6_init_1048 kB_32 ?_
  refine m_iast hx hb hK hM hL h dX6_init_1050 (fun t453 H locs h hM hL => ?_)
  refine lv_dup hx hb dX6_init_1051 rfl ?_
  refine lv_bipush hx hb dX6_init_1052 kB_94 ?_
  refine lv_bipush hx hb dX6_init_1054 kB_32 ?_
  refine m_iast hx hb hK hM hL h dX6_init_1056 (fun t454 H locs h hM hL => ?_)
  refine lv_dup hx hb dX6_init_1057 rfl ?_
  refine lv_bipush hx hb dX6_init_1058 kB_95 ?_
  refine lv_bipush hx hb dX6_init_1060 kB_32 ?_
  refine m_iast hx hb hK hM hL h dX6_init_1062 (fun t455 H locs h hM hL => ?_)
  refine m_putF (ci := 5) hx hb hU6 tyX6 tyX6_ok nmX6 hown hK hM hL rfl 26 (by decide) w20 rfl hnm rfl rfl rfl h dX6_init_1063 (fun t456 H locs h hM hL => ?_)
  refine lv_aload_n hx hb dX6_init_1066 rfl (lv_at hl 0 rfl) ?_
  refine lv_sipush hx hb dX6_init_1067 kS_200 ?_
  refine m_newa (N' := 200) hx hb w3 hK hM (by decide) (by decide) (by decide) (Nat.le_of_ble_eq_true rfl) (Nat.le_of_ble_eq_true rfl) dX6_init_1070 (fun H hM => ?_)
  obtain ⟨t457, et457⟩ : ∃ t, t = nI_ t456 200 := ⟨_, rfl⟩
  have h := vl_at et457 h
  have hM : mP G t457 H := by rw [et457]; exact hM
  obtain ⟨r458, er458⟩ : ∃ r : Nat, r = t456.1 := ⟨_, rfl⟩
  have h := vl_at er458 h
  rw [← er458]
  refine m_putF (ci := 5) hx hb hU6 tyX6 tyX6_ok nmX6 hown hK hM hL rfl 27 (by decide) w21 rfl hnm rfl rfl rfl h dX6_init_1072 (fun t459 H locs h hM hL => ?_)
  refine lv_aload_n hx hb dX6_init_1075 rfl (lv_at hl 0 rfl) ?_
  refine lv_sipush hx hb dX6_init_1076 kS_200 ?_
  refine m_newa (N' := 200) hx hb w3 hK hM (by decide) (by decide) (by decide) (Nat.le_of_ble_eq_true rfl) (Nat.le_of_ble_eq_true rfl) dX6_init_1079 (fun H hM => ?_)
  obtain ⟨t460, et460⟩ : ∃ t, t = nI_ t459 200 := ⟨_, rfl⟩
  have h := vl_at et460 h
  have hM : mP G t460 H := by rw [et460]; exact hM
  obtain ⟨r461, er461⟩ : ∃ r : Nat, r = t459.1 := ⟨_, rfl⟩
  have h := vl_at er461 h
  rw [← er461]
  refine m_putF (ci := 5) hx hb hU6 tyX6 tyX6_ok nmX6 hown hK hM hL rfl 31 (by decide) w22 rfl hnm rfl rfl rfl h dX6_init_1081 (fun t462 H locs h hM hL => ?_)
  refine lv_aload_n hx hb dX6_init_1084 rfl (lv_at hl 0 rfl) ?_
  refine lv_bipush hx hb dX6_init_1085 kB_6 ?_
  refine m_newa (N' := 6) hx hb w3 hK hM (by decide) (by decide) (by decide) (Nat.le_of_ble_eq_true rfl) (Nat.le_of_ble_eq_true rfl) dX6_init_1087 (fun H hM => ?_)
  obtain ⟨t463, et463⟩ : ∃ t, t = nI_ t462 6 := ⟨_, rfl⟩
  have h := vl_at et463 h
  have hM : mP G t463 H := by rw [et463]; exact hM
  obtain ⟨r464, er464⟩ : ∃ r : Nat, r = t462.1 := ⟨_, rfl⟩
  have h := vl_at er464 h
  rw [← er464]
  refine m_putF (ci := 5) hx hb hU6 tyX6 tyX6_ok nmX6 hown hK hM hL rfl 32 (by decide) w23 rfl hnm rfl rfl rfl h dX6_init_1089 (fun t465 H locs h hM hL => ?_)
  refine lv_aload_n hx hb dX6_init_1092 rfl (lv_at hl 0 rfl) ?_
  refine lv_bipush hx hb dX6_init_1093 kB_44 ?_
  refine m_newa (N' := 44) hx hb w3 hK hM (by decide) (by decide) (by decide) (Nat.le_of_ble_eq_true rfl) (Nat.le_of_ble_eq_true rfl) dX6_init_1095 (fun H hM => ?_)
  obtain ⟨t466, et466⟩ : ∃ t, t = nI_ t465 44 := ⟨_, rfl⟩
  have h := vl_at et466 h
  have hM : mP G t466 H := by rw [et466]; exact hM
  obtain ⟨r467, er467⟩ : ∃ r : Nat, r = t465.1 := ⟨_, rfl⟩
  have h := vl_at er467 h
  rw [← er467]
  refine m_putF (ci := 5) hx hb hU6 tyX6 tyX6_ok nmX6 hown hK hM hL rfl 33 (by decide) w24 rfl hnm rfl rfl rfl h dX6_init_1097 (fun t468 H locs h hM hL => ?_)
  refine lv_iconst hx hb dX6_init_1100 kI_0 ?_
  refine lv_istore_n (lv' := [(1, .int (0 : Int32)), (0, .ref h0)]) hx hb dX6_init_1101 rfl hl (by decide) rfl (fun ls hl => ?_)
  refine hN1102 _ _ _ _ h _ _ _ hM hL (lv_sub hl [1, 0] rfl)
