abbrev rm_J7_fill : Room := { frames := 0, cells := 0, slots := 0, locals := 0 }
set_option maxHeartbeats 4000000 in
set_option maxRecDepth 100000 in
theorem c_J7_fill (l : Launch) (G : mG) {h0 : Nat} {x1 : Int32} {σ : mS} {z : mS} (h : f_J7_fill h0 x1 σ = some z) : Met l yJ7_fill_53178 wsJ7_fill_53178 rm_J7_fill (va_Pc [.ref h0, .int x1] (mB G σ)) (mQ G (.returned none) z) 0 0 (mF G) := by
  refine m_start (cc := cJ7_fill_53178) (maxL := 4) (ret := none) (by decide) rfl [.ref h0, .int x1] (Nat.le_of_ble_eq_true rfl) ?_
  intro p e s m args below meth c ls hx hb hr hml hown hts hlocks hnm hK hM hl
  have hown : s.vm.findClass RJ7 = some m.cls := hown
  have hnm : meth.name = "fill" := hnm
  obtain ⟨locs, hlocs⟩ : ∃ l : List Loc, l = [] := ⟨_, rfl⟩
  have hL : mL G locs := by rw [hlocs]; exact mL_nil G
  rw [← hlocs]
  generalize s.heap = H at hM ⊢
  have hl : lv_has ls 4 [(0, .ref h0), (1, .int x1)] := hl
  obtain ⟨Q, hQ⟩ : ∃ Q, Q = MQ below (mQ G (.returned none) z) args s 0 0 (mF G) := ⟨_, rfl⟩
  rw [← hQ]
  have hN5 : ∀ (n : Nat) (h0 : Nat) (x1 : Int32) (x2 : Int32) (x3 : Int32) (σ : mS), f_J7_fill_5 n h0 x1 x2 x3 σ = some z → ∀ (H : Heap) (locs : List Loc) (ls : Array Slot), mP G σ H → mL G locs → lv_has ls 4 [(0, .ref h0), (1, .int x1), (2, .int x2), (3, .int x3)] → W p l e rm_J7_fill s m args below meth c H locs 0 0 Q (F0 m 5 ls []) := by
    intro n
    induction n with
    | zero =>
      intro h0 x1 x2 x3 σ h
      exact nomatch (show (none : Option mS) = some z from h)
    | succ n ih =>
      intro h0 x1 x2 x3 σ h H locs ls hM hL hl
      rw [f_J7_fill_5.eq_2] at h
      refine lv_iload_n hx hb dJ7_fill_53178_5 rfl (lv_at hl 2 rfl) ?_
      refine lv_iload_n hx hb dJ7_fill_53178_6 rfl (lv_at hl 3 rfl) ?_
      refine lv_icmp_ge (tgt := 20) hx hb dJ7_fill_53178_7 (by decide) (fun c5 => ?_) (fun c5 => ?_)
      · have h := (if_pos c5).symm.trans h
        subst hQ
        cases h
        exact m_vret hx hb hr hM hL dJ7_fill_53178_20 hlocks
      · have h := (if_neg c5).symm.trans h
        refine lv_aload_n hx hb dJ7_fill_53178_10 rfl (lv_at hl 0 rfl) ?_
        refine lv_iload_n hx hb dJ7_fill_53178_11 rfl (lv_at hl 2 rfl) ?_
        refine lv_iload_n hx hb dJ7_fill_53178_12 rfl (lv_at hl 1 rfl) ?_
        refine m_iast hx hb hK hM hL h dJ7_fill_53178_13 (fun t6 H locs h hM hL => ?_)
        obtain ⟨v7, ev7⟩ : ∃ y : Int32, y = x2 + (1 : Int32) := ⟨_, rfl⟩
        have h := vl_at ev7 h
        refine lv_iinc (v := v7) (lv' := [(2, .int v7), (0, .ref h0), (1, .int x1), (3, .int x3)]) hx hb dJ7_fill_53178_14 hl (k := 2) rfl (by rw [ev7, kI_1]) (by decide) rfl (fun ls hl => ?_)
        refine lv_goto (tgt := 5) hx hb dJ7_fill_53178_17 (by decide) ?_
        exact ih _ _ _ _ _ h _ _ _ hM hL (lv_sub hl [1, 2, 0, 3] rfl)
  rw [f_J7_fill.eq_1] at h
  refine lv_iconst hx hb dJ7_fill_53178_0 kI_0 ?_
  refine lv_istore_n (lv' := [(2, .int (0 : Int32)), (0, .ref h0), (1, .int x1)]) hx hb dJ7_fill_53178_1 rfl hl (by decide) rfl (fun ls hl => ?_)
  refine lv_aload_n hx hb dJ7_fill_53178_2 rfl (lv_at hl 1 rfl) ?_
  refine m_alen hx hb hK hM h dJ7_fill_53178_3 (fun v8 gv8 h => ?_)
  refine lv_istore_n (lv' := [(3, .int v8), (2, .int (0 : Int32)), (0, .ref h0), (1, .int x1)]) hx hb dJ7_fill_53178_4 rfl hl (by decide) rfl (fun ls hl => ?_)
  refine hN5 _ _ _ _ _ _ h _ _ _ hM hL (lv_sub hl [2, 3, 1, 0] rfl)
abbrev rm_X0_init : Room := { frames := 1, cells := 10, slots := 70, locals := 30 }
set_option maxHeartbeats 4000000 in
set_option maxRecDepth 100000 in
theorem c_X0_init (l : Launch) (G : mG) {h0 : Nat} {h1 : Nat} {h2 : Nat} {σ : mS} {z : mS} (h : f_X0_init h0 h1 h2 σ = some z) : Met l yX0_init wsX0_init rm_X0_init (va_Pc [.ref h0, .ref h1, .ref h2] (mB G σ)) (mQ G (.returned none) z) 10 70 (mF G) := by
  refine m_start (cc := cX0_init) (maxL := 3) (ret := none) (by decide) rfl [.ref h0, .ref h1, .ref h2] (Nat.le_of_ble_eq_true rfl) ?_
  intro p e s m args below meth c ls hx hb hr hml hown hts hlocks hnm hK hM hl
  have hown : s.vm.findClass RX0 = some m.cls := hown
  have hnm : meth.name = "<init>" := hnm
  obtain ⟨locs, hlocs⟩ : ∃ l : List Loc, l = [] := ⟨_, rfl⟩
  have hL : mL G locs := by rw [hlocs]; exact mL_nil G
  rw [← hlocs]
  generalize s.heap = H at hM ⊢
  have hl : lv_has ls 3 [(0, .ref h0), (1, .ref h1), (2, .ref h2)] := hl
  obtain ⟨Q, hQ⟩ : ∃ Q, Q = MQ below (mQ G (.returned none) z) args s 10 70 (mF G) := ⟨_, rfl⟩
  rw [← hQ]
  have w0 := (hts (.methodLink RX0 3 objectInit) (List.mem_of_getElem? (i := 1) rfl))
  have w1 := (hts (.instanceMethod objectInit) (List.mem_of_getElem? (i := 2) rfl))
  have w2 := (hts (.code objectInit ⟨#[0xb1]⟩ 1 none) (List.mem_of_getElem? (i := 3) rfl))
  have w3 := (hts (.arrayClass .int) (List.mem_of_getElem? (i := 4) rfl))
  have hU0 : ∀ w ∈ wsX00, w.before args s = true := fun w h => hts w (List.mem_cons_of_mem _ (List.mem_append_right _ h))
  have w5 := (hts (.fieldLink RX0 9 "HandkerchiefsDropped$Assize" "weights" "[I") (List.mem_of_getElem? (i := 5) rfl))
  have w6 := (hts (.fieldLink RX0 15 "HandkerchiefsDropped$Assize" "keen" "[I") (List.mem_of_getElem? (i := 6) rfl))
  have w7 := (hts (.fieldLink RX0 18 "HandkerchiefsDropped$Assize" "kind" "[I") (List.mem_of_getElem? (i := 7) rfl))
  have w8 := (hts (.fieldLink RX0 21 "HandkerchiefsDropped$Assize" "more" "[I") (List.mem_of_getElem? (i := 8) rfl))
  have w9 := (hts (.fieldLink RX0 24 "HandkerchiefsDropped$Assize" "known" "[I") (List.mem_of_getElem? (i := 9) rfl))
  have w10 := (hts (.fieldLink RX0 27 "HandkerchiefsDropped$Assize" "face" "[I") (List.mem_of_getElem? (i := 10) rfl))
  have w11 := (hts (.fieldLink RX0 30 "HandkerchiefsDropped$Assize" "vain" "[I") (List.mem_of_getElem? (i := 11) rfl))
  have w12 := (hts (.fieldLink RX0 33 "HandkerchiefsDropped$Assize" "owner" "[I") (List.mem_of_getElem? (i := 12) rfl))
  have w13 := (hts (.fieldLink RX0 36 "HandkerchiefsDropped$Assize" "fact" "[I") (List.mem_of_getElem? (i := 13) rfl))
  have w14 := (hts (.fieldLink RX0 39 "HandkerchiefsDropped$Assize" "left" "[I") (List.mem_of_getElem? (i := 14) rfl))
  have w15 := (hts (.fieldLink RX0 42 "HandkerchiefsDropped$Assize" "law" "LHandkerchiefsDropped$Law;") (List.mem_of_getElem? (i := 15) rfl))
  have w16 := (hts (.fieldLink RX0 46 "HandkerchiefsDropped$Assize" "stack" "[I") (List.mem_of_getElem? (i := 16) rfl))
  rw [f_X0_init.eq_1] at h
  refine lv_aload_n hx hb dX0_init_0 rfl (lv_at hl 0 rfl) ?_
  refine W.objInit hx hb hown w0 w1 w2 rfl (by rw [hml]; exact hl.1) rfl dX0_init_1 (Nat.le_of_ble_eq_true rfl) (Nat.le_of_ble_eq_true rfl) ?_
  refine W.eq (g2 := F0 m 4 ls []) rfl ?_
  refine lv_aload_n hx hb dX0_init_4 rfl (lv_at hl 0 rfl) ?_
  refine lv_bipush hx hb dX0_init_5 kB_10 ?_
  refine m_newa (N' := 10) hx hb w3 hK hM (by decide) (by decide) (by decide) (Nat.le_of_ble_eq_true rfl) (Nat.le_of_ble_eq_true rfl) dX0_init_7 (fun H hM => ?_)
  obtain ⟨t37, et37⟩ : ∃ t, t = nI_ (σ) 10 := ⟨_, rfl⟩
  have h := vl_at et37 h
  have hM : mP G t37 H := by rw [et37]; exact hM
  obtain ⟨r38, er38⟩ : ∃ r : Nat, r = (σ).1 := ⟨_, rfl⟩
  have h := vl_at er38 h
  rw [← er38]
  refine m_putF (ci := 0) hx hb hU0 tyX0 tyX0_ok nmX0 hown hK hM hL rfl 0 (by decide) w5 rfl hnm rfl rfl rfl h dX0_init_9 (fun t39 H locs h hM hL => ?_)
  refine lv_aload_n hx hb dX0_init_12 rfl (lv_at hl 0 rfl) ?_
  refine lv_bipush hx hb dX0_init_13 kB_6 ?_
  refine m_newa (N' := 6) hx hb w3 hK hM (by decide) (by decide) (by decide) (Nat.le_of_ble_eq_true rfl) (Nat.le_of_ble_eq_true rfl) dX0_init_15 (fun H hM => ?_)
  obtain ⟨t40, et40⟩ : ∃ t, t = nI_ t39 6 := ⟨_, rfl⟩
  have h := vl_at et40 h
  have hM : mP G t40 H := by rw [et40]; exact hM
  obtain ⟨r41, er41⟩ : ∃ r : Nat, r = t39.1 := ⟨_, rfl⟩
  have h := vl_at er41 h
  rw [← er41]
  refine m_putF (ci := 0) hx hb hU0 tyX0 tyX0_ok nmX0 hown hK hM hL rfl 1 (by decide) w6 rfl hnm rfl rfl rfl h dX0_init_17 (fun t42 H locs h hM hL => ?_)
  refine lv_aload_n hx hb dX0_init_20 rfl (lv_at hl 0 rfl) ?_
  refine lv_bipush hx hb dX0_init_21 kB_6 ?_
  refine m_newa (N' := 6) hx hb w3 hK hM (by decide) (by decide) (by decide) (Nat.le_of_ble_eq_true rfl) (Nat.le_of_ble_eq_true rfl) dX0_init_23 (fun H hM => ?_)
  obtain ⟨t43, et43⟩ : ∃ t, t = nI_ t42 6 := ⟨_, rfl⟩
  have h := vl_at et43 h
  have hM : mP G t43 H := by rw [et43]; exact hM
  obtain ⟨r44, er44⟩ : ∃ r : Nat, r = t42.1 := ⟨_, rfl⟩
  have h := vl_at er44 h
  rw [← er44]
  refine m_putF (ci := 0) hx hb hU0 tyX0 tyX0_ok nmX0 hown hK hM hL rfl 2 (by decide) w7 rfl hnm rfl rfl rfl h dX0_init_25 (fun t45 H locs h hM hL => ?_)
  refine lv_aload_n hx hb dX0_init_28 rfl (lv_at hl 0 rfl) ?_
  refine lv_bipush hx hb dX0_init_29 kB_6 ?_
  refine m_newa (N' := 6) hx hb w3 hK hM (by decide) (by decide) (by decide) (Nat.le_of_ble_eq_true rfl) (Nat.le_of_ble_eq_true rfl) dX0_init_31 (fun H hM => ?_)
  obtain ⟨t46, et46⟩ : ∃ t, t = nI_ t45 6 := ⟨_, rfl⟩
  have h := vl_at et46 h
  have hM : mP G t46 H := by rw [et46]; exact hM
  obtain ⟨r47, er47⟩ : ∃ r : Nat, r = t45.1 := ⟨_, rfl⟩
  have h := vl_at er47 h
  rw [← er47]
  refine m_putF (ci := 0) hx hb hU0 tyX0 tyX0_ok nmX0 hown hK hM hL rfl 3 (by decide) w8 rfl hnm rfl rfl rfl h dX0_init_33 (fun t48 H locs h hM hL => ?_)
  refine lv_aload_n hx hb dX0_init_36 rfl (lv_at hl 0 rfl) ?_
  refine lv_bipush hx hb dX0_init_37 kB_6 ?_
  refine m_newa (N' := 6) hx hb w3 hK hM (by decide) (by decide) (by decide) (Nat.le_of_ble_eq_true rfl) (Nat.le_of_ble_eq_true rfl) dX0_init_39 (fun H hM => ?_)
  obtain ⟨t49, et49⟩ : ∃ t, t = nI_ t48 6 := ⟨_, rfl⟩
  have h := vl_at et49 h
  have hM : mP G t49 H := by rw [et49]; exact hM
  obtain ⟨r50, er50⟩ : ∃ r : Nat, r = t48.1 := ⟨_, rfl⟩
  have h := vl_at er50 h
  rw [← er50]
  refine m_putF (ci := 0) hx hb hU0 tyX0 tyX0_ok nmX0 hown hK hM hL rfl 4 (by decide) w9 rfl hnm rfl rfl rfl h dX0_init_41 (fun t51 H locs h hM hL => ?_)
  refine lv_aload_n hx hb dX0_init_44 rfl (lv_at hl 0 rfl) ?_
  refine lv_bipush hx hb dX0_init_45 kB_6 ?_
  refine m_newa (N' := 6) hx hb w3 hK hM (by decide) (by decide) (by decide) (Nat.le_of_ble_eq_true rfl) (Nat.le_of_ble_eq_true rfl) dX0_init_47 (fun H hM => ?_)
  obtain ⟨t52, et52⟩ : ∃ t, t = nI_ t51 6 := ⟨_, rfl⟩
  have h := vl_at et52 h
  have hM : mP G t52 H := by rw [et52]; exact hM
  obtain ⟨r53, er53⟩ : ∃ r : Nat, r = t51.1 := ⟨_, rfl⟩
  have h := vl_at er53 h
  rw [← er53]
  refine m_putF (ci := 0) hx hb hU0 tyX0 tyX0_ok nmX0 hown hK hM hL rfl 5 (by decide) w10 rfl hnm rfl rfl rfl h dX0_init_49 (fun t54 H locs h hM hL => ?_)
  refine lv_aload_n hx hb dX0_init_52 rfl (lv_at hl 0 rfl) ?_
  refine lv_bipush hx hb dX0_init_53 kB_6 ?_
  refine m_newa (N' := 6) hx hb w3 hK hM (by decide) (by decide) (by decide) (Nat.le_of_ble_eq_true rfl) (Nat.le_of_ble_eq_true rfl) dX0_init_55 (fun H hM => ?_)
  obtain ⟨t55, et55⟩ : ∃ t, t = nI_ t54 6 := ⟨_, rfl⟩
  have h := vl_at et55 h
  have hM : mP G t55 H := by rw [et55]; exact hM
  obtain ⟨r56, er56⟩ : ∃ r : Nat, r = t54.1 := ⟨_, rfl⟩
  have h := vl_at er56 h
  rw [← er56]
  refine m_putF (ci := 0) hx hb hU0 tyX0 tyX0_ok nmX0 hown hK hM hL rfl 6 (by decide) w11 rfl hnm rfl rfl rfl h dX0_init_57 (fun t57 H locs h hM hL => ?_)
  refine lv_aload_n hx hb dX0_init_60 rfl (lv_at hl 0 rfl) ?_
  refine lv_bipush hx hb dX0_init_61 kB_8 ?_
  refine m_newa (N' := 8) hx hb w3 hK hM (by decide) (by decide) (by decide) (Nat.le_of_ble_eq_true rfl) (Nat.le_of_ble_eq_true rfl) dX0_init_63 (fun H hM => ?_)
  obtain ⟨t58, et58⟩ : ∃ t, t = nI_ t57 8 := ⟨_, rfl⟩
  have h := vl_at et58 h
  have hM : mP G t58 H := by rw [et58]; exact hM
  obtain ⟨r59, er59⟩ : ∃ r : Nat, r = t57.1 := ⟨_, rfl⟩
  have h := vl_at er59 h
  rw [← er59]
  refine m_putF (ci := 0) hx hb hU0 tyX0 tyX0_ok nmX0 hown hK hM hL rfl 7 (by decide) w12 rfl hnm rfl rfl rfl h dX0_init_65 (fun t60 H locs h hM hL => ?_)
  refine lv_aload_n hx hb dX0_init_68 rfl (lv_at hl 0 rfl) ?_
  refine lv_bipush hx hb dX0_init_69 kB_8 ?_
  refine m_newa (N' := 8) hx hb w3 hK hM (by decide) (by decide) (by decide) (Nat.le_of_ble_eq_true rfl) (Nat.le_of_ble_eq_true rfl) dX0_init_71 (fun H hM => ?_)
  obtain ⟨t61, et61⟩ : ∃ t, t = nI_ t60 8 := ⟨_, rfl⟩
  have h := vl_at et61 h
  have hM : mP G t61 H := by rw [et61]; exact hM
  obtain ⟨r62, er62⟩ : ∃ r : Nat, r = t60.1 := ⟨_, rfl⟩
  have h := vl_at er62 h
  rw [← er62]
  refine m_putF (ci := 0) hx hb hU0 tyX0 tyX0_ok nmX0 hown hK hM hL rfl 8 (by decide) w13 rfl hnm rfl rfl rfl h dX0_init_73 (fun t63 H locs h hM hL => ?_)
  refine lv_aload_n hx hb dX0_init_76 rfl (lv_at hl 0 rfl) ?_
  refine lv_bipush hx hb dX0_init_77 kB_8 ?_
  refine m_newa (N' := 8) hx hb w3 hK hM (by decide) (by decide) (by decide) (Nat.le_of_ble_eq_true rfl) (Nat.le_of_ble_eq_true rfl) dX0_init_79 (fun H hM => ?_)
  obtain ⟨t64, et64⟩ : ∃ t, t = nI_ t63 8 := ⟨_, rfl⟩
  have h := vl_at et64 h
  have hM : mP G t64 H := by rw [et64]; exact hM
  obtain ⟨r65, er65⟩ : ∃ r : Nat, r = t63.1 := ⟨_, rfl⟩
  have h := vl_at er65 h
  rw [← er65]
  refine m_putF (ci := 0) hx hb hU0 tyX0 tyX0_ok nmX0 hown hK hM hL rfl 9 (by decide) w14 rfl hnm rfl rfl rfl h dX0_init_81 (fun t66 H locs h hM hL => ?_)
  refine lv_aload_n hx hb dX0_init_84 rfl (lv_at hl 0 rfl) ?_
  refine lv_aload_n hx hb dX0_init_85 rfl (lv_at hl 1 rfl) ?_
  refine m_put (ci := 0) hx hb hU0 tyX0 tyX0_ok nmX0 hown hK hM hL rfl 14 (by decide) w15 rfl rfl rfl h dX0_init_86 (fun t67 H locs h hM hL => ?_)
  refine lv_aload_n hx hb dX0_init_89 rfl (lv_at hl 0 rfl) ?_
  refine lv_aload_n hx hb dX0_init_90 rfl (lv_at hl 2 rfl) ?_
  refine m_putF (ci := 0) hx hb hU0 tyX0 tyX0_ok nmX0 hown hK hM hL rfl 10 (by decide) w16 rfl hnm rfl rfl rfl h dX0_init_91 (fun t68 H locs h hM hL => ?_)
  refine lv_aload_n hx hb dX0_init_94 rfl (lv_at hl 0 rfl) ?_
  refine m_getR (ci := 0) hx hb hU0 hown hK hM rfl 1 (by decide) w6 h dX0_init_95 (fun r69 gr69 h => ?_)
  refine lv_bipush hx hb dX0_init_98 kB_50 ?_
  obtain ⟨q70, hq70, h⟩ := ob_some h
  refine m_callv (va_runS (As := [.ref r69, .int (50 : Int32)]) (rest := []) ⟨hx, hb, hml, hown, hts⟩ (c_J7_fill l G hq70) (va_cwS 2 hts gX0_init_J7_fill_53178 rfl rfl rfl hd_J7_fill ⟨Nat.le_of_ble_eq_true rfl, Nat.le_of_ble_eq_true rfl⟩) (m_preS hK hM) rfl rfl hl.1 rfl (lv_room (Nat.le_of_ble_eq_true rfl)) dX0_init_100 ⟨Nat.le_of_ble_eq_true rfl, Nat.le_of_ble_eq_true rfl⟩) hL (fun H locs hM hL => ?_)
  refine lv_aload_n hx hb dX0_init_103 rfl (lv_at hl 0 rfl) ?_
  refine m_getR (ci := 0) hx hb hU0 hown hK hM rfl 7 (by decide) w12 h dX0_init_104 (fun r71 gr71 h => ?_)
  refine lv_iconst hx hb dX0_init_107 kI_m1 ?_
  obtain ⟨q72, hq72, h⟩ := ob_some h
  refine m_callv (va_runS (As := [.ref r71, .int (-1 : Int32)]) (rest := []) ⟨hx, hb, hml, hown, hts⟩ (c_J7_fill l G hq72) (va_cwS 2 hts gX0_init_J7_fill_53178 rfl rfl rfl hd_J7_fill ⟨Nat.le_of_ble_eq_true rfl, Nat.le_of_ble_eq_true rfl⟩) (m_preS hK hM) rfl rfl hl.1 rfl (lv_room (Nat.le_of_ble_eq_true rfl)) dX0_init_108 ⟨Nat.le_of_ble_eq_true rfl, Nat.le_of_ble_eq_true rfl⟩) hL (fun H locs hM hL => ?_)
  subst hQ
  cases h
  exact m_vret hx hb hr hM hL dX0_init_111 hlocks
abbrev rm_X0_become : Room := { frames := 1, cells := 0, slots := 0, locals := 60 }
set_option maxHeartbeats 4000000 in
set_option maxRecDepth 100000 in
theorem c_X0_become (l : Launch) (G : mG) {h0 : Nat} {h1 : Nat} {σ : mS} {z : mS} (h : f_X0_become h0 h1 σ = some z) : Met l yX0_become wsX0_become rm_X0_become (va_Pc [.ref h0, .ref h1] (mB G σ)) (mQ G (.returned none) z) 0 0 (mF G) := by
  refine m_start (cc := cX0_become) (maxL := 2) (ret := none) (by decide) rfl [.ref h0, .ref h1] (Nat.le_of_ble_eq_true rfl) ?_
  intro p e s m args below meth c ls hx hb hr hml hown hts hlocks hnm hK hM hl
  have hown : s.vm.findClass RX0 = some m.cls := hown
  have hnm : meth.name = "become" := hnm
  obtain ⟨locs, hlocs⟩ : ∃ l : List Loc, l = [] := ⟨_, rfl⟩
  have hL : mL G locs := by rw [hlocs]; exact mL_nil G
  rw [← hlocs]
  generalize s.heap = H at hM ⊢
  have hl : lv_has ls 2 [(0, .ref h0), (1, .ref h1)] := hl
  obtain ⟨Q, hQ⟩ : ∃ Q, Q = MQ below (mQ G (.returned none) z) args s 0 0 (mF G) := ⟨_, rfl⟩
  rw [← hQ]
  have hU0 : ∀ w ∈ wsX00, w.before args s = true := fun w h => hts w (List.mem_cons_of_mem _ (List.mem_append_right _ h))
  have w1 := (hts (.fieldLink RX0 9 "HandkerchiefsDropped$Assize" "weights" "[I") (List.mem_of_getElem? (i := 1) rfl))
  have w2 := (hts (.methodLink RX0 55 arraycopyName) (List.mem_of_getElem? (i := 2) rfl))
  have w3 := (hts (.native arraycopyName) (List.mem_of_getElem? (i := 3) rfl))
  have w4 := (hts (.static arraycopyName) (List.mem_of_getElem? (i := 4) rfl))
  have w5 := (hts (.initialized "java/lang/System") (List.mem_of_getElem? (i := 5) rfl))
  have w6 := (hts (.fieldLink RX0 15 "HandkerchiefsDropped$Assize" "keen" "[I") (List.mem_of_getElem? (i := 6) rfl))
  have w7 := (hts (.fieldLink RX0 18 "HandkerchiefsDropped$Assize" "kind" "[I") (List.mem_of_getElem? (i := 7) rfl))
  have w8 := (hts (.fieldLink RX0 21 "HandkerchiefsDropped$Assize" "more" "[I") (List.mem_of_getElem? (i := 8) rfl))
  have w9 := (hts (.fieldLink RX0 24 "HandkerchiefsDropped$Assize" "known" "[I") (List.mem_of_getElem? (i := 9) rfl))
  have w10 := (hts (.fieldLink RX0 27 "HandkerchiefsDropped$Assize" "face" "[I") (List.mem_of_getElem? (i := 10) rfl))
  have w11 := (hts (.fieldLink RX0 30 "HandkerchiefsDropped$Assize" "vain" "[I") (List.mem_of_getElem? (i := 11) rfl))
  have w12 := (hts (.fieldLink RX0 33 "HandkerchiefsDropped$Assize" "owner" "[I") (List.mem_of_getElem? (i := 12) rfl))
  have w13 := (hts (.fieldLink RX0 36 "HandkerchiefsDropped$Assize" "fact" "[I") (List.mem_of_getElem? (i := 13) rfl))
  have w14 := (hts (.fieldLink RX0 39 "HandkerchiefsDropped$Assize" "left" "[I") (List.mem_of_getElem? (i := 14) rfl))
  have w15 := (hts (.fieldLink RX0 61 "HandkerchiefsDropped$Assize" "admitted" "I") (List.mem_of_getElem? (i := 15) rfl))
  have w16 := (hts (.fieldLink RX0 65 "HandkerchiefsDropped$Assize" "hour" "I") (List.mem_of_getElem? (i := 16) rfl))
  have w17 := (hts (.fieldLink RX0 68 "HandkerchiefsDropped$Assize" "witnesses" "I") (List.mem_of_getElem? (i := 17) rfl))
  have w18 := (hts (.fieldLink RX0 42 "HandkerchiefsDropped$Assize" "law" "LHandkerchiefsDropped$Law;") (List.mem_of_getElem? (i := 18) rfl))
  rw [f_X0_become.eq_1] at h
  refine lv_aload_n hx hb dX0_become_0 rfl (lv_at hl 1 rfl) ?_
  refine m_getR (ci := 0) hx hb hU0 hown hK hM rfl 0 (by decide) w1 h dX0_become_1 (fun r39 gr39 h => ?_)
  refine lv_iconst hx hb dX0_become_4 kI_0 ?_
  refine lv_aload_n hx hb dX0_become_5 rfl (lv_at hl 0 rfl) ?_
  refine m_getR (ci := 0) hx hb hU0 hown hK hM rfl 0 (by decide) w1 h dX0_become_6 (fun r40 gr40 h => ?_)
  refine lv_iconst hx hb dX0_become_9 kI_0 ?_
  refine lv_bipush hx hb dX0_become_10 kB_10 ?_
  refine m_copy hx hb (hml.trans hl.1.symm) hown w2 w3 w4 w5 hK hM hL h (Nat.le_of_ble_eq_true rfl) (Nat.le_of_ble_eq_true rfl) dX0_become_12 (fun t41 H locs h hM hL => ?_)
  refine lv_aload_n hx hb dX0_become_15 rfl (lv_at hl 1 rfl) ?_
  refine m_getR (ci := 0) hx hb hU0 hown hK hM rfl 1 (by decide) w6 h dX0_become_16 (fun r42 gr42 h => ?_)
  refine lv_iconst hx hb dX0_become_19 kI_0 ?_
  refine lv_aload_n hx hb dX0_become_20 rfl (lv_at hl 0 rfl) ?_
  refine m_getR (ci := 0) hx hb hU0 hown hK hM rfl 1 (by decide) w6 h dX0_become_21 (fun r43 gr43 h => ?_)
  refine lv_iconst hx hb dX0_become_24 kI_0 ?_
  refine lv_bipush hx hb dX0_become_25 kB_6 ?_
  refine m_copy hx hb (hml.trans hl.1.symm) hown w2 w3 w4 w5 hK hM hL h (Nat.le_of_ble_eq_true rfl) (Nat.le_of_ble_eq_true rfl) dX0_become_27 (fun t44 H locs h hM hL => ?_)
  refine lv_aload_n hx hb dX0_become_30 rfl (lv_at hl 1 rfl) ?_
  refine m_getR (ci := 0) hx hb hU0 hown hK hM rfl 2 (by decide) w7 h dX0_become_31 (fun r45 gr45 h => ?_)
  refine lv_iconst hx hb dX0_become_34 kI_0 ?_
  refine lv_aload_n hx hb dX0_become_35 rfl (lv_at hl 0 rfl) ?_
  refine m_getR (ci := 0) hx hb hU0 hown hK hM rfl 2 (by decide) w7 h dX0_become_36 (fun r46 gr46 h => ?_)
  refine lv_iconst hx hb dX0_become_39 kI_0 ?_
  refine lv_bipush hx hb dX0_become_40 kB_6 ?_
  refine m_copy hx hb (hml.trans hl.1.symm) hown w2 w3 w4 w5 hK hM hL h (Nat.le_of_ble_eq_true rfl) (Nat.le_of_ble_eq_true rfl) dX0_become_42 (fun t47 H locs h hM hL => ?_)
  refine lv_aload_n hx hb dX0_become_45 rfl (lv_at hl 1 rfl) ?_
  refine m_getR (ci := 0) hx hb hU0 hown hK hM rfl 3 (by decide) w8 h dX0_become_46 (fun r48 gr48 h => ?_)
  refine lv_iconst hx hb dX0_become_49 kI_0 ?_
  refine lv_aload_n hx hb dX0_become_50 rfl (lv_at hl 0 rfl) ?_
  refine m_getR (ci := 0) hx hb hU0 hown hK hM rfl 3 (by decide) w8 h dX0_become_51 (fun r49 gr49 h => ?_)
  refine lv_iconst hx hb dX0_become_54 kI_0 ?_
  refine lv_bipush hx hb dX0_become_55 kB_6 ?_
  refine m_copy hx hb (hml.trans hl.1.symm) hown w2 w3 w4 w5 hK hM hL h (Nat.le_of_ble_eq_true rfl) (Nat.le_of_ble_eq_true rfl) dX0_become_57 (fun t50 H locs h hM hL => ?_)
  refine lv_aload_n hx hb dX0_become_60 rfl (lv_at hl 1 rfl) ?_
  refine m_getR (ci := 0) hx hb hU0 hown hK hM rfl 4 (by decide) w9 h dX0_become_61 (fun r51 gr51 h => ?_)
  refine lv_iconst hx hb dX0_become_64 kI_0 ?_
  refine lv_aload_n hx hb dX0_become_65 rfl (lv_at hl 0 rfl) ?_
  refine m_getR (ci := 0) hx hb hU0 hown hK hM rfl 4 (by decide) w9 h dX0_become_66 (fun r52 gr52 h => ?_)
  refine lv_iconst hx hb dX0_become_69 kI_0 ?_
  refine lv_bipush hx hb dX0_become_70 kB_6 ?_
  refine m_copy hx hb (hml.trans hl.1.symm) hown w2 w3 w4 w5 hK hM hL h (Nat.le_of_ble_eq_true rfl) (Nat.le_of_ble_eq_true rfl) dX0_become_72 (fun t53 H locs h hM hL => ?_)
  refine lv_aload_n hx hb dX0_become_75 rfl (lv_at hl 1 rfl) ?_
  refine m_getR (ci := 0) hx hb hU0 hown hK hM rfl 5 (by decide) w10 h dX0_become_76 (fun r54 gr54 h => ?_)
  refine lv_iconst hx hb dX0_become_79 kI_0 ?_
  refine lv_aload_n hx hb dX0_become_80 rfl (lv_at hl 0 rfl) ?_
  refine m_getR (ci := 0) hx hb hU0 hown hK hM rfl 5 (by decide) w10 h dX0_become_81 (fun r55 gr55 h => ?_)
  refine lv_iconst hx hb dX0_become_84 kI_0 ?_
  refine lv_bipush hx hb dX0_become_85 kB_6 ?_
  refine m_copy hx hb (hml.trans hl.1.symm) hown w2 w3 w4 w5 hK hM hL h (Nat.le_of_ble_eq_true rfl) (Nat.le_of_ble_eq_true rfl) dX0_become_87 (fun t56 H locs h hM hL => ?_)
  refine lv_aload_n hx hb dX0_become_90 rfl (lv_at hl 1 rfl) ?_
  refine m_getR (ci := 0) hx hb hU0 hown hK hM rfl 6 (by decide) w11 h dX0_become_91 (fun r57 gr57 h => ?_)
  refine lv_iconst hx hb dX0_become_94 kI_0 ?_
  refine lv_aload_n hx hb dX0_become_95 rfl (lv_at hl 0 rfl) ?_
  refine m_getR (ci := 0) hx hb hU0 hown hK hM rfl 6 (by decide) w11 h dX0_become_96 (fun r58 gr58 h => ?_)
  refine lv_iconst hx hb dX0_become_99 kI_0 ?_
  refine lv_bipush hx hb dX0_become_100 kB_6 ?_
  refine m_copy hx hb (hml.trans hl.1.symm) hown w2 w3 w4 w5 hK hM hL h (Nat.le_of_ble_eq_true rfl) (Nat.le_of_ble_eq_true rfl) dX0_become_102 (fun t59 H locs h hM hL => ?_)
  refine lv_aload_n hx hb dX0_become_105 rfl (lv_at hl 1 rfl) ?_
  refine m_getR (ci := 0) hx hb hU0 hown hK hM rfl 7 (by decide) w12 h dX0_become_106 (fun r60 gr60 h => ?_)
  refine lv_iconst hx hb dX0_become_109 kI_0 ?_
  refine lv_aload_n hx hb dX0_become_110 rfl (lv_at hl 0 rfl) ?_
  refine m_getR (ci := 0) hx hb hU0 hown hK hM rfl 7 (by decide) w12 h dX0_become_111 (fun r61 gr61 h => ?_)
  refine lv_iconst hx hb dX0_become_114 kI_0 ?_
  refine lv_bipush hx hb dX0_become_115 kB_8 ?_
  refine m_copy hx hb (hml.trans hl.1.symm) hown w2 w3 w4 w5 hK hM hL h (Nat.le_of_ble_eq_true rfl) (Nat.le_of_ble_eq_true rfl) dX0_become_117 (fun t62 H locs h hM hL => ?_)
  refine lv_aload_n hx hb dX0_become_120 rfl (lv_at hl 1 rfl) ?_
  refine m_getR (ci := 0) hx hb hU0 hown hK hM rfl 8 (by decide) w13 h dX0_become_121 (fun r63 gr63 h => ?_)
  refine lv_iconst hx hb dX0_become_124 kI_0 ?_
  refine lv_aload_n hx hb dX0_become_125 rfl (lv_at hl 0 rfl) ?_
  refine m_getR (ci := 0) hx hb hU0 hown hK hM rfl 8 (by decide) w13 h dX0_become_126 (fun r64 gr64 h => ?_)
  refine lv_iconst hx hb dX0_become_129 kI_0 ?_
  refine lv_bipush hx hb dX0_become_130 kB_8 ?_
  refine m_copy hx hb (hml.trans hl.1.symm) hown w2 w3 w4 w5 hK hM hL h (Nat.le_of_ble_eq_true rfl) (Nat.le_of_ble_eq_true rfl) dX0_become_132 (fun t65 H locs h hM hL => ?_)
  refine lv_aload_n hx hb dX0_become_135 rfl (lv_at hl 1 rfl) ?_
  refine m_getR (ci := 0) hx hb hU0 hown hK hM rfl 9 (by decide) w14 h dX0_become_136 (fun r66 gr66 h => ?_)
  refine lv_iconst hx hb dX0_become_139 kI_0 ?_
  refine lv_aload_n hx hb dX0_become_140 rfl (lv_at hl 0 rfl) ?_
  refine m_getR (ci := 0) hx hb hU0 hown hK hM rfl 9 (by decide) w14 h dX0_become_141 (fun r67 gr67 h => ?_)
  refine lv_iconst hx hb dX0_become_144 kI_0 ?_
  refine lv_bipush hx hb dX0_become_145 kB_8 ?_
  refine m_copy hx hb (hml.trans hl.1.symm) hown w2 w3 w4 w5 hK hM hL h (Nat.le_of_ble_eq_true rfl) (Nat.le_of_ble_eq_true rfl) dX0_become_147 (fun t68 H locs h hM hL => ?_)
  refine lv_aload_n hx hb dX0_become_150 rfl (lv_at hl 0 rfl) ?_
  refine lv_aload_n hx hb dX0_become_151 rfl (lv_at hl 1 rfl) ?_
  refine m_getI (ci := 0) hx hb hU0 hown hK hM rfl 11 (by decide) w15 h dX0_become_152 (fun v69 gv69 h => ?_)
  refine m_put (ci := 0) hx hb hU0 tyX0 tyX0_ok nmX0 hown hK hM hL rfl 11 (by decide) w15 rfl rfl rfl h dX0_become_155 (fun t70 H locs h hM hL => ?_)
  refine lv_aload_n hx hb dX0_become_158 rfl (lv_at hl 0 rfl) ?_
  refine lv_aload_n hx hb dX0_become_159 rfl (lv_at hl 1 rfl) ?_
  refine m_getI (ci := 0) hx hb hU0 hown hK hM rfl 12 (by decide) w16 h dX0_become_160 (fun v71 gv71 h => ?_)
  refine m_put (ci := 0) hx hb hU0 tyX0 tyX0_ok nmX0 hown hK hM hL rfl 12 (by decide) w16 rfl rfl rfl h dX0_become_163 (fun t72 H locs h hM hL => ?_)
  refine lv_aload_n hx hb dX0_become_166 rfl (lv_at hl 0 rfl) ?_
  refine lv_aload_n hx hb dX0_become_167 rfl (lv_at hl 1 rfl) ?_
  refine m_getI (ci := 0) hx hb hU0 hown hK hM rfl 13 (by decide) w17 h dX0_become_168 (fun v73 gv73 h => ?_)
  refine m_put (ci := 0) hx hb hU0 tyX0 tyX0_ok nmX0 hown hK hM hL rfl 13 (by decide) w17 rfl rfl rfl h dX0_become_171 (fun t74 H locs h hM hL => ?_)
  refine lv_aload_n hx hb dX0_become_174 rfl (lv_at hl 0 rfl) ?_
  refine lv_aload_n hx hb dX0_become_175 rfl (lv_at hl 1 rfl) ?_
  refine m_getR (ci := 0) hx hb hU0 hown hK hM rfl 14 (by decide) w18 h dX0_become_176 (fun r75 gr75 h => ?_)
  refine m_put (ci := 0) hx hb hU0 tyX0 tyX0_ok nmX0 hown hK hM hL rfl 14 (by decide) w18 rfl rfl rfl h dX0_become_179 (fun t76 H locs h hM hL => ?_)
  subst hQ
  cases h
  exact m_vret hx hb hr hM hL dX0_become_182 hlocks
abbrev rm_X5_isBelow : Room := { frames := 0, cells := 0, slots := 0, locals := 0 }
theorem z_X5_isBelow (x0 x1 : Int32) : narrow .boolean (.int (f_X5_isBelow x0 x1)) = .int (f_X5_isBelow x0 x1) := by
  rw [f_X5_isBelow.eq_1]
  try dsimp only [vl]
  (repeat' split) <;> first | rfl
set_option maxHeartbeats 4000000 in
set_option maxRecDepth 100000 in
theorem c_X5_isBelow (l : Launch) (G : mG) (x0 : Int32) (x1 : Int32) {σ : mS} : Met l yX5_isBelow wsX5_isBelow rm_X5_isBelow (va_Pc [.int x0, .int x1] (mB G σ)) (mQ G (.returned (some (.int (f_X5_isBelow x0 x1)))) (σ)) 0 0 (mF G) := by
  obtain ⟨z, h⟩ : ∃ z, f_X5_isBelow x0 x1 = z := ⟨_, rfl⟩
  rw [h]
  refine m_start (cc := cX5_isBelow) (maxL := 2) (ret := (some .boolean)) (by decide) rfl [.int x0, .int x1] (Nat.le_of_ble_eq_true rfl) ?_
  intro p e s m args below meth c ls hx hb hr hml hown hts hlocks hnm hK hM hl
  have hown : s.vm.findClass RX5 = some m.cls := hown
  have hnm : meth.name = "isBelow" := hnm
  obtain ⟨locs, hlocs⟩ : ∃ l : List Loc, l = [] := ⟨_, rfl⟩
  have hL : mL G locs := by rw [hlocs]; exact mL_nil G
  rw [← hlocs]
  generalize s.heap = H at hM ⊢
  have hl : lv_has ls 2 [(0, .int x0), (1, .int x1)] := hl
  obtain ⟨Q, hQ⟩ : ∃ Q, Q = MQ below (mQ G (.returned (some (.int z))) (σ)) args s 0 0 (mF G) := ⟨_, rfl⟩
  rw [← hQ]
  rw [f_X5_isBelow.eq_1] at h
  refine lv_iload_n hx hb dX5_isBelow_0 rfl (lv_at hl 0 rfl) ?_
  refine lv_if_lt (tgt := 13) hx hb dX5_isBelow_1 (by decide) (fun c3 => ?_) (fun c3 => ?_)
  · have h := (if_pos c3).symm.trans h
    refine lv_iconst hx hb dX5_isBelow_13 kI_0 ?_
    subst hQ
    subst h
    exact m_zret (x := (0 : Int32)) hx hb hr rfl hM hL dX5_isBelow_14 hlocks
  · have h := (if_neg c3).symm.trans h
    refine lv_iload_n hx hb dX5_isBelow_4 rfl (lv_at hl 0 rfl) ?_
    refine lv_iload_n hx hb dX5_isBelow_5 rfl (lv_at hl 1 rfl) ?_
    refine lv_icmp_ge (tgt := 13) hx hb dX5_isBelow_6 (by decide) (fun c4 => ?_) (fun c4 => ?_)
    · have h := (if_pos c4).symm.trans h
      refine lv_iconst hx hb dX5_isBelow_13 kI_0 ?_
      subst hQ
      subst h
      exact m_zret (x := (0 : Int32)) hx hb hr rfl hM hL dX5_isBelow_14 hlocks
    · have h := (if_neg c4).symm.trans h
      refine lv_iconst hx hb dX5_isBelow_9 kI_1 ?_
      refine lv_goto (tgt := 14) hx hb dX5_isBelow_10 (by decide) ?_
      subst hQ
      subst h
      exact m_zret (x := (1 : Int32)) hx hb hr rfl hM hL dX5_isBelow_14 hlocks
abbrev rm_X0_hasWitness : Room := { frames := 1, cells := 0, slots := 0, locals := 21 }
set_option maxHeartbeats 4000000 in
set_option maxRecDepth 100000 in
theorem c_X0_hasWitness (l : Launch) (G : mG) {h0 : Nat} {x1 : Int32} {σ : mS} {z : Int32} (h : f_X0_hasWitness h0 x1 σ = some z) : Met l yX0_hasWitness wsX0_hasWitness rm_X0_hasWitness (va_Pc [.ref h0, .int x1] (mB G σ)) (mQ G (.returned (some (.int z))) (σ)) 0 0 (mF G) := by
  refine m_start (cc := cX0_hasWitness) (maxL := 2) (ret := (some .boolean)) (by decide) rfl [.ref h0, .int x1] (Nat.le_of_ble_eq_true rfl) ?_
  intro p e s m args below meth c ls hx hb hr hml hown hts hlocks hnm hK hM hl
  have hown : s.vm.findClass RX0 = some m.cls := hown
  have hnm : meth.name = "hasWitness" := hnm
  obtain ⟨locs, hlocs⟩ : ∃ l : List Loc, l = [] := ⟨_, rfl⟩
  have hL : mL G locs := by rw [hlocs]; exact mL_nil G
  rw [← hlocs]
  generalize s.heap = H at hM ⊢
  have hl : lv_has ls 2 [(0, .ref h0), (1, .int x1)] := hl
  obtain ⟨Q, hQ⟩ : ∃ Q, Q = MQ below (mQ G (.returned (some (.int z))) (σ)) args s 0 0 (mF G) := ⟨_, rfl⟩
  rw [← hQ]
  have hU0 : ∀ w ∈ wsX00, w.before args s = true := fun w h => hts w (List.mem_cons_of_mem _ (List.mem_append_right _ h))
  have w1 := (hts (.fieldLink RX0 68 "HandkerchiefsDropped$Assize" "witnesses" "I") (List.mem_of_getElem? (i := 1) rfl))
  have w2 := (hts (.static yX5_isBelow) (List.mem_of_getElem? (i := 2) rfl))
  have w3 := (hts (.initialized RX5) (List.mem_of_getElem? (i := 3) rfl))
  rw [f_X0_hasWitness.eq_1] at h
  refine lv_iload_n hx hb dX0_hasWitness_0 rfl (lv_at hl 1 rfl) ?_
  refine lv_aload_n hx hb dX0_hasWitness_1 rfl (lv_at hl 0 rfl) ?_
  refine m_getI (ci := 0) hx hb hU0 hown hK hM rfl 13 (by decide) w1 h dX0_hasWitness_2 (fun v2 gv2 h => ?_)
  refine m_calli (va_runSN (As := [.int x1, .int v2]) (rest := []) ⟨hx, hb, hml, hown, hts⟩ (c_X5_isBelow l G x1 v2) ⟨(m_nest 2 hts gX0_hasWitness_X5_isBelow_n71 rfl rfl rfl hK (List.mem_of_getElem? (i := 22) rfl) w3 hd_X5_isBelow ⟨Nat.le_of_ble_eq_true rfl, Nat.le_of_ble_eq_true rfl⟩), w2, trivial⟩ (m_preS hK hM) rfl rfl hl.1 rfl (lv_room (Nat.le_of_ble_eq_true rfl)) dX0_hasWitness_5 ⟨Nat.le_of_ble_eq_true rfl, Nat.le_of_ble_eq_true rfl⟩) hL (fun H locs hM hL => ?_)
  subst hQ
  cases h
  exact m_zret (x := (f_X5_isBelow x1 v2)) hx hb hr (z_X5_isBelow _ _) hM hL dX0_hasWitness_8 hlocks
abbrev rm_X0_welcome : Room := { frames := 0, cells := 0, slots := 0, locals := 0 }
set_option maxHeartbeats 4000000 in
set_option maxRecDepth 100000 in
theorem c_X0_welcome (l : Launch) (G : mG) {h0 : Nat} {x1 : Int32} {x2 : Int32} {x3 : Int32} {σ : mS} {z : Int32 × mS} (h : f_X0_welcome h0 x1 x2 x3 σ = some z) : Met l yX0_welcome wsX0_welcome rm_X0_welcome (va_Pc [.ref h0, .int x1, .int x2, .int x3] (mB G σ)) (mQ G (.returned (some (.int z.1))) z.2) 0 0 (mF G) := by
  refine m_start (cc := cX0_welcome) (maxL := 5) (ret := (some .int)) (by decide) rfl [.ref h0, .int x1, .int x2, .int x3] (Nat.le_of_ble_eq_true rfl) ?_
  intro p e s m args below meth c ls hx hb hr hml hown hts hlocks hnm hK hM hl
  have hown : s.vm.findClass RX0 = some m.cls := hown
  have hnm : meth.name = "welcome" := hnm
  obtain ⟨locs, hlocs⟩ : ∃ l : List Loc, l = [] := ⟨_, rfl⟩
  have hL : mL G locs := by rw [hlocs]; exact mL_nil G
  rw [← hlocs]
  generalize s.heap = H at hM ⊢
  have hl : lv_has ls 5 [(0, .ref h0), (1, .int x1), (2, .int x2), (3, .int x3)] := hl
  obtain ⟨Q, hQ⟩ : ∃ Q, Q = MQ below (mQ G (.returned (some (.int z.1))) z.2) args s 0 0 (mF G) := ⟨_, rfl⟩
  rw [← hQ]
  have hU0 : ∀ w ∈ wsX00, w.before args s = true := fun w h => hts w (List.mem_cons_of_mem _ (List.mem_append_right _ h))
  have w1 := (hts (.fieldLink RX0 68 "HandkerchiefsDropped$Assize" "witnesses" "I") (List.mem_of_getElem? (i := 1) rfl))
  have w2 := (hts (.fieldLink RX0 18 "HandkerchiefsDropped$Assize" "kind" "[I") (List.mem_of_getElem? (i := 2) rfl))
  have w3 := (hts (.fieldLink RX0 21 "HandkerchiefsDropped$Assize" "more" "[I") (List.mem_of_getElem? (i := 3) rfl))
  have w4 := (hts (.fieldLink RX0 24 "HandkerchiefsDropped$Assize" "known" "[I") (List.mem_of_getElem? (i := 4) rfl))
  have w5 := (hts (.fieldLink RX0 27 "HandkerchiefsDropped$Assize" "face" "[I") (List.mem_of_getElem? (i := 5) rfl))
  have w6 := (hts (.fieldLink RX0 30 "HandkerchiefsDropped$Assize" "vain" "[I") (List.mem_of_getElem? (i := 6) rfl))
  rw [f_X0_welcome.eq_1] at h
  refine lv_aload_n hx hb dX0_welcome_0 rfl (lv_at hl 0 rfl) ?_
  refine m_getI (ci := 0) hx hb hU0 hown hK hM rfl 13 (by decide) w1 h dX0_welcome_1 (fun v14 gv14 h => ?_)
  refine lv_istore (lv' := [(4, .int v14), (0, .ref h0), (1, .int x1), (2, .int x2), (3, .int x3)]) hx hb dX0_welcome_4 hl (by decide) rfl (fun ls hl => ?_)
  refine lv_aload_n hx hb dX0_welcome_6 rfl (lv_at hl 1 rfl) ?_
  refine m_getR (ci := 0) hx hb hU0 hown hK hM rfl 2 (by decide) w2 h dX0_welcome_7 (fun r15 gr15 h => ?_)
  refine lv_iload hx hb dX0_welcome_10 (lv_at hl 0 rfl) ?_
  refine lv_iload_n hx hb dX0_welcome_12 rfl (lv_at hl 2 rfl) ?_
  refine lv_bipush hx hb dX0_welcome_13 kB_10 ?_
  refine lv_idiv hx hb dX0_welcome_15 (by decide) ?_
  refine m_iast hx hb hK hM hL h dX0_welcome_16 (fun t16 H locs h hM hL => ?_)
  refine lv_aload_n hx hb dX0_welcome_17 rfl (lv_at hl 1 rfl) ?_
  refine m_getR (ci := 0) hx hb hU0 hown hK hM rfl 3 (by decide) w3 h dX0_welcome_18 (fun r17 gr17 h => ?_)
  refine lv_iload hx hb dX0_welcome_21 (lv_at hl 0 rfl) ?_
  refine lv_iload_n hx hb dX0_welcome_23 rfl (lv_at hl 2 rfl) ?_
  refine lv_bipush hx hb dX0_welcome_24 kB_10 ?_
  refine lv_irem hx hb dX0_welcome_26 (by decide) ?_
  refine m_iast hx hb hK hM hL h dX0_welcome_27 (fun t18 H locs h hM hL => ?_)
  refine lv_aload_n hx hb dX0_welcome_28 rfl (lv_at hl 1 rfl) ?_
  refine m_getR (ci := 0) hx hb hU0 hown hK hM rfl 4 (by decide) w4 h dX0_welcome_29 (fun r19 gr19 h => ?_)
  refine lv_iload hx hb dX0_welcome_32 (lv_at hl 0 rfl) ?_
  refine lv_iload_n hx hb dX0_welcome_34 rfl (lv_at hl 3 rfl) ?_
  refine m_iast hx hb hK hM hL h dX0_welcome_35 (fun t20 H locs h hM hL => ?_)
  refine lv_aload_n hx hb dX0_welcome_36 rfl (lv_at hl 1 rfl) ?_
  refine m_getR (ci := 0) hx hb hU0 hown hK hM rfl 5 (by decide) w5 h dX0_welcome_37 (fun r21 gr21 h => ?_)
  refine lv_iload hx hb dX0_welcome_40 (lv_at hl 0 rfl) ?_
  refine lv_iload_n hx hb dX0_welcome_42 rfl (lv_at hl 4 rfl) ?_
  refine m_iast hx hb hK hM hL h dX0_welcome_43 (fun t22 H locs h hM hL => ?_)
  refine lv_aload_n hx hb dX0_welcome_44 rfl (lv_at hl 1 rfl) ?_
  refine m_getR (ci := 0) hx hb hU0 hown hK hM rfl 6 (by decide) w6 h dX0_welcome_45 (fun r23 gr23 h => ?_)
  refine lv_iload hx hb dX0_welcome_48 (lv_at hl 0 rfl) ?_
  refine lv_iconst hx hb dX0_welcome_50 kI_0 ?_
  refine m_iast hx hb hK hM hL h dX0_welcome_51 (fun t24 H locs h hM hL => ?_)
  refine lv_aload_n hx hb dX0_welcome_52 rfl (lv_at hl 1 rfl) ?_
  refine lv_dup hx hb dX0_welcome_53 rfl ?_
  refine m_getI (ci := 0) hx hb hU0 hown hK hM rfl 13 (by decide) w1 h dX0_welcome_54 (fun v25 gv25 h => ?_)
  refine lv_iconst hx hb dX0_welcome_57 kI_1 ?_
  refine lv_iadd hx hb dX0_welcome_58 ?_
  refine m_put (ci := 0) hx hb hU0 tyX0 tyX0_ok nmX0 hown hK hM hL rfl 13 (by decide) w1 rfl rfl rfl h dX0_welcome_59 (fun t26 H locs h hM hL => ?_)
  refine lv_iload hx hb dX0_welcome_62 (lv_at hl 0 rfl) ?_
  subst hQ
  cases h
  exact m_iret hx hb hr hM hL dX0_welcome_64 hlocks
abbrev rm_X0_isAdmitted : Room := { frames := 0, cells := 0, slots := 0, locals := 0 }
set_option maxHeartbeats 4000000 in
set_option maxRecDepth 100000 in
theorem c_X0_isAdmitted (l : Launch) (G : mG) {h0 : Nat} {x1 : Int32} {σ : mS} {z : Int32} (h : f_X0_isAdmitted h0 x1 σ = some z) : Met l yX0_isAdmitted wsX0_isAdmitted rm_X0_isAdmitted (va_Pc [.ref h0, .int x1] (mB G σ)) (mQ G (.returned (some (.int z))) (σ)) 0 0 (mF G) := by
  refine m_start (cc := cX0_isAdmitted) (maxL := 2) (ret := (some .boolean)) (by decide) rfl [.ref h0, .int x1] (Nat.le_of_ble_eq_true rfl) ?_
  intro p e s m args below meth c ls hx hb hr hml hown hts hlocks hnm hK hM hl
  have hown : s.vm.findClass RX0 = some m.cls := hown
  have hnm : meth.name = "isAdmitted" := hnm
  obtain ⟨locs, hlocs⟩ : ∃ l : List Loc, l = [] := ⟨_, rfl⟩
  have hL : mL G locs := by rw [hlocs]; exact mL_nil G
  rw [← hlocs]
  generalize s.heap = H at hM ⊢
  have hl : lv_has ls 2 [(0, .ref h0), (1, .int x1)] := hl
  obtain ⟨Q, hQ⟩ : ∃ Q, Q = MQ below (mQ G (.returned (some (.int z))) (σ)) args s 0 0 (mF G) := ⟨_, rfl⟩
  rw [← hQ]
  have hU0 : ∀ w ∈ wsX00, w.before args s = true := fun w h => hts w (List.mem_cons_of_mem _ (List.mem_append_right _ h))
  have w1 := (hts (.fieldLink RX0 61 "HandkerchiefsDropped$Assize" "admitted" "I") (List.mem_of_getElem? (i := 1) rfl))
  rw [f_X0_isAdmitted.eq_1] at h
  refine lv_aload_n hx hb dX0_isAdmitted_0 rfl (lv_at hl 0 rfl) ?_
  refine m_getI (ci := 0) hx hb hU0 hown hK hM rfl 11 (by decide) w1 h dX0_isAdmitted_1 (fun v3 gv3 h => ?_)
  refine lv_iload_n hx hb dX0_isAdmitted_4 rfl (lv_at hl 1 rfl) ?_
  refine lv_ishr hx hb dX0_isAdmitted_5 ?_
  refine lv_iconst hx hb dX0_isAdmitted_6 kI_1 ?_
  refine lv_iand hx hb dX0_isAdmitted_7 ?_
  refine lv_iconst hx hb dX0_isAdmitted_8 kI_1 ?_
  refine lv_icmp_ne (tgt := 16) hx hb dX0_isAdmitted_9 (by decide) (fun c4 => ?_) (fun c4 => ?_)
  · have h := (if_neg c4).symm.trans h
    refine lv_iconst hx hb dX0_isAdmitted_16 kI_0 ?_
    subst hQ
    cases h
    exact m_zret (x := (0 : Int32)) hx hb hr rfl hM hL dX0_isAdmitted_17 hlocks
  · have h := (if_pos c4).symm.trans h
    refine lv_iconst hx hb dX0_isAdmitted_12 kI_1 ?_
    refine lv_goto (tgt := 17) hx hb dX0_isAdmitted_13 (by decide) ?_
    subst hQ
    cases h
    exact m_zret (x := (1 : Int32)) hx hb hr rfl hM hL dX0_isAdmitted_17 hlocks
abbrev rm_X0_weightOf : Room := { frames := 0, cells := 0, slots := 0, locals := 0 }
set_option maxHeartbeats 4000000 in
set_option maxRecDepth 100000 in
theorem c_X0_weightOf (l : Launch) (G : mG) {h0 : Nat} {x1 : Int32} {σ : mS} {z : Int32} (h : f_X0_weightOf h0 x1 σ = some z) : Met l yX0_weightOf wsX0_weightOf rm_X0_weightOf (va_Pc [.ref h0, .int x1] (mB G σ)) (mQ G (.returned (some (.int z))) (σ)) 0 0 (mF G) := by
  refine m_start (cc := cX0_weightOf) (maxL := 4) (ret := (some .int)) (by decide) rfl [.ref h0, .int x1] (Nat.le_of_ble_eq_true rfl) ?_
  intro p e s m args below meth c ls hx hb hr hml hown hts hlocks hnm hK hM hl
  have hown : s.vm.findClass RX0 = some m.cls := hown
  have hnm : meth.name = "weightOf" := hnm
  obtain ⟨locs, hlocs⟩ : ∃ l : List Loc, l = [] := ⟨_, rfl⟩
  have hL : mL G locs := by rw [hlocs]; exact mL_nil G
  rw [← hlocs]
  generalize s.heap = H at hM ⊢
  have hl : lv_has ls 4 [(0, .ref h0), (1, .int x1)] := hl
  obtain ⟨Q, hQ⟩ : ∃ Q, Q = MQ below (mQ G (.returned (some (.int z))) (σ)) args s 0 0 (mF G) := ⟨_, rfl⟩
  rw [← hQ]
  have hU0 : ∀ w ∈ wsX00, w.before args s = true := fun w h => hts w (List.mem_cons_of_mem _ (List.mem_append_right _ h))
  have w1 := (hts (.fieldLink RX0 9 "HandkerchiefsDropped$Assize" "weights" "[I") (List.mem_of_getElem? (i := 1) rfl))
  have hN4 : ∀ (n : Nat) (h0 : Nat) (x1 : Int32) (x2 : Int32) (x3 : Int32), f_X0_weightOf_4 σ n h0 x1 x2 x3 = some z → ∀ (H : Heap) (locs : List Loc) (ls : Array Slot), mP G σ H → mL G locs → lv_has ls 4 [(0, .ref h0), (1, .int x1), (2, .int x2), (3, .int x3)] → W p l e rm_X0_weightOf s m args below meth c H locs 0 0 Q (F0 m 4 ls []) := by
    intro n
    induction n with
    | zero =>
      intro h0 x1 x2 x3 h
      exact nomatch (show (none : Option Int32) = some z from h)
    | succ n ih =>
      intro h0 x1 x2 x3 h H locs ls hM hL hl
      rw [f_X0_weightOf_4.eq_2] at h
      refine lv_iload_n hx hb dX0_weightOf_4 rfl (lv_at hl 3 rfl) ?_
      refine lv_bipush hx hb dX0_weightOf_5 kB_10 ?_
      refine lv_icmp_ge (tgt := 38) hx hb dX0_weightOf_7 (by decide) (fun c9 => ?_) (fun c9 => ?_)
      · have h := (if_pos c9).symm.trans h
        refine lv_iload_n hx hb dX0_weightOf_38 rfl (lv_at hl 2 rfl) ?_
        subst hQ
        cases h
        exact m_iret hx hb hr hM hL dX0_weightOf_39 hlocks
      · have h := (if_neg c9).symm.trans h
        refine lv_iload_n hx hb dX0_weightOf_10 rfl (lv_at hl 2 rfl) ?_
        refine lv_iload_n hx hb dX0_weightOf_11 rfl (lv_at hl 1 rfl) ?_
        refine lv_iload_n hx hb dX0_weightOf_12 rfl (lv_at hl 3 rfl) ?_
        refine lv_ishr hx hb dX0_weightOf_13 ?_
        refine lv_iconst hx hb dX0_weightOf_14 kI_1 ?_
        refine lv_iand hx hb dX0_weightOf_15 ?_
        refine lv_iconst hx hb dX0_weightOf_16 kI_1 ?_
        refine lv_icmp_ne (tgt := 29) hx hb dX0_weightOf_17 (by decide) (fun c10 => ?_) (fun c10 => ?_)
        · have h := (if_neg c10).symm.trans h
          refine lv_iconst hx hb dX0_weightOf_29 kI_0 ?_
          refine lv_iadd hx hb dX0_weightOf_30 ?_
          refine lv_topi (fun v11 ev11 => ?_)
          have h := vl_at ev11 h
          refine lv_istore_n (lv' := [(2, .int v11), (0, .ref h0), (1, .int x1), (3, .int x3)]) hx hb dX0_weightOf_31 rfl hl (by decide) rfl (fun ls hl => ?_)
          obtain ⟨v12, ev12⟩ : ∃ y : Int32, y = x3 + (1 : Int32) := ⟨_, rfl⟩
          have h := vl_at ev12 h
          refine lv_iinc (v := v12) (lv' := [(3, .int v12), (2, .int v11), (0, .ref h0), (1, .int x1)]) hx hb dX0_weightOf_32 hl (k := 3) rfl (by rw [ev12, kI_1]) (by decide) rfl (fun ls hl => ?_)
          refine lv_goto (tgt := 4) hx hb dX0_weightOf_35 (by decide) ?_
          exact ih _ _ _ _ h _ _ _ hM hL (lv_sub hl [2, 3, 1, 0] rfl)
        · have h := (if_pos c10).symm.trans h
          refine lv_aload_n hx hb dX0_weightOf_20 rfl (lv_at hl 0 rfl) ?_
          refine m_getR (ci := 0) hx hb hU0 hown hK hM rfl 0 (by decide) w1 h dX0_weightOf_21 (fun r13 gr13 h => ?_)
          refine lv_iload_n hx hb dX0_weightOf_24 rfl (lv_at hl 3 rfl) ?_
          refine m_iald hx hb hK hM h dX0_weightOf_25 (fun v14 gv14 h => ?_)
          refine lv_goto (tgt := 30) hx hb dX0_weightOf_26 (by decide) ?_
          refine lv_iadd hx hb dX0_weightOf_30 ?_
          refine lv_topi (fun v15 ev15 => ?_)
          have h := vl_at ev15 h
          refine lv_istore_n (lv' := [(2, .int v15), (0, .ref h0), (1, .int x1), (3, .int x3)]) hx hb dX0_weightOf_31 rfl hl (by decide) rfl (fun ls hl => ?_)
          obtain ⟨v16, ev16⟩ : ∃ y : Int32, y = x3 + (1 : Int32) := ⟨_, rfl⟩
          have h := vl_at ev16 h
          refine lv_iinc (v := v16) (lv' := [(3, .int v16), (2, .int v15), (0, .ref h0), (1, .int x1)]) hx hb dX0_weightOf_32 hl (k := 3) rfl (by rw [ev16, kI_1]) (by decide) rfl (fun ls hl => ?_)
          refine lv_goto (tgt := 4) hx hb dX0_weightOf_35 (by decide) ?_
          exact ih _ _ _ _ h _ _ _ hM hL (lv_sub hl [2, 3, 1, 0] rfl)
  rw [f_X0_weightOf.eq_1] at h
  refine lv_iconst hx hb dX0_weightOf_0 kI_0 ?_
  refine lv_istore_n (lv' := [(2, .int (0 : Int32)), (0, .ref h0), (1, .int x1)]) hx hb dX0_weightOf_1 rfl hl (by decide) rfl (fun ls hl => ?_)
  refine lv_iconst hx hb dX0_weightOf_2 kI_0 ?_
  refine lv_istore_n (lv' := [(3, .int (0 : Int32)), (2, .int (0 : Int32)), (0, .ref h0), (1, .int x1)]) hx hb dX0_weightOf_3 rfl hl (by decide) rfl (fun ls hl => ?_)
  refine hN4 _ _ _ _ _ h _ _ _ hM hL (lv_sub hl [2, 3, 1, 0] rfl)
abbrev rm_X0_verdict : Room := { frames := 1, cells := 0, slots := 0, locals := 23 }
set_option maxHeartbeats 4000000 in
set_option maxRecDepth 100000 in
theorem c_X0_verdict (l : Launch) (G : mG) {h0 : Nat} {σ : mS} {z : Int32} (h : f_X0_verdict h0 σ = some z) : Met l yX0_verdict wsX0_verdict rm_X0_verdict (va_Pc [.ref h0] (mB G σ)) (mQ G (.returned (some (.int z))) (σ)) 0 0 (mF G) := by
  refine m_start (cc := cX0_verdict) (maxL := 1) (ret := (some .int)) (by decide) rfl [.ref h0] (Nat.le_of_ble_eq_true rfl) ?_
  intro p e s m args below meth c ls hx hb hr hml hown hts hlocks hnm hK hM hl
  have hown : s.vm.findClass RX0 = some m.cls := hown
  have hnm : meth.name = "verdict" := hnm
  obtain ⟨locs, hlocs⟩ : ∃ l : List Loc, l = [] := ⟨_, rfl⟩
  have hL : mL G locs := by rw [hlocs]; exact mL_nil G
  rw [← hlocs]
  generalize s.heap = H at hM ⊢
  have hl : lv_has ls 1 [(0, .ref h0)] := hl
  obtain ⟨Q, hQ⟩ : ∃ Q, Q = MQ below (mQ G (.returned (some (.int z))) (σ)) args s 0 0 (mF G) := ⟨_, rfl⟩
  rw [← hQ]
  have hU0 : ∀ w ∈ wsX00, w.before args s = true := fun w h => hts w (List.mem_cons_of_mem _ (List.mem_append_right _ h))
  have w1 := (hts (.fieldLink RX0 61 "HandkerchiefsDropped$Assize" "admitted" "I") (List.mem_of_getElem? (i := 1) rfl))
  rw [f_X0_verdict.eq_1] at h
  refine lv_aload_n hx hb dX0_verdict_0 rfl (lv_at hl 0 rfl) ?_
  refine lv_aload_n hx hb dX0_verdict_1 rfl (lv_at hl 0 rfl) ?_
  refine m_getI (ci := 0) hx hb hU0 hown hK hM rfl 11 (by decide) w1 h dX0_verdict_2 (fun v4 gv4 h => ?_)
  obtain ⟨o5, h⟩ := oi_some h
  obtain ⟨q6, hq6, h⟩ := ob_some h
  refine m_calli (va_runV (As := [.int v4]) (rest := []) ⟨hx, hb, hml, hown, hts⟩ (c_X0_weightOf l G hq6) (cwV 1 hts gX0_verdict_X0_weightOf rfl rfl rfl hd_X0_weightOfv ⟨Nat.le_of_ble_eq_true rfl, Nat.le_of_ble_eq_true rfl⟩) (m_preV (ci := 0) hK hM rfl o5) rfl rfl hl.1 rfl (lv_room (Nat.le_of_ble_eq_true rfl)) dX0_verdict_5 ⟨Nat.le_of_ble_eq_true rfl, Nat.le_of_ble_eq_true rfl⟩) hL (fun H locs hM hL => ?_)
  subst hQ
  cases h
  exact m_iret hx hb hr hM hL dX0_verdict_8 hlocks
abbrev rm_X0_lies : Room := { frames := 1, cells := 0, slots := 0, locals := 21 }
set_option maxHeartbeats 4000000 in
set_option maxRecDepth 100000 in
theorem c_X0_lies (l : Launch) (G : mG) {h0 : Nat} {x1 : Int32} {σ : mS} {z : Int32} (h : f_X0_lies h0 x1 σ = some z) : Met l yX0_lies wsX0_lies rm_X0_lies (va_Pc [.ref h0, .int x1] (mB G σ)) (mQ G (.returned (some (.int z))) (σ)) 0 0 (mF G) := by
  refine m_start (cc := cX0_lies) (maxL := 2) (ret := (some .boolean)) (by decide) rfl [.ref h0, .int x1] (Nat.le_of_ble_eq_true rfl) ?_
  intro p e s m args below meth c ls hx hb hr hml hown hts hlocks hnm hK hM hl
  have hown : s.vm.findClass RX0 = some m.cls := hown
  have hnm : meth.name = "lies" := hnm
  obtain ⟨locs, hlocs⟩ : ∃ l : List Loc, l = [] := ⟨_, rfl⟩
  have hL : mL G locs := by rw [hlocs]; exact mL_nil G
  rw [← hlocs]
  generalize s.heap = H at hM ⊢
  have hl : lv_has ls 2 [(0, .ref h0), (1, .int x1)] := hl
  obtain ⟨Q, hQ⟩ : ∃ Q, Q = MQ below (mQ G (.returned (some (.int z))) (σ)) args s 0 0 (mF G) := ⟨_, rfl⟩
  rw [← hQ]
  have w0 := (hts (.static yX5_isBelow) (List.mem_of_getElem? (i := 2) rfl))
  have w1 := (hts (.initialized RX5) (List.mem_of_getElem? (i := 3) rfl))
  have hU0 : ∀ w ∈ wsX00, w.before args s = true := fun w h => hts w (List.mem_cons_of_mem _ (List.mem_append_right _ h))
  have w3 := (hts (.fieldLink RX0 33 "HandkerchiefsDropped$Assize" "owner" "[I") (List.mem_of_getElem? (i := 1) rfl))
  rw [f_X0_lies.eq_1] at h
  refine lv_iload_n hx hb dX0_lies_0 rfl (lv_at hl 1 rfl) ?_
  refine lv_bipush hx hb dX0_lies_1 kB_8 ?_
  refine m_calli (va_runSN (As := [.int x1, .int (8 : Int32)]) (rest := []) ⟨hx, hb, hml, hown, hts⟩ (c_X5_isBelow l G x1 (8 : Int32)) ⟨(m_nest 2 hts gX0_lies_X5_isBelow_n71 rfl rfl rfl hK (List.mem_of_getElem? (i := 22) rfl) w1 hd_X5_isBelow ⟨Nat.le_of_ble_eq_true rfl, Nat.le_of_ble_eq_true rfl⟩), w0, trivial⟩ (m_preS hK hM) rfl rfl hl.1 rfl (lv_room (Nat.le_of_ble_eq_true rfl)) dX0_lies_3 ⟨Nat.le_of_ble_eq_true rfl, Nat.le_of_ble_eq_true rfl⟩) hL (fun H locs hM hL => ?_)
  refine lv_if_eq (tgt := 23) hx hb dX0_lies_6 (by decide) (fun c5 => ?_) (fun c5 => ?_)
  · have h := (if_pos c5).symm.trans h
    refine lv_iconst hx hb dX0_lies_23 kI_0 ?_
    subst hQ
    cases h
    exact m_zret (x := (0 : Int32)) hx hb hr rfl hM hL dX0_lies_24 hlocks
  · have h := (if_neg c5).symm.trans h
    refine lv_aload_n hx hb dX0_lies_9 rfl (lv_at hl 0 rfl) ?_
    refine m_getR (ci := 0) hx hb hU0 hown hK hM rfl 7 (by decide) w3 h dX0_lies_10 (fun r6 gr6 h => ?_)
    refine lv_iload_n hx hb dX0_lies_13 rfl (lv_at hl 1 rfl) ?_
    refine m_iald hx hb hK hM h dX0_lies_14 (fun v7 gv7 h => ?_)
    refine lv_iconst hx hb dX0_lies_15 kI_m1 ?_
    refine lv_icmp_eq (tgt := 23) hx hb dX0_lies_16 (by decide) (fun c8 => ?_) (fun c8 => ?_)
    · have h := (if_pos c8).symm.trans h
      refine lv_iconst hx hb dX0_lies_23 kI_0 ?_
      subst hQ
      cases h
      exact m_zret (x := (0 : Int32)) hx hb hr rfl hM hL dX0_lies_24 hlocks
    · have h := (if_neg c8).symm.trans h
      refine lv_iconst hx hb dX0_lies_19 kI_1 ?_
      refine lv_goto (tgt := 24) hx hb dX0_lies_20 (by decide) ?_
      subst hQ
      cases h
      exact m_zret (x := (1 : Int32)) hx hb hr rfl hM hL dX0_lies_24 hlocks
abbrev rm_X0_lying : Room := { frames := 0, cells := 0, slots := 0, locals := 0 }
set_option maxHeartbeats 4000000 in
set_option maxRecDepth 100000 in
theorem c_X0_lying (l : Launch) (G : mG) {h0 : Nat} {σ : mS} {z : Int32} (h : f_X0_lying h0 σ = some z) : Met l yX0_lying wsX0_lying rm_X0_lying (va_Pc [.ref h0] (mB G σ)) (mQ G (.returned (some (.int z))) (σ)) 0 0 (mF G) := by
  refine m_start (cc := cX0_lying) (maxL := 3) (ret := (some .int)) (by decide) rfl [.ref h0] (Nat.le_of_ble_eq_true rfl) ?_
  intro p e s m args below meth c ls hx hb hr hml hown hts hlocks hnm hK hM hl
  have hown : s.vm.findClass RX0 = some m.cls := hown
  have hnm : meth.name = "lying" := hnm
  obtain ⟨locs, hlocs⟩ : ∃ l : List Loc, l = [] := ⟨_, rfl⟩
  have hL : mL G locs := by rw [hlocs]; exact mL_nil G
  rw [← hlocs]
  generalize s.heap = H at hM ⊢
  have hl : lv_has ls 3 [(0, .ref h0)] := hl
  obtain ⟨Q, hQ⟩ : ∃ Q, Q = MQ below (mQ G (.returned (some (.int z))) (σ)) args s 0 0 (mF G) := ⟨_, rfl⟩
  rw [← hQ]
  have hU0 : ∀ w ∈ wsX00, w.before args s = true := fun w h => hts w (List.mem_cons_of_mem _ (List.mem_append_right _ h))
  have w1 := (hts (.fieldLink RX0 33 "HandkerchiefsDropped$Assize" "owner" "[I") (List.mem_of_getElem? (i := 1) rfl))
  have hN4 : ∀ (n : Nat) (h0 : Nat) (x1 : Int32) (x2 : Int32), f_X0_lying_4 σ n h0 x1 x2 = some z → ∀ (H : Heap) (locs : List Loc) (ls : Array Slot), mP G σ H → mL G locs → lv_has ls 3 [(0, .ref h0), (1, .int x1), (2, .int x2)] → W p l e rm_X0_lying s m args below meth c H locs 0 0 Q (F0 m 4 ls []) := by
    intro n
    induction n with
    | zero =>
      intro h0 x1 x2 h
      exact nomatch (show (none : Option Int32) = some z from h)
    | succ n ih =>
      intro h0 x1 x2 h H locs ls hM hL hl
      rw [f_X0_lying_4.eq_2] at h
      refine lv_iload_n hx hb dX0_lying_4 rfl (lv_at hl 2 rfl) ?_
      refine lv_bipush hx hb dX0_lying_5 kB_8 ?_
      refine lv_icmp_ge (tgt := 34) hx hb dX0_lying_7 (by decide) (fun c8 => ?_) (fun c8 => ?_)
      · have h := (if_pos c8).symm.trans h
        refine lv_iload_n hx hb dX0_lying_34 rfl (lv_at hl 1 rfl) ?_
        subst hQ
        cases h
        exact m_iret hx hb hr hM hL dX0_lying_35 hlocks
      · have h := (if_neg c8).symm.trans h
        refine lv_iload_n hx hb dX0_lying_10 rfl (lv_at hl 1 rfl) ?_
        refine lv_aload_n hx hb dX0_lying_11 rfl (lv_at hl 0 rfl) ?_
        refine m_getR (ci := 0) hx hb hU0 hown hK hM rfl 7 (by decide) w1 h dX0_lying_12 (fun r9 gr9 h => ?_)
        refine lv_iload_n hx hb dX0_lying_15 rfl (lv_at hl 2 rfl) ?_
        refine m_iald hx hb hK hM h dX0_lying_16 (fun v10 gv10 h => ?_)
        refine lv_iconst hx hb dX0_lying_17 kI_m1 ?_
        suffices hJ : ∀ (v12 : Int32) (ls : Array Slot), v12 = (if v10 = (-1 : Int32) then (0 : Int32) else (1 : Int32)) → lv_has ls 3 [(0, .ref h0), (2, .int x2)] → W p l e rm_X0_lying s m args below meth c H locs 0 0 Q (F0 m 26 ls [.int v12, .int x1]) by
          refine lv_icmp_eq (tgt := 25) hx hb dX0_lying_18 (by decide) (fun c11 => ?_) (fun c11 => ?_)
          · refine lv_iconst hx hb dX0_lying_25 kI_0 ?_
            exact hJ _ _ (((if_pos c11).trans rfl).symm) (lv_sub hl [0, 2] rfl)
          · refine lv_iconst hx hb dX0_lying_21 kI_1 ?_
            refine lv_goto (tgt := 26) hx hb dX0_lying_22 (by decide) ?_
            exact hJ _ _ (((if_neg c11).trans rfl).symm) (lv_sub hl [0, 2] rfl)
        intro v12 ls ev12 hl
        have h := vl_at ev12 h
        refine lv_iadd hx hb dX0_lying_26 ?_
        refine lv_topi (fun v13 ev13 => ?_)
        have h := vl_at ev13 h
        refine lv_istore_n (lv' := [(1, .int v13), (0, .ref h0), (2, .int x2)]) hx hb dX0_lying_27 rfl hl (by decide) rfl (fun ls hl => ?_)
        obtain ⟨v14, ev14⟩ : ∃ y : Int32, y = x2 + (1 : Int32) := ⟨_, rfl⟩
        have h := vl_at ev14 h
        refine lv_iinc (v := v14) (lv' := [(2, .int v14), (1, .int v13), (0, .ref h0)]) hx hb dX0_lying_28 hl (k := 2) rfl (by rw [ev14, kI_1]) (by decide) rfl (fun ls hl => ?_)
        refine lv_goto (tgt := 4) hx hb dX0_lying_31 (by decide) ?_
        exact ih _ _ _ h _ _ _ hM hL (lv_sub hl [2, 1, 0] rfl)
  rw [f_X0_lying.eq_1] at h
  refine lv_iconst hx hb dX0_lying_0 kI_0 ?_
  refine lv_istore_n (lv' := [(1, .int (0 : Int32)), (0, .ref h0)]) hx hb dX0_lying_1 rfl hl (by decide) rfl (fun ls hl => ?_)
  refine lv_iconst hx hb dX0_lying_2 kI_0 ?_
  refine lv_istore_n (lv' := [(2, .int (0 : Int32)), (1, .int (0 : Int32)), (0, .ref h0)]) hx hb dX0_lying_3 rfl hl (by decide) rfl (fun ls hl => ?_)
  refine hN4 _ _ _ _ h _ _ _ hM hL (lv_sub hl [2, 1, 0] rfl)
abbrev rm_X0_linensOf : Room := { frames := 0, cells := 0, slots := 0, locals := 0 }
set_option maxHeartbeats 4000000 in
set_option maxRecDepth 100000 in
theorem c_X0_linensOf (l : Launch) (G : mG) {h0 : Nat} {x1 : Int32} {σ : mS} {z : Int32} (h : f_X0_linensOf h0 x1 σ = some z) : Met l yX0_linensOf wsX0_linensOf rm_X0_linensOf (va_Pc [.ref h0, .int x1] (mB G σ)) (mQ G (.returned (some (.int z))) (σ)) 0 0 (mF G) := by
  refine m_start (cc := cX0_linensOf) (maxL := 4) (ret := (some .int)) (by decide) rfl [.ref h0, .int x1] (Nat.le_of_ble_eq_true rfl) ?_
  intro p e s m args below meth c ls hx hb hr hml hown hts hlocks hnm hK hM hl
  have hown : s.vm.findClass RX0 = some m.cls := hown
  have hnm : meth.name = "linensOf" := hnm
  obtain ⟨locs, hlocs⟩ : ∃ l : List Loc, l = [] := ⟨_, rfl⟩
  have hL : mL G locs := by rw [hlocs]; exact mL_nil G
  rw [← hlocs]
  generalize s.heap = H at hM ⊢
  have hl : lv_has ls 4 [(0, .ref h0), (1, .int x1)] := hl
  obtain ⟨Q, hQ⟩ : ∃ Q, Q = MQ below (mQ G (.returned (some (.int z))) (σ)) args s 0 0 (mF G) := ⟨_, rfl⟩
  rw [← hQ]
  have hU0 : ∀ w ∈ wsX00, w.before args s = true := fun w h => hts w (List.mem_cons_of_mem _ (List.mem_append_right _ h))
  have w1 := (hts (.fieldLink RX0 33 "HandkerchiefsDropped$Assize" "owner" "[I") (List.mem_of_getElem? (i := 1) rfl))
  have hN4 : ∀ (n : Nat) (h0 : Nat) (x1 : Int32) (x2 : Int32) (x3 : Int32), f_X0_linensOf_4 σ n h0 x1 x2 x3 = some z → ∀ (H : Heap) (locs : List Loc) (ls : Array Slot), mP G σ H → mL G locs → lv_has ls 4 [(0, .ref h0), (1, .int x1), (2, .int x2), (3, .int x3)] → W p l e rm_X0_linensOf s m args below meth c H locs 0 0 Q (F0 m 4 ls []) := by
    intro n
    induction n with
    | zero =>
      intro h0 x1 x2 x3 h
      exact nomatch (show (none : Option Int32) = some z from h)
    | succ n ih =>
      intro h0 x1 x2 x3 h H locs ls hM hL hl
      rw [f_X0_linensOf_4.eq_2] at h
      refine lv_iload_n hx hb dX0_linensOf_4 rfl (lv_at hl 3 rfl) ?_
      refine lv_bipush hx hb dX0_linensOf_5 kB_8 ?_
      refine lv_icmp_ge (tgt := 36) hx hb dX0_linensOf_7 (by decide) (fun c8 => ?_) (fun c8 => ?_)
      · have h := (if_pos c8).symm.trans h
        refine lv_iload_n hx hb dX0_linensOf_36 rfl (lv_at hl 2 rfl) ?_
        subst hQ
        cases h
        exact m_iret hx hb hr hM hL dX0_linensOf_37 hlocks
      · have h := (if_neg c8).symm.trans h
        refine lv_iload_n hx hb dX0_linensOf_10 rfl (lv_at hl 2 rfl) ?_
        refine lv_aload_n hx hb dX0_linensOf_11 rfl (lv_at hl 0 rfl) ?_
        refine m_getR (ci := 0) hx hb hU0 hown hK hM rfl 7 (by decide) w1 h dX0_linensOf_12 (fun r9 gr9 h => ?_)
        refine lv_iload_n hx hb dX0_linensOf_15 rfl (lv_at hl 3 rfl) ?_
        refine m_iald hx hb hK hM h dX0_linensOf_16 (fun v10 gv10 h => ?_)
        refine lv_iload_n hx hb dX0_linensOf_17 rfl (lv_at hl 1 rfl) ?_
        suffices hJ : ∀ (v12 : Int32) (ls : Array Slot), v12 = (if v10 = x1 then ((1 : Int32) <<< (x3 &&& 31)) else (0 : Int32)) → lv_has ls 4 [(0, .ref h0), (1, .int x1), (3, .int x3)] → W p l e rm_X0_linensOf s m args below meth c H locs 0 0 Q (F0 m 28 ls [.int v12, .int x2]) by
          refine lv_icmp_ne (tgt := 27) hx hb dX0_linensOf_18 (by decide) (fun c11 => ?_) (fun c11 => ?_)
          · refine lv_iconst hx hb dX0_linensOf_27 kI_0 ?_
            exact hJ _ _ (((if_neg c11).trans rfl).symm) (lv_sub hl [0, 1, 3] rfl)
          · refine lv_iconst hx hb dX0_linensOf_21 kI_1 ?_
            refine lv_iload_n hx hb dX0_linensOf_22 rfl (lv_at hl 3 rfl) ?_
            refine lv_ishl hx hb dX0_linensOf_23 ?_
            refine lv_goto (tgt := 28) hx hb dX0_linensOf_24 (by decide) ?_
            exact hJ _ _ (((if_pos c11).trans rfl).symm) (lv_sub hl [0, 1, 3] rfl)
        intro v12 ls ev12 hl
        have h := vl_at ev12 h
        refine lv_ior hx hb dX0_linensOf_28 ?_
        refine lv_topi (fun v13 ev13 => ?_)
        have h := vl_at ev13 h
        refine lv_istore_n (lv' := [(2, .int v13), (0, .ref h0), (1, .int x1), (3, .int x3)]) hx hb dX0_linensOf_29 rfl hl (by decide) rfl (fun ls hl => ?_)
        obtain ⟨v14, ev14⟩ : ∃ y : Int32, y = x3 + (1 : Int32) := ⟨_, rfl⟩
        have h := vl_at ev14 h
        refine lv_iinc (v := v14) (lv' := [(3, .int v14), (2, .int v13), (0, .ref h0), (1, .int x1)]) hx hb dX0_linensOf_30 hl (k := 3) rfl (by rw [ev14, kI_1]) (by decide) rfl (fun ls hl => ?_)
        refine lv_goto (tgt := 4) hx hb dX0_linensOf_33 (by decide) ?_
        exact ih _ _ _ _ h _ _ _ hM hL (lv_sub hl [2, 3, 1, 0] rfl)
  rw [f_X0_linensOf.eq_1] at h
  refine lv_iconst hx hb dX0_linensOf_0 kI_0 ?_
  refine lv_istore_n (lv' := [(2, .int (0 : Int32)), (0, .ref h0), (1, .int x1)]) hx hb dX0_linensOf_1 rfl hl (by decide) rfl (fun ls hl => ?_)
  refine lv_iconst hx hb dX0_linensOf_2 kI_0 ?_
  refine lv_istore_n (lv' := [(3, .int (0 : Int32)), (2, .int (0 : Int32)), (0, .ref h0), (1, .int x1)]) hx hb dX0_linensOf_3 rfl hl (by decide) rfl (fun ls hl => ?_)
  refine hN4 _ _ _ _ _ h _ _ _ hM hL (lv_sub hl [2, 3, 1, 0] rfl)
abbrev rm_J6_bitCount : Room := { frames := 0, cells := 0, slots := 0, locals := 0 }
set_option maxHeartbeats 4000000 in
set_option maxRecDepth 100000 in
theorem c_J6_bitCount (l : Launch) (G : mG) (x0 : Int32) {σ : mS} : Met l yJ6_bitCount_0f7a4 wsJ6_bitCount_0f7a4 rm_J6_bitCount (va_Pc [.int x0] (mB G σ)) (mQ G (.returned (some (.int (f_J6_bitCount x0)))) (σ)) 0 0 (mF G) := by
  obtain ⟨z, h⟩ : ∃ z, f_J6_bitCount x0 = z := ⟨_, rfl⟩
  rw [h]
  refine m_start (cc := cJ6_bitCount_0f7a4) (maxL := 1) (ret := (some .int)) (by decide) rfl [.int x0] (Nat.le_of_ble_eq_true rfl) ?_
  intro p e s m args below meth c ls hx hb hr hml hown hts hlocks hnm hK hM hl
  have hown : s.vm.findClass RJ6 = some m.cls := hown
  have hnm : meth.name = "bitCount" := hnm
  obtain ⟨locs, hlocs⟩ : ∃ l : List Loc, l = [] := ⟨_, rfl⟩
  have hL : mL G locs := by rw [hlocs]; exact mL_nil G
  rw [← hlocs]
  generalize s.heap = H at hM ⊢
  have hl : lv_has ls 1 [(0, .int x0)] := hl
  obtain ⟨Q, hQ⟩ : ∃ Q, Q = MQ below (mQ G (.returned (some (.int z))) (σ)) args s 0 0 (mF G) := ⟨_, rfl⟩
  rw [← hQ]
  have w0 := (hts (.constant RJ6 265 (1431655765)) (List.mem_of_getElem? (i := 1) rfl))
  have w1 := (hts (.constant RJ6 266 (858993459)) (List.mem_of_getElem? (i := 2) rfl))
  have w2 := (hts (.constant RJ6 267 (252645135)) (List.mem_of_getElem? (i := 3) rfl))
  rw [f_J6_bitCount.eq_1] at h
  refine lv_iload_n hx hb dJ6_bitCount_0f7a4_0 rfl (lv_at hl 0 rfl) ?_
  refine lv_iload_n hx hb dJ6_bitCount_0f7a4_1 rfl (lv_at hl 0 rfl) ?_
  refine lv_iconst hx hb dJ6_bitCount_0f7a4_2 kI_1 ?_
  refine lv_iushr hx hb dJ6_bitCount_0f7a4_3 rfl ?_
  refine lv_ldcw hx hb hown w0 dJ6_bitCount_0f7a4_4 ?_
  refine lv_iand hx hb dJ6_bitCount_0f7a4_7 ?_
  refine lv_isub hx hb dJ6_bitCount_0f7a4_8 ?_
  refine lv_topi (fun v6 ev6 => ?_)
  have h := vl_at ev6 h
  refine lv_istore_n (lv' := [(0, .int v6)]) hx hb dJ6_bitCount_0f7a4_9 rfl hl (by decide) rfl (fun ls hl => ?_)
  refine lv_iload_n hx hb dJ6_bitCount_0f7a4_10 rfl (lv_at hl 0 rfl) ?_
  refine lv_ldcw hx hb hown w1 dJ6_bitCount_0f7a4_11 ?_
  refine lv_iand hx hb dJ6_bitCount_0f7a4_14 ?_
  refine lv_iload_n hx hb dJ6_bitCount_0f7a4_15 rfl (lv_at hl 0 rfl) ?_
  refine lv_iconst hx hb dJ6_bitCount_0f7a4_16 kI_2 ?_
  refine lv_iushr hx hb dJ6_bitCount_0f7a4_17 rfl ?_
  refine lv_ldcw hx hb hown w1 dJ6_bitCount_0f7a4_18 ?_
  refine lv_iand hx hb dJ6_bitCount_0f7a4_21 ?_
  refine lv_iadd hx hb dJ6_bitCount_0f7a4_22 ?_
  refine lv_topi (fun v7 ev7 => ?_)
  have h := vl_at ev7 h
  refine lv_istore_n (lv' := [(0, .int v7)]) hx hb dJ6_bitCount_0f7a4_23 rfl hl (by decide) rfl (fun ls hl => ?_)
  refine lv_iload_n hx hb dJ6_bitCount_0f7a4_24 rfl (lv_at hl 0 rfl) ?_
  refine lv_iload_n hx hb dJ6_bitCount_0f7a4_25 rfl (lv_at hl 0 rfl) ?_
  refine lv_iconst hx hb dJ6_bitCount_0f7a4_26 kI_4 ?_
  refine lv_iushr hx hb dJ6_bitCount_0f7a4_27 rfl ?_
  refine lv_iadd hx hb dJ6_bitCount_0f7a4_28 ?_
  refine lv_ldcw hx hb hown w2 dJ6_bitCount_0f7a4_29 ?_
  refine lv_iand hx hb dJ6_bitCount_0f7a4_32 ?_
  refine lv_topi (fun v8 ev8 => ?_)
  have h := vl_at ev8 h
  refine lv_istore_n (lv' := [(0, .int v8)]) hx hb dJ6_bitCount_0f7a4_33 rfl hl (by decide) rfl (fun ls hl => ?_)
  refine lv_iload_n hx hb dJ6_bitCount_0f7a4_34 rfl (lv_at hl 0 rfl) ?_
  refine lv_iload_n hx hb dJ6_bitCount_0f7a4_35 rfl (lv_at hl 0 rfl) ?_
  refine lv_bipush hx hb dJ6_bitCount_0f7a4_36 kB_8 ?_
  refine lv_iushr hx hb dJ6_bitCount_0f7a4_38 rfl ?_
  refine lv_iadd hx hb dJ6_bitCount_0f7a4_39 ?_
  refine lv_topi (fun v9 ev9 => ?_)
  have h := vl_at ev9 h
  refine lv_istore_n (lv' := [(0, .int v9)]) hx hb dJ6_bitCount_0f7a4_40 rfl hl (by decide) rfl (fun ls hl => ?_)
  refine lv_iload_n hx hb dJ6_bitCount_0f7a4_41 rfl (lv_at hl 0 rfl) ?_
  refine lv_iload_n hx hb dJ6_bitCount_0f7a4_42 rfl (lv_at hl 0 rfl) ?_
  refine lv_bipush hx hb dJ6_bitCount_0f7a4_43 kB_16 ?_
  refine lv_iushr hx hb dJ6_bitCount_0f7a4_45 rfl ?_
  refine lv_iadd hx hb dJ6_bitCount_0f7a4_46 ?_
  refine lv_topi (fun v10 ev10 => ?_)
  have h := vl_at ev10 h
  refine lv_istore_n (lv' := [(0, .int v10)]) hx hb dJ6_bitCount_0f7a4_47 rfl hl (by decide) rfl (fun ls hl => ?_)
  refine lv_iload_n hx hb dJ6_bitCount_0f7a4_48 rfl (lv_at hl 0 rfl) ?_
  refine lv_bipush hx hb dJ6_bitCount_0f7a4_49 kB_63 ?_
  refine lv_iand hx hb dJ6_bitCount_0f7a4_51 ?_
  subst hQ
  subst h
  exact m_iret hx hb hr hM hL dJ6_bitCount_0f7a4_52 hlocks
abbrev rm_X0_named : Room := { frames := 1, cells := 0, slots := 0, locals := 22 }
set_option maxHeartbeats 4000000 in
set_option maxRecDepth 100000 in
theorem c_X0_named (l : Launch) (G : mG) {h0 : Nat} {x1 : Int32} {x2 : Int32} {σ : mS} {z : Int32} (h : f_X0_named h0 x1 x2 σ = some z) : Met l yX0_named wsX0_named rm_X0_named (va_Pc [.ref h0, .int x1, .int x2] (mB G σ)) (mQ G (.returned (some (.int z))) (σ)) 0 0 (mF G) := by
  refine m_start (cc := cX0_named) (maxL := 3) (ret := (some .int)) (by decide) rfl [.ref h0, .int x1, .int x2] (Nat.le_of_ble_eq_true rfl) ?_
  intro p e s m args below meth c ls hx hb hr hml hown hts hlocks hnm hK hM hl
  have hown : s.vm.findClass RX0 = some m.cls := hown
  have hnm : meth.name = "named" := hnm
  obtain ⟨locs, hlocs⟩ : ∃ l : List Loc, l = [] := ⟨_, rfl⟩
  have hL : mL G locs := by rw [hlocs]; exact mL_nil G
  rw [← hlocs]
  generalize s.heap = H at hM ⊢
  have hl : lv_has ls 3 [(0, .ref h0), (1, .int x1), (2, .int x2)] := hl
  obtain ⟨Q, hQ⟩ : ∃ Q, Q = MQ below (mQ G (.returned (some (.int z))) (σ)) args s 0 0 (mF G) := ⟨_, rfl⟩
  rw [← hQ]
  have hU0 : ∀ w ∈ wsX00, w.before args s = true := fun w h => hts w (List.mem_cons_of_mem _ (List.mem_append_right _ h))
  have w1 := (hts (.fieldLink RX0 61 "HandkerchiefsDropped$Assize" "admitted" "I") (List.mem_of_getElem? (i := 4) rfl))
  have w2 := (hts (.fieldLink RX0 65 "HandkerchiefsDropped$Assize" "hour" "I") (List.mem_of_getElem? (i := 3) rfl))
  have w3 := (hts (.fieldLink RX0 24 "HandkerchiefsDropped$Assize" "known" "[I") (List.mem_of_getElem? (i := 2) rfl))
  have w4 := (hts (.fieldLink RX0 27 "HandkerchiefsDropped$Assize" "face" "[I") (List.mem_of_getElem? (i := 1) rfl))
  have w5 := (hts (.fieldLink RX0 21 "HandkerchiefsDropped$Assize" "more" "[I") (List.mem_of_getElem? (i := 5) rfl))
  rw [f_X0_named.eq_1] at h
  refine lv_iload_n hx hb dX0_named_0 rfl (lv_at hl 1 rfl) ?_
  by_cases c16 : x1 = (-5 : Int32)
  · have h := (if_pos c16).symm.trans h
    refine m_tin (tgt := 63) (off := 62) hx hb c16 dX0_named_1 (by decide) (by decide) (by decide) (by decide) ?_
    refine lv_aload_n hx hb dX0_named_63 rfl (lv_at hl 0 rfl) ?_
    refine m_getI (ci := 0) hx hb hU0 hown hK hM rfl 11 (by decide) w1 h dX0_named_64 (fun v17 gv17 h => ?_)
    refine m_calli (va_runS (As := [.int v17]) (rest := []) ⟨hx, hb, hml, hown, hts⟩ (c_J6_bitCount l G v17) (va_cwS 1 hts gX0_named_J6_bitCount_0f7a4 rfl rfl rfl hd_J6_bitCount ⟨Nat.le_of_ble_eq_true rfl, Nat.le_of_ble_eq_true rfl⟩) (m_preS hK hM) rfl rfl hl.1 rfl (lv_room (Nat.le_of_ble_eq_true rfl)) dX0_named_67 ⟨Nat.le_of_ble_eq_true rfl, Nat.le_of_ble_eq_true rfl⟩) hL (fun H locs hM hL => ?_)
    subst hQ
    cases h
    exact m_iret hx hb hr hM hL dX0_named_70 hlocks
  have h := (if_neg c16).symm.trans h
  by_cases c18 : x1 = (-4 : Int32)
  · have h := (if_pos c18).symm.trans h
    refine m_tin (tgt := 58) (off := 57) hx hb c18 dX0_named_1 (by decide) (by decide) (by decide) (by decide) ?_
    refine lv_aload_n hx hb dX0_named_58 rfl (lv_at hl 0 rfl) ?_
    obtain ⟨o19, h⟩ := oi_some h
    obtain ⟨q20, hq20, h⟩ := ob_some h
    refine m_calli (va_runV (As := []) (rest := []) ⟨hx, hb, hml, hown, hts⟩ (c_X0_lying l G hq20) (cwV 0 hts gX0_named_X0_lying rfl rfl rfl hd_X0_lyingv ⟨Nat.le_of_ble_eq_true rfl, Nat.le_of_ble_eq_true rfl⟩) (m_preV (ci := 0) hK hM rfl o19) rfl rfl hl.1 rfl (lv_room (Nat.le_of_ble_eq_true rfl)) dX0_named_59 ⟨Nat.le_of_ble_eq_true rfl, Nat.le_of_ble_eq_true rfl⟩) hL (fun H locs hM hL => ?_)
    subst hQ
    cases h
    exact m_iret hx hb hr hM hL dX0_named_62 hlocks
  have h := (if_neg c18).symm.trans h
  by_cases c21 : x1 = (-3 : Int32)
  · have h := (if_pos c21).symm.trans h
    refine m_tin (tgt := 53) (off := 52) hx hb c21 dX0_named_1 (by decide) (by decide) (by decide) (by decide) ?_
    refine lv_aload_n hx hb dX0_named_53 rfl (lv_at hl 0 rfl) ?_
    refine m_getI (ci := 0) hx hb hU0 hown hK hM rfl 12 (by decide) w2 h dX0_named_54 (fun v22 gv22 h => ?_)
    subst hQ
    cases h
    exact m_iret hx hb hr hM hL dX0_named_57 hlocks
  have h := (if_neg c21).symm.trans h
  by_cases c23 : x1 = (-2 : Int32)
  · have h := (if_pos c23).symm.trans h
    refine m_tin (tgt := 43) (off := 42) hx hb c23 dX0_named_1 (by decide) (by decide) (by decide) (by decide) ?_
    refine lv_aload_n hx hb dX0_named_43 rfl (lv_at hl 0 rfl) ?_
    refine m_getR (ci := 0) hx hb hU0 hown hK hM rfl 4 (by decide) w3 h dX0_named_44 (fun r24 gr24 h => ?_)
    refine lv_iload_n hx hb dX0_named_47 rfl (lv_at hl 2 rfl) ?_
    refine m_iald hx hb hK hM h dX0_named_48 (fun v25 gv25 h => ?_)
    refine m_calli (va_runS (As := [.int v25]) (rest := []) ⟨hx, hb, hml, hown, hts⟩ (c_J6_bitCount l G v25) (va_cwS 1 hts gX0_named_J6_bitCount_0f7a4 rfl rfl rfl hd_J6_bitCount ⟨Nat.le_of_ble_eq_true rfl, Nat.le_of_ble_eq_true rfl⟩) (m_preS hK hM) rfl rfl hl.1 rfl (lv_room (Nat.le_of_ble_eq_true rfl)) dX0_named_49 ⟨Nat.le_of_ble_eq_true rfl, Nat.le_of_ble_eq_true rfl⟩) hL (fun H locs hM hL => ?_)
    subst hQ
    cases h
    exact m_iret hx hb hr hM hL dX0_named_52 hlocks
  have h := (if_neg c23).symm.trans h
  by_cases c26 : x1 = (-1 : Int32)
  · have h := (if_pos c26).symm.trans h
    refine m_tin (tgt := 36) (off := 35) hx hb c26 dX0_named_1 (by decide) (by decide) (by decide) (by decide) ?_
    refine lv_aload_n hx hb dX0_named_36 rfl (lv_at hl 0 rfl) ?_
    refine m_getR (ci := 0) hx hb hU0 hown hK hM rfl 5 (by decide) w4 h dX0_named_37 (fun r27 gr27 h => ?_)
    refine lv_iload_n hx hb dX0_named_40 rfl (lv_at hl 2 rfl) ?_
    refine m_iald hx hb hK hM h dX0_named_41 (fun v28 gv28 h => ?_)
    subst hQ
    cases h
    exact m_iret hx hb hr hM hL dX0_named_42 hlocks
  have h := (if_neg c26).symm.trans h
  refine lv_tableOut (tgt := 71) hx hb dX0_named_1 (by have q0 := lv_neT (a := -5) c16 (by decide); have q1 := lv_neT (a := -4) c18 (by decide); have q2 := lv_neT (a := -3) c21 (by decide); have q3 := lv_neT (a := -2) c23 (by decide); have q4 := lv_neT (a := -1) c26 (by decide); omega) (by decide) ?_
  refine lv_aload_n hx hb dX0_named_71 rfl (lv_at hl 0 rfl) ?_
  refine m_getR (ci := 0) hx hb hU0 hown hK hM rfl 3 (by decide) w5 h dX0_named_72 (fun r29 gr29 h => ?_)
  refine lv_iload_n hx hb dX0_named_75 rfl (lv_at hl 2 rfl) ?_
  refine m_iald hx hb hK hM h dX0_named_76 (fun v30 gv30 h => ?_)
  subst hQ
  cases h
  exact m_iret hx hb hr hM hL dX0_named_77 hlocks
abbrev rm_X2_truth : Room := { frames := 0, cells := 0, slots := 0, locals := 0 }
set_option maxHeartbeats 4000000 in
set_option maxRecDepth 100000 in
theorem c_X2_truth (l : Launch) (G : mG) (x0 : Int32) {σ : mS} : Met l yX2_truth wsX2_truth rm_X2_truth (va_Pc [.int x0] (mB G σ)) (mQ G (.returned (some (.int (f_X2_truth x0)))) (σ)) 0 0 (mF G) := by
  obtain ⟨z, h⟩ : ∃ z, f_X2_truth x0 = z := ⟨_, rfl⟩
  rw [h]
  refine m_start (cc := cX2_truth) (maxL := 1) (ret := (some .int)) (by decide) rfl [.int x0] (Nat.le_of_ble_eq_true rfl) ?_
  intro p e s m args below meth c ls hx hb hr hml hown hts hlocks hnm hK hM hl
  have hown : s.vm.findClass RX2 = some m.cls := hown
  have hnm : meth.name = "truth" := hnm
  obtain ⟨locs, hlocs⟩ : ∃ l : List Loc, l = [] := ⟨_, rfl⟩
  have hL : mL G locs := by rw [hlocs]; exact mL_nil G
  rw [← hlocs]
  generalize s.heap = H at hM ⊢
  have hl : lv_has ls 1 [(0, .int x0)] := hl
  obtain ⟨Q, hQ⟩ : ∃ Q, Q = MQ below (mQ G (.returned (some (.int z))) (σ)) args s 0 0 (mF G) := ⟨_, rfl⟩
  rw [← hQ]
  rw [f_X2_truth.eq_1] at h
  refine lv_iload_n hx hb dX2_truth_0 rfl (lv_at hl 0 rfl) ?_
  refine lv_if_eq (tgt := 8) hx hb dX2_truth_1 (by decide) (fun c2 => ?_) (fun c2 => ?_)
  · have h := (if_pos c2).symm.trans h
    refine lv_iconst hx hb dX2_truth_8 kI_0 ?_
    subst hQ
    subst h
    exact m_iret hx hb hr hM hL dX2_truth_9 hlocks
  · have h := (if_neg c2).symm.trans h
    refine lv_iconst hx hb dX2_truth_4 kI_1 ?_
    refine lv_goto (tgt := 9) hx hb dX2_truth_5 (by decide) ?_
    subst hQ
    subst h
    exact m_iret hx hb hr hM hL dX2_truth_9 hlocks
abbrev rm_X2_joined : Room := { frames := 1, cells := 0, slots := 0, locals := 20 }
set_option maxHeartbeats 4000000 in
set_option maxRecDepth 100000 in
theorem c_X2_joined (l : Launch) (G : mG) (x0 : Int32) (x1 : Int32) (x2 : Int32) {σ : mS} : Met l yX2_joined wsX2_joined rm_X2_joined (va_Pc [.int x0, .int x1, .int x2] (mB G σ)) (mQ G (.returned (some (.int (f_X2_joined x0 x1 x2)))) (σ)) 0 0 (mF G) := by
  obtain ⟨z, h⟩ : ∃ z, f_X2_joined x0 x1 x2 = z := ⟨_, rfl⟩
  rw [h]
  refine m_start (cc := cX2_joined) (maxL := 3) (ret := (some .int)) (by decide) rfl [.int x0, .int x1, .int x2] (Nat.le_of_ble_eq_true rfl) ?_
  intro p e s m args below meth c ls hx hb hr hml hown hts hlocks hnm hK hM hl
  have hown : s.vm.findClass RX2 = some m.cls := hown
  have hnm : meth.name = "joined" := hnm
  obtain ⟨locs, hlocs⟩ : ∃ l : List Loc, l = [] := ⟨_, rfl⟩
  have hL : mL G locs := by rw [hlocs]; exact mL_nil G
  rw [← hlocs]
  generalize s.heap = H at hM ⊢
  have hl : lv_has ls 3 [(0, .int x0), (1, .int x1), (2, .int x2)] := hl
  obtain ⟨Q, hQ⟩ : ∃ Q, Q = MQ below (mQ G (.returned (some (.int z))) (σ)) args s 0 0 (mF G) := ⟨_, rfl⟩
  rw [← hQ]
  rw [f_X2_joined.eq_1] at h
  refine lv_iload_n hx hb dX2_joined_0 rfl (lv_at hl 0 rfl) ?_
  by_cases c17 : x0 = (-14 : Int32)
  · have h := (if_pos c17).symm.trans h
    refine m_tin (tgt := 80) (off := 79) hx hb c17 dX2_joined_1 (by decide) (by decide) (by decide) (by decide) ?_
    refine lv_iload_n hx hb dX2_joined_80 rfl (lv_at hl 1 rfl) ?_
    suffices hJ : ∀ (v20 : Int32) (ls : Array Slot), v20 = (if x1 = 0 then (0 : Int32) else if x2 = 0 then (0 : Int32) else (1 : Int32)) → lv_has ls 3 [] → W p l e rm_X2_joined s m args below meth c H locs 0 0 Q (F0 m 93 ls [.int v20]) by
      refine lv_if_eq (tgt := 92) hx hb dX2_joined_81 (by decide) (fun c18 => ?_) (fun c18 => ?_)
      · refine lv_iconst hx hb dX2_joined_92 kI_0 ?_
        exact hJ _ _ (((if_pos c18).trans rfl).symm) (lv_sub hl [] rfl)
      · refine lv_iload_n hx hb dX2_joined_84 rfl (lv_at hl 2 rfl) ?_
        refine lv_if_eq (tgt := 92) hx hb dX2_joined_85 (by decide) (fun c19 => ?_) (fun c19 => ?_)
        · refine lv_iconst hx hb dX2_joined_92 kI_0 ?_
          exact hJ _ _ (((if_neg c18).trans ((if_pos c19).trans rfl)).symm) (lv_sub hl [] rfl)
        · refine lv_iconst hx hb dX2_joined_88 kI_1 ?_
          refine lv_goto (tgt := 93) hx hb dX2_joined_89 (by decide) ?_
          exact hJ _ _ (((if_neg c18).trans ((if_neg c19).trans rfl)).symm) (lv_sub hl [] rfl)
    intro v20 ls ev20 hl
    have h := vl_at ev20 h
    refine m_calli (va_runS (As := [.int v20]) (rest := []) ⟨hx, hb, hml, hown, hts⟩ (c_X2_truth l G v20) (va_cwS 1 hts gX2_joined_X2_truth rfl rfl rfl hd_X2_truth ⟨Nat.le_of_ble_eq_true rfl, Nat.le_of_ble_eq_true rfl⟩) (m_preS hK hM) rfl rfl hl.1 rfl (lv_room (Nat.le_of_ble_eq_true rfl)) dX2_joined_93 ⟨Nat.le_of_ble_eq_true rfl, Nat.le_of_ble_eq_true rfl⟩) hL (fun H locs hM hL => ?_)
    subst hQ
    subst h
    exact m_iret hx hb hr hM hL dX2_joined_96 hlocks
  have h := (if_neg c17).symm.trans h
  by_cases c21 : x0 = (-13 : Int32)
  · have h := (if_pos c21).symm.trans h
    refine m_tin (tgt := 66) (off := 65) hx hb c21 dX2_joined_1 (by decide) (by decide) (by decide) (by decide) ?_
    refine lv_iload_n hx hb dX2_joined_66 rfl (lv_at hl 1 rfl) ?_
    refine lv_iload_n hx hb dX2_joined_67 rfl (lv_at hl 2 rfl) ?_
    suffices hJ : ∀ (v23 : Int32) (ls : Array Slot), v23 = (if x1 = x2 then (1 : Int32) else (0 : Int32)) → lv_has ls 3 [] → W p l e rm_X2_joined s m args below meth c H locs 0 0 Q (F0 m 76 ls [.int v23]) by
      refine lv_icmp_ne (tgt := 75) hx hb dX2_joined_68 (by decide) (fun c22 => ?_) (fun c22 => ?_)
      · refine lv_iconst hx hb dX2_joined_75 kI_0 ?_
        exact hJ _ _ (((if_neg c22).trans rfl).symm) (lv_sub hl [] rfl)
      · refine lv_iconst hx hb dX2_joined_71 kI_1 ?_
        refine lv_goto (tgt := 76) hx hb dX2_joined_72 (by decide) ?_
        exact hJ _ _ (((if_pos c22).trans rfl).symm) (lv_sub hl [] rfl)
    intro v23 ls ev23 hl
    have h := vl_at ev23 h
    refine m_calli (va_runS (As := [.int v23]) (rest := []) ⟨hx, hb, hml, hown, hts⟩ (c_X2_truth l G v23) (va_cwS 1 hts gX2_joined_X2_truth rfl rfl rfl hd_X2_truth ⟨Nat.le_of_ble_eq_true rfl, Nat.le_of_ble_eq_true rfl⟩) (m_preS hK hM) rfl rfl hl.1 rfl (lv_room (Nat.le_of_ble_eq_true rfl)) dX2_joined_76 ⟨Nat.le_of_ble_eq_true rfl, Nat.le_of_ble_eq_true rfl⟩) hL (fun H locs hM hL => ?_)
    subst hQ
    subst h
    exact m_iret hx hb hr hM hL dX2_joined_79 hlocks
  have h := (if_neg c21).symm.trans h
  by_cases c24 : x0 = (-12 : Int32)
  · have h := (if_pos c24).symm.trans h
    refine m_tin (tgt := 52) (off := 51) hx hb c24 dX2_joined_1 (by decide) (by decide) (by decide) (by decide) ?_
    refine lv_iload_n hx hb dX2_joined_52 rfl (lv_at hl 1 rfl) ?_
    refine lv_iload_n hx hb dX2_joined_53 rfl (lv_at hl 2 rfl) ?_
    suffices hJ : ∀ (v26 : Int32) (ls : Array Slot), v26 = (if x2 ≤ x1 then (0 : Int32) else (1 : Int32)) → lv_has ls 3 [] → W p l e rm_X2_joined s m args below meth c H locs 0 0 Q (F0 m 62 ls [.int v26]) by
      refine lv_icmp_ge (tgt := 61) hx hb dX2_joined_54 (by decide) (fun c25 => ?_) (fun c25 => ?_)
      · refine lv_iconst hx hb dX2_joined_61 kI_0 ?_
        exact hJ _ _ (((if_pos c25).trans rfl).symm) (lv_sub hl [] rfl)
      · refine lv_iconst hx hb dX2_joined_57 kI_1 ?_
        refine lv_goto (tgt := 62) hx hb dX2_joined_58 (by decide) ?_
        exact hJ _ _ (((if_neg c25).trans rfl).symm) (lv_sub hl [] rfl)
    intro v26 ls ev26 hl
    have h := vl_at ev26 h
    refine m_calli (va_runS (As := [.int v26]) (rest := []) ⟨hx, hb, hml, hown, hts⟩ (c_X2_truth l G v26) (va_cwS 1 hts gX2_joined_X2_truth rfl rfl rfl hd_X2_truth ⟨Nat.le_of_ble_eq_true rfl, Nat.le_of_ble_eq_true rfl⟩) (m_preS hK hM) rfl rfl hl.1 rfl (lv_room (Nat.le_of_ble_eq_true rfl)) dX2_joined_62 ⟨Nat.le_of_ble_eq_true rfl, Nat.le_of_ble_eq_true rfl⟩) hL (fun H locs hM hL => ?_)
    subst hQ
    subst h
    exact m_iret hx hb hr hM hL dX2_joined_65 hlocks
  have h := (if_neg c24).symm.trans h
  by_cases c27 : x0 = (-11 : Int32)
  · have h := (if_pos c27).symm.trans h
    refine m_tin (tgt := 48) (off := 47) hx hb c27 dX2_joined_1 (by decide) (by decide) (by decide) (by decide) ?_
    refine lv_iload_n hx hb dX2_joined_48 rfl (lv_at hl 1 rfl) ?_
    refine lv_iload_n hx hb dX2_joined_49 rfl (lv_at hl 2 rfl) ?_
    refine lv_imul hx hb dX2_joined_50 ?_
    subst hQ
    subst h
    exact m_iret hx hb hr hM hL dX2_joined_51 hlocks
  have h := (if_neg c27).symm.trans h
  by_cases c28 : x0 = (-10 : Int32)
  · have h := (if_pos c28).symm.trans h
    refine m_tin (tgt := 44) (off := 43) hx hb c28 dX2_joined_1 (by decide) (by decide) (by decide) (by decide) ?_
    refine lv_iload_n hx hb dX2_joined_44 rfl (lv_at hl 1 rfl) ?_
    refine lv_iload_n hx hb dX2_joined_45 rfl (lv_at hl 2 rfl) ?_
    refine lv_isub hx hb dX2_joined_46 ?_
    subst hQ
    subst h
    exact m_iret hx hb hr hM hL dX2_joined_47 hlocks
  have h := (if_neg c28).symm.trans h
  by_cases c29 : x0 = (-9 : Int32)
  · have h := (if_pos c29).symm.trans h
    refine m_tin (tgt := 40) (off := 39) hx hb c29 dX2_joined_1 (by decide) (by decide) (by decide) (by decide) ?_
    refine lv_iload_n hx hb dX2_joined_40 rfl (lv_at hl 1 rfl) ?_
    refine lv_iload_n hx hb dX2_joined_41 rfl (lv_at hl 2 rfl) ?_
    refine lv_iadd hx hb dX2_joined_42 ?_
    subst hQ
    subst h
    exact m_iret hx hb hr hM hL dX2_joined_43 hlocks
  have h := (if_neg c29).symm.trans h
  refine lv_tableOut (tgt := 97) hx hb dX2_joined_1 (by have q0 := lv_neT (a := -14) c17 (by decide); have q1 := lv_neT (a := -13) c21 (by decide); have q2 := lv_neT (a := -12) c24 (by decide); have q3 := lv_neT (a := -11) c27 (by decide); have q4 := lv_neT (a := -10) c28 (by decide); have q5 := lv_neT (a := -9) c29 (by decide); omega) (by decide) ?_
  refine lv_iload_n hx hb dX2_joined_97 rfl (lv_at hl 1 rfl) ?_
  suffices hJ : ∀ (v32 : Int32) (ls : Array Slot), v32 = (if x1 = 0 then if x2 = 0 then (0 : Int32) else (1 : Int32) else (1 : Int32)) → lv_has ls 3 [] → W p l e rm_X2_joined s m args below meth c H locs 0 0 Q (F0 m 110 ls [.int v32]) by
    refine lv_if_ne (tgt := 105) hx hb dX2_joined_98 (by decide) (fun c30 => ?_) (fun c30 => ?_)
    · refine lv_iconst hx hb dX2_joined_105 kI_1 ?_
      refine lv_goto (tgt := 110) hx hb dX2_joined_106 (by decide) ?_
      exact hJ _ _ (((if_neg c30).trans rfl).symm) (lv_sub hl [] rfl)
    · refine lv_iload_n hx hb dX2_joined_101 rfl (lv_at hl 2 rfl) ?_
      refine lv_if_eq (tgt := 109) hx hb dX2_joined_102 (by decide) (fun c31 => ?_) (fun c31 => ?_)
      · refine lv_iconst hx hb dX2_joined_109 kI_0 ?_
        exact hJ _ _ (((if_pos c30).trans ((if_pos c31).trans rfl)).symm) (lv_sub hl [] rfl)
      · refine lv_iconst hx hb dX2_joined_105 kI_1 ?_
        refine lv_goto (tgt := 110) hx hb dX2_joined_106 (by decide) ?_
        exact hJ _ _ (((if_pos c30).trans ((if_neg c31).trans rfl)).symm) (lv_sub hl [] rfl)
  intro v32 ls ev32 hl
  have h := vl_at ev32 h
  refine m_calli (va_runS (As := [.int v32]) (rest := []) ⟨hx, hb, hml, hown, hts⟩ (c_X2_truth l G v32) (va_cwS 1 hts gX2_joined_X2_truth rfl rfl rfl hd_X2_truth ⟨Nat.le_of_ble_eq_true rfl, Nat.le_of_ble_eq_true rfl⟩) (m_preS hK hM) rfl rfl hl.1 rfl (lv_room (Nat.le_of_ble_eq_true rfl)) dX2_joined_110 ⟨Nat.le_of_ble_eq_true rfl, Nat.le_of_ble_eq_true rfl⟩) hL (fun H locs hM hL => ?_)
  subst hQ
  subst h
  exact m_iret hx hb hr hM hL dX2_joined_113 hlocks
abbrev rm_X5_bounded : Room := { frames := 1, cells := 0, slots := 0, locals := 30 }
set_option maxHeartbeats 4000000 in
set_option maxRecDepth 100000 in
theorem c_X5_bounded (l : Launch) (G : mG) (x0 : Int32) (x1 : Int32) (x2 : Int32) {σ : mS} : Met l yX5_bounded wsX5_bounded rm_X5_bounded (va_Pc [.int x0, .int x1, .int x2] (mB G σ)) (mQ G (.returned (some (.int (f_X5_bounded x0 x1 x2)))) (σ)) 0 0 (mF G) := by
  obtain ⟨z, h⟩ : ∃ z, f_X5_bounded x0 x1 x2 = z := ⟨_, rfl⟩
  rw [h]
  refine m_start (cc := cX5_bounded) (maxL := 3) (ret := (some .int)) (by decide) rfl [.int x0, .int x1, .int x2] (Nat.le_of_ble_eq_true rfl) ?_
  intro p e s m args below meth c ls hx hb hr hml hown hts hlocks hnm hK hM hl
  have hown : s.vm.findClass RX5 = some m.cls := hown
  have hnm : meth.name = "bounded" := hnm
  obtain ⟨locs, hlocs⟩ : ∃ l : List Loc, l = [] := ⟨_, rfl⟩
  have hL : mL G locs := by rw [hlocs]; exact mL_nil G
  rw [← hlocs]
  generalize s.heap = H at hM ⊢
  have hl : lv_has ls 3 [(0, .int x0), (1, .int x1), (2, .int x2)] := hl
  obtain ⟨Q, hQ⟩ : ∃ Q, Q = MQ below (mQ G (.returned (some (.int z))) (σ)) args s 0 0 (mF G) := ⟨_, rfl⟩
  rw [← hQ]
  have w0 := (hts (.methodLink RX5 292 Lib.Math.min.name) (List.mem_of_getElem? (i := 1) rfl))
  have w1 := (hts (.static Lib.Math.min.name) (List.mem_of_getElem? (i := 2) rfl))
  have w2 := (hts (.initialized "java/lang/Math") (List.mem_of_getElem? (i := 3) rfl))
  have w3 := (hts (.code Lib.Math.min.name Lib.Math.min.code 2 (some .int)) (List.mem_of_getElem? (i := 4) rfl))
  have w4 := (hts (.methodLink RX5 191 Lib.Math.max.name) (List.mem_of_getElem? (i := 5) rfl))
  have w5 := (hts (.static Lib.Math.max.name) (List.mem_of_getElem? (i := 6) rfl))
  have w6 := (hts (.code Lib.Math.max.name Lib.Math.max.code 2 (some .int)) (List.mem_of_getElem? (i := 7) rfl))
  rw [f_X5_bounded.eq_1] at h
  refine lv_iload_n hx hb dX5_bounded_0 rfl (lv_at hl 1 rfl) ?_
  refine lv_iload_n hx hb dX5_bounded_1 rfl (lv_at hl 2 rfl) ?_
  refine lv_iload_n hx hb dX5_bounded_2 rfl (lv_at hl 0 rfl) ?_
  refine va_mmin hx hb (hml.trans hl.1.symm) hown w0 w1 w2 w3 (Nat.le_of_ble_eq_true rfl) (Nat.le_of_ble_eq_true rfl) (Nat.le_of_ble_eq_true rfl) (Nat.le_of_ble_eq_true rfl) dX5_bounded_3 ?_
  refine va_mmax hx hb (hml.trans hl.1.symm) hown w4 w5 w2 w6 (Nat.le_of_ble_eq_true rfl) (Nat.le_of_ble_eq_true rfl) (Nat.le_of_ble_eq_true rfl) (Nat.le_of_ble_eq_true rfl) dX5_bounded_6 ?_
  subst hQ
  subst h
  exact m_iret hx hb hr hM hL dX5_bounded_9 hlocks
abbrev rm_X2_says : Room := { frames := 2, cells := 0, slots := 0, locals := 52 }
set_option maxHeartbeats 4000000 in
set_option maxRecDepth 100000 in
theorem c_X2_says (l : Launch) (G : mG) {h0 : Nat} {x1 : Int32} {h2 : Nat} {x3 : Int32} {σ : mS} {z : Int32 × mS} (h : f_X2_says h0 x1 h2 x3 σ = some z) : Met l yX2_says wsX2_says rm_X2_says (va_Pc [.ref h0, .int x1, .ref h2, .int x3] (mB G σ)) (mQ G (.returned (some (.int z.1))) z.2) 0 0 (mF G) := by
  refine m_start (cc := cX2_says) (maxL := 10) (ret := (some .int)) (by decide) rfl [.ref h0, .int x1, .ref h2, .int x3] (Nat.le_of_ble_eq_true rfl) ?_
  intro p e s m args below meth c ls hx hb hr hml hown hts hlocks hnm hK hM hl
  have hown : s.vm.findClass RX2 = some m.cls := hown
  have hnm : meth.name = "says" := hnm
  obtain ⟨locs, hlocs⟩ : ∃ l : List Loc, l = [] := ⟨_, rfl⟩
  have hL : mL G locs := by rw [hlocs]; exact mL_nil G
  rw [← hlocs]
  generalize s.heap = H at hM ⊢
  have hl : lv_has ls 10 [(0, .ref h0), (1, .int x1), (2, .ref h2), (3, .int x3)] := hl
  obtain ⟨Q, hQ⟩ : ∃ Q, Q = MQ below (mQ G (.returned (some (.int z.1))) z.2) args s 0 0 (mF G) := ⟨_, rfl⟩
  rw [← hQ]
  have hU0 : ∀ w ∈ wsX00, w.before args s = true := fun w h => hts w (List.mem_cons_of_mem _ (List.mem_append_left _ (List.mem_append_right _ h)))
  have hU2 : ∀ w ∈ wsX20, w.before args s = true := fun w h => hts w (List.mem_cons_of_mem _ (List.mem_append_right _ h))
  have w2 := (hts (.fieldLink RX2 22 "HandkerchiefsDropped$Law" "dropsAt" "I") (List.mem_of_getElem? (i := 2) rfl))
  have w3 := (hts (.fieldLink RX2 19 "HandkerchiefsDropped$Law" "waitsAt" "I") (List.mem_of_getElem? (i := 1) rfl))
  have w4 := (hts (.fieldLink RX2 15 "HandkerchiefsDropped$Law" "code" "[I") (List.mem_of_getElem? (i := 3) rfl))
  have w5 := (hts (.static yX5_bounded) (List.mem_of_getElem? (i := 33) rfl))
  have w6 := (hts (.initialized RX5) (List.mem_of_getElem? (i := 34) rfl))
  have hN121 : ∀ (k69 : Nat → Int32 → Nat → Int32 → Nat → Int32 → Int32 → Int32 → mS → Option (Int32 × mS)) (hk69 : ∀ (h0 : Nat) (x1 : Int32) (h2 : Nat) (x3 : Int32) (h4 : Nat) (x6 : Int32) (x7 : Int32) (x8 : Int32) (σ : mS), k69 h0 x1 h2 x3 h4 x6 x7 x8 σ = some z → ∀ (H : Heap) (locs : List Loc) (ls : Array Slot), mP G σ H → mL G locs → lv_has ls 10 [(0, .ref h0), (1, .int x1), (2, .ref h2), (3, .int x3), (4, .ref h4), (6, .int x6), (7, .int x7), (8, .int x8)] → W p l e rm_X2_says s m args below meth c H locs 0 0 Q (F0 m 69 ls [])) (h0 : Nat) (x1 : Int32) (h2 : Nat) (x3 : Int32) (h4 : Nat) (x6 : Int32) (x7 : Int32) (x8 : Int32) (s0 : Nat) (s1 : Int32) (s2 : Int32) (σ : mS), f_X2_says_121 k69 h0 x1 h2 x3 h4 x6 x7 x8 s0 s1 s2 σ = some z → ∀ (H : Heap) (locs : List Loc) (ls : Array Slot), mP G σ H → mL G locs → lv_has ls 10 [(0, .ref h0), (1, .int x1), (2, .ref h2), (3, .int x3), (4, .ref h4), (6, .int x6), (7, .int x7), (8, .int x8)] → W p l e rm_X2_says s m args below meth c H locs 0 0 Q (F0 m 121 ls [.int s2, .int s1, .ref s0]) := by
    intro k69 hk69 h0 x1 h2 x3 h4 x6 x7 x8 s0 s1 s2 σ h H locs ls hM hL hl
    rw [f_X2_says_121.eq_1] at h
    refine m_iast hx hb hK hM hL h dX2_says_121 (fun t44 H locs h hM hL => ?_)
    obtain ⟨v45, ev45⟩ : ∃ y : Int32, y = x7 + (1 : Int32) := ⟨_, rfl⟩
    have h := vl_at ev45 h
    refine lv_iinc (v := v45) (lv' := [(7, .int v45), (0, .ref h0), (1, .int x1), (2, .ref h2), (3, .int x3), (4, .ref h4), (6, .int x6), (8, .int x8)]) hx hb dX2_says_122 hl (k := 6) rfl (by rw [ev45, kI_1]) (by decide) rfl (fun ls hl => ?_)
    refine lv_goto (tgt := 222) hx hb dX2_says_125 (by decide) ?_
    obtain ⟨v46, ev46⟩ : ∃ y : Int32, y = x8 + (1 : Int32) := ⟨_, rfl⟩
    have h := vl_at ev46 h
    refine lv_iinc (v := v46) (lv' := [(8, .int v46), (7, .int v45), (0, .ref h0), (1, .int x1), (2, .ref h2), (3, .int x3), (4, .ref h4), (6, .int x6)]) hx hb dX2_says_222 hl (k := 7) rfl (by rw [ev46, kI_1]) (by decide) rfl (fun ls hl => ?_)
    refine lv_goto (tgt := 69) hx hb dX2_says_225 (by decide) ?_
    exact hk69 _ _ _ _ _ _ _ _ _ h _ _ _ hM hL (lv_sub hl [2, 3, 4, 5, 6, 7, 1, 0] rfl)
  have hN183 : ∀ (k69 : Nat → Int32 → Nat → Int32 → Nat → Int32 → Int32 → Int32 → mS → Option (Int32 × mS)) (hk69 : ∀ (h0 : Nat) (x1 : Int32) (h2 : Nat) (x3 : Int32) (h4 : Nat) (x6 : Int32) (x7 : Int32) (x8 : Int32) (σ : mS), k69 h0 x1 h2 x3 h4 x6 x7 x8 σ = some z → ∀ (H : Heap) (locs : List Loc) (ls : Array Slot), mP G σ H → mL G locs → lv_has ls 10 [(0, .ref h0), (1, .int x1), (2, .ref h2), (3, .int x3), (4, .ref h4), (6, .int x6), (7, .int x7), (8, .int x8)] → W p l e rm_X2_says s m args below meth c H locs 0 0 Q (F0 m 69 ls [])) (h0 : Nat) (x1 : Int32) (h2 : Nat) (x3 : Int32) (h4 : Nat) (x6 : Int32) (x7 : Int32) (x8 : Int32) (s0 : Nat) (s1 : Int32) (s2 : Int32) (σ : mS), f_X2_says_183 k69 h0 x1 h2 x3 h4 x6 x7 x8 s0 s1 s2 σ = some z → ∀ (H : Heap) (locs : List Loc) (ls : Array Slot), mP G σ H → mL G locs → lv_has ls 10 [(0, .ref h0), (1, .int x1), (2, .ref h2), (3, .int x3), (4, .ref h4), (6, .int x6), (7, .int x7), (8, .int x8)] → W p l e rm_X2_says s m args below meth c H locs 0 0 Q (F0 m 183 ls [.int s2, .int s1, .ref s0]) := by
    intro k69 hk69 h0 x1 h2 x3 h4 x6 x7 x8 s0 s1 s2 σ h H locs ls hM hL hl
    rw [f_X2_says_183.eq_1] at h
    refine m_iast hx hb hK hM hL h dX2_says_183 (fun t47 H locs h hM hL => ?_)
    refine lv_goto (tgt := 222) hx hb dX2_says_184 (by decide) ?_
    obtain ⟨v48, ev48⟩ : ∃ y : Int32, y = x8 + (1 : Int32) := ⟨_, rfl⟩
    have h := vl_at ev48 h
    refine lv_iinc (v := v48) (lv' := [(8, .int v48), (0, .ref h0), (1, .int x1), (2, .ref h2), (3, .int x3), (4, .ref h4), (6, .int x6), (7, .int x7)]) hx hb dX2_says_222 hl (k := 7) rfl (by rw [ev48, kI_1]) (by decide) rfl (fun ls hl => ?_)
    refine lv_goto (tgt := 69) hx hb dX2_says_225 (by decide) ?_
    exact hk69 _ _ _ _ _ _ _ _ _ h _ _ _ hM hL (lv_sub hl [1, 2, 3, 4, 5, 6, 7, 0] rfl)
  have hN187 : ∀ (k69 : Nat → Int32 → Nat → Int32 → Nat → Int32 → Int32 → Int32 → mS → Option (Int32 × mS)) (hk69 : ∀ (h0 : Nat) (x1 : Int32) (h2 : Nat) (x3 : Int32) (h4 : Nat) (x6 : Int32) (x7 : Int32) (x8 : Int32) (σ : mS), k69 h0 x1 h2 x3 h4 x6 x7 x8 σ = some z → ∀ (H : Heap) (locs : List Loc) (ls : Array Slot), mP G σ H → mL G locs → lv_has ls 10 [(0, .ref h0), (1, .int x1), (2, .ref h2), (3, .int x3), (4, .ref h4), (6, .int x6), (7, .int x7), (8, .int x8)] → W p l e rm_X2_says s m args below meth c H locs 0 0 Q (F0 m 69 ls [])) (h0 : Nat) (x1 : Int32) (h2 : Nat) (x3 : Int32) (h4 : Nat) (x6 : Int32) (x7 : Int32) (x8 : Int32) (x9 : Int32) (σ : mS), f_X2_says_187 k69 h0 x1 h2 x3 h4 x6 x7 x8 x9 σ = some z → ∀ (H : Heap) (locs : List Loc) (ls : Array Slot), mP G σ H → mL G locs → lv_has ls 10 [(0, .ref h0), (1, .int x1), (2, .ref h2), (3, .int x3), (4, .ref h4), (6, .int x6), (7, .int x7), (8, .int x8), (9, .int x9)] → W p l e rm_X2_says s m args below meth c H locs 0 0 Q (F0 m 187 ls []) := by
    intro k69 hk69 h0 x1 h2 x3 h4 x6 x7 x8 x9 σ h H locs ls hM hL hl
    rw [f_X2_says_187.eq_1] at h
    refine lv_iload hx hb dX2_says_187 (lv_at hl 6 rfl) ?_
    refine lv_iconst hx hb dX2_says_189 kI_2 ?_
    refine lv_icmp_lt (tgt := 222) hx hb dX2_says_190 (by decide) (fun c49 => ?_) (fun c49 => ?_)
    · have h := (if_pos c49).symm.trans h
      obtain ⟨v50, ev50⟩ : ∃ y : Int32, y = x8 + (1 : Int32) := ⟨_, rfl⟩
      have h := vl_at ev50 h
      refine lv_iinc (v := v50) (lv' := [(8, .int v50), (0, .ref h0), (1, .int x1), (2, .ref h2), (3, .int x3), (4, .ref h4), (6, .int x6), (7, .int x7), (9, .int x9)]) hx hb dX2_says_222 hl (k := 7) rfl (by rw [ev50, kI_1]) (by decide) rfl (fun ls hl => ?_)
      refine lv_goto (tgt := 69) hx hb dX2_says_225 (by decide) ?_
      exact hk69 _ _ _ _ _ _ _ _ _ h _ _ _ hM hL (lv_sub hl [1, 2, 3, 4, 5, 6, 7, 0] rfl)
    · have h := (if_neg c49).symm.trans h
      refine lv_aload hx hb dX2_says_193 (lv_at hl 4 rfl) ?_
      refine lv_iload hx hb dX2_says_195 (lv_at hl 6 rfl) ?_
      refine lv_iconst hx hb dX2_says_197 kI_2 ?_
      refine lv_isub hx hb dX2_says_198 ?_
      refine lv_iload hx hb dX2_says_199 (lv_at hl 8 rfl) ?_
      refine lv_aload hx hb dX2_says_201 (lv_at hl 4 rfl) ?_
      refine lv_iload hx hb dX2_says_203 (lv_at hl 6 rfl) ?_
      refine lv_iconst hx hb dX2_says_205 kI_2 ?_
      refine lv_isub hx hb dX2_says_206 ?_
      refine m_iald hx hb hK hM h dX2_says_207 (fun v51 gv51 h => ?_)
      refine lv_aload hx hb dX2_says_208 (lv_at hl 4 rfl) ?_
      refine lv_iload hx hb dX2_says_210 (lv_at hl 6 rfl) ?_
      refine lv_iconst hx hb dX2_says_212 kI_1 ?_
      refine lv_isub hx hb dX2_says_213 ?_
      refine m_iald hx hb hK hM h dX2_says_214 (fun v52 gv52 h => ?_)
      refine m_calli (va_runS (As := [.int x9, .int v51, .int v52]) (rest := [.int (x7 - (2 : Int32)), .ref h4]) ⟨hx, hb, hml, hown, hts⟩ (c_X2_joined l G x9 v51 v52) (va_cwS 3 hts gX2_says_X2_joined rfl rfl rfl hd_X2_joined ⟨Nat.le_of_ble_eq_true rfl, Nat.le_of_ble_eq_true rfl⟩) (m_preS hK hM) rfl rfl hl.1 rfl (lv_room (Nat.le_of_ble_eq_true rfl)) dX2_says_215 ⟨Nat.le_of_ble_eq_true rfl, Nat.le_of_ble_eq_true rfl⟩) hL (fun H locs hM hL => ?_)
      refine m_iast hx hb hK hM hL h dX2_says_218 (fun t53 H locs h hM hL => ?_)
      obtain ⟨v54, ev54⟩ : ∃ y : Int32, y = x7 + (-1 : Int32) := ⟨_, rfl⟩
      have h := vl_at ev54 h
      refine lv_iinc (v := v54) (lv' := [(7, .int v54), (0, .ref h0), (1, .int x1), (2, .ref h2), (3, .int x3), (4, .ref h4), (6, .int x6), (8, .int x8), (9, .int x9)]) hx hb dX2_says_219 hl (k := 6) rfl (by rw [ev54, kI_m1]) (by decide) rfl (fun ls hl => ?_)
      obtain ⟨v55, ev55⟩ : ∃ y : Int32, y = x8 + (1 : Int32) := ⟨_, rfl⟩
      have h := vl_at ev55 h
      refine lv_iinc (v := v55) (lv' := [(8, .int v55), (7, .int v54), (0, .ref h0), (1, .int x1), (2, .ref h2), (3, .int x3), (4, .ref h4), (6, .int x6), (9, .int x9)]) hx hb dX2_says_222 hl (k := 7) rfl (by rw [ev55, kI_1]) (by decide) rfl (fun ls hl => ?_)
      refine lv_goto (tgt := 69) hx hb dX2_says_225 (by decide) ?_
      exact hk69 _ _ _ _ _ _ _ _ _ h _ _ _ hM hL (lv_sub hl [2, 3, 4, 5, 6, 7, 1, 0] rfl)
  have hN69 : ∀ (k228 : Int32 → Nat → Int32 → mS → Option (Int32 × mS)) (hk228 : ∀ (x1 : Int32) (h4 : Nat) (x7 : Int32) (σ : mS), k228 x1 h4 x7 σ = some z → ∀ (H : Heap) (locs : List Loc) (ls : Array Slot), mP G σ H → mL G locs → lv_has ls 10 [(1, .int x1), (4, .ref h4), (7, .int x7)] → W p l e rm_X2_says s m args below meth c H locs 0 0 Q (F0 m 228 ls [])) (n : Nat) (h0 : Nat) (x1 : Int32) (h2 : Nat) (x3 : Int32) (h4 : Nat) (x6 : Int32) (x7 : Int32) (x8 : Int32) (σ : mS), f_X2_says_69 k228 n h0 x1 h2 x3 h4 x6 x7 x8 σ = some z → ∀ (H : Heap) (locs : List Loc) (ls : Array Slot), mP G σ H → mL G locs → lv_has ls 10 [(0, .ref h0), (1, .int x1), (2, .ref h2), (3, .int x3), (4, .ref h4), (6, .int x6), (7, .int x7), (8, .int x8)] → W p l e rm_X2_says s m args below meth c H locs 0 0 Q (F0 m 69 ls []) := by
    intro k228 hk228 n
    induction n with
    | zero =>
      intro h0 x1 h2 x3 h4 x6 x7 x8 σ h
      exact nomatch (show (none : Option (Int32 × mS)) = some z from h)
    | succ n ih =>
      intro h0 x1 h2 x3 h4 x6 x7 x8 σ h H locs ls hM hL hl
      rw [f_X2_says_69.eq_2] at h
      refine lv_iload hx hb dX2_says_69 (lv_at hl 7 rfl) ?_
      refine lv_iload hx hb dX2_says_71 (lv_at hl 5 rfl) ?_
      refine lv_icmp_ge (tgt := 228) hx hb dX2_says_73 (by decide) (fun c56 => ?_) (fun c56 => ?_)
      · have h := (if_pos c56).symm.trans h
        exact hk228 _ _ _ _ h _ _ _ hM hL (lv_sub hl [1, 4, 6] rfl)
      · have h := (if_neg c56).symm.trans h
        refine lv_iload hx hb dX2_says_76 (lv_at hl 6 rfl) ?_
        refine lv_aload hx hb dX2_says_78 (lv_at hl 4 rfl) ?_
        refine m_alen hx hb hK hM h dX2_says_80 (fun v57 gv57 h => ?_)
        refine lv_icmp_ge (tgt := 228) hx hb dX2_says_81 (by decide) (fun c58 => ?_) (fun c58 => ?_)
        · have h := (if_pos c58).symm.trans h
          exact hk228 _ _ _ _ h _ _ _ hM hL (lv_sub hl [1, 4, 6] rfl)
        · have h := (if_neg c58).symm.trans h
          refine lv_aload_n hx hb dX2_says_84 rfl (lv_at hl 0 rfl) ?_
          refine m_getR (ci := 1) hx hb hU2 hown hK hM rfl 1 (by decide) w4 h dX2_says_85 (fun r59 gr59 h => ?_)
          refine lv_iload hx hb dX2_says_88 (lv_at hl 7 rfl) ?_
          refine m_iald hx hb hK hM h dX2_says_90 (fun v60 gv60 h => ?_)
          refine lv_istore (lv' := [(9, .int v60), (0, .ref h0), (1, .int x1), (2, .ref h2), (3, .int x3), (4, .ref h4), (6, .int x6), (7, .int x7), (8, .int x8)]) hx hb dX2_says_91 hl (by decide) rfl (fun ls hl => ?_)
          refine lv_iload hx hb dX2_says_93 (lv_at hl 0 rfl) ?_
          refine lv_bipush hx hb dX2_says_95 kB_m6 ?_
          refine lv_icmp_lt (tgt := 128) hx hb dX2_says_97 (by decide) (fun c61 => ?_) (fun c61 => ?_)
          · have h := (if_pos c61).symm.trans h
            refine lv_iload hx hb dX2_says_128 (lv_at hl 0 rfl) ?_
            refine lv_bipush hx hb dX2_says_130 kB_m8 ?_
            refine lv_icmp_lt (tgt := 187) hx hb dX2_says_132 (by decide) (fun c62 => ?_) (fun c62 => ?_)
            · have h := (if_pos c62).symm.trans h
              refine hN187 _ (fun _ _ _ _ _ _ _ _ _ h H locs ls hM hL hl => ih _ _ _ _ _ _ _ _ _ h H locs ls hM hL hl) _ _ _ _ _ _ _ _ _ _ h _ _ _ hM hL (lv_sub hl [1, 2, 3, 4, 5, 6, 7, 8, 0] rfl)
            · have h := (if_neg c62).symm.trans h
              refine lv_iload hx hb dX2_says_135 (lv_at hl 7 rfl) ?_
              refine lv_iconst hx hb dX2_says_137 kI_1 ?_
              refine lv_icmp_lt (tgt := 187) hx hb dX2_says_138 (by decide) (fun c63 => ?_) (fun c63 => ?_)
              · have h := (if_pos c63).symm.trans h
                refine hN187 _ (fun _ _ _ _ _ _ _ _ _ h H locs ls hM hL hl => ih _ _ _ _ _ _ _ _ _ h H locs ls hM hL hl) _ _ _ _ _ _ _ _ _ _ h _ _ _ hM hL (lv_sub hl [1, 2, 3, 4, 5, 6, 7, 8, 0] rfl)
              · have h := (if_neg c63).symm.trans h
                refine lv_aload hx hb dX2_says_141 (lv_at hl 5 rfl) ?_
                refine lv_iload hx hb dX2_says_143 (lv_at hl 7 rfl) ?_
                refine lv_iconst hx hb dX2_says_145 kI_1 ?_
                refine lv_isub hx hb dX2_says_146 ?_
                refine lv_iload hx hb dX2_says_147 (lv_at hl 0 rfl) ?_
                refine lv_bipush hx hb dX2_says_149 kB_m7 ?_
                refine lv_icmp_ne (tgt := 165) hx hb dX2_says_151 (by decide) (fun c64 => ?_) (fun c64 => ?_)
                · have h := (if_neg c64).symm.trans h
                  refine lv_aload hx hb dX2_says_165 (lv_at hl 5 rfl) ?_
                  refine lv_iload hx hb dX2_says_167 (lv_at hl 7 rfl) ?_
                  refine lv_iconst hx hb dX2_says_169 kI_1 ?_
                  refine lv_isub hx hb dX2_says_170 ?_
                  refine m_iald hx hb hK hM h dX2_says_171 (fun v65 gv65 h => ?_)
                  suffices hJ : ∀ (v67 : Int32) (ls : Array Slot), v67 = (if v65 = 0 then (1 : Int32) else (0 : Int32)) → lv_has ls 10 [(0, .ref h0), (1, .int x1), (2, .ref h2), (3, .int x3), (4, .ref h4), (6, .int x6), (7, .int x7), (8, .int x8)] → W p l e rm_X2_says s m args below meth c H locs 0 0 Q (F0 m 180 ls [.int v67, .int (x7 - (1 : Int32)), .ref h4]) by
                    refine lv_if_ne (tgt := 179) hx hb dX2_says_172 (by decide) (fun c66 => ?_) (fun c66 => ?_)
                    · refine lv_iconst hx hb dX2_says_179 kI_0 ?_
                      exact hJ _ _ (((if_neg c66).trans rfl).symm) (lv_sub hl [1, 2, 3, 4, 5, 6, 7, 8] rfl)
                    · refine lv_iconst hx hb dX2_says_175 kI_1 ?_
                      refine lv_goto (tgt := 180) hx hb dX2_says_176 (by decide) ?_
                      exact hJ _ _ (((if_pos c66).trans rfl).symm) (lv_sub hl [1, 2, 3, 4, 5, 6, 7, 8] rfl)
                  intro v67 ls ev67 hl
                  have h := vl_at ev67 h
                  refine m_calli (va_runS (As := [.int v67]) (rest := [.int (x7 - (1 : Int32)), .ref h4]) ⟨hx, hb, hml, hown, hts⟩ (c_X2_truth l G v67) (va_cwS 1 hts gX2_says_X2_truth rfl rfl rfl hd_X2_truth ⟨Nat.le_of_ble_eq_true rfl, Nat.le_of_ble_eq_true rfl⟩) (m_preS hK hM) rfl rfl hl.1 rfl (lv_room (Nat.le_of_ble_eq_true rfl)) dX2_says_180 ⟨Nat.le_of_ble_eq_true rfl, Nat.le_of_ble_eq_true rfl⟩) hL (fun H locs hM hL => ?_)
                  refine hN183 _ (fun _ _ _ _ _ _ _ _ _ h H locs ls hM hL hl => ih _ _ _ _ _ _ _ _ _ h H locs ls hM hL hl) _ _ _ _ _ _ _ _ _ _ _ _ h _ _ _ hM hL (lv_sub hl [0, 1, 2, 3, 4, 5, 6, 7] rfl)
                · have h := (if_pos c64).symm.trans h
                  refine lv_aload hx hb dX2_says_154 (lv_at hl 5 rfl) ?_
                  refine lv_iload hx hb dX2_says_156 (lv_at hl 7 rfl) ?_
                  refine lv_iconst hx hb dX2_says_158 kI_1 ?_
                  refine lv_isub hx hb dX2_says_159 ?_
                  refine m_iald hx hb hK hM h dX2_says_160 (fun v68 gv68 h => ?_)
                  refine lv_ineg hx hb dX2_says_161 ?_
                  refine lv_goto (tgt := 183) hx hb dX2_says_162 (by decide) ?_
                  refine hN183 _ (fun _ _ _ _ _ _ _ _ _ h H locs ls hM hL hl => ih _ _ _ _ _ _ _ _ _ h H locs ls hM hL hl) _ _ _ _ _ _ _ _ _ _ _ _ h _ _ _ hM hL (lv_sub hl [1, 2, 3, 4, 5, 6, 7, 8] rfl)
          · have h := (if_neg c61).symm.trans h
            refine lv_aload hx hb dX2_says_100 (lv_at hl 5 rfl) ?_
            refine lv_iload hx hb dX2_says_102 (lv_at hl 7 rfl) ?_
            refine lv_iload hx hb dX2_says_104 (lv_at hl 0 rfl) ?_
            refine lv_if_lt (tgt := 114) hx hb dX2_says_106 (by decide) (fun c69 => ?_) (fun c69 => ?_)
            · have h := (if_pos c69).symm.trans h
              refine lv_aload_n hx hb dX2_says_114 rfl (lv_at hl 3 rfl) ?_
              refine lv_iload hx hb dX2_says_115 (lv_at hl 0 rfl) ?_
              refine lv_iload_n hx hb dX2_says_117 rfl (lv_at hl 4 rfl) ?_
              obtain ⟨o70, h⟩ := oi_some h
              obtain ⟨q71, hq71, h⟩ := ob_some h
              refine m_calli (va_runV (As := [.int v60, .int x3]) (rest := [.int x7, .ref h4]) ⟨hx, hb, hml, hown, hts⟩ (c_X0_named l G hq71) (cwV 2 hts gX2_says_X0_named rfl rfl rfl hd_X0_namedv ⟨Nat.le_of_ble_eq_true rfl, Nat.le_of_ble_eq_true rfl⟩) (m_preV (ci := 0) hK hM rfl o70) rfl rfl hl.1 rfl (lv_room (Nat.le_of_ble_eq_true rfl)) dX2_says_118 ⟨Nat.le_of_ble_eq_true rfl, Nat.le_of_ble_eq_true rfl⟩) hL (fun H locs hM hL => ?_)
              refine hN121 _ (fun _ _ _ _ _ _ _ _ _ h H locs ls hM hL hl => ih _ _ _ _ _ _ _ _ _ h H locs ls hM hL hl) _ _ _ _ _ _ _ _ _ _ _ _ h _ _ _ hM hL (lv_sub hl [1, 2, 3, 4, 5, 6, 7, 8] rfl)
            · have h := (if_neg c69).symm.trans h
              refine lv_iload hx hb dX2_says_109 (lv_at hl 0 rfl) ?_
              refine lv_goto (tgt := 121) hx hb dX2_says_111 (by decide) ?_
              refine hN121 _ (fun _ _ _ _ _ _ _ _ _ h H locs ls hM hL hl => ih _ _ _ _ _ _ _ _ _ h H locs ls hM hL hl) _ _ _ _ _ _ _ _ _ _ _ _ h _ _ _ hM hL (lv_sub hl [1, 2, 3, 4, 5, 6, 7, 8] rfl)
  have hN241 : ∀ (x1 : Int32) (s0 : Int32) (σ : mS), f_X2_says_241 x1 s0 σ = some z → ∀ (H : Heap) (locs : List Loc) (ls : Array Slot), mP G σ H → mL G locs → lv_has ls 10 [(1, .int x1)] → W p l e rm_X2_says s m args below meth c H locs 0 0 Q (F0 m 241 ls [.int s0]) := by
    intro x1 s0 σ h H locs ls hM hL hl
    rw [f_X2_says_241.eq_1] at h
    refine lv_iload_n hx hb dX2_says_241 rfl (lv_at hl 0 rfl) ?_
    refine lv_iconst hx hb dX2_says_242 kI_2 ?_
    suffices hJ : ∀ (v73 : Int32) (ls : Array Slot), v73 = (if x1 = (2 : Int32) then (-99 : Int32) else (0 : Int32)) → lv_has ls 10 [] → W p l e rm_X2_says s m args below meth c H locs 0 0 Q (F0 m 252 ls [.int v73, .int s0]) by
      refine lv_icmp_ne (tgt := 251) hx hb dX2_says_243 (by decide) (fun c72 => ?_) (fun c72 => ?_)
      · refine lv_iconst hx hb dX2_says_251 kI_0 ?_
        exact hJ _ _ (((if_neg c72).trans rfl).symm) (lv_sub hl [] rfl)
      · refine lv_bipush hx hb dX2_says_246 kB_m99 ?_
        refine lv_goto (tgt := 252) hx hb dX2_says_248 (by decide) ?_
        exact hJ _ _ (((if_pos c72).trans rfl).symm) (lv_sub hl [] rfl)
    intro v73 ls ev73 hl
    have h := vl_at ev73 h
    refine lv_bipush hx hb dX2_says_252 kB_99 ?_
    refine m_calli (va_runSN (As := [.int s0, .int v73, .int (99 : Int32)]) (rest := []) ⟨hx, hb, hml, hown, hts⟩ (c_X5_bounded l G s0 v73 (99 : Int32)) ⟨(m_nest 3 hts gX2_says_X5_bounded_n42 rfl rfl rfl hK (List.mem_of_getElem? (i := 23) rfl) w6 hd_X5_bounded ⟨Nat.le_of_ble_eq_true rfl, Nat.le_of_ble_eq_true rfl⟩), w5, trivial⟩ (m_preS hK hM) rfl rfl hl.1 rfl (lv_room (Nat.le_of_ble_eq_true rfl)) dX2_says_254 ⟨Nat.le_of_ble_eq_true rfl, Nat.le_of_ble_eq_true rfl⟩) hL (fun H locs hM hL => ?_)
    subst hQ
    cases h
    exact m_iret hx hb hr hM hL dX2_says_257 hlocks
  have hN228 : ∀ (x1 : Int32) (h4 : Nat) (x7 : Int32) (σ : mS), f_X2_says_228 x1 h4 x7 σ = some z → ∀ (H : Heap) (locs : List Loc) (ls : Array Slot), mP G σ H → mL G locs → lv_has ls 10 [(1, .int x1), (4, .ref h4), (7, .int x7)] → W p l e rm_X2_says s m args below meth c H locs 0 0 Q (F0 m 228 ls []) := by
    intro x1 h4 x7 σ h H locs ls hM hL hl
    rw [f_X2_says_228.eq_1] at h
    refine lv_iload hx hb dX2_says_228 (lv_at hl 2 rfl) ?_
    refine lv_if_le (tgt := 240) hx hb dX2_says_230 (by decide) (fun c74 => ?_) (fun c74 => ?_)
    · have h := (if_pos c74).symm.trans h
      refine lv_iconst hx hb dX2_says_240 kI_0 ?_
      refine hN241 _ _ _ h _ _ _ hM hL (lv_sub hl [0] rfl)
    · have h := (if_neg c74).symm.trans h
      refine lv_aload hx hb dX2_says_233 (lv_at hl 1 rfl) ?_
      refine lv_iconst hx hb dX2_says_235 kI_0 ?_
      refine m_iald hx hb hK hM h dX2_says_236 (fun v75 gv75 h => ?_)
      refine lv_goto (tgt := 241) hx hb dX2_says_237 (by decide) ?_
      refine hN241 _ _ _ h _ _ _ hM hL (lv_sub hl [0] rfl)
  have hN30 : ∀ (h0 : Nat) (x1 : Int32) (h2 : Nat) (x3 : Int32) (h4 : Nat) (s0 : Int32) (σ : mS), f_X2_says_30 h0 x1 h2 x3 h4 s0 σ = some z → ∀ (H : Heap) (locs : List Loc) (ls : Array Slot), mP G σ H → mL G locs → lv_has ls 10 [(0, .ref h0), (1, .int x1), (2, .ref h2), (3, .int x3), (4, .ref h4)] → W p l e rm_X2_says s m args below meth c H locs 0 0 Q (F0 m 30 ls [.int s0]) := by
    intro h0 x1 h2 x3 h4 s0 σ h H locs ls hM hL hl
    rw [f_X2_says_30.eq_1] at h
    refine lv_istore (lv' := [(5, .int s0), (0, .ref h0), (1, .int x1), (2, .ref h2), (3, .int x3), (4, .ref h4)]) hx hb dX2_says_30 hl (by decide) rfl (fun ls hl => ?_)
    refine lv_iload_n hx hb dX2_says_32 rfl (lv_at hl 2 rfl) ?_
    refine lv_if_ne (tgt := 43) hx hb dX2_says_33 (by decide) (fun c76 => ?_) (fun c76 => ?_)
    · have h := (if_neg c76).symm.trans h
      refine lv_iload_n hx hb dX2_says_43 rfl (lv_at hl 2 rfl) ?_
      refine lv_iconst hx hb dX2_says_44 kI_1 ?_
      refine lv_icmp_ne (tgt := 55) hx hb dX2_says_45 (by decide) (fun c77 => ?_) (fun c77 => ?_)
      · have h := (if_neg c77).symm.trans h
        refine lv_aload_n hx hb dX2_says_55 rfl (lv_at hl 1 rfl) ?_
        refine m_getR (ci := 1) hx hb hU2 hown hK hM rfl 1 (by decide) w4 h dX2_says_56 (fun r78 gr78 h => ?_)
        refine m_alen hx hb hK hM h dX2_says_59 (fun v79 gv79 h => ?_)
        refine lv_istore (lv' := [(6, .int v79), (5, .int s0), (0, .ref h0), (1, .int x1), (2, .ref h2), (3, .int x3), (4, .ref h4)]) hx hb dX2_says_60 hl (by decide) rfl (fun ls hl => ?_)
        refine lv_iconst hx hb dX2_says_62 kI_0 ?_
        refine lv_istore (lv' := [(7, .int (0 : Int32)), (6, .int v79), (5, .int s0), (0, .ref h0), (1, .int x1), (2, .ref h2), (3, .int x3), (4, .ref h4)]) hx hb dX2_says_63 hl (by decide) rfl (fun ls hl => ?_)
        refine lv_iload hx hb dX2_says_65 (lv_at hl 2 rfl) ?_
        refine lv_istore (lv' := [(8, .int s0), (7, .int (0 : Int32)), (6, .int v79), (5, .int s0), (0, .ref h0), (1, .int x1), (2, .ref h2), (3, .int x3), (4, .ref h4)]) hx hb dX2_says_67 hl (by decide) rfl (fun ls hl => ?_)
        refine hN69 _ (fun _ _ _ _ h H locs ls hM hL hl => hN228 _ _ _ _ h H locs ls hM hL hl) _ _ _ _ _ _ _ _ _ _ h _ _ _ hM hL (lv_sub hl [4, 5, 6, 7, 8, 2, 1, 0] rfl)
      · have h := (if_pos c77).symm.trans h
        refine lv_aload_n hx hb dX2_says_48 rfl (lv_at hl 1 rfl) ?_
        refine m_getI (ci := 1) hx hb hU2 hown hK hM rfl 3 (by decide) w2 h dX2_says_49 (fun v80 gv80 h => ?_)
        refine lv_goto (tgt := 60) hx hb dX2_says_52 (by decide) ?_
        refine lv_istore (lv' := [(6, .int v80), (5, .int s0), (0, .ref h0), (1, .int x1), (2, .ref h2), (3, .int x3), (4, .ref h4)]) hx hb dX2_says_60 hl (by decide) rfl (fun ls hl => ?_)
        refine lv_iconst hx hb dX2_says_62 kI_0 ?_
        refine lv_istore (lv' := [(7, .int (0 : Int32)), (6, .int v80), (5, .int s0), (0, .ref h0), (1, .int x1), (2, .ref h2), (3, .int x3), (4, .ref h4)]) hx hb dX2_says_63 hl (by decide) rfl (fun ls hl => ?_)
        refine lv_iload hx hb dX2_says_65 (lv_at hl 2 rfl) ?_
        refine lv_istore (lv' := [(8, .int s0), (7, .int (0 : Int32)), (6, .int v80), (5, .int s0), (0, .ref h0), (1, .int x1), (2, .ref h2), (3, .int x3), (4, .ref h4)]) hx hb dX2_says_67 hl (by decide) rfl (fun ls hl => ?_)
        refine hN69 _ (fun _ _ _ _ h H locs ls hM hL hl => hN228 _ _ _ _ h H locs ls hM hL hl) _ _ _ _ _ _ _ _ _ _ h _ _ _ hM hL (lv_sub hl [4, 5, 6, 7, 8, 2, 1, 0] rfl)
    · have h := (if_pos c76).symm.trans h
      refine lv_aload_n hx hb dX2_says_36 rfl (lv_at hl 1 rfl) ?_
      refine m_getI (ci := 1) hx hb hU2 hown hK hM rfl 2 (by decide) w3 h dX2_says_37 (fun v81 gv81 h => ?_)
      refine lv_goto (tgt := 60) hx hb dX2_says_40 (by decide) ?_
      refine lv_istore (lv' := [(6, .int v81), (5, .int s0), (0, .ref h0), (1, .int x1), (2, .ref h2), (3, .int x3), (4, .ref h4)]) hx hb dX2_says_60 hl (by decide) rfl (fun ls hl => ?_)
      refine lv_iconst hx hb dX2_says_62 kI_0 ?_
      refine lv_istore (lv' := [(7, .int (0 : Int32)), (6, .int v81), (5, .int s0), (0, .ref h0), (1, .int x1), (2, .ref h2), (3, .int x3), (4, .ref h4)]) hx hb dX2_says_63 hl (by decide) rfl (fun ls hl => ?_)
      refine lv_iload hx hb dX2_says_65 (lv_at hl 2 rfl) ?_
      refine lv_istore (lv' := [(8, .int s0), (7, .int (0 : Int32)), (6, .int v81), (5, .int s0), (0, .ref h0), (1, .int x1), (2, .ref h2), (3, .int x3), (4, .ref h4)]) hx hb dX2_says_67 hl (by decide) rfl (fun ls hl => ?_)
      refine hN69 _ (fun _ _ _ _ h H locs ls hM hL hl => hN228 _ _ _ _ h H locs ls hM hL hl) _ _ _ _ _ _ _ _ _ _ h _ _ _ hM hL (lv_sub hl [4, 5, 6, 7, 8, 2, 1, 0] rfl)
  rw [f_X2_says.eq_1] at h
  refine lv_aload_n hx hb dX2_says_0 rfl (lv_at hl 2 rfl) ?_
  refine m_getRN (ci := 0) (host := RX5) hx hb hU0 hown hK hM rfl 10 (by decide) (List.mem_of_getElem? (i := 13) rfl) h dX2_says_1 (fun r82 gr82 h => ?_)
  refine lv_astore (lv' := [(4, .ref r82), (0, .ref h0), (1, .int x1), (2, .ref h2), (3, .int x3)]) hx hb dX2_says_4 hl (by decide) rfl (fun ls hl => ?_)
  refine lv_iload_n hx hb dX2_says_6 rfl (lv_at hl 2 rfl) ?_
  refine lv_if_ne (tgt := 14) hx hb dX2_says_7 (by decide) (fun c83 => ?_) (fun c83 => ?_)
  · have h := (if_neg c83).symm.trans h
    refine lv_iload_n hx hb dX2_says_14 rfl (lv_at hl 2 rfl) ?_
    refine lv_iconst hx hb dX2_says_15 kI_1 ?_
    refine lv_icmp_ne (tgt := 26) hx hb dX2_says_16 (by decide) (fun c84 => ?_) (fun c84 => ?_)
    · have h := (if_neg c84).symm.trans h
      refine lv_aload_n hx hb dX2_says_26 rfl (lv_at hl 1 rfl) ?_
      refine m_getI (ci := 1) hx hb hU2 hown hK hM rfl 3 (by decide) w2 h dX2_says_27 (fun v85 gv85 h => ?_)
      refine hN30 _ _ _ _ _ _ _ h _ _ _ hM hL (lv_sub hl [1, 2, 3, 4, 0] rfl)
    · have h := (if_pos c84).symm.trans h
      refine lv_aload_n hx hb dX2_says_19 rfl (lv_at hl 1 rfl) ?_
      refine m_getI (ci := 1) hx hb hU2 hown hK hM rfl 2 (by decide) w3 h dX2_says_20 (fun v86 gv86 h => ?_)
      refine lv_goto (tgt := 30) hx hb dX2_says_23 (by decide) ?_
      refine hN30 _ _ _ _ _ _ _ h _ _ _ hM hL (lv_sub hl [1, 2, 3, 4, 0] rfl)
  · have h := (if_pos c83).symm.trans h
    refine lv_iconst hx hb dX2_says_10 kI_0 ?_
    refine lv_goto (tgt := 30) hx hb dX2_says_11 (by decide) ?_
    refine hN30 _ _ _ _ _ _ _ h _ _ _ hM hL (lv_sub hl [1, 2, 3, 4, 0] rfl)
abbrev rm_X1_ladyLooks : Room := { frames := 0, cells := 0, slots := 0, locals := 0 }
set_option maxHeartbeats 4000000 in
set_option maxRecDepth 100000 in
theorem c_X1_ladyLooks (l : Launch) (G : mG) (x0 : Int32) (x1 : Int32) (x2 : Int32) {σ : mS} : Met l yX1_ladyLooks wsX1_ladyLooks rm_X1_ladyLooks (va_Pc [.int x0, .int x1, .int x2] (mB G σ)) (mQ G (.returned (some (.int (f_X1_ladyLooks x0 x1 x2)))) (σ)) 0 0 (mF G) := by
  obtain ⟨z, h⟩ : ∃ z, f_X1_ladyLooks x0 x1 x2 = z := ⟨_, rfl⟩
  rw [h]
  refine m_start (cc := cX1_ladyLooks) (maxL := 3) (ret := (some .int)) (by decide) rfl [.int x0, .int x1, .int x2] (Nat.le_of_ble_eq_true rfl) ?_
  intro p e s m args below meth c ls hx hb hr hml hown hts hlocks hnm hK hM hl
  have hown : s.vm.findClass RX1 = some m.cls := hown
  have hnm : meth.name = "ladyLooks" := hnm
  obtain ⟨locs, hlocs⟩ : ∃ l : List Loc, l = [] := ⟨_, rfl⟩
  have hL : mL G locs := by rw [hlocs]; exact mL_nil G
  rw [← hlocs]
  generalize s.heap = H at hM ⊢
  have hl : lv_has ls 3 [(0, .int x0), (1, .int x1), (2, .int x2)] := hl
  obtain ⟨Q, hQ⟩ : ∃ Q, Q = MQ below (mQ G (.returned (some (.int z))) (σ)) args s 0 0 (mF G) := ⟨_, rfl⟩
  rw [← hQ]
  rw [f_X1_ladyLooks.eq_1] at h
  refine lv_iload_n hx hb dX1_ladyLooks_0 rfl (lv_at hl 2 rfl) ?_
  refine lv_iload_n hx hb dX1_ladyLooks_1 rfl (lv_at hl 1 rfl) ?_
  refine lv_bipush hx hb dX1_ladyLooks_2 kB_6 ?_
  refine lv_irem hx hb dX1_ladyLooks_4 (by decide) ?_
  refine lv_icmp_ne (tgt := 13) hx hb dX1_ladyLooks_5 (by decide) (fun c2 => ?_) (fun c2 => ?_)
  · have h := (if_neg c2).symm.trans h
    refine lv_iload_n hx hb dX1_ladyLooks_13 rfl (lv_at hl 0 rfl) ?_
    subst hQ
    subst h
    exact m_iret hx hb hr hM hL dX1_ladyLooks_14 hlocks
  · have h := (if_pos c2).symm.trans h
    refine lv_bipush hx hb dX1_ladyLooks_8 kB_99 ?_
    refine lv_goto (tgt := 14) hx hb dX1_ladyLooks_10 (by decide) ?_
    subst hQ
    subst h
    exact m_iret hx hb hr hM hL dX1_ladyLooks_14 hlocks
abbrev rm_X1_looksOf : Room := { frames := 1, cells := 0, slots := 0, locals := 22 }
set_option maxHeartbeats 4000000 in
set_option maxRecDepth 100000 in
theorem c_X1_looksOf (l : Launch) (G : mG) {x0 : Int32} {x1 : Int32} {x2 : Int32} {x3 : Int32} {σ : mS} {z : Int32} (h : f_X1_looksOf x0 x1 x2 x3 = some z) : Met l yX1_looksOf wsX1_looksOf rm_X1_looksOf (va_Pc [.int x0, .int x1, .int x2, .int x3] (mB G σ)) (mQ G (.returned (some (.int z))) (σ)) 0 0 (mF G) := by
  refine m_start (cc := cX1_looksOf) (maxL := 4) (ret := (some .int)) (by decide) rfl [.int x0, .int x1, .int x2, .int x3] (Nat.le_of_ble_eq_true rfl) ?_
  intro p e s m args below meth c ls hx hb hr hml hown hts hlocks hnm hK hM hl
  have hown : s.vm.findClass RX1 = some m.cls := hown
  have hnm : meth.name = "looksOf" := hnm
  obtain ⟨locs, hlocs⟩ : ∃ l : List Loc, l = [] := ⟨_, rfl⟩
  have hL : mL G locs := by rw [hlocs]; exact mL_nil G
  rw [← hlocs]
  generalize s.heap = H at hM ⊢
  have hl : lv_has ls 4 [(0, .int x0), (1, .int x1), (2, .int x2), (3, .int x3)] := hl
  obtain ⟨Q, hQ⟩ : ∃ Q, Q = MQ below (mQ G (.returned (some (.int z))) (σ)) args s 0 0 (mF G) := ⟨_, rfl⟩
  rw [← hQ]
  rw [f_X1_looksOf.eq_1] at h
  refine lv_iload_n hx hb dX1_looksOf_0 rfl (lv_at hl 0 rfl) ?_
  by_cases c9 : x0 = (1 : Int32)
  · have h := (if_pos c9).symm.trans h
    refine m_tin (tgt := 36) (off := 35) hx hb c9 dX1_looksOf_1 (by decide) (by decide) (by decide) (by decide) ?_
    refine lv_iload_n hx hb dX1_looksOf_36 rfl (lv_at hl 1 rfl) ?_
    refine lv_iload_n hx hb dX1_looksOf_37 rfl (lv_at hl 2 rfl) ?_
    refine lv_iload_n hx hb dX1_looksOf_38 rfl (lv_at hl 3 rfl) ?_
    refine m_calli (va_runS (As := [.int x1, .int x2, .int x3]) (rest := []) ⟨hx, hb, hml, hown, hts⟩ (c_X1_ladyLooks l G x1 x2 x3) (va_cwS 3 hts gX1_looksOf_X1_ladyLooks rfl rfl rfl hd_X1_ladyLooks ⟨Nat.le_of_ble_eq_true rfl, Nat.le_of_ble_eq_true rfl⟩) (m_preS hK hM) rfl rfl hl.1 rfl (lv_room (Nat.le_of_ble_eq_true rfl)) dX1_looksOf_39 ⟨Nat.le_of_ble_eq_true rfl, Nat.le_of_ble_eq_true rfl⟩) hL (fun H locs hM hL => ?_)
    subst hQ
    cases h
    exact m_iret hx hb hr hM hL dX1_looksOf_42 hlocks
  have h := (if_neg c9).symm.trans h
  by_cases c10 : x0 = (2 : Int32)
  · have h := (if_pos c10).symm.trans h
    refine m_tin (tgt := 62) (off := 61) hx hb c10 dX1_looksOf_1 (by decide) (by decide) (by decide) (by decide) ?_
    refine lv_iload_n hx hb dX1_looksOf_62 rfl (lv_at hl 1 rfl) ?_
    refine lv_iconst hx hb dX1_looksOf_63 kI_5 ?_
    refine lv_iload_n hx hb dX1_looksOf_64 rfl (lv_at hl 2 rfl) ?_
    refine lv_imul hx hb dX1_looksOf_65 ?_
    refine lv_isub hx hb dX1_looksOf_66 ?_
    subst hQ
    cases h
    exact m_iret hx hb hr hM hL dX1_looksOf_67 hlocks
  have h := (if_neg c10).symm.trans h
  by_cases c11 : x0 = (3 : Int32)
  · have h := (if_pos c11).symm.trans h
    refine m_tin (tgt := 43) (off := 42) hx hb c11 dX1_looksOf_1 (by decide) (by decide) (by decide) (by decide) ?_
    refine lv_iload_n hx hb dX1_looksOf_43 rfl (lv_at hl 1 rfl) ?_
    refine lv_iload_n hx hb dX1_looksOf_44 rfl (lv_at hl 2 rfl) ?_
    refine lv_iload_n hx hb dX1_looksOf_45 rfl (lv_at hl 3 rfl) ?_
    refine m_calli (va_runS (As := [.int x1, .int x2, .int x3]) (rest := []) ⟨hx, hb, hml, hown, hts⟩ (c_X1_ladyLooks l G x1 x2 x3) (va_cwS 3 hts gX1_looksOf_X1_ladyLooks rfl rfl rfl hd_X1_ladyLooks ⟨Nat.le_of_ble_eq_true rfl, Nat.le_of_ble_eq_true rfl⟩) (m_preS hK hM) rfl rfl hl.1 rfl (lv_room (Nat.le_of_ble_eq_true rfl)) dX1_looksOf_46 ⟨Nat.le_of_ble_eq_true rfl, Nat.le_of_ble_eq_true rfl⟩) hL (fun H locs hM hL => ?_)
    refine lv_iload_n hx hb dX1_looksOf_49 rfl (lv_at hl 3 rfl) ?_
    refine lv_iconst hx hb dX1_looksOf_50 kI_2 ?_
    refine lv_irem hx hb dX1_looksOf_51 (by decide) ?_
    suffices hJ : ∀ (v13 : Int32) (ls : Array Slot), v13 = (if (x3 - x3 / (2 : Int32) * (2 : Int32)) = 0 then (2 : Int32) else (1 : Int32)) → lv_has ls 4 [] → W p l e rm_X1_looksOf s m args below meth c H locs 0 0 Q (F0 m 60 ls [.int v13, .int (f_X1_ladyLooks x1 x2 x3)]) by
      refine lv_if_ne (tgt := 59) hx hb dX1_looksOf_52 (by decide) (fun c12 => ?_) (fun c12 => ?_)
      · refine lv_iconst hx hb dX1_looksOf_59 kI_1 ?_
        exact hJ _ _ (((if_neg c12).trans rfl).symm) (lv_sub hl [] rfl)
      · refine lv_iconst hx hb dX1_looksOf_55 kI_2 ?_
        refine lv_goto (tgt := 60) hx hb dX1_looksOf_56 (by decide) ?_
        exact hJ _ _ (((if_pos c12).trans rfl).symm) (lv_sub hl [] rfl)
    intro v13 ls ev13 hl
    have h := vl_at ev13 h
    obtain ⟨n14, h⟩ := on_some h
    refine lv_idiv hx hb dX1_looksOf_60 n14 ?_
    subst hQ
    cases h
    exact m_iret hx hb hr hM hL dX1_looksOf_61 hlocks
  have h := (if_neg c11).symm.trans h
  by_cases c15 : x0 = (4 : Int32)
  · have h := (if_pos c15).symm.trans h
    refine m_tin (tgt := 62) (off := 61) hx hb c15 dX1_looksOf_1 (by decide) (by decide) (by decide) (by decide) ?_
    refine lv_iload_n hx hb dX1_looksOf_62 rfl (lv_at hl 1 rfl) ?_
    refine lv_iconst hx hb dX1_looksOf_63 kI_5 ?_
    refine lv_iload_n hx hb dX1_looksOf_64 rfl (lv_at hl 2 rfl) ?_
    refine lv_imul hx hb dX1_looksOf_65 ?_
    refine lv_isub hx hb dX1_looksOf_66 ?_
    subst hQ
    cases h
    exact m_iret hx hb hr hM hL dX1_looksOf_67 hlocks
  have h := (if_neg c15).symm.trans h
  by_cases c16 : x0 = (5 : Int32)
  · have h := (if_pos c16).symm.trans h
    refine m_tin (tgt := 68) (off := 67) hx hb c16 dX1_looksOf_1 (by decide) (by decide) (by decide) (by decide) ?_
    refine lv_iconst hx hb dX1_looksOf_68 kI_0 ?_
    subst hQ
    cases h
    exact m_iret hx hb hr hM hL dX1_looksOf_69 hlocks
  have h := (if_neg c16).symm.trans h
  refine lv_tableOut (tgt := 70) hx hb dX1_looksOf_1 (by have q0 := lv_neT (a := 1) c9 (by decide); have q1 := lv_neT (a := 2) c10 (by decide); have q2 := lv_neT (a := 3) c11 (by decide); have q3 := lv_neT (a := 4) c15 (by decide); have q4 := lv_neT (a := 5) c16 (by decide); omega) (by decide) ?_
  refine lv_iload_n hx hb dX1_looksOf_70 rfl (lv_at hl 1 rfl) ?_
  subst hQ
  cases h
  exact m_iret hx hb hr hM hL dX1_looksOf_71 hlocks
abbrev rm_X0_looks : Room := { frames := 3, cells := 0, slots := 0, locals := 81 }
set_option maxHeartbeats 4000000 in
set_option maxRecDepth 100000 in
theorem c_X0_looks (l : Launch) (G : mG) {h0 : Nat} {x1 : Int32} {x2 : Int32} {σ : mS} {z : Int32 × mS} (h : f_X0_looks h0 x1 x2 σ = some z) : Met l yX0_looks wsX0_looks rm_X0_looks (va_Pc [.ref h0, .int x1, .int x2] (mB G σ)) (mQ G (.returned (some (.int z.1))) z.2) 0 0 (mF G) := by
  refine m_start (cc := cX0_looks) (maxL := 4) (ret := (some .int)) (by decide) rfl [.ref h0, .int x1, .int x2] (Nat.le_of_ble_eq_true rfl) ?_
  intro p e s m args below meth c ls hx hb hr hml hown hts hlocks hnm hK hM hl
  have hown : s.vm.findClass RX0 = some m.cls := hown
  have hnm : meth.name = "looks" := hnm
  obtain ⟨locs, hlocs⟩ : ∃ l : List Loc, l = [] := ⟨_, rfl⟩
  have hL : mL G locs := by rw [hlocs]; exact mL_nil G
  rw [← hlocs]
  generalize s.heap = H at hM ⊢
  have hl : lv_has ls 4 [(0, .ref h0), (1, .int x1), (2, .int x2)] := hl
  obtain ⟨Q, hQ⟩ : ∃ Q, Q = MQ below (mQ G (.returned (some (.int z.1))) z.2) args s 0 0 (mF G) := ⟨_, rfl⟩
  rw [← hQ]
  have hU0 : ∀ w ∈ wsX00, w.before args s = true := fun w h => hts w (List.mem_cons_of_mem _ (List.mem_append_left _ (List.mem_append_right _ h)))
  have w1 := (hts (.fieldLink RX0 42 "HandkerchiefsDropped$Assize" "law" "LHandkerchiefsDropped$Law;") (List.mem_of_getElem? (i := 1) rfl))
  have w2 := (hts (.fieldLink RX0 18 "HandkerchiefsDropped$Assize" "kind" "[I") (List.mem_of_getElem? (i := 2) rfl))
  have w3 := (hts (.fieldLink RX0 21 "HandkerchiefsDropped$Assize" "more" "[I") (List.mem_of_getElem? (i := 3) rfl))
  have w4 := (hts (.static yX5_bounded) (List.mem_of_getElem? (i := 39) rfl))
  have w5 := (hts (.initialized RX5) (List.mem_of_getElem? (i := 40) rfl))
  rw [f_X0_looks.eq_1] at h
  refine lv_aload_n hx hb dX0_looks_0 rfl (lv_at hl 0 rfl) ?_
  refine m_getR (ci := 0) hx hb hU0 hown hK hM rfl 14 (by decide) w1 h dX0_looks_1 (fun r9 gr9 h => ?_)
  refine lv_iconst hx hb dX0_looks_4 kI_0 ?_
  refine lv_aload_n hx hb dX0_looks_5 rfl (lv_at hl 0 rfl) ?_
  refine lv_iload_n hx hb dX0_looks_6 rfl (lv_at hl 1 rfl) ?_
  obtain ⟨o10, h⟩ := oi_some h
  obtain ⟨q11, hq11, h⟩ := ob_some h
  refine m_calli (va_runV (As := [.int (0 : Int32), .ref h0, .int x1]) (rest := []) ⟨hx, hb, hml, hown, hts⟩ (c_X2_says l G hq11) (cwV 3 hts gX0_looks_X2_says rfl rfl rfl hd_X2_saysv ⟨Nat.le_of_ble_eq_true rfl, Nat.le_of_ble_eq_true rfl⟩) (m_preV (ci := 1) hK hM rfl o10) rfl rfl hl.1 rfl (lv_room (Nat.le_of_ble_eq_true rfl)) dX0_looks_7 ⟨Nat.le_of_ble_eq_true rfl, Nat.le_of_ble_eq_true rfl⟩) hL (fun H locs hM hL => ?_)
  refine lv_istore_n (lv' := [(3, .int q11.1), (0, .ref h0), (1, .int x1), (2, .int x2)]) hx hb dX0_looks_10 rfl hl (by decide) rfl (fun ls hl => ?_)
  refine lv_aload_n hx hb dX0_looks_11 rfl (lv_at hl 1 rfl) ?_
  refine m_getR (ci := 0) hx hb hU0 hown hK hM rfl 2 (by decide) w2 h dX0_looks_12 (fun r12 gr12 h => ?_)
  refine lv_iload_n hx hb dX0_looks_15 rfl (lv_at hl 2 rfl) ?_
  refine m_iald hx hb hK hM h dX0_looks_16 (fun v13 gv13 h => ?_)
  refine lv_iload_n hx hb dX0_looks_17 rfl (lv_at hl 0 rfl) ?_
  refine lv_aload_n hx hb dX0_looks_18 rfl (lv_at hl 1 rfl) ?_
  refine m_getR (ci := 0) hx hb hU0 hown hK hM rfl 3 (by decide) w3 h dX0_looks_19 (fun r14 gr14 h => ?_)
  refine lv_iload_n hx hb dX0_looks_22 rfl (lv_at hl 2 rfl) ?_
  refine m_iald hx hb hK hM h dX0_looks_23 (fun v15 gv15 h => ?_)
  refine lv_iload_n hx hb dX0_looks_24 rfl (lv_at hl 3 rfl) ?_
  obtain ⟨q16, hq16, h⟩ := ob_some h
  refine m_calli (va_runS (As := [.int v13, .int q11.1, .int v15, .int x2]) (rest := []) ⟨hx, hb, hml, hown, hts⟩ (c_X1_looksOf l G hq16) (va_cwS 4 hts gX0_looks_X1_looksOf rfl rfl rfl hd_X1_looksOf ⟨Nat.le_of_ble_eq_true rfl, Nat.le_of_ble_eq_true rfl⟩) (m_preS hK hM) rfl rfl hl.1 rfl (lv_room (Nat.le_of_ble_eq_true rfl)) dX0_looks_25 ⟨Nat.le_of_ble_eq_true rfl, Nat.le_of_ble_eq_true rfl⟩) hL (fun H locs hM hL => ?_)
  refine lv_iconst hx hb dX0_looks_28 kI_0 ?_
  refine lv_bipush hx hb dX0_looks_29 kB_99 ?_
  refine m_calli (va_runSN (As := [.int q16, .int (0 : Int32), .int (99 : Int32)]) (rest := []) ⟨hx, hb, hml, hown, hts⟩ (c_X5_bounded l G q16 (0 : Int32) (99 : Int32)) ⟨(m_nest 3 hts gX0_looks_X5_bounded_n91 rfl rfl rfl hK (List.mem_of_getElem? (i := 24) rfl) w5 hd_X5_bounded ⟨Nat.le_of_ble_eq_true rfl, Nat.le_of_ble_eq_true rfl⟩), w4, trivial⟩ (m_preS hK hM) rfl rfl hl.1 rfl (lv_room (Nat.le_of_ble_eq_true rfl)) dX0_looks_31 ⟨Nat.le_of_ble_eq_true rfl, Nat.le_of_ble_eq_true rfl⟩) hL (fun H locs hM hL => ?_)
  subst hQ
  cases h
  exact m_iret hx hb hr hM hL dX0_looks_34 hlocks
abbrev rm_X1_waitsOf : Room := { frames := 0, cells := 0, slots := 0, locals := 0 }
set_option maxHeartbeats 4000000 in
set_option maxRecDepth 100000 in
theorem c_X1_waitsOf (l : Launch) (G : mG) (x0 : Int32) (x1 : Int32) (x2 : Int32) (x3 : Int32) {σ : mS} : Met l yX1_waitsOf wsX1_waitsOf rm_X1_waitsOf (va_Pc [.int x0, .int x1, .int x2, .int x3] (mB G σ)) (mQ G (.returned (some (.int (f_X1_waitsOf x0 x1 x2 x3)))) (σ)) 0 0 (mF G) := by
  obtain ⟨z, h⟩ : ∃ z, f_X1_waitsOf x0 x1 x2 x3 = z := ⟨_, rfl⟩
  rw [h]
  refine m_start (cc := cX1_waitsOf) (maxL := 4) (ret := (some .int)) (by decide) rfl [.int x0, .int x1, .int x2, .int x3] (Nat.le_of_ble_eq_true rfl) ?_
  intro p e s m args below meth c ls hx hb hr hml hown hts hlocks hnm hK hM hl
  have hown : s.vm.findClass RX1 = some m.cls := hown
  have hnm : meth.name = "waitsOf" := hnm
  obtain ⟨locs, hlocs⟩ : ∃ l : List Loc, l = [] := ⟨_, rfl⟩
  have hL : mL G locs := by rw [hlocs]; exact mL_nil G
  rw [← hlocs]
  generalize s.heap = H at hM ⊢
  have hl : lv_has ls 4 [(0, .int x0), (1, .int x1), (2, .int x2), (3, .int x3)] := hl
  obtain ⟨Q, hQ⟩ : ∃ Q, Q = MQ below (mQ G (.returned (some (.int z))) (σ)) args s 0 0 (mF G) := ⟨_, rfl⟩
  rw [← hQ]
  rw [f_X1_waitsOf.eq_1] at h
  refine lv_iload_n hx hb dX1_waitsOf_0 rfl (lv_at hl 0 rfl) ?_
  by_cases c7 : x0 = (1 : Int32)
  · have h := (if_pos c7).symm.trans h
    refine m_tin (tgt := 36) (off := 35) hx hb c7 dX1_waitsOf_1 (by decide) (by decide) (by decide) (by decide) ?_
    refine lv_iload_n hx hb dX1_waitsOf_36 rfl (lv_at hl 1 rfl) ?_
    refine lv_iconst hx hb dX1_waitsOf_37 kI_2 ?_
    refine lv_idiv hx hb dX1_waitsOf_38 (by decide) ?_
    subst hQ
    subst h
    exact m_iret hx hb hr hM hL dX1_waitsOf_39 hlocks
  have h := (if_neg c7).symm.trans h
  by_cases c8 : x0 = (2 : Int32)
  · have h := (if_pos c8).symm.trans h
    refine m_tin (tgt := 65) (off := 64) hx hb c8 dX1_waitsOf_1 (by decide) (by decide) (by decide) (by decide) ?_
    refine lv_iload_n hx hb dX1_waitsOf_65 rfl (lv_at hl 1 rfl) ?_
    subst hQ
    subst h
    exact m_iret hx hb hr hM hL dX1_waitsOf_66 hlocks
  have h := (if_neg c8).symm.trans h
  by_cases c9 : x0 = (3 : Int32)
  · have h := (if_pos c9).symm.trans h
    refine m_tin (tgt := 40) (off := 39) hx hb c9 dX1_waitsOf_1 (by decide) (by decide) (by decide) (by decide) ?_
    refine lv_iload_n hx hb dX1_waitsOf_40 rfl (lv_at hl 3 rfl) ?_
    refine lv_iconst hx hb dX1_waitsOf_41 kI_5 ?_
    refine lv_irem hx hb dX1_waitsOf_42 (by decide) ?_
    refine lv_if_ne (tgt := 51) hx hb dX1_waitsOf_43 (by decide) (fun c10 => ?_) (fun c10 => ?_)
    · have h := (if_neg c10).symm.trans h
      refine lv_iload_n hx hb dX1_waitsOf_51 rfl (lv_at hl 1 rfl) ?_
      refine lv_iconst hx hb dX1_waitsOf_52 kI_2 ?_
      refine lv_idiv hx hb dX1_waitsOf_53 (by decide) ?_
      refine lv_iload_n hx hb dX1_waitsOf_54 rfl (lv_at hl 2 rfl) ?_
      refine lv_iadd hx hb dX1_waitsOf_55 ?_
      subst hQ
      subst h
      exact m_iret hx hb hr hM hL dX1_waitsOf_56 hlocks
    · have h := (if_pos c10).symm.trans h
      refine lv_bipush hx hb dX1_waitsOf_46 kB_99 ?_
      refine lv_goto (tgt := 56) hx hb dX1_waitsOf_48 (by decide) ?_
      subst hQ
      subst h
      exact m_iret hx hb hr hM hL dX1_waitsOf_56 hlocks
  have h := (if_neg c9).symm.trans h
  by_cases c11 : x0 = (4 : Int32)
  · have h := (if_pos c11).symm.trans h
    refine m_tin (tgt := 57) (off := 56) hx hb c11 dX1_waitsOf_1 (by decide) (by decide) (by decide) (by decide) ?_
    refine lv_iload_n hx hb dX1_waitsOf_57 rfl (lv_at hl 1 rfl) ?_
    refine lv_iconst hx hb dX1_waitsOf_58 kI_2 ?_
    refine lv_imul hx hb dX1_waitsOf_59 ?_
    subst hQ
    subst h
    exact m_iret hx hb hr hM hL dX1_waitsOf_60 hlocks
  have h := (if_neg c11).symm.trans h
  by_cases c12 : x0 = (5 : Int32)
  · have h := (if_pos c12).symm.trans h
    refine m_tin (tgt := 61) (off := 60) hx hb c12 dX1_waitsOf_1 (by decide) (by decide) (by decide) (by decide) ?_
    refine lv_iconst hx hb dX1_waitsOf_61 kI_1 ?_
    refine lv_iload_n hx hb dX1_waitsOf_62 rfl (lv_at hl 2 rfl) ?_
    refine lv_iadd hx hb dX1_waitsOf_63 ?_
    subst hQ
    subst h
    exact m_iret hx hb hr hM hL dX1_waitsOf_64 hlocks
  have h := (if_neg c12).symm.trans h
  refine lv_tableOut (tgt := 65) hx hb dX1_waitsOf_1 (by have q0 := lv_neT (a := 1) c7 (by decide); have q1 := lv_neT (a := 2) c8 (by decide); have q2 := lv_neT (a := 3) c9 (by decide); have q3 := lv_neT (a := 4) c11 (by decide); have q4 := lv_neT (a := 5) c12 (by decide); omega) (by decide) ?_
  refine lv_iload_n hx hb dX1_waitsOf_65 rfl (lv_at hl 1 rfl) ?_
  subst hQ
  subst h
  exact m_iret hx hb hr hM hL dX1_waitsOf_66 hlocks
abbrev rm_X0_waits : Room := { frames := 3, cells := 0, slots := 0, locals := 81 }
set_option maxHeartbeats 4000000 in
set_option maxRecDepth 100000 in
theorem c_X0_waits (l : Launch) (G : mG) {h0 : Nat} {x1 : Int32} {σ : mS} {z : Int32 × mS} (h : f_X0_waits h0 x1 σ = some z) : Met l yX0_waits wsX0_waits rm_X0_waits (va_Pc [.ref h0, .int x1] (mB G σ)) (mQ G (.returned (some (.int z.1))) z.2) 0 0 (mF G) := by
  refine m_start (cc := cX0_waits) (maxL := 3) (ret := (some .int)) (by decide) rfl [.ref h0, .int x1] (Nat.le_of_ble_eq_true rfl) ?_
  intro p e s m args below meth c ls hx hb hr hml hown hts hlocks hnm hK hM hl
  have hown : s.vm.findClass RX0 = some m.cls := hown
  have hnm : meth.name = "waits" := hnm
  obtain ⟨locs, hlocs⟩ : ∃ l : List Loc, l = [] := ⟨_, rfl⟩
  have hL : mL G locs := by rw [hlocs]; exact mL_nil G
  rw [← hlocs]
  generalize s.heap = H at hM ⊢
  have hl : lv_has ls 3 [(0, .ref h0), (1, .int x1)] := hl
  obtain ⟨Q, hQ⟩ : ∃ Q, Q = MQ below (mQ G (.returned (some (.int z.1))) z.2) args s 0 0 (mF G) := ⟨_, rfl⟩
  rw [← hQ]
  have hU0 : ∀ w ∈ wsX00, w.before args s = true := fun w h => hts w (List.mem_cons_of_mem _ (List.mem_append_left _ (List.mem_append_right _ h)))
  have w1 := (hts (.fieldLink RX0 42 "HandkerchiefsDropped$Assize" "law" "LHandkerchiefsDropped$Law;") (List.mem_of_getElem? (i := 1) rfl))
  have w2 := (hts (.fieldLink RX0 18 "HandkerchiefsDropped$Assize" "kind" "[I") (List.mem_of_getElem? (i := 2) rfl))
  have w3 := (hts (.fieldLink RX0 21 "HandkerchiefsDropped$Assize" "more" "[I") (List.mem_of_getElem? (i := 3) rfl))
  have w4 := (hts (.fieldLink RX0 65 "HandkerchiefsDropped$Assize" "hour" "I") (List.mem_of_getElem? (i := 4) rfl))
  have w5 := (hts (.static yX5_bounded) (List.mem_of_getElem? (i := 39) rfl))
  have w6 := (hts (.initialized RX5) (List.mem_of_getElem? (i := 40) rfl))
  rw [f_X0_waits.eq_1] at h
  refine lv_aload_n hx hb dX0_waits_0 rfl (lv_at hl 0 rfl) ?_
  refine m_getR (ci := 0) hx hb hU0 hown hK hM rfl 14 (by decide) w1 h dX0_waits_1 (fun r9 gr9 h => ?_)
  refine lv_iconst hx hb dX0_waits_4 kI_1 ?_
  refine lv_aload_n hx hb dX0_waits_5 rfl (lv_at hl 0 rfl) ?_
  refine lv_iload_n hx hb dX0_waits_6 rfl (lv_at hl 1 rfl) ?_
  obtain ⟨o10, h⟩ := oi_some h
  obtain ⟨q11, hq11, h⟩ := ob_some h
  refine m_calli (va_runV (As := [.int (1 : Int32), .ref h0, .int x1]) (rest := []) ⟨hx, hb, hml, hown, hts⟩ (c_X2_says l G hq11) (cwV 3 hts gX0_waits_X2_says rfl rfl rfl hd_X2_saysv ⟨Nat.le_of_ble_eq_true rfl, Nat.le_of_ble_eq_true rfl⟩) (m_preV (ci := 1) hK hM rfl o10) rfl rfl hl.1 rfl (lv_room (Nat.le_of_ble_eq_true rfl)) dX0_waits_7 ⟨Nat.le_of_ble_eq_true rfl, Nat.le_of_ble_eq_true rfl⟩) hL (fun H locs hM hL => ?_)
  refine lv_istore_n (lv' := [(2, .int q11.1), (0, .ref h0), (1, .int x1)]) hx hb dX0_waits_10 rfl hl (by decide) rfl (fun ls hl => ?_)
  refine lv_aload_n hx hb dX0_waits_11 rfl (lv_at hl 1 rfl) ?_
  refine m_getR (ci := 0) hx hb hU0 hown hK hM rfl 2 (by decide) w2 h dX0_waits_12 (fun r12 gr12 h => ?_)
  refine lv_iload_n hx hb dX0_waits_15 rfl (lv_at hl 2 rfl) ?_
  refine m_iald hx hb hK hM h dX0_waits_16 (fun v13 gv13 h => ?_)
  refine lv_iload_n hx hb dX0_waits_17 rfl (lv_at hl 0 rfl) ?_
  refine lv_aload_n hx hb dX0_waits_18 rfl (lv_at hl 1 rfl) ?_
  refine m_getR (ci := 0) hx hb hU0 hown hK hM rfl 3 (by decide) w3 h dX0_waits_19 (fun r14 gr14 h => ?_)
  refine lv_iload_n hx hb dX0_waits_22 rfl (lv_at hl 2 rfl) ?_
  refine m_iald hx hb hK hM h dX0_waits_23 (fun v15 gv15 h => ?_)
  refine lv_aload_n hx hb dX0_waits_24 rfl (lv_at hl 1 rfl) ?_
  refine m_getI (ci := 0) hx hb hU0 hown hK hM rfl 12 (by decide) w4 h dX0_waits_25 (fun v16 gv16 h => ?_)
  refine m_calli (va_runS (As := [.int v13, .int q11.1, .int v15, .int v16]) (rest := []) ⟨hx, hb, hml, hown, hts⟩ (c_X1_waitsOf l G v13 q11.1 v15 v16) (va_cwS 4 hts gX0_waits_X1_waitsOf rfl rfl rfl hd_X1_waitsOf ⟨Nat.le_of_ble_eq_true rfl, Nat.le_of_ble_eq_true rfl⟩) (m_preS hK hM) rfl rfl hl.1 rfl (lv_room (Nat.le_of_ble_eq_true rfl)) dX0_waits_28 ⟨Nat.le_of_ble_eq_true rfl, Nat.le_of_ble_eq_true rfl⟩) hL (fun H locs hM hL => ?_)
  refine lv_iconst hx hb dX0_waits_31 kI_1 ?_
  refine lv_bipush hx hb dX0_waits_32 kB_99 ?_
  refine m_calli (va_runSN (As := [.int (f_X1_waitsOf v13 q11.1 v15 v16), .int (1 : Int32), .int (99 : Int32)]) (rest := []) ⟨hx, hb, hml, hown, hts⟩ (c_X5_bounded l G (f_X1_waitsOf v13 q11.1 v15 v16) (1 : Int32) (99 : Int32)) ⟨(m_nest 3 hts gX0_waits_X5_bounded_n91 rfl rfl rfl hK (List.mem_of_getElem? (i := 24) rfl) w6 hd_X5_bounded ⟨Nat.le_of_ble_eq_true rfl, Nat.le_of_ble_eq_true rfl⟩), w5, trivial⟩ (m_preS hK hM) rfl rfl hl.1 rfl (lv_room (Nat.le_of_ble_eq_true rfl)) dX0_waits_34 ⟨Nat.le_of_ble_eq_true rfl, Nat.le_of_ble_eq_true rfl⟩) hL (fun H locs hM hL => ?_)
  subst hQ
  cases h
  exact m_iret hx hb hr hM hL dX0_waits_37 hlocks
abbrev rm_J9_floorMod : Room := { frames := 0, cells := 0, slots := 0, locals := 0 }
set_option maxHeartbeats 4000000 in
set_option maxRecDepth 100000 in
theorem c_J9_floorMod (l : Launch) (G : mG) {x0 : Int32} {x1 : Int32} {σ : mS} {z : Int32} (h : f_J9_floorMod x0 x1 = some z) : Met l yJ9_floorMod_7cf53 wsJ9_floorMod_7cf53 rm_J9_floorMod (va_Pc [.int x0, .int x1] (mB G σ)) (mQ G (.returned (some (.int z))) (σ)) 0 0 (mF G) := by
  refine m_startF (cc := cJ9_floorMod_7cf53) (maxL := 3) (ret := (some .int)) (by decide +kernel) rfl [.int x0, .int x1] (Nat.le_of_ble_eq_true rfl) ?_
  intro p e s m args below meth c ls hx hb hr hml hown hts hlocks hnm hK hM hl
  have hown : s.vm.findClass RJ9 = some m.cls := hown
  have hnm : meth.name = "floorMod" := hnm
  obtain ⟨locs, hlocs⟩ : ∃ l : List Loc, l = [] := ⟨_, rfl⟩
  have hL : mL G locs := by rw [hlocs]; exact mL_nil G
  rw [← hlocs]
  generalize s.heap = H at hM ⊢
  have hl : lv_has ls 3 [(0, .int x0), (1, .int x1)] := hl
  obtain ⟨Q, hQ⟩ : ∃ Q, Q = MQ below (mQ G (.returned (some (.int z))) (σ)) args s 0 0 (mF G) := ⟨_, rfl⟩
  rw [← hQ]
  rw [f_J9_floorMod.eq_1] at h
  refine lv_iload_n hx hb dJ9_floorMod_7cf53_0 rfl (lv_at hl 0 rfl) ?_
  refine lv_iload_n hx hb dJ9_floorMod_7cf53_1 rfl (lv_at hl 1 rfl) ?_
  obtain ⟨n5, h⟩ := on_some h
  refine lv_irem hx hb dJ9_floorMod_7cf53_2 n5 ?_
  refine lv_topi (fun v6 ev6 => ?_)
  have h := vl_at ev6 h
  refine lv_istore_n (lv' := [(2, .int v6), (0, .int x0), (1, .int x1)]) hx hb dJ9_floorMod_7cf53_3 rfl hl (by decide) rfl (fun ls hl => ?_)
  refine lv_iload_n hx hb dJ9_floorMod_7cf53_4 rfl (lv_at hl 1 rfl) ?_
  refine lv_iload_n hx hb dJ9_floorMod_7cf53_5 rfl (lv_at hl 2 rfl) ?_
  refine lv_ixor hx hb dJ9_floorMod_7cf53_6 ?_
  refine lv_if_ge (tgt := 18) hx hb dJ9_floorMod_7cf53_7 (by decide) (fun c7 => ?_) (fun c7 => ?_)
  · have h := (if_pos c7).symm.trans h
    refine lv_iload_n hx hb dJ9_floorMod_7cf53_18 rfl (lv_at hl 0 rfl) ?_
    subst hQ
    cases h
    exact m_iret hx hb hr hM hL dJ9_floorMod_7cf53_19 hlocks
  · have h := (if_neg c7).symm.trans h
    refine lv_iload_n hx hb dJ9_floorMod_7cf53_10 rfl (lv_at hl 0 rfl) ?_
    refine lv_if_eq (tgt := 18) hx hb dJ9_floorMod_7cf53_11 (by decide) (fun c8 => ?_) (fun c8 => ?_)
    · have h := (if_pos c8).symm.trans h
      refine lv_iload_n hx hb dJ9_floorMod_7cf53_18 rfl (lv_at hl 0 rfl) ?_
      subst hQ
      cases h
      exact m_iret hx hb hr hM hL dJ9_floorMod_7cf53_19 hlocks
    · have h := (if_neg c8).symm.trans h
      refine lv_iload_n hx hb dJ9_floorMod_7cf53_14 rfl (lv_at hl 0 rfl) ?_
      refine lv_iload_n hx hb dJ9_floorMod_7cf53_15 rfl (lv_at hl 2 rfl) ?_
      refine lv_iadd hx hb dJ9_floorMod_7cf53_16 ?_
      subst hQ
      cases h
      exact m_iret hx hb hr hM hL dJ9_floorMod_7cf53_17 hlocks
abbrev rm_X1_dropsOf : Room := { frames := 1, cells := 0, slots := 0, locals := 30 }
set_option maxHeartbeats 4000000 in
set_option maxRecDepth 100000 in
theorem c_X1_dropsOf (l : Launch) (G : mG) {x0 : Int32} {x1 : Int32} {x2 : Int32} {x3 : Int32} {σ : mS} {z : Int32} (h : f_X1_dropsOf x0 x1 x2 x3 = some z) : Met l yX1_dropsOf wsX1_dropsOf rm_X1_dropsOf (va_Pc [.int x0, .int x1, .int x2, .int x3] (mB G σ)) (mQ G (.returned (some (.int z))) (σ)) 0 0 (mF G) := by
  refine m_start (cc := cX1_dropsOf) (maxL := 5) (ret := (some .int)) (by decide) rfl [.int x0, .int x1, .int x2, .int x3] (Nat.le_of_ble_eq_true rfl) ?_
  intro p e s m args below meth c ls hx hb hr hml hown hts hlocks hnm hK hM hl
  have hown : s.vm.findClass RX1 = some m.cls := hown
  have hnm : meth.name = "dropsOf" := hnm
  obtain ⟨locs, hlocs⟩ : ∃ l : List Loc, l = [] := ⟨_, rfl⟩
  have hL : mL G locs := by rw [hlocs]; exact mL_nil G
  rw [← hlocs]
  generalize s.heap = H at hM ⊢
  have hl : lv_has ls 5 [(0, .int x0), (1, .int x1), (2, .int x2), (3, .int x3)] := hl
  obtain ⟨Q, hQ⟩ : ∃ Q, Q = MQ below (mQ G (.returned (some (.int z))) (σ)) args s 0 0 (mF G) := ⟨_, rfl⟩
  rw [← hQ]
  have w0 := (hts (.methodLink RX1 21 Lib.Math.max.name) (List.mem_of_getElem? (i := 1) rfl))
  have w1 := (hts (.static Lib.Math.max.name) (List.mem_of_getElem? (i := 2) rfl))
  have w2 := (hts (.initialized "java/lang/Math") (List.mem_of_getElem? (i := 3) rfl))
  have w3 := (hts (.code Lib.Math.max.name Lib.Math.max.code 2 (some .int)) (List.mem_of_getElem? (i := 4) rfl))
  rw [f_X1_dropsOf.eq_1] at h
  refine lv_iload_n hx hb dX1_dropsOf_0 rfl (lv_at hl 3 rfl) ?_
  refine lv_iconst hx hb dX1_dropsOf_1 kI_1 ?_
  refine lv_icmp_ge (tgt := 7) hx hb dX1_dropsOf_2 (by decide) (fun c6 => ?_) (fun c6 => ?_)
  · have h := (if_pos c6).symm.trans h
    refine lv_iload_n hx hb dX1_dropsOf_7 rfl (lv_at hl 1 rfl) ?_
    refine lv_iload_n hx hb dX1_dropsOf_8 rfl (lv_at hl 3 rfl) ?_
    obtain ⟨q7, hq7, h⟩ := ob_some h
    refine m_calli (va_runS (As := [.int x1, .int x3]) (rest := []) ⟨hx, hb, hml, hown, hts⟩ (c_J9_floorMod l G hq7) (va_cwS 2 hts gX1_dropsOf_J9_floorMod_7cf53 rfl rfl rfl hd_J9_floorMod ⟨Nat.le_of_ble_eq_true rfl, Nat.le_of_ble_eq_true rfl⟩) (m_preS hK hM) rfl rfl hl.1 rfl (lv_room (Nat.le_of_ble_eq_true rfl)) dX1_dropsOf_9 ⟨Nat.le_of_ble_eq_true rfl, Nat.le_of_ble_eq_true rfl⟩) hL (fun H locs hM hL => ?_)
    refine lv_istore (lv' := [(4, .int q7), (0, .int x0), (1, .int x1), (2, .int x2), (3, .int x3)]) hx hb dX1_dropsOf_12 hl (by decide) rfl (fun ls hl => ?_)
    refine lv_iload_n hx hb dX1_dropsOf_14 rfl (lv_at hl 1 rfl) ?_
    by_cases c8 : x0 = (2 : Int32)
    · have h := (if_pos c8).symm.trans h
      refine m_lin (tgt := 40) (off := 25) hx hb c8 dX1_dropsOf_15 (by decide) (by decide) (by decide) ?_
      refine lv_iload_n hx hb dX1_dropsOf_40 rfl (lv_at hl 4 rfl) ?_
      refine lv_iconst hx hb dX1_dropsOf_41 kI_1 ?_
      refine lv_isub hx hb dX1_dropsOf_42 ?_
      refine lv_iload hx hb dX1_dropsOf_43 (lv_at hl 0 rfl) ?_
      refine lv_isub hx hb dX1_dropsOf_45 ?_
      subst hQ
      cases h
      exact m_iret hx hb hr hM hL dX1_dropsOf_46 hlocks
    have h := (if_neg c8).symm.trans h
    by_cases c9 : x0 = (4 : Int32)
    · have h := (if_pos c9).symm.trans h
      refine m_lin (tgt := 47) (off := 32) hx hb c9 dX1_dropsOf_15 (by decide) (by decide) (by decide) ?_
      refine lv_iload_n hx hb dX1_dropsOf_47 rfl (lv_at hl 4 rfl) ?_
      refine lv_iconst hx hb dX1_dropsOf_48 kI_1 ?_
      refine lv_isub hx hb dX1_dropsOf_49 ?_
      refine lv_iload hx hb dX1_dropsOf_50 (lv_at hl 0 rfl) ?_
      refine lv_isub hx hb dX1_dropsOf_52 ?_
      refine lv_iload_n hx hb dX1_dropsOf_53 rfl (lv_at hl 3 rfl) ?_
      refine lv_iload_n hx hb dX1_dropsOf_54 rfl (lv_at hl 4 rfl) ?_
      obtain ⟨n10, h⟩ := on_some h
      refine lv_irem hx hb dX1_dropsOf_55 n10 ?_
      refine va_mmax hx hb (hml.trans hl.1.symm) hown w0 w1 w2 w3 (Nat.le_of_ble_eq_true rfl) (Nat.le_of_ble_eq_true rfl) (Nat.le_of_ble_eq_true rfl) (Nat.le_of_ble_eq_true rfl) dX1_dropsOf_56 ?_
      subst hQ
      cases h
      exact m_iret hx hb hr hM hL dX1_dropsOf_59 hlocks
    have h := (if_neg c9).symm.trans h
    refine lv_lookup (tgt := 60) (off := 45) hx hb dX1_dropsOf_15 (by decide) (by show Op.lookupswitch.offset [(2, 25), (4, 32)] 45 _ = _; rw [lv_osw c8 (by decide), lv_osw c9 (by decide)]; rfl) (by decide) ?_
    refine lv_iload hx hb dX1_dropsOf_60 (lv_at hl 0 rfl) ?_
    subst hQ
    cases h
    exact m_iret hx hb hr hM hL dX1_dropsOf_62 hlocks
  · have h := (if_neg c6).symm.trans h
    refine lv_iconst hx hb dX1_dropsOf_5 kI_0 ?_
    subst hQ
    cases h
    exact m_iret hx hb hr hM hL dX1_dropsOf_6 hlocks
abbrev rm_X0_drops : Room := { frames := 3, cells := 0, slots := 0, locals := 81 }
set_option maxHeartbeats 4000000 in
set_option maxRecDepth 100000 in
theorem c_X0_drops (l : Launch) (G : mG) {h0 : Nat} {x1 : Int32} {σ : mS} {z : Int32 × mS} (h : f_X0_drops h0 x1 σ = some z) : Met l yX0_drops wsX0_drops rm_X0_drops (va_Pc [.ref h0, .int x1] (mB G σ)) (mQ G (.returned (some (.int z.1))) z.2) 0 0 (mF G) := by
  refine m_start (cc := cX0_drops) (maxL := 5) (ret := (some .int)) (by decide) rfl [.ref h0, .int x1] (Nat.le_of_ble_eq_true rfl) ?_
  intro p e s m args below meth c ls hx hb hr hml hown hts hlocks hnm hK hM hl
  have hown : s.vm.findClass RX0 = some m.cls := hown
  have hnm : meth.name = "drops" := hnm
  obtain ⟨locs, hlocs⟩ : ∃ l : List Loc, l = [] := ⟨_, rfl⟩
  have hL : mL G locs := by rw [hlocs]; exact mL_nil G
  rw [← hlocs]
  generalize s.heap = H at hM ⊢
  have hl : lv_has ls 5 [(0, .ref h0), (1, .int x1)] := hl
  obtain ⟨Q, hQ⟩ : ∃ Q, Q = MQ below (mQ G (.returned (some (.int z.1))) z.2) args s 0 0 (mF G) := ⟨_, rfl⟩
  rw [← hQ]
  have hU0 : ∀ w ∈ wsX00, w.before args s = true := fun w h => hts w (List.mem_cons_of_mem _ (List.mem_append_left _ (List.mem_append_right _ h)))
  have w1 := (hts (.fieldLink RX0 24 "HandkerchiefsDropped$Assize" "known" "[I") (List.mem_of_getElem? (i := 1) rfl))
  have w2 := (hts (.fieldLink RX0 18 "HandkerchiefsDropped$Assize" "kind" "[I") (List.mem_of_getElem? (i := 2) rfl))
  have w3 := (hts (.fieldLink RX0 42 "HandkerchiefsDropped$Assize" "law" "LHandkerchiefsDropped$Law;") (List.mem_of_getElem? (i := 3) rfl))
  have w4 := (hts (.fieldLink RX0 21 "HandkerchiefsDropped$Assize" "more" "[I") (List.mem_of_getElem? (i := 4) rfl))
  have hN46 : ∀ (n : Nat) (h0 : Nat) (x1 : Int32) (x3 : Int32) (x4 : Int32) (σ : mS), f_X0_drops_46 n h0 x1 x3 x4 σ = some z → ∀ (H : Heap) (locs : List Loc) (ls : Array Slot), mP G σ H → mL G locs → lv_has ls 5 [(0, .ref h0), (1, .int x1), (3, .int x3), (4, .int x4)] → W p l e rm_X0_drops s m args below meth c H locs 0 0 Q (F0 m 46 ls []) := by
    intro n
    induction n with
    | zero =>
      intro h0 x1 x3 x4 σ h
      exact nomatch (show (none : Option (Int32 × mS)) = some z from h)
    | succ n ih =>
      intro h0 x1 x3 x4 σ h H locs ls hM hL hl
      rw [f_X0_drops_46.eq_2] at h
      refine lv_iload hx hb dX0_drops_46 (lv_at hl 3 rfl) ?_
      refine lv_bipush hx hb dX0_drops_48 kB_10 ?_
      refine lv_icmp_ge (tgt := 84) hx hb dX0_drops_50 (by decide) (fun c21 => ?_) (fun c21 => ?_)
      · have h := (if_pos c21).symm.trans h
        refine lv_iconst hx hb dX0_drops_84 kI_m1 ?_
        subst hQ
        cases h
        exact m_iret hx hb hr hM hL dX0_drops_85 hlocks
      · have h := (if_neg c21).symm.trans h
        refine lv_aload_n hx hb dX0_drops_53 rfl (lv_at hl 0 rfl) ?_
        refine m_getR (ci := 0) hx hb hU0 hown hK hM rfl 4 (by decide) w1 h dX0_drops_54 (fun r22 gr22 h => ?_)
        refine lv_iload_n hx hb dX0_drops_57 rfl (lv_at hl 1 rfl) ?_
        refine m_iald hx hb hK hM h dX0_drops_58 (fun v23 gv23 h => ?_)
        refine lv_iload hx hb dX0_drops_59 (lv_at hl 3 rfl) ?_
        refine lv_ishr hx hb dX0_drops_61 ?_
        refine lv_iconst hx hb dX0_drops_62 kI_1 ?_
        refine lv_iand hx hb dX0_drops_63 ?_
        refine lv_iconst hx hb dX0_drops_64 kI_1 ?_
        refine lv_icmp_ne (tgt := 78) hx hb dX0_drops_65 (by decide) (fun c24 => ?_) (fun c24 => ?_)
        · have h := (if_neg c24).symm.trans h
          obtain ⟨v25, ev25⟩ : ∃ y : Int32, y = x4 + (1 : Int32) := ⟨_, rfl⟩
          have h := vl_at ev25 h
          refine lv_iinc (v := v25) (lv' := [(4, .int v25), (0, .ref h0), (1, .int x1), (3, .int x3)]) hx hb dX0_drops_78 hl (k := 3) rfl (by rw [ev25, kI_1]) (by decide) rfl (fun ls hl => ?_)
          refine lv_goto (tgt := 46) hx hb dX0_drops_81 (by decide) ?_
          exact ih _ _ _ _ _ h _ _ _ hM hL (lv_sub hl [1, 2, 3, 0] rfl)
        · have h := (if_pos c24).symm.trans h
          refine lv_iload_n hx hb dX0_drops_68 rfl (lv_at hl 2 rfl) ?_
          refine lv_if_ne (tgt := 75) hx hb dX0_drops_69 (by decide) (fun c26 => ?_) (fun c26 => ?_)
          · have h := (if_neg c26).symm.trans h
            obtain ⟨v27, ev27⟩ : ∃ y : Int32, y = x3 + (-1 : Int32) := ⟨_, rfl⟩
            have h := vl_at ev27 h
            refine lv_iinc (v := v27) (lv' := [(3, .int v27), (0, .ref h0), (1, .int x1), (4, .int x4)]) hx hb dX0_drops_75 hl (k := 2) rfl (by rw [ev27, kI_m1]) (by decide) rfl (fun ls hl => ?_)
            obtain ⟨v28, ev28⟩ : ∃ y : Int32, y = x4 + (1 : Int32) := ⟨_, rfl⟩
            have h := vl_at ev28 h
            refine lv_iinc (v := v28) (lv' := [(4, .int v28), (3, .int v27), (0, .ref h0), (1, .int x1)]) hx hb dX0_drops_78 hl (k := 3) rfl (by rw [ev28, kI_1]) (by decide) rfl (fun ls hl => ?_)
            refine lv_goto (tgt := 46) hx hb dX0_drops_81 (by decide) ?_
            exact ih _ _ _ _ _ h _ _ _ hM hL (lv_sub hl [2, 3, 1, 0] rfl)
          · have h := (if_pos c26).symm.trans h
            refine lv_iload hx hb dX0_drops_72 (lv_at hl 3 rfl) ?_
            subst hQ
            cases h
            exact m_iret hx hb hr hM hL dX0_drops_74 hlocks
  rw [f_X0_drops.eq_1] at h
  refine lv_aload_n hx hb dX0_drops_0 rfl (lv_at hl 0 rfl) ?_
  refine m_getR (ci := 0) hx hb hU0 hown hK hM rfl 4 (by decide) w1 h dX0_drops_1 (fun r29 gr29 h => ?_)
  refine lv_iload_n hx hb dX0_drops_4 rfl (lv_at hl 1 rfl) ?_
  refine m_iald hx hb hK hM h dX0_drops_5 (fun v30 gv30 h => ?_)
  refine m_calli (va_runS (As := [.int v30]) (rest := []) ⟨hx, hb, hml, hown, hts⟩ (c_J6_bitCount l G v30) (va_cwS 1 hts gX0_drops_J6_bitCount_0f7a4 rfl rfl rfl hd_J6_bitCount ⟨Nat.le_of_ble_eq_true rfl, Nat.le_of_ble_eq_true rfl⟩) (m_preS hK hM) rfl rfl hl.1 rfl (lv_room (Nat.le_of_ble_eq_true rfl)) dX0_drops_6 ⟨Nat.le_of_ble_eq_true rfl, Nat.le_of_ble_eq_true rfl⟩) hL (fun H locs hM hL => ?_)
  refine lv_topi (fun v31 ev31 => ?_)
  have h := vl_at ev31 h
  refine lv_istore_n (lv' := [(2, .int v31), (0, .ref h0), (1, .int x1)]) hx hb dX0_drops_9 rfl hl (by decide) rfl (fun ls hl => ?_)
  refine lv_iload_n hx hb dX0_drops_10 rfl (lv_at hl 0 rfl) ?_
  refine lv_if_ne (tgt := 16) hx hb dX0_drops_11 (by decide) (fun c32 => ?_) (fun c32 => ?_)
  · have h := (if_neg c32).symm.trans h
    refine lv_aload_n hx hb dX0_drops_16 rfl (lv_at hl 1 rfl) ?_
    refine m_getR (ci := 0) hx hb hU0 hown hK hM rfl 2 (by decide) w2 h dX0_drops_17 (fun r33 gr33 h => ?_)
    refine lv_iload_n hx hb dX0_drops_20 rfl (lv_at hl 2 rfl) ?_
    refine m_iald hx hb hK hM h dX0_drops_21 (fun v34 gv34 h => ?_)
    refine lv_aload_n hx hb dX0_drops_22 rfl (lv_at hl 1 rfl) ?_
    refine m_getR (ci := 0) hx hb hU0 hown hK hM rfl 14 (by decide) w3 h dX0_drops_23 (fun r35 gr35 h => ?_)
    refine lv_iconst hx hb dX0_drops_26 kI_2 ?_
    refine lv_aload_n hx hb dX0_drops_27 rfl (lv_at hl 1 rfl) ?_
    refine lv_iload_n hx hb dX0_drops_28 rfl (lv_at hl 2 rfl) ?_
    obtain ⟨o36, h⟩ := oi_some h
    obtain ⟨q37, hq37, h⟩ := ob_some h
    refine m_calli (va_runV (As := [.int (2 : Int32), .ref h0, .int x1]) (rest := [.int v34]) ⟨hx, hb, hml, hown, hts⟩ (c_X2_says l G hq37) (cwV 3 hts gX0_drops_X2_says rfl rfl rfl hd_X2_saysv ⟨Nat.le_of_ble_eq_true rfl, Nat.le_of_ble_eq_true rfl⟩) (m_preV (ci := 1) hK hM rfl o36) rfl rfl hl.1 rfl (lv_room (Nat.le_of_ble_eq_true rfl)) dX0_drops_29 ⟨Nat.le_of_ble_eq_true rfl, Nat.le_of_ble_eq_true rfl⟩) hL (fun H locs hM hL => ?_)
    refine lv_aload_n hx hb dX0_drops_32 rfl (lv_at hl 1 rfl) ?_
    refine m_getR (ci := 0) hx hb hU0 hown hK hM rfl 3 (by decide) w4 h dX0_drops_33 (fun r38 gr38 h => ?_)
    refine lv_iload_n hx hb dX0_drops_36 rfl (lv_at hl 2 rfl) ?_
    refine m_iald hx hb hK hM h dX0_drops_37 (fun v39 gv39 h => ?_)
    refine lv_iload_n hx hb dX0_drops_38 rfl (lv_at hl 0 rfl) ?_
    obtain ⟨q40, hq40, h⟩ := ob_some h
    refine m_calli (va_runS (As := [.int v34, .int q37.1, .int v39, .int v31]) (rest := []) ⟨hx, hb, hml, hown, hts⟩ (c_X1_dropsOf l G hq40) (va_cwS 4 hts gX0_drops_X1_dropsOf rfl rfl rfl hd_X1_dropsOf ⟨Nat.le_of_ble_eq_true rfl, Nat.le_of_ble_eq_true rfl⟩) (m_preS hK hM) rfl rfl hl.1 rfl (lv_room (Nat.le_of_ble_eq_true rfl)) dX0_drops_39 ⟨Nat.le_of_ble_eq_true rfl, Nat.le_of_ble_eq_true rfl⟩) hL (fun H locs hM hL => ?_)
    refine lv_istore_n (lv' := [(3, .int q40), (2, .int v31), (0, .ref h0), (1, .int x1)]) hx hb dX0_drops_42 rfl hl (by decide) rfl (fun ls hl => ?_)
    refine lv_iconst hx hb dX0_drops_43 kI_0 ?_
    refine lv_istore (lv' := [(4, .int (0 : Int32)), (3, .int q40), (2, .int v31), (0, .ref h0), (1, .int x1)]) hx hb dX0_drops_44 hl (by decide) rfl (fun ls hl => ?_)
    refine hN46 _ _ _ _ _ _ h _ _ _ hM hL (lv_sub hl [3, 4, 1, 0] rfl)
  · have h := (if_pos c32).symm.trans h
    refine lv_iconst hx hb dX0_drops_14 kI_m1 ?_
    subst hQ
    cases h
    exact m_iret hx hb hr hM hL dX0_drops_15 hlocks
