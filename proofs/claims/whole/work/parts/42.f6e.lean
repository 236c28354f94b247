abbrev rm_X6_drawn : Room := { frames := 8, cells := 0, slots := 0, locals := 183 }
set_option maxHeartbeats 4000000 in
set_option maxRecDepth 100000 in
theorem c_X6_drawn (l : Launch) (G : mG) {h0 : Nat} {x1 : Int32} {x2 : Int32} {σ : mS} {z : Int32 × mS} (h : f_X6_drawn h0 x1 x2 σ = some z) : Met l yX6_drawn wsX6_drawn rm_X6_drawn (va_Pc [.ref h0, .int x1, .int x2] (mB G σ)) (mQ G (.returned (some (.int z.1))) z.2) 0 0 (mF G) := by
  refine m_start (cc := cX6_drawn) (maxL := 4) (ret := (some .int)) (by decide) rfl [.ref h0, .int x1, .int x2] (Nat.le_of_ble_eq_true rfl) ?_
  intro p e s m args below meth c ls hx hb hr hml hown hts hlocks hnm hK hM hl
  have hown : s.vm.findClass RX6 = some m.cls := hown
  have hnm : meth.name = "drawn" := hnm
  obtain ⟨locs, hlocs⟩ : ∃ l : List Loc, l = [] := ⟨_, rfl⟩
  have hL : mL G locs := by rw [hlocs]; exact mL_nil G
  rw [← hlocs]
  generalize s.heap = H at hM ⊢
  have hl : lv_has ls 4 [(0, .ref h0), (1, .int x1), (2, .int x2)] := hl
  obtain ⟨Q, hQ⟩ : ∃ Q, Q = MQ below (mQ G (.returned (some (.int z.1))) z.2) args s 0 0 (mF G) := ⟨_, rfl⟩
  rw [← hQ]
  have w0 := (hts (.constant RX6 267 (99999)) (List.mem_of_getElem? (i := 1) rfl))
  have hU6 : ∀ w ∈ wsX60, w.before args s = true := fun w h => hts w (List.mem_cons_of_mem _ (List.mem_append_right _ h))
  have w2 := (hts (.fieldLink RX6 264 "HandkerchiefsDroppedModel" "admittedThen" "I") (List.mem_of_getElem? (i := 2) rfl))
  rw [f_X6_drawn.eq_1] at h
  refine lv_iload_n hx hb dX6_drawn_0 rfl (lv_at hl 1 rfl) ?_
  refine lv_iconst hx hb dX6_drawn_1 kI_0 ?_
  refine lv_ldcw hx hb hown w0 dX6_drawn_2 ?_
  refine m_calli (va_runS (As := [.int x1, .int (0 : Int32), .int (99999 : Int32)]) (rest := []) ⟨hx, hb, hml, hown, hts⟩ (c_X6_in l G x1 (0 : Int32) (99999 : Int32)) (va_cwS 3 hts gX6_drawn_X6_in rfl rfl rfl hd_X6_in ⟨Nat.le_of_ble_eq_true rfl, Nat.le_of_ble_eq_true rfl⟩) (m_preS hK hM) rfl rfl hl.1 rfl (lv_room (Nat.le_of_ble_eq_true rfl)) dX6_drawn_5 ⟨Nat.le_of_ble_eq_true rfl, Nat.le_of_ble_eq_true rfl⟩) hL (fun H locs hM hL => ?_)
  refine lv_if_eq (tgt := 20) hx hb dX6_drawn_8 (by decide) (fun c7 => ?_) (fun c7 => ?_)
  · have h := (if_pos c7).symm.trans h
    refine lv_sipush hx hb dX6_drawn_20 kS_m5000 ?_
    subst hQ
    have h := Option.some.inj h
    subst h
    exact m_iret hx hb hr hM hL dX6_drawn_23 hlocks
  · have h := (if_neg c7).symm.trans h
    refine lv_iload_n hx hb dX6_drawn_11 rfl (lv_at hl 2 rfl) ?_
    refine lv_iconst hx hb dX6_drawn_12 kI_0 ?_
    refine lv_iconst hx hb dX6_drawn_13 kI_1 ?_
    refine m_calli (va_runS (As := [.int x2, .int (0 : Int32), .int (1 : Int32)]) (rest := []) ⟨hx, hb, hml, hown, hts⟩ (c_X6_in l G x2 (0 : Int32) (1 : Int32)) (va_cwS 3 hts gX6_drawn_X6_in rfl rfl rfl hd_X6_in ⟨Nat.le_of_ble_eq_true rfl, Nat.le_of_ble_eq_true rfl⟩) (m_preS hK hM) rfl rfl hl.1 rfl (lv_room (Nat.le_of_ble_eq_true rfl)) dX6_drawn_14 ⟨Nat.le_of_ble_eq_true rfl, Nat.le_of_ble_eq_true rfl⟩) hL (fun H locs hM hL => ?_)
    refine lv_if_ne (tgt := 24) hx hb dX6_drawn_17 (by decide) (fun c8 => ?_) (fun c8 => ?_)
    · have h := (if_neg c8).symm.trans h
      refine lv_aload_n hx hb dX6_drawn_24 rfl (lv_at hl 0 rfl) ?_
      refine lv_iload_n hx hb dX6_drawn_25 rfl (lv_at hl 1 rfl) ?_
      obtain ⟨o9, h⟩ := oi_some h
      obtain ⟨q10, hq10, h⟩ := ob_some h
      refine m_calli (va_runV (As := [.int x1]) (rest := []) ⟨hx, hb, hml, hown, hts⟩ (c_X6_assizes l G hq10) (cwV 1 hts gX6_drawn_X6_assizes rfl rfl rfl hd_X6_assizesv ⟨Nat.le_of_ble_eq_true rfl, Nat.le_of_ble_eq_true rfl⟩) (m_preV (ci := 5) hK hM rfl o9) rfl rfl hl.1 rfl (lv_room (Nat.le_of_ble_eq_true rfl)) dX6_drawn_26 ⟨Nat.le_of_ble_eq_true rfl, Nat.le_of_ble_eq_true rfl⟩) hL (fun H locs hM hL => ?_)
      refine lv_istore_n (lv' := [(3, .int q10.1), (0, .ref h0), (1, .int x1), (2, .int x2)]) hx hb dX6_drawn_29 rfl hl (by decide) rfl (fun ls hl => ?_)
      refine lv_iload_n hx hb dX6_drawn_30 rfl (lv_at hl 3 rfl) ?_
      refine lv_if_ne (tgt := 38) hx hb dX6_drawn_31 (by decide) (fun c11 => ?_) (fun c11 => ?_)
      · have h := (if_neg c11).symm.trans h
        refine lv_aload_n hx hb dX6_drawn_38 rfl (lv_at hl 1 rfl) ?_
        refine m_getI (ci := 5) hx hb hU6 hown hK hM rfl 37 (by decide) w2 h dX6_drawn_39 (fun v12 gv12 h => ?_)
        subst hQ
        have h := Option.some.inj h
        subst h
        exact m_iret hx hb hr hM hL dX6_drawn_42 hlocks
      · have h := (if_pos c11).symm.trans h
        refine lv_iload_n hx hb dX6_drawn_34 rfl (lv_at hl 0 rfl) ?_
        refine lv_goto (tgt := 42) hx hb dX6_drawn_35 (by decide) ?_
        subst hQ
        have h := Option.some.inj h
        subst h
        exact m_iret hx hb hr hM hL dX6_drawn_42 hlocks
    · have h := (if_pos c8).symm.trans h
      refine lv_sipush hx hb dX6_drawn_20 kS_m5000 ?_
      subst hQ
      have h := Option.some.inj h
      subst h
      exact m_iret hx hb hr hM hL dX6_drawn_23 hlocks
abbrev rm_X6_odds : Room := { frames := 8, cells := 0, slots := 0, locals := 183 }
set_option maxHeartbeats 4000000 in
set_option maxRecDepth 100000 in
theorem c_X6_odds (l : Launch) (G : mG) {h0 : Nat} {x1 : Int32} {x2 : Int32} {x3 : Int32} {x4 : Int32} {σ : mS} {z : Int64 × mS} (h : f_X6_odds h0 x1 x2 x3 x4 σ = some z) : Met l yX6_odds wsX6_odds rm_X6_odds (va_Pc [.ref h0, .int x1, .int x2, .int x3, .int x4] (mB G σ)) (mQ G (.returned (some (.long z.1))) z.2) 0 0 (mF G) := by
  refine m_start (cc := cX6_odds) (maxL := 8) (ret := (some .long)) (by decide) rfl [.ref h0, .int x1, .int x2, .int x3, .int x4] (Nat.le_of_ble_eq_true rfl) ?_
  intro p e s m args below meth c ls hx hb hr hml hown hts hlocks hnm hK hM hl
  have hown : s.vm.findClass RX6 = some m.cls := hown
  have hnm : meth.name = "odds" := hnm
  obtain ⟨locs, hlocs⟩ : ∃ l : List Loc, l = [] := ⟨_, rfl⟩
  have hL : mL G locs := by rw [hlocs]; exact mL_nil G
  rw [← hlocs]
  generalize s.heap = H at hM ⊢
  have hl : lv_has ls 8 [(0, .ref h0), (1, .int x1), (2, .int x2), (3, .int x3), (4, .int x4)] := hl
  obtain ⟨Q, hQ⟩ : ∃ Q, Q = MQ below (mQ G (.returned (some (.long z.1))) z.2) args s 0 0 (mF G) := ⟨_, rfl⟩
  rw [← hQ]
  have w0 := (hts (.constant RX6 267 (99999)) (List.mem_of_getElem? (i := 1) rfl))
  have w1 := (hts (.constantLong RX6 250 (-4611686018427387904)) (List.mem_of_getElem? (i := 2) rfl))
  have hN54 : ∀ (n : Nat) (h0 : Nat) (x1 : Int32) (x2 : Int32) (x3 : Int32) (x4 : Int32) (x5 : Int64) (x7 : Int32) (σ : mS), f_X6_odds_54 n h0 x1 x2 x3 x4 x5 x7 σ = some z → ∀ (H : Heap) (locs : List Loc) (ls : Array Slot), mP G σ H → mL G locs → lv_has ls 8 [(0, .ref h0), (1, .int x1), (2, .int x2), (3, .int x3), (4, .int x4), (5, .long x5), (7, .int x7)] → W p l e rm_X6_odds s m args below meth c H locs 0 0 Q (F0 m 54 ls []) := by
    intro n
    induction n with
    | zero =>
      intro h0 x1 x2 x3 x4 x5 x7 σ h
      exact nomatch (show (none : Option (Int64 × mS)) = some z from h)
    | succ n ih =>
      intro h0 x1 x2 x3 x4 x5 x7 σ h H locs ls hM hL hl
      rw [f_X6_odds_54.eq_2] at h
      refine lv_iload hx hb dX6_odds_54 (lv_at hl 6 rfl) ?_
      refine lv_iload_n hx hb dX6_odds_56 rfl (lv_at hl 2 rfl) ?_
      refine lv_icmp_ge (tgt := 88) hx hb dX6_odds_57 (by decide) (fun c13 => ?_) (fun c13 => ?_)
      · have h := (if_pos c13).symm.trans h
        refine lv_lload hx hb dX6_odds_88 (lv_at hl 5 rfl) ?_
        refine lv_iload_n hx hb dX6_odds_90 rfl (lv_at hl 2 rfl) ?_
        refine lv_i2l hx hb dX6_odds_91 rfl ?_
        refine lv_iload hx hb dX6_odds_92 (lv_at hl 4 rfl) ?_
        obtain ⟨q14, hq14, h⟩ := ob_some h
        refine m_calll (va_runS (As := [.long x5, .long x2.toInt64, .int x4]) (rest := []) ⟨hx, hb, hml, hown, hts⟩ (c_X6_lowest l G hq14) (va_cwS 3 hts gX6_odds_X6_lowest rfl rfl rfl hd_X6_lowest ⟨Nat.le_of_ble_eq_true rfl, Nat.le_of_ble_eq_true rfl⟩) (m_preS hK hM) rfl rfl hl.1 rfl (lv_room (Nat.le_of_ble_eq_true rfl)) dX6_odds_94 ⟨Nat.le_of_ble_eq_true rfl, Nat.le_of_ble_eq_true rfl⟩) hL (fun H locs hM hL => ?_)
        subst hQ
        have h := Option.some.inj h
        subst h
        exact m_lret hx hb hr hM hL dX6_odds_97 hlocks
      · have h := (if_neg c13).symm.trans h
        refine lv_lload hx hb dX6_odds_60 (lv_at hl 5 rfl) ?_
        refine lv_aload_n hx hb dX6_odds_62 rfl (lv_at hl 0 rfl) ?_
        refine lv_iload_n hx hb dX6_odds_63 rfl (lv_at hl 1 rfl) ?_
        refine lv_iload hx hb dX6_odds_64 (lv_at hl 6 rfl) ?_
        refine lv_iadd hx hb dX6_odds_66 ?_
        obtain ⟨o15, h⟩ := oi_some h
        obtain ⟨q16, hq16, h⟩ := ob_some h
        refine m_calli (va_runV (As := [.int (x1 + x7)]) (rest := [.long x5]) ⟨hx, hb, hml, hown, hts⟩ (c_X6_assizes l G hq16) (cwV 1 hts gX6_odds_X6_assizes rfl rfl rfl hd_X6_assizesv ⟨Nat.le_of_ble_eq_true rfl, Nat.le_of_ble_eq_true rfl⟩) (m_preV (ci := 5) hK hM rfl o15) rfl rfl hl.1 rfl (lv_room (Nat.le_of_ble_eq_true rfl)) dX6_odds_67 ⟨Nat.le_of_ble_eq_true rfl, Nat.le_of_ble_eq_true rfl⟩) hL (fun H locs hM hL => ?_)
        refine lv_iload_n hx hb dX6_odds_70 rfl (lv_at hl 3 rfl) ?_
        suffices hJ : ∀ (v18 : Int64) (ls : Array Slot), v18 = (if q16.1 < x3 then (0 : Int64) else (1 : Int64)) → lv_has ls 8 [(0, .ref h0), (1, .int x1), (2, .int x2), (3, .int x3), (4, .int x4), (7, .int x7)] → W p l e rm_X6_odds s m args below meth c H locs 0 0 Q (F0 m 79 ls [.long v18, .long x5]) by
          refine lv_icmp_lt (tgt := 78) hx hb dX6_odds_71 (by decide) (fun c17 => ?_) (fun c17 => ?_)
          · refine lv_lconst hx hb dX6_odds_78 kL_0 ?_
            exact hJ _ _ (((if_pos c17).trans rfl).symm) (lv_sub hl [0, 1, 2, 3, 4, 6] rfl)
          · refine lv_lconst hx hb dX6_odds_74 kL_1 ?_
            refine lv_goto (tgt := 79) hx hb dX6_odds_75 (by decide) ?_
            exact hJ _ _ (((if_neg c17).trans rfl).symm) (lv_sub hl [0, 1, 2, 3, 4, 6] rfl)
        intro v18 ls ev18 hl
        have h := vl_at ev18 h
        refine lv_ladd hx hb dX6_odds_79 ?_
        refine lv_topl (fun v19 ev19 => ?_)
        have h := vl_at ev19 h
        refine lv_lstore (lv' := [(5, .long v19), (0, .ref h0), (1, .int x1), (2, .int x2), (3, .int x3), (4, .int x4), (7, .int x7)]) hx hb dX6_odds_80 hl (by decide) rfl (fun ls hl => ?_)
        obtain ⟨v20, ev20⟩ : ∃ y : Int32, y = x7 + (1 : Int32) := ⟨_, rfl⟩
        have h := vl_at ev20 h
        refine lv_iinc (v := v20) (lv' := [(7, .int v20), (5, .long v19), (0, .ref h0), (1, .int x1), (2, .int x2), (3, .int x3), (4, .int x4)]) hx hb dX6_odds_82 hl (k := 6) rfl (by rw [ev20, kI_1]) (by decide) rfl (fun ls hl => ?_)
        refine lv_goto (tgt := 54) hx hb dX6_odds_85 (by decide) ?_
        exact ih _ _ _ _ _ _ _ _ h _ _ _ hM hL (lv_sub hl [2, 3, 4, 5, 6, 1, 0] rfl)
  rw [f_X6_odds.eq_1] at h
  refine lv_iload_n hx hb dX6_odds_0 rfl (lv_at hl 1 rfl) ?_
  refine lv_iconst hx hb dX6_odds_1 kI_0 ?_
  refine lv_ldcw hx hb hown w0 dX6_odds_2 ?_
  refine m_calli (va_runS (As := [.int x1, .int (0 : Int32), .int (99999 : Int32)]) (rest := []) ⟨hx, hb, hml, hown, hts⟩ (c_X6_in l G x1 (0 : Int32) (99999 : Int32)) (va_cwS 3 hts gX6_odds_X6_in rfl rfl rfl hd_X6_in ⟨Nat.le_of_ble_eq_true rfl, Nat.le_of_ble_eq_true rfl⟩) (m_preS hK hM) rfl rfl hl.1 rfl (lv_room (Nat.le_of_ble_eq_true rfl)) dX6_odds_5 ⟨Nat.le_of_ble_eq_true rfl, Nat.le_of_ble_eq_true rfl⟩) hL (fun H locs hM hL => ?_)
  refine lv_if_eq (tgt := 44) hx hb dX6_odds_8 (by decide) (fun c21 => ?_) (fun c21 => ?_)
  · have h := (if_pos c21).symm.trans h
    refine lv_ldc2 hx hb hown w1 dX6_odds_44 ?_
    subst hQ
    have h := Option.some.inj h
    subst h
    exact m_lret hx hb hr hM hL dX6_odds_47 hlocks
  · have h := (if_neg c21).symm.trans h
    refine lv_iload_n hx hb dX6_odds_11 rfl (lv_at hl 2 rfl) ?_
    refine lv_iconst hx hb dX6_odds_12 kI_1 ?_
    refine lv_bipush hx hb dX6_odds_13 kB_40 ?_
    refine m_calli (va_runS (As := [.int x2, .int (1 : Int32), .int (40 : Int32)]) (rest := []) ⟨hx, hb, hml, hown, hts⟩ (c_X6_in l G x2 (1 : Int32) (40 : Int32)) (va_cwS 3 hts gX6_odds_X6_in rfl rfl rfl hd_X6_in ⟨Nat.le_of_ble_eq_true rfl, Nat.le_of_ble_eq_true rfl⟩) (m_preS hK hM) rfl rfl hl.1 rfl (lv_room (Nat.le_of_ble_eq_true rfl)) dX6_odds_15 ⟨Nat.le_of_ble_eq_true rfl, Nat.le_of_ble_eq_true rfl⟩) hL (fun H locs hM hL => ?_)
    refine lv_if_eq (tgt := 44) hx hb dX6_odds_18 (by decide) (fun c22 => ?_) (fun c22 => ?_)
    · have h := (if_pos c22).symm.trans h
      refine lv_ldc2 hx hb hown w1 dX6_odds_44 ?_
      subst hQ
      have h := Option.some.inj h
      subst h
      exact m_lret hx hb hr hM hL dX6_odds_47 hlocks
    · have h := (if_neg c22).symm.trans h
      refine lv_iload_n hx hb dX6_odds_21 rfl (lv_at hl 3 rfl) ?_
      refine lv_sipush hx hb dX6_odds_22 kS_m999 ?_
      refine lv_sipush hx hb dX6_odds_25 kS_999 ?_
      refine m_calli (va_runS (As := [.int x3, .int (-999 : Int32), .int (999 : Int32)]) (rest := []) ⟨hx, hb, hml, hown, hts⟩ (c_X6_in l G x3 (-999 : Int32) (999 : Int32)) (va_cwS 3 hts gX6_odds_X6_in rfl rfl rfl hd_X6_in ⟨Nat.le_of_ble_eq_true rfl, Nat.le_of_ble_eq_true rfl⟩) (m_preS hK hM) rfl rfl hl.1 rfl (lv_room (Nat.le_of_ble_eq_true rfl)) dX6_odds_28 ⟨Nat.le_of_ble_eq_true rfl, Nat.le_of_ble_eq_true rfl⟩) hL (fun H locs hM hL => ?_)
      refine lv_if_eq (tgt := 44) hx hb dX6_odds_31 (by decide) (fun c23 => ?_) (fun c23 => ?_)
      · have h := (if_pos c23).symm.trans h
        refine lv_ldc2 hx hb hown w1 dX6_odds_44 ?_
        subst hQ
        have h := Option.some.inj h
        subst h
        exact m_lret hx hb hr hM hL dX6_odds_47 hlocks
      · have h := (if_neg c23).symm.trans h
        refine lv_iload hx hb dX6_odds_34 (lv_at hl 4 rfl) ?_
        refine lv_iconst hx hb dX6_odds_36 kI_0 ?_
        refine lv_iconst hx hb dX6_odds_37 kI_1 ?_
        refine m_calli (va_runS (As := [.int x4, .int (0 : Int32), .int (1 : Int32)]) (rest := []) ⟨hx, hb, hml, hown, hts⟩ (c_X6_in l G x4 (0 : Int32) (1 : Int32)) (va_cwS 3 hts gX6_odds_X6_in rfl rfl rfl hd_X6_in ⟨Nat.le_of_ble_eq_true rfl, Nat.le_of_ble_eq_true rfl⟩) (m_preS hK hM) rfl rfl hl.1 rfl (lv_room (Nat.le_of_ble_eq_true rfl)) dX6_odds_38 ⟨Nat.le_of_ble_eq_true rfl, Nat.le_of_ble_eq_true rfl⟩) hL (fun H locs hM hL => ?_)
        refine lv_if_ne (tgt := 48) hx hb dX6_odds_41 (by decide) (fun c24 => ?_) (fun c24 => ?_)
        · have h := (if_neg c24).symm.trans h
          refine lv_lconst hx hb dX6_odds_48 kL_0 ?_
          refine lv_lstore (lv' := [(5, .long (0 : Int64)), (0, .ref h0), (1, .int x1), (2, .int x2), (3, .int x3), (4, .int x4)]) hx hb dX6_odds_49 hl (by decide) rfl (fun ls hl => ?_)
          refine lv_iconst hx hb dX6_odds_51 kI_0 ?_
          refine lv_istore (lv' := [(7, .int (0 : Int32)), (5, .long (0 : Int64)), (0, .ref h0), (1, .int x1), (2, .int x2), (3, .int x3), (4, .int x4)]) hx hb dX6_odds_52 hl (by decide) rfl (fun ls hl => ?_)
          refine hN54 _ _ _ _ _ _ _ _ _ h _ _ _ hM hL (lv_sub hl [2, 3, 4, 5, 6, 1, 0] rfl)
        · have h := (if_pos c24).symm.trans h
          refine lv_ldc2 hx hb hown w1 dX6_odds_44 ?_
          subst hQ
          have h := Option.some.inj h
          subst h
          exact m_lret hx hb hr hM hL dX6_odds_47 hlocks
abbrev rm_X6_image : Room := { frames := 0, cells := 0, slots := 0, locals := 0 }
set_option maxHeartbeats 4000000 in
set_option maxRecDepth 100000 in
theorem c_X6_image (l : Launch) (G : mG) {h0 : Nat} {σ : mS} {z : Int32 × mS} (h : f_X6_image h0 σ = some z) : Met l yX6_image wsX6_image rm_X6_image (va_Pc [.ref h0] (mB G σ)) (mQ G (.returned (some (.int z.1))) z.2) 0 0 (mF G) := by
  refine m_start (cc := cX6_image) (maxL := 2) (ret := (some .int)) (by decide) rfl [.ref h0] (Nat.le_of_ble_eq_true rfl) ?_
  intro p e s m args below meth c ls hx hb hr hml hown hts hlocks hnm hK hM hl
  have hown : s.vm.findClass RX6 = some m.cls := hown
  have hnm : meth.name = "image" := hnm
  obtain ⟨locs, hlocs⟩ : ∃ l : List Loc, l = [] := ⟨_, rfl⟩
  have hL : mL G locs := by rw [hlocs]; exact mL_nil G
  rw [← hlocs]
  generalize s.heap = H at hM ⊢
  have hl : lv_has ls 2 [(0, .ref h0)] := hl
  obtain ⟨Q, hQ⟩ : ∃ Q, Q = MQ below (mQ G (.returned (some (.int z.1))) z.2) args s 0 0 (mF G) := ⟨_, rfl⟩
  rw [← hQ]
  have hU6 : ∀ w ∈ wsX60, w.before args s = true := fun w h => hts w (List.mem_cons_of_mem _ (List.mem_append_right _ h))
  have w1 := (hts (.fieldLink RX6 271 "HandkerchiefsDroppedModel" "hasImage" "Z") (List.mem_of_getElem? (i := 1) rfl))
  have w2 := (hts (.fieldLink RX6 37 "HandkerchiefsDroppedModel" "imageRows" "[I") (List.mem_of_getElem? (i := 2) rfl))
  have w3 := (hts (.fieldLink RX6 16 "HandkerchiefsDroppedModel" "rows" "[I") (List.mem_of_getElem? (i := 3) rfl))
  have w4 := (hts (.fieldLink RX6 19 "HandkerchiefsDroppedModel" "linens" "[I") (List.mem_of_getElem? (i := 4) rfl))
  have w5 := (hts (.fieldLink RX6 22 "HandkerchiefsDroppedModel" "weights" "[I") (List.mem_of_getElem? (i := 5) rfl))
  have w6 := (hts (.fieldLink RX6 40 "HandkerchiefsDroppedModel" "imageHeld" "[I") (List.mem_of_getElem? (i := 7) rfl))
  have w7 := (hts (.fieldLink RX6 78 "HandkerchiefsDroppedModel" "witnesses" "I") (List.mem_of_getElem? (i := 8) rfl))
  have w8 := (hts (.fieldLink RX6 109 "HandkerchiefsDroppedModel" "admitted" "I") (List.mem_of_getElem? (i := 9) rfl))
  have w9 := (hts (.fieldLink RX6 93 "HandkerchiefsDroppedModel" "hours" "I") (List.mem_of_getElem? (i := 10) rfl))
  have w10 := (hts (.fieldLink RX6 102 "HandkerchiefsDroppedModel" "rule" "I") (List.mem_of_getElem? (i := 11) rfl))
  have w11 := (hts (.fieldLink RX6 25 "HandkerchiefsDroppedModel" "keen" "[I") (List.mem_of_getElem? (i := 6) rfl))
  have hN7 : ∀ (k33 : Nat → Int32 → mS → Option (Int32 × mS)) (hk33 : ∀ (h0 : Nat) (x1 : Int32) (σ : mS), k33 h0 x1 σ = some z → ∀ (H : Heap) (locs : List Loc) (ls : Array Slot), mP G σ H → mL G locs → lv_has ls 2 [(0, .ref h0), (1, .int x1)] → W p l e rm_X6_image s m args below meth c H locs 0 0 Q (F0 m 33 ls [])) (n : Nat) (h0 : Nat) (x1 : Int32) (σ : mS), f_X6_image_7 k33 n h0 x1 σ = some z → ∀ (H : Heap) (locs : List Loc) (ls : Array Slot), mP G σ H → mL G locs → lv_has ls 2 [(0, .ref h0), (1, .int x1)] → W p l e rm_X6_image s m args below meth c H locs 0 0 Q (F0 m 7 ls []) := by
    intro k33 hk33 n
    induction n with
    | zero =>
      intro h0 x1 σ h
      exact nomatch (show (none : Option (Int32 × mS)) = some z from h)
    | succ n ih =>
      intro h0 x1 σ h H locs ls hM hL hl
      rw [f_X6_image_7.eq_2] at h
      refine lv_iload_n hx hb dX6_image_7 rfl (lv_at hl 1 rfl) ?_
      refine lv_bipush hx hb dX6_image_8 kB_18 ?_
      refine lv_icmp_ge (tgt := 31) hx hb dX6_image_10 (by decide) (fun c39 => ?_) (fun c39 => ?_)
      · have h := (if_pos c39).symm.trans h
        refine lv_iconst hx hb dX6_image_31 kI_0 ?_
        refine lv_istore_n (lv' := [(1, .int (0 : Int32)), (0, .ref h0)]) hx hb dX6_image_32 rfl hl (by decide) rfl (fun ls hl => ?_)
        exact hk33 _ _ _ h _ _ _ hM hL (lv_sub hl [1, 0] rfl)
      · have h := (if_neg c39).symm.trans h
        refine lv_aload_n hx hb dX6_image_13 rfl (lv_at hl 0 rfl) ?_
        refine m_getR (ci := 5) hx hb hU6 hown hK hM rfl 16 (by decide) w2 h dX6_image_14 (fun r40 gr40 h => ?_)
        refine lv_iload_n hx hb dX6_image_17 rfl (lv_at hl 1 rfl) ?_
        refine lv_aload_n hx hb dX6_image_18 rfl (lv_at hl 0 rfl) ?_
        refine m_getR (ci := 5) hx hb hU6 hown hK hM rfl 3 (by decide) w3 h dX6_image_19 (fun r41 gr41 h => ?_)
        refine lv_iload_n hx hb dX6_image_22 rfl (lv_at hl 1 rfl) ?_
        refine m_iald hx hb hK hM h dX6_image_23 (fun v42 gv42 h => ?_)
        refine m_iast hx hb hK hM hL h dX6_image_24 (fun t43 H locs h hM hL => ?_)
        obtain ⟨v44, ev44⟩ : ∃ y : Int32, y = x1 + (1 : Int32) := ⟨_, rfl⟩
        have h := vl_at ev44 h
        refine lv_iinc (v := v44) (lv' := [(1, .int v44), (0, .ref h0)]) hx hb dX6_image_25 hl (k := 1) rfl (by rw [ev44, kI_1]) (by decide) rfl (fun ls hl => ?_)
        refine lv_goto (tgt := 7) hx hb dX6_image_28 (by decide) ?_
        exact ih _ _ _ h _ _ _ hM hL (lv_sub hl [1, 0] rfl)
  have hN33 : ∀ (k62 : Nat → Int32 → mS → Option (Int32 × mS)) (hk62 : ∀ (h0 : Nat) (x1 : Int32) (σ : mS), k62 h0 x1 σ = some z → ∀ (H : Heap) (locs : List Loc) (ls : Array Slot), mP G σ H → mL G locs → lv_has ls 2 [(0, .ref h0), (1, .int x1)] → W p l e rm_X6_image s m args below meth c H locs 0 0 Q (F0 m 62 ls [])) (n : Nat) (h0 : Nat) (x1 : Int32) (σ : mS), f_X6_image_33 k62 n h0 x1 σ = some z → ∀ (H : Heap) (locs : List Loc) (ls : Array Slot), mP G σ H → mL G locs → lv_has ls 2 [(0, .ref h0), (1, .int x1)] → W p l e rm_X6_image s m args below meth c H locs 0 0 Q (F0 m 33 ls []) := by
    intro k62 hk62 n
    induction n with
    | zero =>
      intro h0 x1 σ h
      exact nomatch (show (none : Option (Int32 × mS)) = some z from h)
    | succ n ih =>
      intro h0 x1 σ h H locs ls hM hL hl
      rw [f_X6_image_33.eq_2] at h
      refine lv_iload_n hx hb dX6_image_33 rfl (lv_at hl 1 rfl) ?_
      refine lv_bipush hx hb dX6_image_34 kB_24 ?_
      refine lv_icmp_ge (tgt := 60) hx hb dX6_image_36 (by decide) (fun c45 => ?_) (fun c45 => ?_)
      · have h := (if_pos c45).symm.trans h
        refine lv_iconst hx hb dX6_image_60 kI_0 ?_
        refine lv_istore_n (lv' := [(1, .int (0 : Int32)), (0, .ref h0)]) hx hb dX6_image_61 rfl hl (by decide) rfl (fun ls hl => ?_)
        exact hk62 _ _ _ h _ _ _ hM hL (lv_sub hl [1, 0] rfl)
      · have h := (if_neg c45).symm.trans h
        refine lv_aload_n hx hb dX6_image_39 rfl (lv_at hl 0 rfl) ?_
        refine m_getR (ci := 5) hx hb hU6 hown hK hM rfl 16 (by decide) w2 h dX6_image_40 (fun r46 gr46 h => ?_)
        refine lv_bipush hx hb dX6_image_43 kB_18 ?_
        refine lv_iload_n hx hb dX6_image_45 rfl (lv_at hl 1 rfl) ?_
        refine lv_iadd hx hb dX6_image_46 ?_
        refine lv_aload_n hx hb dX6_image_47 rfl (lv_at hl 0 rfl) ?_
        refine m_getR (ci := 5) hx hb hU6 hown hK hM rfl 4 (by decide) w4 h dX6_image_48 (fun r47 gr47 h => ?_)
        refine lv_iload_n hx hb dX6_image_51 rfl (lv_at hl 1 rfl) ?_
        refine m_iald hx hb hK hM h dX6_image_52 (fun v48 gv48 h => ?_)
        refine m_iast hx hb hK hM hL h dX6_image_53 (fun t49 H locs h hM hL => ?_)
        obtain ⟨v50, ev50⟩ : ∃ y : Int32, y = x1 + (1 : Int32) := ⟨_, rfl⟩
        have h := vl_at ev50 h
        refine lv_iinc (v := v50) (lv' := [(1, .int v50), (0, .ref h0)]) hx hb dX6_image_54 hl (k := 1) rfl (by rw [ev50, kI_1]) (by decide) rfl (fun ls hl => ?_)
        refine lv_goto (tgt := 33) hx hb dX6_image_57 (by decide) ?_
        exact ih _ _ _ h _ _ _ hM hL (lv_sub hl [1, 0] rfl)
  have hN62 : ∀ (k91 : Nat → Int32 → mS → Option (Int32 × mS)) (hk91 : ∀ (h0 : Nat) (x1 : Int32) (σ : mS), k91 h0 x1 σ = some z → ∀ (H : Heap) (locs : List Loc) (ls : Array Slot), mP G σ H → mL G locs → lv_has ls 2 [(0, .ref h0), (1, .int x1)] → W p l e rm_X6_image s m args below meth c H locs 0 0 Q (F0 m 91 ls [])) (n : Nat) (h0 : Nat) (x1 : Int32) (σ : mS), f_X6_image_62 k91 n h0 x1 σ = some z → ∀ (H : Heap) (locs : List Loc) (ls : Array Slot), mP G σ H → mL G locs → lv_has ls 2 [(0, .ref h0), (1, .int x1)] → W p l e rm_X6_image s m args below meth c H locs 0 0 Q (F0 m 62 ls []) := by
    intro k91 hk91 n
    induction n with
    | zero =>
      intro h0 x1 σ h
      exact nomatch (show (none : Option (Int32 × mS)) = some z from h)
    | succ n ih =>
      intro h0 x1 σ h H locs ls hM hL hl
      rw [f_X6_image_62.eq_2] at h
      refine lv_iload_n hx hb dX6_image_62 rfl (lv_at hl 1 rfl) ?_
      refine lv_bipush hx hb dX6_image_63 kB_10 ?_
      refine lv_icmp_ge (tgt := 89) hx hb dX6_image_65 (by decide) (fun c51 => ?_) (fun c51 => ?_)
      · have h := (if_pos c51).symm.trans h
        refine lv_iconst hx hb dX6_image_89 kI_0 ?_
        refine lv_istore_n (lv' := [(1, .int (0 : Int32)), (0, .ref h0)]) hx hb dX6_image_90 rfl hl (by decide) rfl (fun ls hl => ?_)
        exact hk91 _ _ _ h _ _ _ hM hL (lv_sub hl [1, 0] rfl)
      · have h := (if_neg c51).symm.trans h
        refine lv_aload_n hx hb dX6_image_68 rfl (lv_at hl 0 rfl) ?_
        refine m_getR (ci := 5) hx hb hU6 hown hK hM rfl 16 (by decide) w2 h dX6_image_69 (fun r52 gr52 h => ?_)
        refine lv_bipush hx hb dX6_image_72 kB_42 ?_
        refine lv_iload_n hx hb dX6_image_74 rfl (lv_at hl 1 rfl) ?_
        refine lv_iadd hx hb dX6_image_75 ?_
        refine lv_aload_n hx hb dX6_image_76 rfl (lv_at hl 0 rfl) ?_
        refine m_getR (ci := 5) hx hb hU6 hown hK hM rfl 5 (by decide) w5 h dX6_image_77 (fun r53 gr53 h => ?_)
        refine lv_iload_n hx hb dX6_image_80 rfl (lv_at hl 1 rfl) ?_
        refine m_iald hx hb hK hM h dX6_image_81 (fun v54 gv54 h => ?_)
        refine m_iast hx hb hK hM hL h dX6_image_82 (fun t55 H locs h hM hL => ?_)
        obtain ⟨v56, ev56⟩ : ∃ y : Int32, y = x1 + (1 : Int32) := ⟨_, rfl⟩
        have h := vl_at ev56 h
        refine lv_iinc (v := v56) (lv' := [(1, .int v56), (0, .ref h0)]) hx hb dX6_image_83 hl (k := 1) rfl (by rw [ev56, kI_1]) (by decide) rfl (fun ls hl => ?_)
        refine lv_goto (tgt := 62) hx hb dX6_image_86 (by decide) ?_
        exact ih _ _ _ h _ _ _ hM hL (lv_sub hl [1, 0] rfl)
  have hN91 : ∀ (n : Nat) (h0 : Nat) (x1 : Int32) (σ : mS), f_X6_image_91 n h0 x1 σ = some z → ∀ (H : Heap) (locs : List Loc) (ls : Array Slot), mP G σ H → mL G locs → lv_has ls 2 [(0, .ref h0), (1, .int x1)] → W p l e rm_X6_image s m args below meth c H locs 0 0 Q (F0 m 91 ls []) := by
    intro n
    induction n with
    | zero =>
      intro h0 x1 σ h
      exact nomatch (show (none : Option (Int32 × mS)) = some z from h)
    | succ n ih =>
      intro h0 x1 σ h H locs ls hM hL hl
      rw [f_X6_image_91.eq_2] at h
      refine lv_iload_n hx hb dX6_image_91 rfl (lv_at hl 1 rfl) ?_
      refine lv_bipush hx hb dX6_image_92 kB_6 ?_
      refine lv_icmp_ge (tgt := 118) hx hb dX6_image_94 (by decide) (fun c57 => ?_) (fun c57 => ?_)
      · have h := (if_pos c57).symm.trans h
        refine lv_aload_n hx hb dX6_image_118 rfl (lv_at hl 0 rfl) ?_
        refine m_getR (ci := 5) hx hb hU6 hown hK hM rfl 17 (by decide) w6 h dX6_image_119 (fun r58 gr58 h => ?_)
        refine lv_iconst hx hb dX6_image_122 kI_0 ?_
        refine lv_aload_n hx hb dX6_image_123 rfl (lv_at hl 0 rfl) ?_
        refine m_getI (ci := 5) hx hb hU6 hown hK hM rfl 0 (by decide) w7 h dX6_image_124 (fun v59 gv59 h => ?_)
        refine m_iast hx hb hK hM hL h dX6_image_127 (fun t60 H locs h hM hL => ?_)
        refine lv_aload_n hx hb dX6_image_128 rfl (lv_at hl 0 rfl) ?_
        refine m_getR (ci := 5) hx hb hU6 hown hK hM rfl 17 (by decide) w6 h dX6_image_129 (fun r61 gr61 h => ?_)
        refine lv_iconst hx hb dX6_image_132 kI_1 ?_
        refine lv_aload_n hx hb dX6_image_133 rfl (lv_at hl 0 rfl) ?_
        refine m_getI (ci := 5) hx hb hU6 hown hK hM rfl 7 (by decide) w8 h dX6_image_134 (fun v62 gv62 h => ?_)
        refine m_iast hx hb hK hM hL h dX6_image_137 (fun t63 H locs h hM hL => ?_)
        refine lv_aload_n hx hb dX6_image_138 rfl (lv_at hl 0 rfl) ?_
        refine m_getR (ci := 5) hx hb hU6 hown hK hM rfl 17 (by decide) w6 h dX6_image_139 (fun r64 gr64 h => ?_)
        refine lv_iconst hx hb dX6_image_142 kI_2 ?_
        refine lv_aload_n hx hb dX6_image_143 rfl (lv_at hl 0 rfl) ?_
        refine m_getI (ci := 5) hx hb hU6 hown hK hM rfl 8 (by decide) w9 h dX6_image_144 (fun v65 gv65 h => ?_)
        refine m_iast hx hb hK hM hL h dX6_image_147 (fun t66 H locs h hM hL => ?_)
        refine lv_aload_n hx hb dX6_image_148 rfl (lv_at hl 0 rfl) ?_
        refine m_getR (ci := 5) hx hb hU6 hown hK hM rfl 17 (by decide) w6 h dX6_image_149 (fun r67 gr67 h => ?_)
        refine lv_iconst hx hb dX6_image_152 kI_3 ?_
        refine lv_aload_n hx hb dX6_image_153 rfl (lv_at hl 0 rfl) ?_
        refine m_getI (ci := 5) hx hb hU6 hown hK hM rfl 14 (by decide) w10 h dX6_image_154 (fun v68 gv68 h => ?_)
        refine m_iast hx hb hK hM hL h dX6_image_157 (fun t69 H locs h hM hL => ?_)
        refine lv_aload_n hx hb dX6_image_158 rfl (lv_at hl 0 rfl) ?_
        refine m_getI (ci := 5) hx hb hU6 hown hK hM rfl 0 (by decide) w7 h dX6_image_159 (fun v70 gv70 h => ?_)
        subst hQ
        have h := Option.some.inj h
        subst h
        exact m_iret hx hb hr hM hL dX6_image_162 hlocks
      · have h := (if_neg c57).symm.trans h
        refine lv_aload_n hx hb dX6_image_97 rfl (lv_at hl 0 rfl) ?_
        refine m_getR (ci := 5) hx hb hU6 hown hK hM rfl 16 (by decide) w2 h dX6_image_98 (fun r71 gr71 h => ?_)
        refine lv_bipush hx hb dX6_image_101 kB_52 ?_
        refine lv_iload_n hx hb dX6_image_103 rfl (lv_at hl 1 rfl) ?_
        refine lv_iadd hx hb dX6_image_104 ?_
        refine lv_aload_n hx hb dX6_image_105 rfl (lv_at hl 0 rfl) ?_
        refine m_getR (ci := 5) hx hb hU6 hown hK hM rfl 6 (by decide) w11 h dX6_image_106 (fun r72 gr72 h => ?_)
        refine lv_iload_n hx hb dX6_image_109 rfl (lv_at hl 1 rfl) ?_
        refine m_iald hx hb hK hM h dX6_image_110 (fun v73 gv73 h => ?_)
        refine m_iast hx hb hK hM hL h dX6_image_111 (fun t74 H locs h hM hL => ?_)
        obtain ⟨v75, ev75⟩ : ∃ y : Int32, y = x1 + (1 : Int32) := ⟨_, rfl⟩
        have h := vl_at ev75 h
        refine lv_iinc (v := v75) (lv' := [(1, .int v75), (0, .ref h0)]) hx hb dX6_image_112 hl (k := 1) rfl (by rw [ev75, kI_1]) (by decide) rfl (fun ls hl => ?_)
        refine lv_goto (tgt := 91) hx hb dX6_image_115 (by decide) ?_
        exact ih _ _ _ h _ _ _ hM hL (lv_sub hl [1, 0] rfl)
  rw [f_X6_image.eq_1] at h
  refine lv_aload_n hx hb dX6_image_0 rfl (lv_at hl 0 rfl) ?_
  refine lv_iconst hx hb dX6_image_1 kI_1 ?_
  refine m_put (ci := 5) hx hb hU6 tyX6 tyX6_ok nmX6 hown hK hM hL rfl 15 (by decide) w1 rfl rfl rfl h dX6_image_2 (fun t76 H locs h hM hL => ?_)
  refine lv_iconst hx hb dX6_image_5 kI_0 ?_
  refine lv_istore_n (lv' := [(1, .int (0 : Int32)), (0, .ref h0)]) hx hb dX6_image_6 rfl hl (by decide) rfl (fun ls hl => ?_)
  refine hN7 _ (fun _ _ _ h H locs ls hM hL hl => hN33 _ (fun _ _ _ h H locs ls hM hL hl => hN62 _ (fun _ _ _ h H locs ls hM hL hl => hN91 _ _ _ _ h H locs ls hM hL hl) _ _ _ _ h H locs ls hM hL hl) _ _ _ _ h H locs ls hM hL hl) _ _ _ _ h _ _ _ hM hL (lv_sub hl [1, 0] rfl)
abbrev rm_X6_back : Room := { frames := 0, cells := 0, slots := 0, locals := 0 }
set_option maxHeartbeats 4000000 in
set_option maxRecDepth 100000 in
theorem c_X6_back (l : Launch) (G : mG) {h0 : Nat} {σ : mS} {z : Int32 × mS} (h : f_X6_back h0 σ = some z) : Met l yX6_back wsX6_back rm_X6_back (va_Pc [.ref h0] (mB G σ)) (mQ G (.returned (some (.int z.1))) z.2) 0 0 (mF G) := by
  refine m_start (cc := cX6_back) (maxL := 2) (ret := (some .int)) (by decide) rfl [.ref h0] (Nat.le_of_ble_eq_true rfl) ?_
  intro p e s m args below meth c ls hx hb hr hml hown hts hlocks hnm hK hM hl
  have hown : s.vm.findClass RX6 = some m.cls := hown
  have hnm : meth.name = "back" := hnm
  obtain ⟨locs, hlocs⟩ : ∃ l : List Loc, l = [] := ⟨_, rfl⟩
  have hL : mL G locs := by rw [hlocs]; exact mL_nil G
  rw [← hlocs]
  generalize s.heap = H at hM ⊢
  have hl : lv_has ls 2 [(0, .ref h0)] := hl
  obtain ⟨Q, hQ⟩ : ∃ Q, Q = MQ below (mQ G (.returned (some (.int z.1))) z.2) args s 0 0 (mF G) := ⟨_, rfl⟩
  rw [← hQ]
  have hU6 : ∀ w ∈ wsX60, w.before args s = true := fun w h => hts w (List.mem_cons_of_mem _ (List.mem_append_right _ h))
  have w1 := (hts (.fieldLink RX6 271 "HandkerchiefsDroppedModel" "hasImage" "Z") (List.mem_of_getElem? (i := 1) rfl))
  have w2 := (hts (.fieldLink RX6 16 "HandkerchiefsDroppedModel" "rows" "[I") (List.mem_of_getElem? (i := 2) rfl))
  have w3 := (hts (.fieldLink RX6 37 "HandkerchiefsDroppedModel" "imageRows" "[I") (List.mem_of_getElem? (i := 3) rfl))
  have w4 := (hts (.fieldLink RX6 19 "HandkerchiefsDroppedModel" "linens" "[I") (List.mem_of_getElem? (i := 4) rfl))
  have w5 := (hts (.fieldLink RX6 22 "HandkerchiefsDroppedModel" "weights" "[I") (List.mem_of_getElem? (i := 5) rfl))
  have w6 := (hts (.fieldLink RX6 40 "HandkerchiefsDroppedModel" "imageHeld" "[I") (List.mem_of_getElem? (i := 7) rfl))
  have w7 := (hts (.fieldLink RX6 78 "HandkerchiefsDroppedModel" "witnesses" "I") (List.mem_of_getElem? (i := 8) rfl))
  have w8 := (hts (.fieldLink RX6 109 "HandkerchiefsDroppedModel" "admitted" "I") (List.mem_of_getElem? (i := 9) rfl))
  have w9 := (hts (.fieldLink RX6 93 "HandkerchiefsDroppedModel" "hours" "I") (List.mem_of_getElem? (i := 10) rfl))
  have w10 := (hts (.fieldLink RX6 102 "HandkerchiefsDroppedModel" "rule" "I") (List.mem_of_getElem? (i := 11) rfl))
  have w11 := (hts (.fieldLink RX6 25 "HandkerchiefsDroppedModel" "keen" "[I") (List.mem_of_getElem? (i := 6) rfl))
  have hN12 : ∀ (k38 : Nat → Int32 → mS → Option (Int32 × mS)) (hk38 : ∀ (h0 : Nat) (x1 : Int32) (σ : mS), k38 h0 x1 σ = some z → ∀ (H : Heap) (locs : List Loc) (ls : Array Slot), mP G σ H → mL G locs → lv_has ls 2 [(0, .ref h0), (1, .int x1)] → W p l e rm_X6_back s m args below meth c H locs 0 0 Q (F0 m 38 ls [])) (n : Nat) (h0 : Nat) (x1 : Int32) (σ : mS), f_X6_back_12 k38 n h0 x1 σ = some z → ∀ (H : Heap) (locs : List Loc) (ls : Array Slot), mP G σ H → mL G locs → lv_has ls 2 [(0, .ref h0), (1, .int x1)] → W p l e rm_X6_back s m args below meth c H locs 0 0 Q (F0 m 12 ls []) := by
    intro k38 hk38 n
    induction n with
    | zero =>
      intro h0 x1 σ h
      exact nomatch (show (none : Option (Int32 × mS)) = some z from h)
    | succ n ih =>
      intro h0 x1 σ h H locs ls hM hL hl
      rw [f_X6_back_12.eq_2] at h
      refine lv_iload_n hx hb dX6_back_12 rfl (lv_at hl 1 rfl) ?_
      refine lv_bipush hx hb dX6_back_13 kB_18 ?_
      refine lv_icmp_ge (tgt := 36) hx hb dX6_back_15 (by decide) (fun c40 => ?_) (fun c40 => ?_)
      · have h := (if_pos c40).symm.trans h
        refine lv_iconst hx hb dX6_back_36 kI_0 ?_
        refine lv_istore_n (lv' := [(1, .int (0 : Int32)), (0, .ref h0)]) hx hb dX6_back_37 rfl hl (by decide) rfl (fun ls hl => ?_)
        exact hk38 _ _ _ h _ _ _ hM hL (lv_sub hl [1, 0] rfl)
      · have h := (if_neg c40).symm.trans h
        refine lv_aload_n hx hb dX6_back_18 rfl (lv_at hl 0 rfl) ?_
        refine m_getR (ci := 5) hx hb hU6 hown hK hM rfl 3 (by decide) w2 h dX6_back_19 (fun r41 gr41 h => ?_)
        refine lv_iload_n hx hb dX6_back_22 rfl (lv_at hl 1 rfl) ?_
        refine lv_aload_n hx hb dX6_back_23 rfl (lv_at hl 0 rfl) ?_
        refine m_getR (ci := 5) hx hb hU6 hown hK hM rfl 16 (by decide) w3 h dX6_back_24 (fun r42 gr42 h => ?_)
        refine lv_iload_n hx hb dX6_back_27 rfl (lv_at hl 1 rfl) ?_
        refine m_iald hx hb hK hM h dX6_back_28 (fun v43 gv43 h => ?_)
        refine m_iast hx hb hK hM hL h dX6_back_29 (fun t44 H locs h hM hL => ?_)
        obtain ⟨v45, ev45⟩ : ∃ y : Int32, y = x1 + (1 : Int32) := ⟨_, rfl⟩
        have h := vl_at ev45 h
        refine lv_iinc (v := v45) (lv' := [(1, .int v45), (0, .ref h0)]) hx hb dX6_back_30 hl (k := 1) rfl (by rw [ev45, kI_1]) (by decide) rfl (fun ls hl => ?_)
        refine lv_goto (tgt := 12) hx hb dX6_back_33 (by decide) ?_
        exact ih _ _ _ h _ _ _ hM hL (lv_sub hl [1, 0] rfl)
  have hN38 : ∀ (k67 : Nat → Int32 → mS → Option (Int32 × mS)) (hk67 : ∀ (h0 : Nat) (x1 : Int32) (σ : mS), k67 h0 x1 σ = some z → ∀ (H : Heap) (locs : List Loc) (ls : Array Slot), mP G σ H → mL G locs → lv_has ls 2 [(0, .ref h0), (1, .int x1)] → W p l e rm_X6_back s m args below meth c H locs 0 0 Q (F0 m 67 ls [])) (n : Nat) (h0 : Nat) (x1 : Int32) (σ : mS), f_X6_back_38 k67 n h0 x1 σ = some z → ∀ (H : Heap) (locs : List Loc) (ls : Array Slot), mP G σ H → mL G locs → lv_has ls 2 [(0, .ref h0), (1, .int x1)] → W p l e rm_X6_back s m args below meth c H locs 0 0 Q (F0 m 38 ls []) := by
    intro k67 hk67 n
    induction n with
    | zero =>
      intro h0 x1 σ h
      exact nomatch (show (none : Option (Int32 × mS)) = some z from h)
    | succ n ih =>
      intro h0 x1 σ h H locs ls hM hL hl
      rw [f_X6_back_38.eq_2] at h
      refine lv_iload_n hx hb dX6_back_38 rfl (lv_at hl 1 rfl) ?_
      refine lv_bipush hx hb dX6_back_39 kB_24 ?_
      refine lv_icmp_ge (tgt := 65) hx hb dX6_back_41 (by decide) (fun c46 => ?_) (fun c46 => ?_)
      · have h := (if_pos c46).symm.trans h
        refine lv_iconst hx hb dX6_back_65 kI_0 ?_
        refine lv_istore_n (lv' := [(1, .int (0 : Int32)), (0, .ref h0)]) hx hb dX6_back_66 rfl hl (by decide) rfl (fun ls hl => ?_)
        exact hk67 _ _ _ h _ _ _ hM hL (lv_sub hl [1, 0] rfl)
      · have h := (if_neg c46).symm.trans h
        refine lv_aload_n hx hb dX6_back_44 rfl (lv_at hl 0 rfl) ?_
        refine m_getR (ci := 5) hx hb hU6 hown hK hM rfl 4 (by decide) w4 h dX6_back_45 (fun r47 gr47 h => ?_)
        refine lv_iload_n hx hb dX6_back_48 rfl (lv_at hl 1 rfl) ?_
        refine lv_aload_n hx hb dX6_back_49 rfl (lv_at hl 0 rfl) ?_
        refine m_getR (ci := 5) hx hb hU6 hown hK hM rfl 16 (by decide) w3 h dX6_back_50 (fun r48 gr48 h => ?_)
        refine lv_bipush hx hb dX6_back_53 kB_18 ?_
        refine lv_iload_n hx hb dX6_back_55 rfl (lv_at hl 1 rfl) ?_
        refine lv_iadd hx hb dX6_back_56 ?_
        refine m_iald hx hb hK hM h dX6_back_57 (fun v49 gv49 h => ?_)
        refine m_iast hx hb hK hM hL h dX6_back_58 (fun t50 H locs h hM hL => ?_)
        obtain ⟨v51, ev51⟩ : ∃ y : Int32, y = x1 + (1 : Int32) := ⟨_, rfl⟩
        have h := vl_at ev51 h
        refine lv_iinc (v := v51) (lv' := [(1, .int v51), (0, .ref h0)]) hx hb dX6_back_59 hl (k := 1) rfl (by rw [ev51, kI_1]) (by decide) rfl (fun ls hl => ?_)
        refine lv_goto (tgt := 38) hx hb dX6_back_62 (by decide) ?_
        exact ih _ _ _ h _ _ _ hM hL (lv_sub hl [1, 0] rfl)
  have hN67 : ∀ (k96 : Nat → Int32 → mS → Option (Int32 × mS)) (hk96 : ∀ (h0 : Nat) (x1 : Int32) (σ : mS), k96 h0 x1 σ = some z → ∀ (H : Heap) (locs : List Loc) (ls : Array Slot), mP G σ H → mL G locs → lv_has ls 2 [(0, .ref h0), (1, .int x1)] → W p l e rm_X6_back s m args below meth c H locs 0 0 Q (F0 m 96 ls [])) (n : Nat) (h0 : Nat) (x1 : Int32) (σ : mS), f_X6_back_67 k96 n h0 x1 σ = some z → ∀ (H : Heap) (locs : List Loc) (ls : Array Slot), mP G σ H → mL G locs → lv_has ls 2 [(0, .ref h0), (1, .int x1)] → W p l e rm_X6_back s m args below meth c H locs 0 0 Q (F0 m 67 ls []) := by
    intro k96 hk96 n
    induction n with
    | zero =>
      intro h0 x1 σ h
      exact nomatch (show (none : Option (Int32 × mS)) = some z from h)
    | succ n ih =>
      intro h0 x1 σ h H locs ls hM hL hl
      rw [f_X6_back_67.eq_2] at h
      refine lv_iload_n hx hb dX6_back_67 rfl (lv_at hl 1 rfl) ?_
      refine lv_bipush hx hb dX6_back_68 kB_10 ?_
      refine lv_icmp_ge (tgt := 94) hx hb dX6_back_70 (by decide) (fun c52 => ?_) (fun c52 => ?_)
      · have h := (if_pos c52).symm.trans h
        refine lv_iconst hx hb dX6_back_94 kI_0 ?_
        refine lv_istore_n (lv' := [(1, .int (0 : Int32)), (0, .ref h0)]) hx hb dX6_back_95 rfl hl (by decide) rfl (fun ls hl => ?_)
        exact hk96 _ _ _ h _ _ _ hM hL (lv_sub hl [1, 0] rfl)
      · have h := (if_neg c52).symm.trans h
        refine lv_aload_n hx hb dX6_back_73 rfl (lv_at hl 0 rfl) ?_
        refine m_getR (ci := 5) hx hb hU6 hown hK hM rfl 5 (by decide) w5 h dX6_back_74 (fun r53 gr53 h => ?_)
        refine lv_iload_n hx hb dX6_back_77 rfl (lv_at hl 1 rfl) ?_
        refine lv_aload_n hx hb dX6_back_78 rfl (lv_at hl 0 rfl) ?_
        refine m_getR (ci := 5) hx hb hU6 hown hK hM rfl 16 (by decide) w3 h dX6_back_79 (fun r54 gr54 h => ?_)
        refine lv_bipush hx hb dX6_back_82 kB_42 ?_
        refine lv_iload_n hx hb dX6_back_84 rfl (lv_at hl 1 rfl) ?_
        refine lv_iadd hx hb dX6_back_85 ?_
        refine m_iald hx hb hK hM h dX6_back_86 (fun v55 gv55 h => ?_)
        refine m_iast hx hb hK hM hL h dX6_back_87 (fun t56 H locs h hM hL => ?_)
        obtain ⟨v57, ev57⟩ : ∃ y : Int32, y = x1 + (1 : Int32) := ⟨_, rfl⟩
        have h := vl_at ev57 h
        refine lv_iinc (v := v57) (lv' := [(1, .int v57), (0, .ref h0)]) hx hb dX6_back_88 hl (k := 1) rfl (by rw [ev57, kI_1]) (by decide) rfl (fun ls hl => ?_)
        refine lv_goto (tgt := 67) hx hb dX6_back_91 (by decide) ?_
        exact ih _ _ _ h _ _ _ hM hL (lv_sub hl [1, 0] rfl)
  have hN96 : ∀ (n : Nat) (h0 : Nat) (x1 : Int32) (σ : mS), f_X6_back_96 n h0 x1 σ = some z → ∀ (H : Heap) (locs : List Loc) (ls : Array Slot), mP G σ H → mL G locs → lv_has ls 2 [(0, .ref h0), (1, .int x1)] → W p l e rm_X6_back s m args below meth c H locs 0 0 Q (F0 m 96 ls []) := by
    intro n
    induction n with
    | zero =>
      intro h0 x1 σ h
      exact nomatch (show (none : Option (Int32 × mS)) = some z from h)
    | succ n ih =>
      intro h0 x1 σ h H locs ls hM hL hl
      rw [f_X6_back_96.eq_2] at h
      refine lv_iload_n hx hb dX6_back_96 rfl (lv_at hl 1 rfl) ?_
      refine lv_bipush hx hb dX6_back_97 kB_6 ?_
      refine lv_icmp_ge (tgt := 123) hx hb dX6_back_99 (by decide) (fun c58 => ?_) (fun c58 => ?_)
      · have h := (if_pos c58).symm.trans h
        refine lv_aload_n hx hb dX6_back_123 rfl (lv_at hl 0 rfl) ?_
        refine lv_aload_n hx hb dX6_back_124 rfl (lv_at hl 0 rfl) ?_
        refine m_getR (ci := 5) hx hb hU6 hown hK hM rfl 17 (by decide) w6 h dX6_back_125 (fun r59 gr59 h => ?_)
        refine lv_iconst hx hb dX6_back_128 kI_0 ?_
        refine m_iald hx hb hK hM h dX6_back_129 (fun v60 gv60 h => ?_)
        refine m_put (ci := 5) hx hb hU6 tyX6 tyX6_ok nmX6 hown hK hM hL rfl 0 (by decide) w7 rfl rfl rfl h dX6_back_130 (fun t61 H locs h hM hL => ?_)
        refine lv_aload_n hx hb dX6_back_133 rfl (lv_at hl 0 rfl) ?_
        refine lv_aload_n hx hb dX6_back_134 rfl (lv_at hl 0 rfl) ?_
        refine m_getR (ci := 5) hx hb hU6 hown hK hM rfl 17 (by decide) w6 h dX6_back_135 (fun r62 gr62 h => ?_)
        refine lv_iconst hx hb dX6_back_138 kI_1 ?_
        refine m_iald hx hb hK hM h dX6_back_139 (fun v63 gv63 h => ?_)
        refine m_put (ci := 5) hx hb hU6 tyX6 tyX6_ok nmX6 hown hK hM hL rfl 7 (by decide) w8 rfl rfl rfl h dX6_back_140 (fun t64 H locs h hM hL => ?_)
        refine lv_aload_n hx hb dX6_back_143 rfl (lv_at hl 0 rfl) ?_
        refine lv_aload_n hx hb dX6_back_144 rfl (lv_at hl 0 rfl) ?_
        refine m_getR (ci := 5) hx hb hU6 hown hK hM rfl 17 (by decide) w6 h dX6_back_145 (fun r65 gr65 h => ?_)
        refine lv_iconst hx hb dX6_back_148 kI_2 ?_
        refine m_iald hx hb hK hM h dX6_back_149 (fun v66 gv66 h => ?_)
        refine m_put (ci := 5) hx hb hU6 tyX6 tyX6_ok nmX6 hown hK hM hL rfl 8 (by decide) w9 rfl rfl rfl h dX6_back_150 (fun t67 H locs h hM hL => ?_)
        refine lv_aload_n hx hb dX6_back_153 rfl (lv_at hl 0 rfl) ?_
        refine lv_aload_n hx hb dX6_back_154 rfl (lv_at hl 0 rfl) ?_
        refine m_getR (ci := 5) hx hb hU6 hown hK hM rfl 17 (by decide) w6 h dX6_back_155 (fun r68 gr68 h => ?_)
        refine lv_iconst hx hb dX6_back_158 kI_3 ?_
        refine m_iald hx hb hK hM h dX6_back_159 (fun v69 gv69 h => ?_)
        refine m_put (ci := 5) hx hb hU6 tyX6 tyX6_ok nmX6 hown hK hM hL rfl 14 (by decide) w10 rfl rfl rfl h dX6_back_160 (fun t70 H locs h hM hL => ?_)
        refine lv_aload_n hx hb dX6_back_163 rfl (lv_at hl 0 rfl) ?_
        refine m_getI (ci := 5) hx hb hU6 hown hK hM rfl 0 (by decide) w7 h dX6_back_164 (fun v71 gv71 h => ?_)
        subst hQ
        have h := Option.some.inj h
        subst h
        exact m_iret hx hb hr hM hL dX6_back_167 hlocks
      · have h := (if_neg c58).symm.trans h
        refine lv_aload_n hx hb dX6_back_102 rfl (lv_at hl 0 rfl) ?_
        refine m_getR (ci := 5) hx hb hU6 hown hK hM rfl 6 (by decide) w11 h dX6_back_103 (fun r72 gr72 h => ?_)
        refine lv_iload_n hx hb dX6_back_106 rfl (lv_at hl 1 rfl) ?_
        refine lv_aload_n hx hb dX6_back_107 rfl (lv_at hl 0 rfl) ?_
        refine m_getR (ci := 5) hx hb hU6 hown hK hM rfl 16 (by decide) w3 h dX6_back_108 (fun r73 gr73 h => ?_)
        refine lv_bipush hx hb dX6_back_111 kB_52 ?_
        refine lv_iload_n hx hb dX6_back_113 rfl (lv_at hl 1 rfl) ?_
        refine lv_iadd hx hb dX6_back_114 ?_
        refine m_iald hx hb hK hM h dX6_back_115 (fun v74 gv74 h => ?_)
        refine m_iast hx hb hK hM hL h dX6_back_116 (fun t75 H locs h hM hL => ?_)
        obtain ⟨v76, ev76⟩ : ∃ y : Int32, y = x1 + (1 : Int32) := ⟨_, rfl⟩
        have h := vl_at ev76 h
        refine lv_iinc (v := v76) (lv' := [(1, .int v76), (0, .ref h0)]) hx hb dX6_back_117 hl (k := 1) rfl (by rw [ev76, kI_1]) (by decide) rfl (fun ls hl => ?_)
        refine lv_goto (tgt := 96) hx hb dX6_back_120 (by decide) ?_
        exact ih _ _ _ h _ _ _ hM hL (lv_sub hl [1, 0] rfl)
  rw [f_X6_back.eq_1] at h
  refine lv_aload_n hx hb dX6_back_0 rfl (lv_at hl 0 rfl) ?_
  refine m_getI (ci := 5) hx hb hU6 hown hK hM rfl 15 (by decide) w1 h dX6_back_1 (fun v77 gv77 h => ?_)
  refine lv_if_ne (tgt := 10) hx hb dX6_back_4 (by decide) (fun c78 => ?_) (fun c78 => ?_)
  · have h := (if_neg c78).symm.trans h
    refine lv_iconst hx hb dX6_back_10 kI_0 ?_
    refine lv_istore_n (lv' := [(1, .int (0 : Int32)), (0, .ref h0)]) hx hb dX6_back_11 rfl hl (by decide) rfl (fun ls hl => ?_)
    refine hN12 _ (fun _ _ _ h H locs ls hM hL hl => hN38 _ (fun _ _ _ h H locs ls hM hL hl => hN67 _ (fun _ _ _ h H locs ls hM hL hl => hN96 _ _ _ _ h H locs ls hM hL hl) _ _ _ _ h H locs ls hM hL hl) _ _ _ _ h H locs ls hM hL hl) _ _ _ _ h _ _ _ hM hL (lv_sub hl [1, 0] rfl)
  · have h := (if_pos c78).symm.trans h
    refine lv_bipush hx hb dX6_back_7 kB_m3 ?_
    subst hQ
    have h := Option.some.inj h
    subst h
    exact m_iret hx hb hr hM hL dX6_back_9 hlocks
abbrev rm_X6_sheet : Room := { frames := 1, cells := 0, slots := 0, locals := 22 }
set_option maxHeartbeats 4000000 in
set_option maxRecDepth 100000 in
theorem c_X6_sheet (l : Launch) (G : mG) {h0 : Nat} {x1 : Int32} {x2 : Int32} {x3 : Int32} {σ : mS} {z : Int32 × mS} (h : f_X6_sheet h0 x1 x2 x3 σ = some z) : Met l yX6_sheet wsX6_sheet rm_X6_sheet (va_Pc [.ref h0, .int x1, .int x2, .int x3] (mB G σ)) (mQ G (.returned (some (.int z.1))) z.2) 0 0 (mF G) := by
  refine m_start (cc := cX6_sheet) (maxL := 5) (ret := (some .int)) (by decide) rfl [.ref h0, .int x1, .int x2, .int x3] (Nat.le_of_ble_eq_true rfl) ?_
  intro p e s m args below meth c ls hx hb hr hml hown hts hlocks hnm hK hM hl
  have hown : s.vm.findClass RX6 = some m.cls := hown
  have hnm : meth.name = "sheet" := hnm
  obtain ⟨locs, hlocs⟩ : ∃ l : List Loc, l = [] := ⟨_, rfl⟩
  have hL : mL G locs := by rw [hlocs]; exact mL_nil G
  rw [← hlocs]
  generalize s.heap = H at hM ⊢
  have hl : lv_has ls 5 [(0, .ref h0), (1, .int x1), (2, .int x2), (3, .int x3)] := hl
  obtain ⟨Q, hQ⟩ : ∃ Q, Q = MQ below (mQ G (.returned (some (.int z.1))) z.2) args s 0 0 (mF G) := ⟨_, rfl⟩
  rw [← hQ]
  have hU6 : ∀ w ∈ wsX60, w.before args s = true := fun w h => hts w (List.mem_cons_of_mem _ (List.mem_append_right _ h))
  have w1 := (hts (.fieldLink RX6 43 "HandkerchiefsDroppedModel" "sheetSort" "[I") (List.mem_of_getElem? (i := 1) rfl))
  have w2 := (hts (.fieldLink RX6 46 "HandkerchiefsDroppedModel" "sheetSize" "[I") (List.mem_of_getElem? (i := 2) rfl))
  have w3 := (hts (.fieldLink RX6 49 "HandkerchiefsDroppedModel" "cells" "[I") (List.mem_of_getElem? (i := 3) rfl))
  have hN70 : ∀ (n : Nat) (h0 : Nat) (x1 : Int32) (x4 : Int32) (σ : mS), f_X6_sheet_70 n h0 x1 x4 σ = some z → ∀ (H : Heap) (locs : List Loc) (ls : Array Slot), mP G σ H → mL G locs → lv_has ls 5 [(0, .ref h0), (1, .int x1), (4, .int x4)] → W p l e rm_X6_sheet s m args below meth c H locs 0 0 Q (F0 m 70 ls []) := by
    intro n
    induction n with
    | zero =>
      intro h0 x1 x4 σ h
      exact nomatch (show (none : Option (Int32 × mS)) = some z from h)
    | succ n ih =>
      intro h0 x1 x4 σ h H locs ls hM hL hl
      rw [f_X6_sheet_70.eq_2] at h
      refine lv_iload hx hb dX6_sheet_70 (lv_at hl 2 rfl) ?_
      refine lv_bipush hx hb dX6_sheet_72 kB_40 ?_
      refine lv_icmp_ge (tgt := 96) hx hb dX6_sheet_74 (by decide) (fun c17 => ?_) (fun c17 => ?_)
      · have h := (if_pos c17).symm.trans h
        refine lv_iconst hx hb dX6_sheet_96 kI_1 ?_
        subst hQ
        have h := Option.some.inj h
        subst h
        exact m_iret hx hb hr hM hL dX6_sheet_97 hlocks
      · have h := (if_neg c17).symm.trans h
        refine lv_aload_n hx hb dX6_sheet_77 rfl (lv_at hl 0 rfl) ?_
        refine m_getR (ci := 5) hx hb hU6 hown hK hM rfl 20 (by decide) w3 h dX6_sheet_78 (fun r18 gr18 h => ?_)
        refine lv_bipush hx hb dX6_sheet_81 kB_40 ?_
        refine lv_iload_n hx hb dX6_sheet_83 rfl (lv_at hl 1 rfl) ?_
        refine lv_imul hx hb dX6_sheet_84 ?_
        refine lv_iload hx hb dX6_sheet_85 (lv_at hl 2 rfl) ?_
        refine lv_iadd hx hb dX6_sheet_87 ?_
        refine lv_iconst hx hb dX6_sheet_88 kI_0 ?_
        refine m_iast hx hb hK hM hL h dX6_sheet_89 (fun t19 H locs h hM hL => ?_)
        obtain ⟨v20, ev20⟩ : ∃ y : Int32, y = x4 + (1 : Int32) := ⟨_, rfl⟩
        have h := vl_at ev20 h
        refine lv_iinc (v := v20) (lv' := [(4, .int v20), (0, .ref h0), (1, .int x1)]) hx hb dX6_sheet_90 hl (k := 2) rfl (by rw [ev20, kI_1]) (by decide) rfl (fun ls hl => ?_)
        refine lv_goto (tgt := 70) hx hb dX6_sheet_93 (by decide) ?_
        exact ih _ _ _ _ h _ _ _ hM hL (lv_sub hl [1, 2, 0] rfl)
  have hN44 : ∀ (h0 : Nat) (x1 : Int32) (x2 : Int32) (x3 : Int32) (σ : mS), f_X6_sheet_44 h0 x1 x2 x3 σ = some z → ∀ (H : Heap) (locs : List Loc) (ls : Array Slot), mP G σ H → mL G locs → lv_has ls 5 [(0, .ref h0), (1, .int x1), (2, .int x2), (3, .int x3)] → W p l e rm_X6_sheet s m args below meth c H locs 0 0 Q (F0 m 44 ls []) := by
    intro h0 x1 x2 x3 σ h H locs ls hM hL hl
    rw [f_X6_sheet_44.eq_1] at h
    refine lv_aload_n hx hb dX6_sheet_44 rfl (lv_at hl 0 rfl) ?_
    refine m_getR (ci := 5) hx hb hU6 hown hK hM rfl 18 (by decide) w1 h dX6_sheet_45 (fun r21 gr21 h => ?_)
    refine lv_iload_n hx hb dX6_sheet_48 rfl (lv_at hl 1 rfl) ?_
    refine lv_iload_n hx hb dX6_sheet_49 rfl (lv_at hl 2 rfl) ?_
    refine m_iast hx hb hK hM hL h dX6_sheet_50 (fun t22 H locs h hM hL => ?_)
    refine lv_aload_n hx hb dX6_sheet_51 rfl (lv_at hl 0 rfl) ?_
    refine m_getR (ci := 5) hx hb hU6 hown hK hM rfl 19 (by decide) w2 h dX6_sheet_52 (fun r23 gr23 h => ?_)
    refine lv_iload_n hx hb dX6_sheet_55 rfl (lv_at hl 1 rfl) ?_
    refine lv_iload_n hx hb dX6_sheet_56 rfl (lv_at hl 2 rfl) ?_
    refine lv_iconst hx hb dX6_sheet_57 kI_m1 ?_
    suffices hJ : ∀ (v25 : Int32) (ls : Array Slot), v25 = (if x2 = (-1 : Int32) then (0 : Int32) else x3) → lv_has ls 5 [(0, .ref h0), (1, .int x1)] → W p l e rm_X6_sheet s m args below meth c H locs 0 0 Q (F0 m 66 ls [.int v25, .int x1, .ref r23]) by
      refine lv_icmp_ne (tgt := 65) hx hb dX6_sheet_58 (by decide) (fun c24 => ?_) (fun c24 => ?_)
      · refine lv_iload_n hx hb dX6_sheet_65 rfl (lv_at hl 3 rfl) ?_
        exact hJ _ _ (((if_neg c24).trans rfl).symm) (lv_sub hl [0, 1] rfl)
      · refine lv_iconst hx hb dX6_sheet_61 kI_0 ?_
        refine lv_goto (tgt := 66) hx hb dX6_sheet_62 (by decide) ?_
        exact hJ _ _ (((if_pos c24).trans rfl).symm) (lv_sub hl [0, 1] rfl)
    intro v25 ls ev25 hl
    have h := vl_at ev25 h
    refine m_iast hx hb hK hM hL h dX6_sheet_66 (fun t26 H locs h hM hL => ?_)
    refine lv_iconst hx hb dX6_sheet_67 kI_0 ?_
    refine lv_istore (lv' := [(4, .int (0 : Int32)), (0, .ref h0), (1, .int x1)]) hx hb dX6_sheet_68 hl (by decide) rfl (fun ls hl => ?_)
    refine hN70 _ _ _ _ _ h _ _ _ hM hL (lv_sub hl [1, 2, 0] rfl)
  have hN32 : ∀ (h0 : Nat) (x1 : Int32) (x2 : Int32) (x3 : Int32) (σ : mS), f_X6_sheet_32 h0 x1 x2 x3 σ = some z → ∀ (H : Heap) (locs : List Loc) (ls : Array Slot), mP G σ H → mL G locs → lv_has ls 5 [(0, .ref h0), (1, .int x1), (2, .int x2), (3, .int x3)] → W p l e rm_X6_sheet s m args below meth c H locs 0 0 Q (F0 m 32 ls []) := by
    intro h0 x1 x2 x3 σ h H locs ls hM hL hl
    rw [f_X6_sheet_32.eq_1] at h
    refine lv_iload_n hx hb dX6_sheet_32 rfl (lv_at hl 2 rfl) ?_
    refine lv_iconst hx hb dX6_sheet_33 kI_m1 ?_
    refine lv_icmp_eq (tgt := 44) hx hb dX6_sheet_34 (by decide) (fun c27 => ?_) (fun c27 => ?_)
    · have h := (if_pos c27).symm.trans h
      refine hN44 _ _ _ _ _ h _ _ _ hM hL (lv_sub hl [0, 1, 2, 3] rfl)
    · have h := (if_neg c27).symm.trans h
      refine lv_iload_n hx hb dX6_sheet_37 rfl (lv_at hl 3 rfl) ?_
      refine lv_if_ge (tgt := 44) hx hb dX6_sheet_38 (by decide) (fun c28 => ?_) (fun c28 => ?_)
      · have h := (if_pos c28).symm.trans h
        refine hN44 _ _ _ _ _ h _ _ _ hM hL (lv_sub hl [0, 1, 2, 3] rfl)
      · have h := (if_neg c28).symm.trans h
        refine lv_bipush hx hb dX6_sheet_41 kB_m14 ?_
        subst hQ
        have h := Option.some.inj h
        subst h
        exact m_iret hx hb hr hM hL dX6_sheet_43 hlocks
  rw [f_X6_sheet.eq_1] at h
  refine lv_iload_n hx hb dX6_sheet_0 rfl (lv_at hl 1 rfl) ?_
  refine lv_iconst hx hb dX6_sheet_1 kI_0 ?_
  refine lv_iconst hx hb dX6_sheet_2 kI_3 ?_
  refine m_calli (va_runS (As := [.int x1, .int (0 : Int32), .int (3 : Int32)]) (rest := []) ⟨hx, hb, hml, hown, hts⟩ (c_X6_in l G x1 (0 : Int32) (3 : Int32)) (va_cwS 3 hts gX6_sheet_X6_in rfl rfl rfl hd_X6_in ⟨Nat.le_of_ble_eq_true rfl, Nat.le_of_ble_eq_true rfl⟩) (m_preS hK hM) rfl rfl hl.1 rfl (lv_room (Nat.le_of_ble_eq_true rfl)) dX6_sheet_3 ⟨Nat.le_of_ble_eq_true rfl, Nat.le_of_ble_eq_true rfl⟩) hL (fun H locs hM hL => ?_)
  refine lv_if_eq (tgt := 29) hx hb dX6_sheet_6 (by decide) (fun c29 => ?_) (fun c29 => ?_)
  · have h := (if_pos c29).symm.trans h
    refine lv_bipush hx hb dX6_sheet_29 kB_m2 ?_
    subst hQ
    have h := Option.some.inj h
    subst h
    exact m_iret hx hb hr hM hL dX6_sheet_31 hlocks
  · have h := (if_neg c29).symm.trans h
    refine lv_iload_n hx hb dX6_sheet_9 rfl (lv_at hl 2 rfl) ?_
    refine lv_iconst hx hb dX6_sheet_10 kI_m1 ?_
    refine lv_iconst hx hb dX6_sheet_11 kI_2 ?_
    refine m_calli (va_runS (As := [.int x2, .int (-1 : Int32), .int (2 : Int32)]) (rest := []) ⟨hx, hb, hml, hown, hts⟩ (c_X6_in l G x2 (-1 : Int32) (2 : Int32)) (va_cwS 3 hts gX6_sheet_X6_in rfl rfl rfl hd_X6_in ⟨Nat.le_of_ble_eq_true rfl, Nat.le_of_ble_eq_true rfl⟩) (m_preS hK hM) rfl rfl hl.1 rfl (lv_room (Nat.le_of_ble_eq_true rfl)) dX6_sheet_12 ⟨Nat.le_of_ble_eq_true rfl, Nat.le_of_ble_eq_true rfl⟩) hL (fun H locs hM hL => ?_)
    refine lv_if_eq (tgt := 29) hx hb dX6_sheet_15 (by decide) (fun c30 => ?_) (fun c30 => ?_)
    · have h := (if_pos c30).symm.trans h
      refine lv_bipush hx hb dX6_sheet_29 kB_m2 ?_
      subst hQ
      have h := Option.some.inj h
      subst h
      exact m_iret hx hb hr hM hL dX6_sheet_31 hlocks
    · have h := (if_neg c30).symm.trans h
      refine lv_iload_n hx hb dX6_sheet_18 rfl (lv_at hl 2 rfl) ?_
      refine lv_iconst hx hb dX6_sheet_19 kI_m1 ?_
      refine lv_icmp_eq (tgt := 32) hx hb dX6_sheet_20 (by decide) (fun c31 => ?_) (fun c31 => ?_)
      · have h := (if_pos c31).symm.trans h
        refine hN32 _ _ _ _ _ h _ _ _ hM hL (lv_sub hl [0, 1, 2, 3] rfl)
      · have h := (if_neg c31).symm.trans h
        refine lv_iload_n hx hb dX6_sheet_23 rfl (lv_at hl 3 rfl) ?_
        refine lv_bipush hx hb dX6_sheet_24 kB_40 ?_
        refine lv_icmp_le (tgt := 32) hx hb dX6_sheet_26 (by decide) (fun c32 => ?_) (fun c32 => ?_)
        · have h := (if_pos c32).symm.trans h
          refine hN32 _ _ _ _ _ h _ _ _ hM hL (lv_sub hl [0, 1, 2, 3] rfl)
        · have h := (if_neg c32).symm.trans h
          refine lv_bipush hx hb dX6_sheet_29 kB_m2 ?_
          subst hQ
          have h := Option.some.inj h
          subst h
          exact m_iret hx hb hr hM hL dX6_sheet_31 hlocks
abbrev rm_X6_cell : Room := { frames := 1, cells := 0, slots := 0, locals := 22 }
set_option maxHeartbeats 4000000 in
set_option maxRecDepth 100000 in
theorem c_X6_cell (l : Launch) (G : mG) {h0 : Nat} {x1 : Int32} {x2 : Int32} {x3 : Int32} {σ : mS} {z : Int32 × mS} (h : f_X6_cell h0 x1 x2 x3 σ = some z) : Met l yX6_cell wsX6_cell rm_X6_cell (va_Pc [.ref h0, .int x1, .int x2, .int x3] (mB G σ)) (mQ G (.returned (some (.int z.1))) z.2) 0 0 (mF G) := by
  refine m_start (cc := cX6_cell) (maxL := 4) (ret := (some .int)) (by decide) rfl [.ref h0, .int x1, .int x2, .int x3] (Nat.le_of_ble_eq_true rfl) ?_
  intro p e s m args below meth c ls hx hb hr hml hown hts hlocks hnm hK hM hl
  have hown : s.vm.findClass RX6 = some m.cls := hown
  have hnm : meth.name = "cell" := hnm
  obtain ⟨locs, hlocs⟩ : ∃ l : List Loc, l = [] := ⟨_, rfl⟩
  have hL : mL G locs := by rw [hlocs]; exact mL_nil G
  rw [← hlocs]
  generalize s.heap = H at hM ⊢
  have hl : lv_has ls 4 [(0, .ref h0), (1, .int x1), (2, .int x2), (3, .int x3)] := hl
  obtain ⟨Q, hQ⟩ : ∃ Q, Q = MQ below (mQ G (.returned (some (.int z.1))) z.2) args s 0 0 (mF G) := ⟨_, rfl⟩
  rw [← hQ]
  have hU6 : ∀ w ∈ wsX60, w.before args s = true := fun w h => hts w (List.mem_cons_of_mem _ (List.mem_append_right _ h))
  have w1 := (hts (.fieldLink RX6 43 "HandkerchiefsDroppedModel" "sheetSort" "[I") (List.mem_of_getElem? (i := 1) rfl))
  have w2 := (hts (.fieldLink RX6 46 "HandkerchiefsDroppedModel" "sheetSize" "[I") (List.mem_of_getElem? (i := 2) rfl))
  have w3 := (hts (.fieldLink RX6 49 "HandkerchiefsDroppedModel" "cells" "[I") (List.mem_of_getElem? (i := 3) rfl))
  have hN84 : ∀ (s0 : Nat) (s1 : Int32) (s2 : Int32) (σ : mS), f_X6_cell_84 s0 s1 s2 σ = some z → ∀ (H : Heap) (locs : List Loc) (ls : Array Slot), mP G σ H → mL G locs → lv_has ls 4 [] → W p l e rm_X6_cell s m args below meth c H locs 0 0 Q (F0 m 84 ls [.int s2, .int s1, .ref s0]) := by
    intro s0 s1 s2 σ h H locs ls hM hL hl
    rw [f_X6_cell_84.eq_1] at h
    refine m_iast hx hb hK hM hL h dX6_cell_84 (fun t17 H locs h hM hL => ?_)
    refine lv_iconst hx hb dX6_cell_85 kI_1 ?_
    subst hQ
    have h := Option.some.inj h
    subst h
    exact m_iret hx hb hr hM hL dX6_cell_86 hlocks
  rw [f_X6_cell.eq_1] at h
  refine lv_iload_n hx hb dX6_cell_0 rfl (lv_at hl 1 rfl) ?_
  refine lv_iconst hx hb dX6_cell_1 kI_0 ?_
  refine lv_iconst hx hb dX6_cell_2 kI_3 ?_
  refine m_calli (va_runS (As := [.int x1, .int (0 : Int32), .int (3 : Int32)]) (rest := []) ⟨hx, hb, hml, hown, hts⟩ (c_X6_in l G x1 (0 : Int32) (3 : Int32)) (va_cwS 3 hts gX6_cell_X6_in rfl rfl rfl hd_X6_in ⟨Nat.le_of_ble_eq_true rfl, Nat.le_of_ble_eq_true rfl⟩) (m_preS hK hM) rfl rfl hl.1 rfl (lv_room (Nat.le_of_ble_eq_true rfl)) dX6_cell_3 ⟨Nat.le_of_ble_eq_true rfl, Nat.le_of_ble_eq_true rfl⟩) hL (fun H locs hM hL => ?_)
  refine lv_if_ne (tgt := 12) hx hb dX6_cell_6 (by decide) (fun c18 => ?_) (fun c18 => ?_)
  · have h := (if_neg c18).symm.trans h
    refine lv_aload_n hx hb dX6_cell_12 rfl (lv_at hl 0 rfl) ?_
    refine m_getR (ci := 5) hx hb hU6 hown hK hM rfl 18 (by decide) w1 h dX6_cell_13 (fun r19 gr19 h => ?_)
    refine lv_iload_n hx hb dX6_cell_16 rfl (lv_at hl 1 rfl) ?_
    refine m_iald hx hb hK hM h dX6_cell_17 (fun v20 gv20 h => ?_)
    refine lv_iconst hx hb dX6_cell_18 kI_m1 ?_
    refine lv_icmp_ne (tgt := 25) hx hb dX6_cell_19 (by decide) (fun c21 => ?_) (fun c21 => ?_)
    · have h := (if_neg c21).symm.trans h
      refine lv_iload_n hx hb dX6_cell_25 rfl (lv_at hl 2 rfl) ?_
      refine lv_iconst hx hb dX6_cell_26 kI_0 ?_
      refine lv_aload_n hx hb dX6_cell_27 rfl (lv_at hl 0 rfl) ?_
      refine m_getR (ci := 5) hx hb hU6 hown hK hM rfl 19 (by decide) w2 h dX6_cell_28 (fun r22 gr22 h => ?_)
      refine lv_iload_n hx hb dX6_cell_31 rfl (lv_at hl 1 rfl) ?_
      refine m_iald hx hb hK hM h dX6_cell_32 (fun v23 gv23 h => ?_)
      refine lv_iconst hx hb dX6_cell_33 kI_1 ?_
      refine lv_isub hx hb dX6_cell_34 ?_
      refine m_calli (va_runS (As := [.int x2, .int (0 : Int32), .int (v23 - (1 : Int32))]) (rest := []) ⟨hx, hb, hml, hown, hts⟩ (c_X6_in l G x2 (0 : Int32) (v23 - (1 : Int32))) (va_cwS 3 hts gX6_cell_X6_in rfl rfl rfl hd_X6_in ⟨Nat.le_of_ble_eq_true rfl, Nat.le_of_ble_eq_true rfl⟩) (m_preS hK hM) rfl rfl hl.1 rfl (lv_room (Nat.le_of_ble_eq_true rfl)) dX6_cell_35 ⟨Nat.le_of_ble_eq_true rfl, Nat.le_of_ble_eq_true rfl⟩) hL (fun H locs hM hL => ?_)
      refine lv_if_ne (tgt := 44) hx hb dX6_cell_38 (by decide) (fun c24 => ?_) (fun c24 => ?_)
      · have h := (if_neg c24).symm.trans h
        refine lv_aload_n hx hb dX6_cell_44 rfl (lv_at hl 0 rfl) ?_
        refine m_getR (ci := 5) hx hb hU6 hown hK hM rfl 20 (by decide) w3 h dX6_cell_45 (fun r25 gr25 h => ?_)
        refine lv_bipush hx hb dX6_cell_48 kB_40 ?_
        refine lv_iload_n hx hb dX6_cell_50 rfl (lv_at hl 1 rfl) ?_
        refine lv_imul hx hb dX6_cell_51 ?_
        refine lv_iload_n hx hb dX6_cell_52 rfl (lv_at hl 2 rfl) ?_
        refine lv_iadd hx hb dX6_cell_53 ?_
        refine lv_aload_n hx hb dX6_cell_54 rfl (lv_at hl 0 rfl) ?_
        refine m_getR (ci := 5) hx hb hU6 hown hK hM rfl 18 (by decide) w1 h dX6_cell_55 (fun r26 gr26 h => ?_)
        refine lv_iload_n hx hb dX6_cell_58 rfl (lv_at hl 1 rfl) ?_
        refine m_iald hx hb hK hM h dX6_cell_59 (fun v27 gv27 h => ?_)
        refine lv_if_ne (tgt := 68) hx hb dX6_cell_60 (by decide) (fun c28 => ?_) (fun c28 => ?_)
        · have h := (if_neg c28).symm.trans h
          refine lv_aload_n hx hb dX6_cell_68 rfl (lv_at hl 0 rfl) ?_
          refine m_getR (ci := 5) hx hb hU6 hown hK hM rfl 18 (by decide) w1 h dX6_cell_69 (fun r29 gr29 h => ?_)
          refine lv_iload_n hx hb dX6_cell_72 rfl (lv_at hl 1 rfl) ?_
          refine m_iald hx hb hK hM h dX6_cell_73 (fun v30 gv30 h => ?_)
          refine lv_iconst hx hb dX6_cell_74 kI_1 ?_
          suffices hJ : ∀ (v32 : Int32) (ls : Array Slot), v32 = (if v30 = (1 : Int32) then x3.toInt16.toInt32 else x3) → lv_has ls 4 [] → W p l e rm_X6_cell s m args below meth c H locs 0 0 Q (F0 m 84 ls [.int v32, .int (((40 : Int32) * x1) + x2), .ref r25]) by
            refine lv_icmp_ne (tgt := 83) hx hb dX6_cell_75 (by decide) (fun c31 => ?_) (fun c31 => ?_)
            · refine lv_iload_n hx hb dX6_cell_83 rfl (lv_at hl 3 rfl) ?_
              exact hJ _ _ (((if_neg c31).trans rfl).symm) (lv_sub hl [] rfl)
            · refine lv_iload_n hx hb dX6_cell_78 rfl (lv_at hl 3 rfl) ?_
              refine lv_i2s hx hb dX6_cell_79 rfl ?_
              refine lv_goto (tgt := 84) hx hb dX6_cell_80 (by decide) ?_
              exact hJ _ _ (((if_pos c31).trans rfl).symm) (lv_sub hl [] rfl)
          intro v32 ls ev32 hl
          have h := vl_at ev32 h
          refine hN84 _ _ _ _ h _ _ _ hM hL (lv_sub hl [] rfl)
        · have h := (if_pos c28).symm.trans h
          refine lv_iload_n hx hb dX6_cell_63 rfl (lv_at hl 3 rfl) ?_
          refine lv_i2b hx hb dX6_cell_64 rfl ?_
          refine lv_goto (tgt := 84) hx hb dX6_cell_65 (by decide) ?_
          refine hN84 _ _ _ _ h _ _ _ hM hL (lv_sub hl [] rfl)
      · have h := (if_pos c24).symm.trans h
        refine lv_bipush hx hb dX6_cell_41 kB_m12 ?_
        subst hQ
        have h := Option.some.inj h
        subst h
        exact m_iret hx hb hr hM hL dX6_cell_43 hlocks
    · have h := (if_pos c21).symm.trans h
      refine lv_bipush hx hb dX6_cell_22 kB_m11 ?_
      subst hQ
      have h := Option.some.inj h
      subst h
      exact m_iret hx hb hr hM hL dX6_cell_24 hlocks
  · have h := (if_pos c18).symm.trans h
    refine lv_bipush hx hb dX6_cell_9 kB_m2 ?_
    subst hQ
    have h := Option.some.inj h
    subst h
    exact m_iret hx hb hr hM hL dX6_cell_11 hlocks
abbrev rm_X6_copy : Room := { frames := 1, cells := 0, slots := 0, locals := 22 }
set_option maxHeartbeats 4000000 in
set_option maxRecDepth 100000 in
theorem c_X6_copy (l : Launch) (G : mG) {h0 : Nat} {x1 : Int32} {x2 : Int32} {x3 : Int32} {x4 : Int32} {x5 : Int32} {σ : mS} {z : Int32 × mS} (h : f_X6_copy h0 x1 x2 x3 x4 x5 σ = some z) : Met l yX6_copy wsX6_copy rm_X6_copy (va_Pc [.ref h0, .int x1, .int x2, .int x3, .int x4, .int x5] (mB G σ)) (mQ G (.returned (some (.int z.1))) z.2) 0 0 (mF G) := by
  refine m_start (cc := cX6_copy) (maxL := 10) (ret := (some .int)) (by decide) rfl [.ref h0, .int x1, .int x2, .int x3, .int x4, .int x5] (Nat.le_of_ble_eq_true rfl) ?_
  intro p e s m args below meth c ls hx hb hr hml hown hts hlocks hnm hK hM hl
  have hown : s.vm.findClass RX6 = some m.cls := hown
  have hnm : meth.name = "copy" := hnm
  obtain ⟨locs, hlocs⟩ : ∃ l : List Loc, l = [] := ⟨_, rfl⟩
  have hL : mL G locs := by rw [hlocs]; exact mL_nil G
  rw [← hlocs]
  generalize s.heap = H at hM ⊢
  have hl : lv_has ls 10 [(0, .ref h0), (1, .int x1), (2, .int x2), (3, .int x3), (4, .int x4), (5, .int x5)] := hl
  obtain ⟨Q, hQ⟩ : ∃ Q, Q = MQ below (mQ G (.returned (some (.int z.1))) z.2) args s 0 0 (mF G) := ⟨_, rfl⟩
  rw [← hQ]
  have hU6 : ∀ w ∈ wsX60, w.before args s = true := fun w h => hts w (List.mem_cons_of_mem _ (List.mem_append_right _ h))
  have w1 := (hts (.fieldLink RX6 43 "HandkerchiefsDroppedModel" "sheetSort" "[I") (List.mem_of_getElem? (i := 1) rfl))
  have w2 := (hts (.fieldLink RX6 46 "HandkerchiefsDroppedModel" "sheetSize" "[I") (List.mem_of_getElem? (i := 2) rfl))
  have w3 := (hts (.fieldLink RX6 49 "HandkerchiefsDroppedModel" "cells" "[I") (List.mem_of_getElem? (i := 3) rfl))
  have hN147 : ∀ (n : Nat) (h0 : Nat) (x5 : Int32) (x6 : Int32) (x7 : Int32) (x8 : Int32) (σ : mS), f_X6_copy_147 n h0 x5 x6 x7 x8 σ = some z → ∀ (H : Heap) (locs : List Loc) (ls : Array Slot), mP G σ H → mL G locs → lv_has ls 10 [(0, .ref h0), (5, .int x5), (6, .int x6), (7, .int x7), (8, .int x8)] → W p l e rm_X6_copy s m args below meth c H locs 0 0 Q (F0 m 147 ls []) := by
    intro n
    induction n with
    | zero =>
      intro h0 x5 x6 x7 x8 σ h
      exact nomatch (show (none : Option (Int32 × mS)) = some z from h)
    | succ n ih =>
      intro h0 x5 x6 x7 x8 σ h H locs ls hM hL hl
      rw [f_X6_copy_147.eq_2] at h
      refine lv_iload hx hb dX6_copy_147 (lv_at hl 4 rfl) ?_
      refine lv_iload hx hb dX6_copy_149 (lv_at hl 1 rfl) ?_
      refine lv_icmp_ge (tgt := 201) hx hb dX6_copy_151 (by decide) (fun c39 => ?_) (fun c39 => ?_)
      · have h := (if_pos c39).symm.trans h
        refine lv_iload hx hb dX6_copy_201 (lv_at hl 1 rfl) ?_
        subst hQ
        have h := Option.some.inj h
        subst h
        exact m_iret hx hb hr hM hL dX6_copy_203 hlocks
      · have h := (if_neg c39).symm.trans h
        refine lv_iload hx hb dX6_copy_154 (lv_at hl 2 rfl) ?_
        refine lv_iload hx hb dX6_copy_156 (lv_at hl 3 rfl) ?_
        suffices hJ : ∀ (v41 : Int32) (ls : Array Slot), v41 = (if x7 ≤ x6 then x8 else ((x5 - (1 : Int32)) - x8)) → lv_has ls 10 [(0, .ref h0), (5, .int x5), (6, .int x6), (7, .int x7), (8, .int x8)] → W p l e rm_X6_copy s m args below meth c H locs 0 0 Q (F0 m 173 ls [.int v41]) by
          refine lv_icmp_ge (tgt := 171) hx hb dX6_copy_158 (by decide) (fun c40 => ?_) (fun c40 => ?_)
          · refine lv_iload hx hb dX6_copy_171 (lv_at hl 4 rfl) ?_
            exact hJ _ _ (((if_pos c40).trans rfl).symm) (lv_sub hl [0, 1, 2, 3, 4] rfl)
          · refine lv_iload hx hb dX6_copy_161 (lv_at hl 1 rfl) ?_
            refine lv_iconst hx hb dX6_copy_163 kI_1 ?_
            refine lv_isub hx hb dX6_copy_164 ?_
            refine lv_iload hx hb dX6_copy_165 (lv_at hl 4 rfl) ?_
            refine lv_isub hx hb dX6_copy_167 ?_
            refine lv_goto (tgt := 173) hx hb dX6_copy_168 (by decide) ?_
            exact hJ _ _ (((if_neg c40).trans rfl).symm) (lv_sub hl [0, 1, 2, 3, 4] rfl)
        intro v41 ls ev41 hl
        have h := vl_at ev41 h
        refine lv_istore (lv' := [(9, .int v41), (0, .ref h0), (5, .int x5), (6, .int x6), (7, .int x7), (8, .int x8)]) hx hb dX6_copy_173 hl (by decide) rfl (fun ls hl => ?_)
        refine lv_aload_n hx hb dX6_copy_175 rfl (lv_at hl 1 rfl) ?_
        refine m_getR (ci := 5) hx hb hU6 hown hK hM rfl 20 (by decide) w3 h dX6_copy_176 (fun r42 gr42 h => ?_)
        refine lv_iload hx hb dX6_copy_179 (lv_at hl 4 rfl) ?_
        refine lv_iload hx hb dX6_copy_181 (lv_at hl 0 rfl) ?_
        refine lv_iadd hx hb dX6_copy_183 ?_
        refine lv_aload_n hx hb dX6_copy_184 rfl (lv_at hl 1 rfl) ?_
        refine m_getR (ci := 5) hx hb hU6 hown hK hM rfl 20 (by decide) w3 h dX6_copy_185 (fun r43 gr43 h => ?_)
        refine lv_iload hx hb dX6_copy_188 (lv_at hl 3 rfl) ?_
        refine lv_iload hx hb dX6_copy_190 (lv_at hl 0 rfl) ?_
        refine lv_iadd hx hb dX6_copy_192 ?_
        refine m_iald hx hb hK hM h dX6_copy_193 (fun v44 gv44 h => ?_)
        refine m_iast hx hb hK hM hL h dX6_copy_194 (fun t45 H locs h hM hL => ?_)
        obtain ⟨v46, ev46⟩ : ∃ y : Int32, y = x8 + (1 : Int32) := ⟨_, rfl⟩
        have h := vl_at ev46 h
        refine lv_iinc (v := v46) (lv' := [(8, .int v46), (9, .int v41), (0, .ref h0), (5, .int x5), (6, .int x6), (7, .int x7)]) hx hb dX6_copy_195 hl (k := 5) rfl (by rw [ev46, kI_1]) (by decide) rfl (fun ls hl => ?_)
        refine lv_goto (tgt := 147) hx hb dX6_copy_198 (by decide) ?_
        exact ih _ _ _ _ _ _ h _ _ _ hM hL (lv_sub hl [2, 3, 4, 5, 0] rfl)
  rw [f_X6_copy.eq_1] at h
  refine lv_iload_n hx hb dX6_copy_0 rfl (lv_at hl 1 rfl) ?_
  refine lv_iconst hx hb dX6_copy_1 kI_0 ?_
  refine lv_iconst hx hb dX6_copy_2 kI_3 ?_
  refine m_calli (va_runS (As := [.int x1, .int (0 : Int32), .int (3 : Int32)]) (rest := []) ⟨hx, hb, hml, hown, hts⟩ (c_X6_in l G x1 (0 : Int32) (3 : Int32)) (va_cwS 3 hts gX6_copy_X6_in rfl rfl rfl hd_X6_in ⟨Nat.le_of_ble_eq_true rfl, Nat.le_of_ble_eq_true rfl⟩) (m_preS hK hM) rfl rfl hl.1 rfl (lv_room (Nat.le_of_ble_eq_true rfl)) dX6_copy_3 ⟨Nat.le_of_ble_eq_true rfl, Nat.le_of_ble_eq_true rfl⟩) hL (fun H locs hM hL => ?_)
  refine lv_if_eq (tgt := 18) hx hb dX6_copy_6 (by decide) (fun c47 => ?_) (fun c47 => ?_)
  · have h := (if_pos c47).symm.trans h
    refine lv_bipush hx hb dX6_copy_18 kB_m2 ?_
    subst hQ
    have h := Option.some.inj h
    subst h
    exact m_iret hx hb hr hM hL dX6_copy_20 hlocks
  · have h := (if_neg c47).symm.trans h
    refine lv_iload_n hx hb dX6_copy_9 rfl (lv_at hl 3 rfl) ?_
    refine lv_iconst hx hb dX6_copy_10 kI_0 ?_
    refine lv_iconst hx hb dX6_copy_11 kI_3 ?_
    refine m_calli (va_runS (As := [.int x3, .int (0 : Int32), .int (3 : Int32)]) (rest := []) ⟨hx, hb, hml, hown, hts⟩ (c_X6_in l G x3 (0 : Int32) (3 : Int32)) (va_cwS 3 hts gX6_copy_X6_in rfl rfl rfl hd_X6_in ⟨Nat.le_of_ble_eq_true rfl, Nat.le_of_ble_eq_true rfl⟩) (m_preS hK hM) rfl rfl hl.1 rfl (lv_room (Nat.le_of_ble_eq_true rfl)) dX6_copy_12 ⟨Nat.le_of_ble_eq_true rfl, Nat.le_of_ble_eq_true rfl⟩) hL (fun H locs hM hL => ?_)
    refine lv_if_ne (tgt := 21) hx hb dX6_copy_15 (by decide) (fun c48 => ?_) (fun c48 => ?_)
    · have h := (if_neg c48).symm.trans h
      refine lv_aload_n hx hb dX6_copy_21 rfl (lv_at hl 0 rfl) ?_
      refine m_getR (ci := 5) hx hb hU6 hown hK hM rfl 18 (by decide) w1 h dX6_copy_22 (fun r49 gr49 h => ?_)
      refine lv_iload_n hx hb dX6_copy_25 rfl (lv_at hl 1 rfl) ?_
      refine m_iald hx hb hK hM h dX6_copy_26 (fun v50 gv50 h => ?_)
      refine lv_iconst hx hb dX6_copy_27 kI_m1 ?_
      refine lv_icmp_eq (tgt := 41) hx hb dX6_copy_28 (by decide) (fun c51 => ?_) (fun c51 => ?_)
      · have h := (if_pos c51).symm.trans h
        refine lv_bipush hx hb dX6_copy_41 kB_m11 ?_
        subst hQ
        have h := Option.some.inj h
        subst h
        exact m_iret hx hb hr hM hL dX6_copy_43 hlocks
      · have h := (if_neg c51).symm.trans h
        refine lv_aload_n hx hb dX6_copy_31 rfl (lv_at hl 0 rfl) ?_
        refine m_getR (ci := 5) hx hb hU6 hown hK hM rfl 18 (by decide) w1 h dX6_copy_32 (fun r52 gr52 h => ?_)
        refine lv_iload_n hx hb dX6_copy_35 rfl (lv_at hl 3 rfl) ?_
        refine m_iald hx hb hK hM h dX6_copy_36 (fun v53 gv53 h => ?_)
        refine lv_iconst hx hb dX6_copy_37 kI_m1 ?_
        refine lv_icmp_ne (tgt := 44) hx hb dX6_copy_38 (by decide) (fun c54 => ?_) (fun c54 => ?_)
        · have h := (if_neg c54).symm.trans h
          refine lv_aload_n hx hb dX6_copy_44 rfl (lv_at hl 0 rfl) ?_
          refine m_getR (ci := 5) hx hb hU6 hown hK hM rfl 18 (by decide) w1 h dX6_copy_45 (fun r55 gr55 h => ?_)
          refine lv_iload_n hx hb dX6_copy_48 rfl (lv_at hl 1 rfl) ?_
          refine m_iald hx hb hK hM h dX6_copy_49 (fun v56 gv56 h => ?_)
          refine lv_aload_n hx hb dX6_copy_50 rfl (lv_at hl 0 rfl) ?_
          refine m_getR (ci := 5) hx hb hU6 hown hK hM rfl 18 (by decide) w1 h dX6_copy_51 (fun r57 gr57 h => ?_)
          refine lv_iload_n hx hb dX6_copy_54 rfl (lv_at hl 3 rfl) ?_
          refine m_iald hx hb hK hM h dX6_copy_55 (fun v58 gv58 h => ?_)
          refine lv_icmp_eq (tgt := 62) hx hb dX6_copy_56 (by decide) (fun c59 => ?_) (fun c59 => ?_)
          · have h := (if_pos c59).symm.trans h
            refine lv_iload hx hb dX6_copy_62 (lv_at hl 5 rfl) ?_
            refine lv_if_lt (tgt := 124) hx hb dX6_copy_64 (by decide) (fun c60 => ?_) (fun c60 => ?_)
            · have h := (if_pos c60).symm.trans h
              refine lv_bipush hx hb dX6_copy_124 kB_m12 ?_
              subst hQ
              have h := Option.some.inj h
              subst h
              exact m_iret hx hb hr hM hL dX6_copy_126 hlocks
            · have h := (if_neg c60).symm.trans h
              refine lv_iload_n hx hb dX6_copy_67 rfl (lv_at hl 2 rfl) ?_
              refine lv_if_lt (tgt := 124) hx hb dX6_copy_68 (by decide) (fun c61 => ?_) (fun c61 => ?_)
              · have h := (if_pos c61).symm.trans h
                refine lv_bipush hx hb dX6_copy_124 kB_m12 ?_
                subst hQ
                have h := Option.some.inj h
                subst h
                exact m_iret hx hb hr hM hL dX6_copy_126 hlocks
              · have h := (if_neg c61).symm.trans h
                refine lv_iload hx hb dX6_copy_71 (lv_at hl 4 rfl) ?_
                refine lv_if_lt (tgt := 124) hx hb dX6_copy_73 (by decide) (fun c62 => ?_) (fun c62 => ?_)
                · have h := (if_pos c62).symm.trans h
                  refine lv_bipush hx hb dX6_copy_124 kB_m12 ?_
                  subst hQ
                  have h := Option.some.inj h
                  subst h
                  exact m_iret hx hb hr hM hL dX6_copy_126 hlocks
                · have h := (if_neg c62).symm.trans h
                  refine lv_iload_n hx hb dX6_copy_76 rfl (lv_at hl 2 rfl) ?_
                  refine lv_aload_n hx hb dX6_copy_77 rfl (lv_at hl 0 rfl) ?_
                  refine m_getR (ci := 5) hx hb hU6 hown hK hM rfl 19 (by decide) w2 h dX6_copy_78 (fun r63 gr63 h => ?_)
                  refine lv_iload_n hx hb dX6_copy_81 rfl (lv_at hl 1 rfl) ?_
                  refine m_iald hx hb hK hM h dX6_copy_82 (fun v64 gv64 h => ?_)
                  refine lv_icmp_gt (tgt := 124) hx hb dX6_copy_83 (by decide) (fun c65 => ?_) (fun c65 => ?_)
                  · have h := (if_pos c65).symm.trans h
                    refine lv_bipush hx hb dX6_copy_124 kB_m12 ?_
                    subst hQ
                    have h := Option.some.inj h
                    subst h
                    exact m_iret hx hb hr hM hL dX6_copy_126 hlocks
                  · have h := (if_neg c65).symm.trans h
                    refine lv_iload hx hb dX6_copy_86 (lv_at hl 4 rfl) ?_
                    refine lv_aload_n hx hb dX6_copy_88 rfl (lv_at hl 0 rfl) ?_
                    refine m_getR (ci := 5) hx hb hU6 hown hK hM rfl 19 (by decide) w2 h dX6_copy_89 (fun r66 gr66 h => ?_)
                    refine lv_iload_n hx hb dX6_copy_92 rfl (lv_at hl 3 rfl) ?_
                    refine m_iald hx hb hK hM h dX6_copy_93 (fun v67 gv67 h => ?_)
                    refine lv_icmp_gt (tgt := 124) hx hb dX6_copy_94 (by decide) (fun c68 => ?_) (fun c68 => ?_)
                    · have h := (if_pos c68).symm.trans h
                      refine lv_bipush hx hb dX6_copy_124 kB_m12 ?_
                      subst hQ
                      have h := Option.some.inj h
                      subst h
                      exact m_iret hx hb hr hM hL dX6_copy_126 hlocks
                    · have h := (if_neg c68).symm.trans h
                      refine lv_iload hx hb dX6_copy_97 (lv_at hl 5 rfl) ?_
                      refine lv_aload_n hx hb dX6_copy_99 rfl (lv_at hl 0 rfl) ?_
                      refine m_getR (ci := 5) hx hb hU6 hown hK hM rfl 19 (by decide) w2 h dX6_copy_100 (fun r69 gr69 h => ?_)
                      refine lv_iload_n hx hb dX6_copy_103 rfl (lv_at hl 1 rfl) ?_
                      refine m_iald hx hb hK hM h dX6_copy_104 (fun v70 gv70 h => ?_)
                      refine lv_iload_n hx hb dX6_copy_105 rfl (lv_at hl 2 rfl) ?_
                      refine lv_isub hx hb dX6_copy_106 ?_
                      refine lv_icmp_gt (tgt := 124) hx hb dX6_copy_107 (by decide) (fun c71 => ?_) (fun c71 => ?_)
                      · have h := (if_pos c71).symm.trans h
                        refine lv_bipush hx hb dX6_copy_124 kB_m12 ?_
                        subst hQ
                        have h := Option.some.inj h
                        subst h
                        exact m_iret hx hb hr hM hL dX6_copy_126 hlocks
                      · have h := (if_neg c71).symm.trans h
                        refine lv_iload hx hb dX6_copy_110 (lv_at hl 5 rfl) ?_
                        refine lv_aload_n hx hb dX6_copy_112 rfl (lv_at hl 0 rfl) ?_
                        refine m_getR (ci := 5) hx hb hU6 hown hK hM rfl 19 (by decide) w2 h dX6_copy_113 (fun r72 gr72 h => ?_)
                        refine lv_iload_n hx hb dX6_copy_116 rfl (lv_at hl 3 rfl) ?_
                        refine m_iald hx hb hK hM h dX6_copy_117 (fun v73 gv73 h => ?_)
                        refine lv_iload hx hb dX6_copy_118 (lv_at hl 4 rfl) ?_
                        refine lv_isub hx hb dX6_copy_120 ?_
                        refine lv_icmp_le (tgt := 127) hx hb dX6_copy_121 (by decide) (fun c74 => ?_) (fun c74 => ?_)
                        · have h := (if_pos c74).symm.trans h
                          refine lv_bipush hx hb dX6_copy_127 kB_40 ?_
                          refine lv_iload_n hx hb dX6_copy_129 rfl (lv_at hl 1 rfl) ?_
                          refine lv_imul hx hb dX6_copy_130 ?_
                          refine lv_iload_n hx hb dX6_copy_131 rfl (lv_at hl 2 rfl) ?_
                          refine lv_iadd hx hb dX6_copy_132 ?_
                          refine lv_topi (fun v75 ev75 => ?_)
                          have h := vl_at ev75 h
                          refine lv_istore (lv' := [(6, .int v75), (0, .ref h0), (1, .int x1), (2, .int x2), (3, .int x3), (4, .int x4), (5, .int x5)]) hx hb dX6_copy_133 hl (by decide) rfl (fun ls hl => ?_)
                          refine lv_bipush hx hb dX6_copy_135 kB_40 ?_
                          refine lv_iload_n hx hb dX6_copy_137 rfl (lv_at hl 4 rfl) ?_
                          refine lv_imul hx hb dX6_copy_138 ?_
                          refine lv_iload hx hb dX6_copy_139 (lv_at hl 5 rfl) ?_
                          refine lv_iadd hx hb dX6_copy_141 ?_
                          refine lv_topi (fun v76 ev76 => ?_)
                          have h := vl_at ev76 h
                          refine lv_istore (lv' := [(7, .int v76), (6, .int v75), (0, .ref h0), (1, .int x1), (2, .int x2), (3, .int x3), (4, .int x4), (5, .int x5)]) hx hb dX6_copy_142 hl (by decide) rfl (fun ls hl => ?_)
                          refine lv_iconst hx hb dX6_copy_144 kI_0 ?_
                          refine lv_istore (lv' := [(8, .int (0 : Int32)), (7, .int v76), (6, .int v75), (0, .ref h0), (1, .int x1), (2, .int x2), (3, .int x3), (4, .int x4), (5, .int x5)]) hx hb dX6_copy_145 hl (by decide) rfl (fun ls hl => ?_)
                          refine hN147 _ _ _ _ _ _ _ h _ _ _ hM hL (lv_sub hl [3, 8, 2, 1, 0] rfl)
                        · have h := (if_neg c74).symm.trans h
                          refine lv_bipush hx hb dX6_copy_124 kB_m12 ?_
                          subst hQ
                          have h := Option.some.inj h
                          subst h
                          exact m_iret hx hb hr hM hL dX6_copy_126 hlocks
          · have h := (if_neg c59).symm.trans h
            refine lv_bipush hx hb dX6_copy_59 kB_m13 ?_
            subst hQ
            have h := Option.some.inj h
            subst h
            exact m_iret hx hb hr hM hL dX6_copy_61 hlocks
        · have h := (if_pos c54).symm.trans h
          refine lv_bipush hx hb dX6_copy_41 kB_m11 ?_
          subst hQ
          have h := Option.some.inj h
          subst h
          exact m_iret hx hb hr hM hL dX6_copy_43 hlocks
    · have h := (if_pos c48).symm.trans h
      refine lv_bipush hx hb dX6_copy_18 kB_m2 ?_
      subst hQ
      have h := Option.some.inj h
      subst h
      exact m_iret hx hb hr hM hL dX6_copy_20 hlocks
abbrev rm_X6_witnessesBy : Room := { frames := 2, cells := 0, slots := 0, locals := 45 }
set_option maxHeartbeats 4000000 in
set_option maxRecDepth 100000 in
theorem c_X6_witnessesBy (l : Launch) (G : mG) {h0 : Nat} {x1 : Int32} {x2 : Int32} {x3 : Int32} {x4 : Int32} {σ : mS} {z : Int32 × mS} (h : f_X6_witnessesBy h0 x1 x2 x3 x4 σ = some z) : Met l yX6_witnessesBy wsX6_witnessesBy rm_X6_witnessesBy (va_Pc [.ref h0, .int x1, .int x2, .int x3, .int x4] (mB G σ)) (mQ G (.returned (some (.int z.1))) z.2) 0 0 (mF G) := by
  refine m_start (cc := cX6_witnessesBy) (maxL := 9) (ret := (some .int)) (by decide) rfl [.ref h0, .int x1, .int x2, .int x3, .int x4] (Nat.le_of_ble_eq_true rfl) ?_
  intro p e s m args below meth c ls hx hb hr hml hown hts hlocks hnm hK hM hl
  have hown : s.vm.findClass RX6 = some m.cls := hown
  have hnm : meth.name = "witnessesBy" := hnm
  obtain ⟨locs, hlocs⟩ : ∃ l : List Loc, l = [] := ⟨_, rfl⟩
  have hL : mL G locs := by rw [hlocs]; exact mL_nil G
  rw [← hlocs]
  generalize s.heap = H at hM ⊢
  have hl : lv_has ls 9 [(0, .ref h0), (1, .int x1), (2, .int x2), (3, .int x3), (4, .int x4)] := hl
  obtain ⟨Q, hQ⟩ : ∃ Q, Q = MQ below (mQ G (.returned (some (.int z.1))) z.2) args s 0 0 (mF G) := ⟨_, rfl⟩
  rw [← hQ]
  have hU6 : ∀ w ∈ wsX60, w.before args s = true := fun w h => hts w (List.mem_cons_of_mem _ (List.mem_append_right _ h))
  have w1 := (hts (.fieldLink RX6 43 "HandkerchiefsDroppedModel" "sheetSort" "[I") (List.mem_of_getElem? (i := 1) rfl))
  have w2 := (hts (.fieldLink RX6 46 "HandkerchiefsDroppedModel" "sheetSize" "[I") (List.mem_of_getElem? (i := 2) rfl))
  have w3 := (hts (.fieldLink RX6 49 "HandkerchiefsDroppedModel" "cells" "[I") (List.mem_of_getElem? (i := 3) rfl))
  have hN64 : ∀ (n : Nat) (h0 : Nat) (x1 : Int32) (x3 : Int32) (x4 : Int32) (x5 : Int32) (x6 : Int32) (σ : mS), f_X6_witnessesBy_64 n h0 x1 x3 x4 x5 x6 σ = some z → ∀ (H : Heap) (locs : List Loc) (ls : Array Slot), mP G σ H → mL G locs → lv_has ls 9 [(0, .ref h0), (1, .int x1), (3, .int x3), (4, .int x4), (5, .int x5), (6, .int x6)] → W p l e rm_X6_witnessesBy s m args below meth c H locs 0 0 Q (F0 m 64 ls []) := by
    intro n
    induction n with
    | zero =>
      intro h0 x1 x3 x4 x5 x6 σ h
      exact nomatch (show (none : Option (Int32 × mS)) = some z from h)
    | succ n ih =>
      intro h0 x1 x3 x4 x5 x6 σ h H locs ls hM hL hl
      rw [f_X6_witnessesBy_64.eq_2] at h
      refine lv_iload hx hb dX6_witnessesBy_64 (lv_at hl 5 rfl) ?_
      refine lv_iload hx hb dX6_witnessesBy_66 (lv_at hl 3 rfl) ?_
      refine lv_icmp_ge (tgt := 162) hx hb dX6_witnessesBy_68 (by decide) (fun c30 => ?_) (fun c30 => ?_)
      · have h := (if_pos c30).symm.trans h
        refine lv_iload hx hb dX6_witnessesBy_162 (lv_at hl 4 rfl) ?_
        subst hQ
        have h := Option.some.inj h
        subst h
        exact m_iret hx hb hr hM hL dX6_witnessesBy_164 hlocks
      · have h := (if_neg c30).symm.trans h
        refine lv_iload_n hx hb dX6_witnessesBy_71 rfl (lv_at hl 2 rfl) ?_
        refine lv_iconst hx hb dX6_witnessesBy_72 kI_3 ?_
        refine lv_iload hx hb dX6_witnessesBy_73 (lv_at hl 5 rfl) ?_
        refine lv_imul hx hb dX6_witnessesBy_75 ?_
        refine lv_iadd hx hb dX6_witnessesBy_76 ?_
        refine lv_topi (fun v31 ev31 => ?_)
        have h := vl_at ev31 h
        refine lv_istore (lv' := [(7, .int v31), (0, .ref h0), (1, .int x1), (3, .int x3), (4, .int x4), (5, .int x5), (6, .int x6)]) hx hb dX6_witnessesBy_77 hl (by decide) rfl (fun ls hl => ?_)
        refine lv_iload_n hx hb dX6_witnessesBy_79 rfl (lv_at hl 3 rfl) ?_
        refine lv_if_lt (tgt := 102) hx hb dX6_witnessesBy_80 (by decide) (fun c32 => ?_) (fun c32 => ?_)
        · have h := (if_pos c32).symm.trans h
          refine lv_bipush hx hb dX6_witnessesBy_102 kB_m12 ?_
          subst hQ
          have h := Option.some.inj h
          subst h
          exact m_iret hx hb hr hM hL dX6_witnessesBy_104 hlocks
        · have h := (if_neg c32).symm.trans h
          refine lv_iload hx hb dX6_witnessesBy_83 (lv_at hl 0 rfl) ?_
          refine lv_iload_n hx hb dX6_witnessesBy_85 rfl (lv_at hl 3 rfl) ?_
          refine lv_icmp_lt (tgt := 102) hx hb dX6_witnessesBy_86 (by decide) (fun c33 => ?_) (fun c33 => ?_)
          · have h := (if_pos c33).symm.trans h
            refine lv_bipush hx hb dX6_witnessesBy_102 kB_m12 ?_
            subst hQ
            have h := Option.some.inj h
            subst h
            exact m_iret hx hb hr hM hL dX6_witnessesBy_104 hlocks
          · have h := (if_neg c33).symm.trans h
            refine lv_iload hx hb dX6_witnessesBy_89 (lv_at hl 0 rfl) ?_
            refine lv_aload_n hx hb dX6_witnessesBy_91 rfl (lv_at hl 1 rfl) ?_
            refine m_getR (ci := 5) hx hb hU6 hown hK hM rfl 19 (by decide) w2 h dX6_witnessesBy_92 (fun r34 gr34 h => ?_)
            refine lv_iload_n hx hb dX6_witnessesBy_95 rfl (lv_at hl 2 rfl) ?_
            refine m_iald hx hb hK hM h dX6_witnessesBy_96 (fun v35 gv35 h => ?_)
            refine lv_iconst hx hb dX6_witnessesBy_97 kI_3 ?_
            refine lv_isub hx hb dX6_witnessesBy_98 ?_
            refine lv_icmp_le (tgt := 105) hx hb dX6_witnessesBy_99 (by decide) (fun c36 => ?_) (fun c36 => ?_)
            · have h := (if_pos c36).symm.trans h
              refine lv_bipush hx hb dX6_witnessesBy_105 kB_40 ?_
              refine lv_iload_n hx hb dX6_witnessesBy_107 rfl (lv_at hl 2 rfl) ?_
              refine lv_imul hx hb dX6_witnessesBy_108 ?_
              refine lv_iload hx hb dX6_witnessesBy_109 (lv_at hl 0 rfl) ?_
              refine lv_iadd hx hb dX6_witnessesBy_111 ?_
              refine lv_topi (fun v37 ev37 => ?_)
              have h := vl_at ev37 h
              refine lv_istore (lv' := [(8, .int v37), (7, .int v31), (0, .ref h0), (1, .int x1), (3, .int x3), (4, .int x4), (5, .int x5), (6, .int x6)]) hx hb dX6_witnessesBy_112 hl (by decide) rfl (fun ls hl => ?_)
              refine lv_iload hx hb dX6_witnessesBy_114 (lv_at hl 6 rfl) ?_
              refine lv_aload_n hx hb dX6_witnessesBy_116 rfl (lv_at hl 2 rfl) ?_
              refine lv_aload_n hx hb dX6_witnessesBy_117 rfl (lv_at hl 2 rfl) ?_
              refine m_getR (ci := 5) hx hb hU6 hown hK hM rfl 20 (by decide) w3 h dX6_witnessesBy_118 (fun r38 gr38 h => ?_)
              refine lv_iload hx hb dX6_witnessesBy_121 (lv_at hl 0 rfl) ?_
              refine m_iald hx hb hK hM h dX6_witnessesBy_123 (fun v39 gv39 h => ?_)
              refine lv_aload_n hx hb dX6_witnessesBy_124 rfl (lv_at hl 2 rfl) ?_
              refine m_getR (ci := 5) hx hb hU6 hown hK hM rfl 20 (by decide) w3 h dX6_witnessesBy_125 (fun r40 gr40 h => ?_)
              refine lv_iload hx hb dX6_witnessesBy_128 (lv_at hl 0 rfl) ?_
              refine lv_iconst hx hb dX6_witnessesBy_130 kI_1 ?_
              refine lv_iadd hx hb dX6_witnessesBy_131 ?_
              refine m_iald hx hb hK hM h dX6_witnessesBy_132 (fun v41 gv41 h => ?_)
              refine lv_aload_n hx hb dX6_witnessesBy_133 rfl (lv_at hl 2 rfl) ?_
              refine m_getR (ci := 5) hx hb hU6 hown hK hM rfl 20 (by decide) w3 h dX6_witnessesBy_134 (fun r42 gr42 h => ?_)
              refine lv_iload hx hb dX6_witnessesBy_137 (lv_at hl 0 rfl) ?_
              refine lv_iconst hx hb dX6_witnessesBy_139 kI_2 ?_
              refine lv_iadd hx hb dX6_witnessesBy_140 ?_
              refine m_iald hx hb hK hM h dX6_witnessesBy_141 (fun v43 gv43 h => ?_)
              obtain ⟨o44, h⟩ := oi_some h
              obtain ⟨q45, hq45, h⟩ := ob_some h
              refine m_calli (va_runV (As := [.int v39, .int v41, .int v43]) (rest := [.int x5]) ⟨hx, hb, hml, hown, hts⟩ (c_X6_witness l G hq45) (cwV 3 hts gX6_witnessesBy_X6_witness rfl rfl rfl hd_X6_witnessv ⟨Nat.le_of_ble_eq_true rfl, Nat.le_of_ble_eq_true rfl⟩) (m_preV (ci := 5) hK hM rfl o44) rfl rfl hl.1 rfl (lv_room (Nat.le_of_ble_eq_true rfl)) dX6_witnessesBy_142 ⟨Nat.le_of_ble_eq_true rfl, Nat.le_of_ble_eq_true rfl⟩) hL (fun H locs hM hL => ?_)
              suffices hJ : ∀ (v47 : Int32) (ls : Array Slot), v47 = (if q45.1 < 0 then (0 : Int32) else (1 : Int32)) → lv_has ls 9 [(0, .ref h0), (1, .int x1), (3, .int x3), (4, .int x4), (6, .int x6)] → W p l e rm_X6_witnessesBy s m args below meth c H locs 0 0 Q (F0 m 153 ls [.int v47, .int x5]) by
                refine lv_if_lt (tgt := 152) hx hb dX6_witnessesBy_145 (by decide) (fun c46 => ?_) (fun c46 => ?_)
                · refine lv_iconst hx hb dX6_witnessesBy_152 kI_0 ?_
                  exact hJ _ _ (((if_pos c46).trans rfl).symm) (lv_sub hl [2, 3, 4, 5, 7] rfl)
                · refine lv_iconst hx hb dX6_witnessesBy_148 kI_1 ?_
                  refine lv_goto (tgt := 153) hx hb dX6_witnessesBy_149 (by decide) ?_
                  exact hJ _ _ (((if_neg c46).trans rfl).symm) (lv_sub hl [2, 3, 4, 5, 7] rfl)
              intro v47 ls ev47 hl
              have h := vl_at ev47 h
              refine lv_iadd hx hb dX6_witnessesBy_153 ?_
              refine lv_topi (fun v48 ev48 => ?_)
              have h := vl_at ev48 h
              refine lv_istore (lv' := [(5, .int v48), (0, .ref h0), (1, .int x1), (3, .int x3), (4, .int x4), (6, .int x6)]) hx hb dX6_witnessesBy_154 hl (by decide) rfl (fun ls hl => ?_)
              obtain ⟨v49, ev49⟩ : ∃ y : Int32, y = x6 + (1 : Int32) := ⟨_, rfl⟩
              have h := vl_at ev49 h
              refine lv_iinc (v := v49) (lv' := [(6, .int v49), (5, .int v48), (0, .ref h0), (1, .int x1), (3, .int x3), (4, .int x4)]) hx hb dX6_witnessesBy_156 hl (k := 5) rfl (by rw [ev49, kI_1]) (by decide) rfl (fun ls hl => ?_)
              refine lv_goto (tgt := 64) hx hb dX6_witnessesBy_159 (by decide) ?_
              exact ih _ _ _ _ _ _ _ h _ _ _ hM hL (lv_sub hl [2, 3, 4, 5, 1, 0] rfl)
            · have h := (if_neg c36).symm.trans h
              refine lv_bipush hx hb dX6_witnessesBy_102 kB_m12 ?_
              subst hQ
              have h := Option.some.inj h
              subst h
              exact m_iret hx hb hr hM hL dX6_witnessesBy_104 hlocks
  rw [f_X6_witnessesBy.eq_1] at h
  refine lv_iload_n hx hb dX6_witnessesBy_0 rfl (lv_at hl 1 rfl) ?_
  refine lv_iconst hx hb dX6_witnessesBy_1 kI_0 ?_
  refine lv_iconst hx hb dX6_witnessesBy_2 kI_3 ?_
  refine m_calli (va_runS (As := [.int x1, .int (0 : Int32), .int (3 : Int32)]) (rest := []) ⟨hx, hb, hml, hown, hts⟩ (c_X6_in l G x1 (0 : Int32) (3 : Int32)) (va_cwS 3 hts gX6_witnessesBy_X6_in rfl rfl rfl hd_X6_in ⟨Nat.le_of_ble_eq_true rfl, Nat.le_of_ble_eq_true rfl⟩) (m_preS hK hM) rfl rfl hl.1 rfl (lv_room (Nat.le_of_ble_eq_true rfl)) dX6_witnessesBy_3 ⟨Nat.le_of_ble_eq_true rfl, Nat.le_of_ble_eq_true rfl⟩) hL (fun H locs hM hL => ?_)
  refine lv_if_eq (tgt := 29) hx hb dX6_witnessesBy_6 (by decide) (fun c50 => ?_) (fun c50 => ?_)
  · have h := (if_pos c50).symm.trans h
    refine lv_bipush hx hb dX6_witnessesBy_29 kB_m2 ?_
    subst hQ
    have h := Option.some.inj h
    subst h
    exact m_iret hx hb hr hM hL dX6_witnessesBy_31 hlocks
  · have h := (if_neg c50).symm.trans h
    refine lv_iload_n hx hb dX6_witnessesBy_9 rfl (lv_at hl 2 rfl) ?_
    refine lv_iconst hx hb dX6_witnessesBy_10 kI_0 ?_
    refine lv_iconst hx hb dX6_witnessesBy_11 kI_2 ?_
    refine m_calli (va_runS (As := [.int x2, .int (0 : Int32), .int (2 : Int32)]) (rest := []) ⟨hx, hb, hml, hown, hts⟩ (c_X6_in l G x2 (0 : Int32) (2 : Int32)) (va_cwS 3 hts gX6_witnessesBy_X6_in rfl rfl rfl hd_X6_in ⟨Nat.le_of_ble_eq_true rfl, Nat.le_of_ble_eq_true rfl⟩) (m_preS hK hM) rfl rfl hl.1 rfl (lv_room (Nat.le_of_ble_eq_true rfl)) dX6_witnessesBy_12 ⟨Nat.le_of_ble_eq_true rfl, Nat.le_of_ble_eq_true rfl⟩) hL (fun H locs hM hL => ?_)
    refine lv_if_eq (tgt := 29) hx hb dX6_witnessesBy_15 (by decide) (fun c51 => ?_) (fun c51 => ?_)
    · have h := (if_pos c51).symm.trans h
      refine lv_bipush hx hb dX6_witnessesBy_29 kB_m2 ?_
      subst hQ
      have h := Option.some.inj h
      subst h
      exact m_iret hx hb hr hM hL dX6_witnessesBy_31 hlocks
    · have h := (if_neg c51).symm.trans h
      refine lv_iload hx hb dX6_witnessesBy_18 (lv_at hl 4 rfl) ?_
      refine lv_iconst hx hb dX6_witnessesBy_20 kI_0 ?_
      refine lv_bipush hx hb dX6_witnessesBy_21 kB_6 ?_
      refine m_calli (va_runS (As := [.int x4, .int (0 : Int32), .int (6 : Int32)]) (rest := []) ⟨hx, hb, hml, hown, hts⟩ (c_X6_in l G x4 (0 : Int32) (6 : Int32)) (va_cwS 3 hts gX6_witnessesBy_X6_in rfl rfl rfl hd_X6_in ⟨Nat.le_of_ble_eq_true rfl, Nat.le_of_ble_eq_true rfl⟩) (m_preS hK hM) rfl rfl hl.1 rfl (lv_room (Nat.le_of_ble_eq_true rfl)) dX6_witnessesBy_23 ⟨Nat.le_of_ble_eq_true rfl, Nat.le_of_ble_eq_true rfl⟩) hL (fun H locs hM hL => ?_)
      refine lv_if_ne (tgt := 32) hx hb dX6_witnessesBy_26 (by decide) (fun c52 => ?_) (fun c52 => ?_)
      · have h := (if_neg c52).symm.trans h
        refine lv_aload_n hx hb dX6_witnessesBy_32 rfl (lv_at hl 0 rfl) ?_
        refine m_getR (ci := 5) hx hb hU6 hown hK hM rfl 18 (by decide) w1 h dX6_witnessesBy_33 (fun r53 gr53 h => ?_)
        refine lv_iload_n hx hb dX6_witnessesBy_36 rfl (lv_at hl 1 rfl) ?_
        refine m_iald hx hb hK hM h dX6_witnessesBy_37 (fun v54 gv54 h => ?_)
        refine lv_iconst hx hb dX6_witnessesBy_38 kI_m1 ?_
        refine lv_icmp_ne (tgt := 45) hx hb dX6_witnessesBy_39 (by decide) (fun c55 => ?_) (fun c55 => ?_)
        · have h := (if_neg c55).symm.trans h
          refine lv_aload_n hx hb dX6_witnessesBy_45 rfl (lv_at hl 0 rfl) ?_
          refine m_getR (ci := 5) hx hb hU6 hown hK hM rfl 18 (by decide) w1 h dX6_witnessesBy_46 (fun r56 gr56 h => ?_)
          refine lv_iload_n hx hb dX6_witnessesBy_49 rfl (lv_at hl 1 rfl) ?_
          refine m_iald hx hb hK hM h dX6_witnessesBy_50 (fun v57 gv57 h => ?_)
          refine lv_iload_n hx hb dX6_witnessesBy_51 rfl (lv_at hl 2 rfl) ?_
          refine lv_icmp_eq (tgt := 58) hx hb dX6_witnessesBy_52 (by decide) (fun c58 => ?_) (fun c58 => ?_)
          · have h := (if_pos c58).symm.trans h
            refine lv_iconst hx hb dX6_witnessesBy_58 kI_0 ?_
            refine lv_istore (lv' := [(5, .int (0 : Int32)), (0, .ref h0), (1, .int x1), (2, .int x2), (3, .int x3), (4, .int x4)]) hx hb dX6_witnessesBy_59 hl (by decide) rfl (fun ls hl => ?_)
            refine lv_iconst hx hb dX6_witnessesBy_61 kI_0 ?_
            refine lv_istore (lv' := [(6, .int (0 : Int32)), (5, .int (0 : Int32)), (0, .ref h0), (1, .int x1), (2, .int x2), (3, .int x3), (4, .int x4)]) hx hb dX6_witnessesBy_62 hl (by decide) rfl (fun ls hl => ?_)
            refine hN64 _ _ _ _ _ _ _ _ h _ _ _ hM hL (lv_sub hl [2, 3, 5, 6, 1, 0] rfl)
          · have h := (if_neg c58).symm.trans h
            refine lv_bipush hx hb dX6_witnessesBy_55 kB_m13 ?_
            subst hQ
            have h := Option.some.inj h
            subst h
            exact m_iret hx hb hr hM hL dX6_witnessesBy_57 hlocks
        · have h := (if_pos c55).symm.trans h
          refine lv_bipush hx hb dX6_witnessesBy_42 kB_m11 ?_
          subst hQ
          have h := Option.some.inj h
          subst h
          exact m_iret hx hb hr hM hL dX6_witnessesBy_44 hlocks
      · have h := (if_pos c52).symm.trans h
        refine lv_bipush hx hb dX6_witnessesBy_29 kB_m2 ?_
        subst hQ
        have h := Option.some.inj h
        subst h
        exact m_iret hx hb hr hM hL dX6_witnessesBy_31 hlocks
abbrev rm_X6_isUnder : Room := { frames := 0, cells := 0, slots := 0, locals := 0 }
theorem z_X6_isUnder (x0 x1 : Int32) : narrow .boolean (.int (f_X6_isUnder x0 x1)) = .int (f_X6_isUnder x0 x1) := by
  rw [f_X6_isUnder.eq_1]
  try unfold f_X6_isUnder_19
  try dsimp only [vl]
  (repeat' split) <;> first | rfl | apply z_X6_in | apply z_X5_isBelow | apply z_X5_isByte | apply z_X6_isByte
set_option maxHeartbeats 4000000 in
set_option maxRecDepth 100000 in
theorem c_X6_isUnder (l : Launch) (G : mG) (x0 : Int32) (x1 : Int32) {σ : mS} : Met l yX6_isUnder wsX6_isUnder rm_X6_isUnder (va_Pc [.int x0, .int x1] (mB G σ)) (mQ G (.returned (some (.int (f_X6_isUnder x0 x1)))) (σ)) 0 0 (mF G) := by
  obtain ⟨z, h⟩ : ∃ z, f_X6_isUnder x0 x1 = z := ⟨_, rfl⟩
  rw [h]
  refine m_start (cc := cX6_isUnder) (maxL := 2) (ret := (some .boolean)) (by decide) rfl [.int x0, .int x1] (Nat.le_of_ble_eq_true rfl) ?_
  intro p e s m args below meth c ls hx hb hr hml hown hts hlocks hnm hK hM hl
  have hown : s.vm.findClass RX6 = some m.cls := hown
  have hnm : meth.name = "isUnder" := hnm
  obtain ⟨locs, hlocs⟩ : ∃ l : List Loc, l = [] := ⟨_, rfl⟩
  have hL : mL G locs := by rw [hlocs]; exact mL_nil G
  rw [← hlocs]
  generalize s.heap = H at hM ⊢
  have hl : lv_has ls 2 [(0, .int x0), (1, .int x1)] := hl
  obtain ⟨Q, hQ⟩ : ∃ Q, Q = MQ below (mQ G (.returned (some (.int z))) (σ)) args s 0 0 (mF G) := ⟨_, rfl⟩
  rw [← hQ]
  have hN19 : ∀ (x0 : Int32) (x1 : Int32), f_X6_isUnder_19 x0 x1 = z → ∀ (H : Heap) (locs : List Loc) (ls : Array Slot), mP G σ H → mL G locs → lv_has ls 2 [(0, .int x0), (1, .int x1)] → W p l e rm_X6_isUnder s m args below meth c H locs 0 0 Q (F0 m 19 ls []) := by
    intro x0 x1 h H locs ls hM hL hl
    rw [f_X6_isUnder_19.eq_1] at h
    refine lv_iload_n hx hb dX6_isUnder_19 rfl (lv_at hl 1 rfl) ?_
    refine lv_iconst hx hb dX6_isUnder_20 kI_2 ?_
    refine lv_icmp_ne (tgt := 33) hx hb dX6_isUnder_21 (by decide) (fun c7 => ?_) (fun c7 => ?_)
    · have h := (if_neg c7).symm.trans h
      refine lv_iconst hx hb dX6_isUnder_33 kI_0 ?_
      subst hQ
      subst h
      exact m_zret (x := (0 : Int32)) hx hb hr rfl hM hL dX6_isUnder_34 hlocks
    · have h := (if_pos c7).symm.trans h
      refine lv_iload_n hx hb dX6_isUnder_24 rfl (lv_at hl 0 rfl) ?_
      refine lv_iconst hx hb dX6_isUnder_25 kI_4 ?_
      refine lv_icmp_ne (tgt := 33) hx hb dX6_isUnder_26 (by decide) (fun c8 => ?_) (fun c8 => ?_)
      · have h := (if_neg c8).symm.trans h
        refine lv_iconst hx hb dX6_isUnder_33 kI_0 ?_
        subst hQ
        subst h
        exact m_zret (x := (0 : Int32)) hx hb hr rfl hM hL dX6_isUnder_34 hlocks
      · have h := (if_pos c8).symm.trans h
        refine lv_iconst hx hb dX6_isUnder_29 kI_1 ?_
        refine lv_goto (tgt := 34) hx hb dX6_isUnder_30 (by decide) ?_
        subst hQ
        subst h
        exact m_zret (x := (1 : Int32)) hx hb hr rfl hM hL dX6_isUnder_34 hlocks
  rw [f_X6_isUnder.eq_1] at h
  refine lv_iload_n hx hb dX6_isUnder_0 rfl (lv_at hl 1 rfl) ?_
  refine lv_if_eq (tgt := 29) hx hb dX6_isUnder_1 (by decide) (fun c9 => ?_) (fun c9 => ?_)
  · have h := (if_pos c9).symm.trans h
    refine lv_iconst hx hb dX6_isUnder_29 kI_1 ?_
    refine lv_goto (tgt := 34) hx hb dX6_isUnder_30 (by decide) ?_
    subst hQ
    subst h
    exact m_zret (x := (1 : Int32)) hx hb hr rfl hM hL dX6_isUnder_34 hlocks
  · have h := (if_neg c9).symm.trans h
    refine lv_iload_n hx hb dX6_isUnder_4 rfl (lv_at hl 0 rfl) ?_
    refine lv_iload_n hx hb dX6_isUnder_5 rfl (lv_at hl 1 rfl) ?_
    refine lv_icmp_eq (tgt := 29) hx hb dX6_isUnder_6 (by decide) (fun c10 => ?_) (fun c10 => ?_)
    · have h := (if_pos c10).symm.trans h
      refine lv_iconst hx hb dX6_isUnder_29 kI_1 ?_
      refine lv_goto (tgt := 34) hx hb dX6_isUnder_30 (by decide) ?_
      subst hQ
      subst h
      exact m_zret (x := (1 : Int32)) hx hb hr rfl hM hL dX6_isUnder_34 hlocks
    · have h := (if_neg c10).symm.trans h
      refine lv_iload_n hx hb dX6_isUnder_9 rfl (lv_at hl 1 rfl) ?_
      refine lv_iconst hx hb dX6_isUnder_10 kI_1 ?_
      refine lv_icmp_ne (tgt := 19) hx hb dX6_isUnder_11 (by decide) (fun c11 => ?_) (fun c11 => ?_)
      · have h := (if_neg c11).symm.trans h
        refine hN19 _ _ h _ _ _ hM hL (lv_sub hl [0, 1] rfl)
      · have h := (if_pos c11).symm.trans h
        refine lv_iload_n hx hb dX6_isUnder_14 rfl (lv_at hl 0 rfl) ?_
        refine lv_iconst hx hb dX6_isUnder_15 kI_3 ?_
        refine lv_icmp_eq (tgt := 29) hx hb dX6_isUnder_16 (by decide) (fun c12 => ?_) (fun c12 => ?_)
        · have h := (if_pos c12).symm.trans h
          refine lv_iconst hx hb dX6_isUnder_29 kI_1 ?_
          refine lv_goto (tgt := 34) hx hb dX6_isUnder_30 (by decide) ?_
          subst hQ
          subst h
          exact m_zret (x := (1 : Int32)) hx hb hr rfl hM hL dX6_isUnder_34 hlocks
        · have h := (if_neg c12).symm.trans h
          refine hN19 _ _ h _ _ _ hM hL (lv_sub hl [0, 1] rfl)
abbrev rm_X6_taken : Room := { frames := 2, cells := 0, slots := 0, locals := 43 }
set_option maxHeartbeats 4000000 in
set_option maxRecDepth 100000 in
theorem c_X6_taken (l : Launch) (G : mG) {h0 : Nat} {x1 : Int32} {x2 : Int32} {σ : mS} {z : Int32} (h : f_X6_taken h0 x1 x2 σ = some z) : Met l yX6_taken wsX6_taken rm_X6_taken (va_Pc [.ref h0, .int x1, .int x2] (mB G σ)) (mQ G (.returned (some (.int z))) (σ)) 0 0 (mF G) := by
  refine m_start (cc := cX6_taken) (maxL := 4) (ret := (some .int)) (by decide) rfl [.ref h0, .int x1, .int x2] (Nat.le_of_ble_eq_true rfl) ?_
  intro p e s m args below meth c ls hx hb hr hml hown hts hlocks hnm hK hM hl
  have hown : s.vm.findClass RX6 = some m.cls := hown
  have hnm : meth.name = "taken" := hnm
  obtain ⟨locs, hlocs⟩ : ∃ l : List Loc, l = [] := ⟨_, rfl⟩
  have hL : mL G locs := by rw [hlocs]; exact mL_nil G
  rw [← hlocs]
  generalize s.heap = H at hM ⊢
  have hl : lv_has ls 4 [(0, .ref h0), (1, .int x1), (2, .int x2)] := hl
  obtain ⟨Q, hQ⟩ : ∃ Q, Q = MQ below (mQ G (.returned (some (.int z))) (σ)) args s 0 0 (mF G) := ⟨_, rfl⟩
  rw [← hQ]
  have hU6 : ∀ w ∈ wsX60, w.before args s = true := fun w h => hts w (List.mem_cons_of_mem _ (List.mem_append_right _ h))
  have w1 := (hts (.fieldLink RX6 78 "HandkerchiefsDroppedModel" "witnesses" "I") (List.mem_of_getElem? (i := 2) rfl))
  have w2 := (hts (.fieldLink RX6 7 "HandkerchiefsDroppedModel" "kind" "[I") (List.mem_of_getElem? (i := 3) rfl))
  have w3 := (hts (.fieldLink RX6 19 "HandkerchiefsDroppedModel" "linens" "[I") (List.mem_of_getElem? (i := 1) rfl))
  rw [f_X6_taken.eq_1] at h
  refine lv_iload_n hx hb dX6_taken_0 rfl (lv_at hl 2 rfl) ?_
  refine lv_iconst hx hb dX6_taken_1 kI_0 ?_
  refine lv_bipush hx hb dX6_taken_2 kB_6 ?_
  refine m_calli (va_runS (As := [.int x2, .int (0 : Int32), .int (6 : Int32)]) (rest := []) ⟨hx, hb, hml, hown, hts⟩ (c_X6_in l G x2 (0 : Int32) (6 : Int32)) (va_cwS 3 hts gX6_taken_X6_in rfl rfl rfl hd_X6_in ⟨Nat.le_of_ble_eq_true rfl, Nat.le_of_ble_eq_true rfl⟩) (m_preS hK hM) rfl rfl hl.1 rfl (lv_room (Nat.le_of_ble_eq_true rfl)) dX6_taken_4 ⟨Nat.le_of_ble_eq_true rfl, Nat.le_of_ble_eq_true rfl⟩) hL (fun H locs hM hL => ?_)
  refine lv_if_ne (tgt := 13) hx hb dX6_taken_7 (by decide) (fun c17 => ?_) (fun c17 => ?_)
  · have h := (if_neg c17).symm.trans h
    refine lv_iload_n hx hb dX6_taken_13 rfl (lv_at hl 1 rfl) ?_
    refine lv_iconst hx hb dX6_taken_14 kI_0 ?_
    refine lv_bipush hx hb dX6_taken_15 kB_13 ?_
    refine m_calli (va_runS (As := [.int x1, .int (0 : Int32), .int (13 : Int32)]) (rest := []) ⟨hx, hb, hml, hown, hts⟩ (c_X6_in l G x1 (0 : Int32) (13 : Int32)) (va_cwS 3 hts gX6_taken_X6_in rfl rfl rfl hd_X6_in ⟨Nat.le_of_ble_eq_true rfl, Nat.le_of_ble_eq_true rfl⟩) (m_preS hK hM) rfl rfl hl.1 rfl (lv_room (Nat.le_of_ble_eq_true rfl)) dX6_taken_17 ⟨Nat.le_of_ble_eq_true rfl, Nat.le_of_ble_eq_true rfl⟩) hL (fun H locs hM hL => ?_)
    refine lv_if_ne (tgt := 26) hx hb dX6_taken_20 (by decide) (fun c18 => ?_) (fun c18 => ?_)
    · have h := (if_neg c18).symm.trans h
      refine lv_iload_n hx hb dX6_taken_26 rfl (lv_at hl 1 rfl) ?_
      refine lv_bipush hx hb dX6_taken_27 kB_6 ?_
      refine lv_icmp_lt (tgt := 72) hx hb dX6_taken_29 (by decide) (fun c19 => ?_) (fun c19 => ?_)
      · have h := (if_pos c19).symm.trans h
        refine lv_iload_n hx hb dX6_taken_72 rfl (lv_at hl 1 rfl) ?_
        refine lv_aload_n hx hb dX6_taken_73 rfl (lv_at hl 0 rfl) ?_
        refine m_getI (ci := 5) hx hb hU6 hown hK hM rfl 0 (by decide) w1 h dX6_taken_74 (fun v20 gv20 h => ?_)
        refine lv_icmp_lt (tgt := 85) hx hb dX6_taken_77 (by decide) (fun c21 => ?_) (fun c21 => ?_)
        · have h := (if_pos c21).symm.trans h
          refine lv_iload_n hx hb dX6_taken_85 rfl (lv_at hl 2 rfl) ?_
          refine lv_bipush hx hb dX6_taken_86 kB_6 ?_
          refine lv_icmp_ge (tgt := 108) hx hb dX6_taken_88 (by decide) (fun c22 => ?_) (fun c22 => ?_)
          · have h := (if_pos c22).symm.trans h
            refine lv_bipush hx hb dX6_taken_108 kB_m13 ?_
            subst hQ
            have h := Option.some.inj h
            subst h
            exact m_iret hx hb hr hM hL dX6_taken_110 hlocks
          · have h := (if_neg c22).symm.trans h
            refine lv_aload_n hx hb dX6_taken_91 rfl (lv_at hl 0 rfl) ?_
            refine m_getR (ci := 5) hx hb hU6 hown hK hM rfl 1 (by decide) w2 h dX6_taken_92 (fun r23 gr23 h => ?_)
            refine lv_iload_n hx hb dX6_taken_95 rfl (lv_at hl 1 rfl) ?_
            refine m_iald hx hb hK hM h dX6_taken_96 (fun v24 gv24 h => ?_)
            refine lv_iload_n hx hb dX6_taken_97 rfl (lv_at hl 2 rfl) ?_
            refine m_calli (va_runS (As := [.int v24, .int x2]) (rest := []) ⟨hx, hb, hml, hown, hts⟩ (c_X6_isUnder l G v24 x2) (va_cwS 2 hts gX6_taken_X6_isUnder rfl rfl rfl hd_X6_isUnder ⟨Nat.le_of_ble_eq_true rfl, Nat.le_of_ble_eq_true rfl⟩) (m_preS hK hM) rfl rfl hl.1 rfl (lv_room (Nat.le_of_ble_eq_true rfl)) dX6_taken_98 ⟨Nat.le_of_ble_eq_true rfl, Nat.le_of_ble_eq_true rfl⟩) hL (fun H locs hM hL => ?_)
            refine lv_if_eq (tgt := 108) hx hb dX6_taken_101 (by decide) (fun c25 => ?_) (fun c25 => ?_)
            · have h := (if_pos c25).symm.trans h
              refine lv_bipush hx hb dX6_taken_108 kB_m13 ?_
              subst hQ
              have h := Option.some.inj h
              subst h
              exact m_iret hx hb hr hM hL dX6_taken_110 hlocks
            · have h := (if_neg c25).symm.trans h
              refine lv_iload_n hx hb dX6_taken_104 rfl (lv_at hl 1 rfl) ?_
              refine lv_goto (tgt := 110) hx hb dX6_taken_105 (by decide) ?_
              subst hQ
              have h := Option.some.inj h
              subst h
              exact m_iret hx hb hr hM hL dX6_taken_110 hlocks
        · have h := (if_neg c21).symm.trans h
          refine lv_bipush hx hb dX6_taken_80 kB_m11 ?_
          refine lv_goto (tgt := 110) hx hb dX6_taken_82 (by decide) ?_
          subst hQ
          have h := Option.some.inj h
          subst h
          exact m_iret hx hb hr hM hL dX6_taken_110 hlocks
      · have h := (if_neg c19).symm.trans h
        refine lv_iload_n hx hb dX6_taken_32 rfl (lv_at hl 1 rfl) ?_
        refine lv_bipush hx hb dX6_taken_33 kB_6 ?_
        refine lv_isub hx hb dX6_taken_35 ?_
        refine lv_topi (fun v26 ev26 => ?_)
        have h := vl_at ev26 h
        refine lv_istore_n (lv' := [(3, .int v26), (0, .ref h0), (1, .int x1), (2, .int x2)]) hx hb dX6_taken_36 rfl hl (by decide) rfl (fun ls hl => ?_)
        refine lv_aload_n hx hb dX6_taken_37 rfl (lv_at hl 1 rfl) ?_
        refine lv_iload_n hx hb dX6_taken_38 rfl (lv_at hl 0 rfl) ?_
        obtain ⟨o27, h⟩ := oi_some h
        obtain ⟨q28, hq28, h⟩ := ob_some h
        refine m_calli (va_runV (As := [.int v26]) (rest := []) ⟨hx, hb, hml, hown, hts⟩ (c_X6_isLinen l G hq28) (cwV 1 hts gX6_taken_X6_isLinen rfl rfl rfl hd_X6_isLinenv ⟨Nat.le_of_ble_eq_true rfl, Nat.le_of_ble_eq_true rfl⟩) (m_preV (ci := 5) hK hM rfl o27) rfl rfl hl.1 rfl (lv_room (Nat.le_of_ble_eq_true rfl)) dX6_taken_39 ⟨Nat.le_of_ble_eq_true rfl, Nat.le_of_ble_eq_true rfl⟩) hL (fun H locs hM hL => ?_)
        refine lv_if_ne (tgt := 50) hx hb dX6_taken_42 (by decide) (fun c29 => ?_) (fun c29 => ?_)
        · have h := (if_neg c29).symm.trans h
          refine lv_iload_n hx hb dX6_taken_50 rfl (lv_at hl 3 rfl) ?_
          refine lv_bipush hx hb dX6_taken_51 kB_6 ?_
          refine lv_icmp_ne (tgt := 69) hx hb dX6_taken_53 (by decide) (fun c30 => ?_) (fun c30 => ?_)
          · have h := (if_neg c30).symm.trans h
            refine lv_bipush hx hb dX6_taken_69 kB_m13 ?_
            subst hQ
            have h := Option.some.inj h
            subst h
            exact m_iret hx hb hr hM hL dX6_taken_71 hlocks
          · have h := (if_pos c30).symm.trans h
            refine lv_aload_n hx hb dX6_taken_56 rfl (lv_at hl 1 rfl) ?_
            refine m_getR (ci := 5) hx hb hU6 hown hK hM rfl 4 (by decide) w3 h dX6_taken_57 (fun r31 gr31 h => ?_)
            refine lv_iconst hx hb dX6_taken_60 kI_3 ?_
            refine lv_iload_n hx hb dX6_taken_61 rfl (lv_at hl 0 rfl) ?_
            refine lv_imul hx hb dX6_taken_62 ?_
            refine lv_iconst hx hb dX6_taken_63 kI_1 ?_
            refine lv_iadd hx hb dX6_taken_64 ?_
            refine m_iald hx hb hK hM h dX6_taken_65 (fun v32 gv32 h => ?_)
            refine lv_goto (tgt := 71) hx hb dX6_taken_66 (by decide) ?_
            subst hQ
            have h := Option.some.inj h
            subst h
            exact m_iret hx hb hr hM hL dX6_taken_71 hlocks
        · have h := (if_pos c29).symm.trans h
          refine lv_bipush hx hb dX6_taken_45 kB_m11 ?_
          refine lv_goto (tgt := 71) hx hb dX6_taken_47 (by decide) ?_
          subst hQ
          have h := Option.some.inj h
          subst h
          exact m_iret hx hb hr hM hL dX6_taken_71 hlocks
    · have h := (if_pos c18).symm.trans h
      refine lv_bipush hx hb dX6_taken_23 kB_m12 ?_
      subst hQ
      have h := Option.some.inj h
      subst h
      exact m_iret hx hb hr hM hL dX6_taken_25 hlocks
  · have h := (if_pos c17).symm.trans h
    refine lv_bipush hx hb dX6_taken_10 kB_m2 ?_
    subst hQ
    have h := Option.some.inj h
    subst h
    exact m_iret hx hb hr hM hL dX6_taken_12 hlocks
