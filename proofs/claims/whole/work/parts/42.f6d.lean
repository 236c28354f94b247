abbrev rm_X6_admittedBehind : Room := { frames := 8, cells := 0, slots := 0, locals := 179 }
set_option maxHeartbeats 4000000 in
set_option maxRecDepth 100000 in
theorem c_X6_admittedBehind (l : Launch) (G : mG) {h0 : Nat} {x1 : Int32} {σ : mS} {z : Int32 × mS} (h : f_X6_admittedBehind h0 x1 σ = some z) : Met l yX6_admittedBehind wsX6_admittedBehind rm_X6_admittedBehind (va_Pc [.ref h0, .int x1] (mB G σ)) (mQ G (.returned (some (.int z.1))) z.2) 0 0 (mF G) := by
  refine m_start (cc := cX6_admittedBehind) (maxL := 3) (ret := (some .int)) (by decide) rfl [.ref h0, .int x1] (Nat.le_of_ble_eq_true rfl) ?_
  intro p e s m args below meth c ls hx hb hr hml hown hts hlocks hnm hK hM hl
  have hown : s.vm.findClass RX6 = some m.cls := hown
  have hnm : meth.name = "admittedBehind" := hnm
  obtain ⟨locs, hlocs⟩ : ∃ l : List Loc, l = [] := ⟨_, rfl⟩
  have hL : mL G locs := by rw [hlocs]; exact mL_nil G
  rw [← hlocs]
  generalize s.heap = H at hM ⊢
  have hl : lv_has ls 3 [(0, .ref h0), (1, .int x1)] := hl
  obtain ⟨Q, hQ⟩ : ∃ Q, Q = MQ below (mQ G (.returned (some (.int z.1))) z.2) args s 0 0 (mF G) := ⟨_, rfl⟩
  rw [← hQ]
  have hU6 : ∀ w ∈ wsX60, w.before args s = true := fun w h => hts w (List.mem_cons_of_mem _ (List.mem_append_right _ h))
  have w1 := (hts (.fieldLink RX6 109 "HandkerchiefsDroppedModel" "admitted" "I") (List.mem_of_getElem? (i := 1) rfl))
  rw [f_X6_admittedBehind.eq_1] at h
  refine lv_aload_n hx hb dX6_admittedBehind_0 rfl (lv_at hl 0 rfl) ?_
  obtain ⟨o9, h⟩ := oi_some h
  obtain ⟨q10, hq10, h⟩ := ob_some h
  refine m_callv (va_runV (As := []) (rest := []) ⟨hx, hb, hml, hown, hts⟩ (c_X6_keeps l G hq10) (cwV 0 hts gX6_admittedBehind_X6_keeps rfl rfl rfl hd_X6_keepsv ⟨Nat.le_of_ble_eq_true rfl, Nat.le_of_ble_eq_true rfl⟩) (m_preV (ci := 5) hK hM rfl o9) rfl rfl hl.1 rfl (lv_room (Nat.le_of_ble_eq_true rfl)) dX6_admittedBehind_1 ⟨Nat.le_of_ble_eq_true rfl, Nat.le_of_ble_eq_true rfl⟩) hL (fun H locs hM hL => ?_)
  refine lv_aload_n hx hb dX6_admittedBehind_4 rfl (lv_at hl 0 rfl) ?_
  refine lv_iload_n hx hb dX6_admittedBehind_5 rfl (lv_at hl 1 rfl) ?_
  obtain ⟨o11, h⟩ := oi_some h
  obtain ⟨q12, hq12, h⟩ := ob_some h
  refine m_callv (va_runV (As := [.int x1]) (rest := []) ⟨hx, hb, hml, hown, hts⟩ (c_X6_goes l G hq12) (cwV 1 hts gX6_admittedBehind_X6_goes rfl rfl rfl hd_X6_goesv ⟨Nat.le_of_ble_eq_true rfl, Nat.le_of_ble_eq_true rfl⟩) (m_preV (ci := 5) hK hM rfl o11) rfl rfl hl.1 rfl (lv_room (Nat.le_of_ble_eq_true rfl)) dX6_admittedBehind_6 ⟨Nat.le_of_ble_eq_true rfl, Nat.le_of_ble_eq_true rfl⟩) hL (fun H locs hM hL => ?_)
  refine lv_aload_n hx hb dX6_admittedBehind_9 rfl (lv_at hl 0 rfl) ?_
  refine m_getI (ci := 5) hx hb hU6 hown hK hM rfl 7 (by decide) w1 h dX6_admittedBehind_10 (fun v13 gv13 h => ?_)
  obtain ⟨q14, hq14, h⟩ := ob_some h
  refine m_calli (va_runS (As := [.int v13]) (rest := []) ⟨hx, hb, hml, hown, hts⟩ (c_X6_onesOf l G hq14) (va_cwS 1 hts gX6_admittedBehind_X6_onesOf rfl rfl rfl hd_X6_onesOf ⟨Nat.le_of_ble_eq_true rfl, Nat.le_of_ble_eq_true rfl⟩) (m_preS hK hM) rfl rfl hl.1 rfl (lv_room (Nat.le_of_ble_eq_true rfl)) dX6_admittedBehind_13 ⟨Nat.le_of_ble_eq_true rfl, Nat.le_of_ble_eq_true rfl⟩) hL (fun H locs hM hL => ?_)
  refine lv_istore_n (lv' := [(2, .int q14), (0, .ref h0), (1, .int x1)]) hx hb dX6_admittedBehind_16 rfl hl (by decide) rfl (fun ls hl => ?_)
  refine lv_aload_n hx hb dX6_admittedBehind_17 rfl (lv_at hl 1 rfl) ?_
  obtain ⟨o15, h⟩ := oi_some h
  obtain ⟨q16, hq16, h⟩ := ob_some h
  refine m_callv (va_runV (As := []) (rest := []) ⟨hx, hb, hml, hown, hts⟩ (c_X6_lays l G hq16) (cwV 0 hts gX6_admittedBehind_X6_lays rfl rfl rfl hd_X6_laysv ⟨Nat.le_of_ble_eq_true rfl, Nat.le_of_ble_eq_true rfl⟩) (m_preV (ci := 5) hK hM rfl o15) rfl rfl hl.1 rfl (lv_room (Nat.le_of_ble_eq_true rfl)) dX6_admittedBehind_18 ⟨Nat.le_of_ble_eq_true rfl, Nat.le_of_ble_eq_true rfl⟩) hL (fun H locs hM hL => ?_)
  refine lv_iload_n hx hb dX6_admittedBehind_21 rfl (lv_at hl 0 rfl) ?_
  subst hQ
  have h := Option.some.inj h
  subst h
  exact m_iret hx hb hr hM hL dX6_admittedBehind_22 hlocks
abbrev rm_X6_gallant : Room := { frames := 9, cells := 0, slots := 0, locals := 201 }
set_option maxHeartbeats 4000000 in
set_option maxRecDepth 100000 in
theorem c_X6_gallant (l : Launch) (G : mG) {h0 : Nat} {x1 : Int32} {x2 : Int32} {σ : mS} {z : Int32 × mS} (h : f_X6_gallant h0 x1 x2 σ = some z) : Met l yX6_gallant wsX6_gallant rm_X6_gallant (va_Pc [.ref h0, .int x1, .int x2] (mB G σ)) (mQ G (.returned (some (.int z.1))) z.2) 0 0 (mF G) := by
  refine m_start (cc := cX6_gallant) (maxL := 8) (ret := (some .int)) (by decide) rfl [.ref h0, .int x1, .int x2] (Nat.le_of_ble_eq_true rfl) ?_
  intro p e s m args below meth c ls hx hb hr hml hown hts hlocks hnm hK hM hl
  have hown : s.vm.findClass RX6 = some m.cls := hown
  have hnm : meth.name = "gallant" := hnm
  obtain ⟨locs, hlocs⟩ : ∃ l : List Loc, l = [] := ⟨_, rfl⟩
  have hL : mL G locs := by rw [hlocs]; exact mL_nil G
  rw [← hlocs]
  generalize s.heap = H at hM ⊢
  have hl : lv_has ls 8 [(0, .ref h0), (1, .int x1), (2, .int x2)] := hl
  obtain ⟨Q, hQ⟩ : ∃ Q, Q = MQ below (mQ G (.returned (some (.int z.1))) z.2) args s 0 0 (mF G) := ⟨_, rfl⟩
  rw [← hQ]
  have hU6 : ∀ w ∈ wsX60, w.before args s = true := fun w h => hts w (List.mem_cons_of_mem _ (List.mem_append_right _ h))
  have w1 := (hts (.fieldLink RX6 25 "HandkerchiefsDroppedModel" "keen" "[I") (List.mem_of_getElem? (i := 1) rfl))
  have hN34 : ∀ (n : Nat) (h0 : Nat) (x1 : Int32) (x2 : Int32) (x3 : Int32) (x4 : Int32) (x5 : Int32) (σ : mS), f_X6_gallant_34 n h0 x1 x2 x3 x4 x5 σ = some z → ∀ (H : Heap) (locs : List Loc) (ls : Array Slot), mP G σ H → mL G locs → lv_has ls 8 [(0, .ref h0), (1, .int x1), (2, .int x2), (3, .int x3), (4, .int x4), (5, .int x5)] → W p l e rm_X6_gallant s m args below meth c H locs 0 0 Q (F0 m 34 ls []) := by
    intro n
    induction n with
    | zero =>
      intro h0 x1 x2 x3 x4 x5 σ h
      exact nomatch (show (none : Option (Int32 × mS)) = some z from h)
    | succ n ih =>
      intro h0 x1 x2 x3 x4 x5 σ h H locs ls hM hL hl
      rw [f_X6_gallant_34.eq_2] at h
      refine lv_iload hx hb dX6_gallant_34 (lv_at hl 5 rfl) ?_
      refine lv_bipush hx hb dX6_gallant_36 kB_6 ?_
      refine lv_icmp_ge (tgt := 111) hx hb dX6_gallant_38 (by decide) (fun c20 => ?_) (fun c20 => ?_)
      · have h := (if_pos c20).symm.trans h
        refine lv_iload_n hx hb dX6_gallant_111 rfl (lv_at hl 2 rfl) ?_
        refine lv_if_ne (tgt := 119) hx hb dX6_gallant_112 (by decide) (fun c21 => ?_) (fun c21 => ?_)
        · have h := (if_neg c21).symm.trans h
          refine lv_iload hx hb dX6_gallant_119 (lv_at hl 4 rfl) ?_
          subst hQ
          have h := Option.some.inj h
          subst h
          exact m_iret hx hb hr hM hL dX6_gallant_121 hlocks
        · have h := (if_pos c21).symm.trans h
          refine lv_iload_n hx hb dX6_gallant_115 rfl (lv_at hl 3 rfl) ?_
          refine lv_goto (tgt := 121) hx hb dX6_gallant_116 (by decide) ?_
          subst hQ
          have h := Option.some.inj h
          subst h
          exact m_iret hx hb hr hM hL dX6_gallant_121 hlocks
      · have h := (if_neg c20).symm.trans h
        refine lv_aload_n hx hb dX6_gallant_41 rfl (lv_at hl 0 rfl) ?_
        refine m_getR (ci := 5) hx hb hU6 hown hK hM rfl 6 (by decide) w1 h dX6_gallant_42 (fun r22 gr22 h => ?_)
        refine lv_iload hx hb dX6_gallant_45 (lv_at hl 5 rfl) ?_
        refine m_iald hx hb hK hM h dX6_gallant_47 (fun v23 gv23 h => ?_)
        refine lv_istore (lv' := [(6, .int v23), (0, .ref h0), (1, .int x1), (2, .int x2), (3, .int x3), (4, .int x4), (5, .int x5)]) hx hb dX6_gallant_48 hl (by decide) rfl (fun ls hl => ?_)
        refine lv_aload_n hx hb dX6_gallant_50 rfl (lv_at hl 1 rfl) ?_
        refine m_getR (ci := 5) hx hb hU6 hown hK hM rfl 6 (by decide) w1 h dX6_gallant_51 (fun r24 gr24 h => ?_)
        refine lv_iload hx hb dX6_gallant_54 (lv_at hl 6 rfl) ?_
        refine lv_bipush hx hb dX6_gallant_56 kB_99 ?_
        refine m_iast hx hb hK hM hL h dX6_gallant_58 (fun t25 H locs h hM hL => ?_)
        refine lv_aload_n hx hb dX6_gallant_59 rfl (lv_at hl 1 rfl) ?_
        refine lv_iload_n hx hb dX6_gallant_60 rfl (lv_at hl 2 rfl) ?_
        obtain ⟨o26, h⟩ := oi_some h
        obtain ⟨q27, hq27, h⟩ := ob_some h
        refine m_calli (va_runV (As := [.int x1]) (rest := []) ⟨hx, hb, hml, hown, hts⟩ (c_X6_admittedBehind l G hq27) (cwV 1 hts gX6_gallant_X6_admittedBehind rfl rfl rfl hd_X6_admittedBehindv ⟨Nat.le_of_ble_eq_true rfl, Nat.le_of_ble_eq_true rfl⟩) (m_preV (ci := 5) hK hM rfl o26) rfl rfl hl.1 rfl (lv_room (Nat.le_of_ble_eq_true rfl)) dX6_gallant_61 ⟨Nat.le_of_ble_eq_true rfl, Nat.le_of_ble_eq_true rfl⟩) hL (fun H locs hM hL => ?_)
        refine lv_istore (lv' := [(7, .int q27.1), (6, .int v23), (0, .ref h0), (1, .int x1), (2, .int x2), (3, .int x3), (4, .int x4), (5, .int x5)]) hx hb dX6_gallant_64 hl (by decide) rfl (fun ls hl => ?_)
        refine lv_aload_n hx hb dX6_gallant_66 rfl (lv_at hl 2 rfl) ?_
        refine m_getR (ci := 5) hx hb hU6 hown hK hM rfl 6 (by decide) w1 h dX6_gallant_67 (fun r28 gr28 h => ?_)
        refine lv_iload hx hb dX6_gallant_70 (lv_at hl 7 rfl) ?_
        refine lv_iload hx hb dX6_gallant_72 (lv_at hl 1 rfl) ?_
        refine m_iast hx hb hK hM hL h dX6_gallant_74 (fun t29 H locs h hM hL => ?_)
        refine lv_iload hx hb dX6_gallant_75 (lv_at hl 0 rfl) ?_
        refine lv_iload hx hb dX6_gallant_77 (lv_at hl 6 rfl) ?_
        suffices hJ : ∀ (v31 : Int32) (ls : Array Slot), v31 = (if q27.1 ≤ x4 then x3 else x5) → lv_has ls 8 [(0, .ref h0), (1, .int x1), (2, .int x2), (4, .int x4), (5, .int x5), (7, .int q27.1)] → W p l e rm_X6_gallant s m args below meth c H locs 0 0 Q (F0 m 88 ls [.int v31]) by
          refine lv_icmp_le (tgt := 87) hx hb dX6_gallant_79 (by decide) (fun c30 => ?_) (fun c30 => ?_)
          · refine lv_iload_n hx hb dX6_gallant_87 rfl (lv_at hl 5 rfl) ?_
            exact hJ _ _ (((if_pos c30).trans rfl).symm) (lv_sub hl [2, 3, 4, 6, 7, 0] rfl)
          · refine lv_iload hx hb dX6_gallant_82 (lv_at hl 7 rfl) ?_
            refine lv_goto (tgt := 88) hx hb dX6_gallant_84 (by decide) ?_
            exact hJ _ _ (((if_neg c30).trans rfl).symm) (lv_sub hl [2, 3, 4, 6, 7, 0] rfl)
        intro v31 ls ev31 hl
        have h := vl_at ev31 h
        refine lv_istore_n (lv' := [(3, .int v31), (0, .ref h0), (1, .int x1), (2, .int x2), (4, .int x4), (5, .int x5), (7, .int q27.1)]) hx hb dX6_gallant_88 rfl hl (by decide) rfl (fun ls hl => ?_)
        refine lv_iload hx hb dX6_gallant_89 (lv_at hl 6 rfl) ?_
        refine lv_iload hx hb dX6_gallant_91 (lv_at hl 4 rfl) ?_
        suffices hJ : ∀ (v33 : Int32) (ls : Array Slot), v33 = (if q27.1 ≤ x4 then x4 else q27.1) → lv_has ls 8 [(0, .ref h0), (1, .int x1), (2, .int x2), (3, .int v31), (5, .int x5)] → W p l e rm_X6_gallant s m args below meth c H locs 0 0 Q (F0 m 103 ls [.int v33]) by
          refine lv_icmp_le (tgt := 101) hx hb dX6_gallant_93 (by decide) (fun c32 => ?_) (fun c32 => ?_)
          · refine lv_iload hx hb dX6_gallant_101 (lv_at hl 4 rfl) ?_
            exact hJ _ _ (((if_pos c32).trans rfl).symm) (lv_sub hl [1, 2, 3, 0, 5] rfl)
          · refine lv_iload hx hb dX6_gallant_96 (lv_at hl 6 rfl) ?_
            refine lv_goto (tgt := 103) hx hb dX6_gallant_98 (by decide) ?_
            exact hJ _ _ (((if_neg c32).trans rfl).symm) (lv_sub hl [1, 2, 3, 0, 5] rfl)
        intro v33 ls ev33 hl
        have h := vl_at ev33 h
        refine lv_istore (lv' := [(4, .int v33), (0, .ref h0), (1, .int x1), (2, .int x2), (3, .int v31), (5, .int x5)]) hx hb dX6_gallant_103 hl (by decide) rfl (fun ls hl => ?_)
        obtain ⟨v34, ev34⟩ : ∃ y : Int32, y = x5 + (1 : Int32) := ⟨_, rfl⟩
        have h := vl_at ev34 h
        refine lv_iinc (v := v34) (lv' := [(5, .int v34), (4, .int v33), (0, .ref h0), (1, .int x1), (2, .int x2), (3, .int v31)]) hx hb dX6_gallant_105 hl (k := 5) rfl (by rw [ev34, kI_1]) (by decide) rfl (fun ls hl => ?_)
        refine lv_goto (tgt := 34) hx hb dX6_gallant_108 (by decide) ?_
        exact ih _ _ _ _ _ _ _ h _ _ _ hM hL (lv_sub hl [2, 3, 4, 5, 1, 0] rfl)
  rw [f_X6_gallant.eq_1] at h
  refine lv_iload_n hx hb dX6_gallant_0 rfl (lv_at hl 1 rfl) ?_
  refine lv_iconst hx hb dX6_gallant_1 kI_0 ?_
  refine lv_bipush hx hb dX6_gallant_2 kB_40 ?_
  refine m_calli (va_runS (As := [.int x1, .int (0 : Int32), .int (40 : Int32)]) (rest := []) ⟨hx, hb, hml, hown, hts⟩ (c_X6_in l G x1 (0 : Int32) (40 : Int32)) (va_cwS 3 hts gX6_gallant_X6_in rfl rfl rfl hd_X6_in ⟨Nat.le_of_ble_eq_true rfl, Nat.le_of_ble_eq_true rfl⟩) (m_preS hK hM) rfl rfl hl.1 rfl (lv_room (Nat.le_of_ble_eq_true rfl)) dX6_gallant_4 ⟨Nat.le_of_ble_eq_true rfl, Nat.le_of_ble_eq_true rfl⟩) hL (fun H locs hM hL => ?_)
  refine lv_if_eq (tgt := 19) hx hb dX6_gallant_7 (by decide) (fun c35 => ?_) (fun c35 => ?_)
  · have h := (if_pos c35).symm.trans h
    refine lv_bipush hx hb dX6_gallant_19 kB_m2 ?_
    subst hQ
    have h := Option.some.inj h
    subst h
    exact m_iret hx hb hr hM hL dX6_gallant_21 hlocks
  · have h := (if_neg c35).symm.trans h
    refine lv_iload_n hx hb dX6_gallant_10 rfl (lv_at hl 2 rfl) ?_
    refine lv_iconst hx hb dX6_gallant_11 kI_0 ?_
    refine lv_iconst hx hb dX6_gallant_12 kI_1 ?_
    refine m_calli (va_runS (As := [.int x2, .int (0 : Int32), .int (1 : Int32)]) (rest := []) ⟨hx, hb, hml, hown, hts⟩ (c_X6_in l G x2 (0 : Int32) (1 : Int32)) (va_cwS 3 hts gX6_gallant_X6_in rfl rfl rfl hd_X6_in ⟨Nat.le_of_ble_eq_true rfl, Nat.le_of_ble_eq_true rfl⟩) (m_preS hK hM) rfl rfl hl.1 rfl (lv_room (Nat.le_of_ble_eq_true rfl)) dX6_gallant_13 ⟨Nat.le_of_ble_eq_true rfl, Nat.le_of_ble_eq_true rfl⟩) hL (fun H locs hM hL => ?_)
    refine lv_if_ne (tgt := 22) hx hb dX6_gallant_16 (by decide) (fun c36 => ?_) (fun c36 => ?_)
    · have h := (if_neg c36).symm.trans h
      refine lv_iconst hx hb dX6_gallant_22 kI_m1 ?_
      refine lv_istore_n (lv' := [(3, .int (-1 : Int32)), (0, .ref h0), (1, .int x1), (2, .int x2)]) hx hb dX6_gallant_23 rfl hl (by decide) rfl (fun ls hl => ?_)
      refine lv_aload_n hx hb dX6_gallant_24 rfl (lv_at hl 1 rfl) ?_
      refine lv_iload_n hx hb dX6_gallant_25 rfl (lv_at hl 2 rfl) ?_
      obtain ⟨o37, h⟩ := oi_some h
      obtain ⟨q38, hq38, h⟩ := ob_some h
      refine m_calli (va_runV (As := [.int x1]) (rest := []) ⟨hx, hb, hml, hown, hts⟩ (c_X6_admittedBehind l G hq38) (cwV 1 hts gX6_gallant_X6_admittedBehind rfl rfl rfl hd_X6_admittedBehindv ⟨Nat.le_of_ble_eq_true rfl, Nat.le_of_ble_eq_true rfl⟩) (m_preV (ci := 5) hK hM rfl o37) rfl rfl hl.1 rfl (lv_room (Nat.le_of_ble_eq_true rfl)) dX6_gallant_26 ⟨Nat.le_of_ble_eq_true rfl, Nat.le_of_ble_eq_true rfl⟩) hL (fun H locs hM hL => ?_)
      refine lv_istore (lv' := [(4, .int q38.1), (3, .int (-1 : Int32)), (0, .ref h0), (1, .int x1), (2, .int x2)]) hx hb dX6_gallant_29 hl (by decide) rfl (fun ls hl => ?_)
      refine lv_iconst hx hb dX6_gallant_31 kI_0 ?_
      refine lv_istore (lv' := [(5, .int (0 : Int32)), (4, .int q38.1), (3, .int (-1 : Int32)), (0, .ref h0), (1, .int x1), (2, .int x2)]) hx hb dX6_gallant_32 hl (by decide) rfl (fun ls hl => ?_)
      refine hN34 _ _ _ _ _ _ _ _ h _ _ _ hM hL (lv_sub hl [3, 4, 5, 2, 1, 0] rfl)
    · have h := (if_pos c36).symm.trans h
      refine lv_bipush hx hb dX6_gallant_19 kB_m2 ?_
      subst hQ
      have h := Option.some.inj h
      subst h
      exact m_iret hx hb hr hM hL dX6_gallant_21 hlocks
abbrev rm_X6_castBy : Room := { frames := 7, cells := 0, slots := 0, locals := 157 }
set_option maxHeartbeats 4000000 in
set_option maxRecDepth 100000 in
theorem c_X6_castBy (l : Launch) (G : mG) {h0 : Nat} {x1 : Int32} {x2 : Int32} {σ : mS} {z : Int32 × mS} (h : f_X6_castBy h0 x1 x2 σ = some z) : Met l yX6_castBy wsX6_castBy rm_X6_castBy (va_Pc [.ref h0, .int x1, .int x2] (mB G σ)) (mQ G (.returned (some (.int z.1))) z.2) 0 0 (mF G) := by
  refine m_start (cc := cX6_castBy) (maxL := 10) (ret := (some .boolean)) (by decide) rfl [.ref h0, .int x1, .int x2] (Nat.le_of_ble_eq_true rfl) ?_
  intro p e s m args below meth c ls hx hb hr hml hown hts hlocks hnm hK hM hl
  have hown : s.vm.findClass RX6 = some m.cls := hown
  have hnm : meth.name = "castBy" := hnm
  obtain ⟨locs, hlocs⟩ : ∃ l : List Loc, l = [] := ⟨_, rfl⟩
  have hL : mL G locs := by rw [hlocs]; exact mL_nil G
  rw [← hlocs]
  generalize s.heap = H at hM ⊢
  have hl : lv_has ls 10 [(0, .ref h0), (1, .int x1), (2, .int x2)] := hl
  obtain ⟨Q, hQ⟩ : ∃ Q, Q = MQ below (mQ G (.returned (some (.int z.1))) z.2) args s 0 0 (mF G) := ⟨_, rfl⟩
  rw [← hQ]
  have hU6 : ∀ w ∈ wsX60, w.before args s = true := fun w h => hts w (List.mem_cons_of_mem _ (List.mem_append_right _ h))
  have w1 := (hts (.fieldLink RX6 237 "HandkerchiefsDroppedModel" "castDigits" "I") (List.mem_of_getElem? (i := 1) rfl))
  have w2 := (hts (.fieldLink RX6 78 "HandkerchiefsDroppedModel" "witnesses" "I") (List.mem_of_getElem? (i := 2) rfl))
  have hN5 : ∀ (k42 : Nat → Int32 → Int32 → Int32 → Int32 → Int32 → Int32 → Int32 → mS → Option (Int32 × mS)) (hk42 : ∀ (h0 : Nat) (x2 : Int32) (x3 : Int32) (x4 : Int32) (x5 : Int32) (x6 : Int32) (x7 : Int32) (x8 : Int32) (σ : mS), k42 h0 x2 x3 x4 x5 x6 x7 x8 σ = some z → ∀ (H : Heap) (locs : List Loc) (ls : Array Slot), mP G σ H → mL G locs → lv_has ls 10 [(0, .ref h0), (2, .int x2), (3, .int x3), (4, .int x4), (5, .int x5), (6, .int x6), (7, .int x7), (8, .int x8)] → W p l e rm_X6_castBy s m args below meth c H locs 0 0 Q (F0 m 42 ls [])) (n : Nat) (h0 : Nat) (x1 : Int32) (x2 : Int32) (x3 : Int32) (x4 : Int32) (σ : mS), f_X6_castBy_5 k42 n h0 x1 x2 x3 x4 σ = some z → ∀ (H : Heap) (locs : List Loc) (ls : Array Slot), mP G σ H → mL G locs → lv_has ls 10 [(0, .ref h0), (1, .int x1), (2, .int x2), (3, .int x3), (4, .int x4)] → W p l e rm_X6_castBy s m args below meth c H locs 0 0 Q (F0 m 5 ls []) := by
    intro k42 hk42 n
    induction n with
    | zero =>
      intro h0 x1 x2 x3 x4 σ h
      exact nomatch (show (none : Option (Int32 × mS)) = some z from h)
    | succ n ih =>
      intro h0 x1 x2 x3 x4 σ h H locs ls hM hL hl
      rw [f_X6_castBy_5.eq_2] at h
      refine lv_iload hx hb dX6_castBy_5 (lv_at hl 4 rfl) ?_
      refine lv_iload_n hx hb dX6_castBy_7 rfl (lv_at hl 2 rfl) ?_
      refine lv_icmp_ge (tgt := 22) hx hb dX6_castBy_8 (by decide) (fun c38 => ?_) (fun c38 => ?_)
      · have h := (if_pos c38).symm.trans h
        refine lv_iload_n hx hb dX6_castBy_22 rfl (lv_at hl 1 rfl) ?_
        refine lv_istore (lv' := [(4, .int x1), (0, .ref h0), (1, .int x1), (2, .int x2), (3, .int x3)]) hx hb dX6_castBy_23 hl (by decide) rfl (fun ls hl => ?_)
        refine lv_iconst hx hb dX6_castBy_25 kI_0 ?_
        refine lv_istore (lv' := [(5, .int (0 : Int32)), (4, .int x1), (0, .ref h0), (1, .int x1), (2, .int x2), (3, .int x3)]) hx hb dX6_castBy_26 hl (by decide) rfl (fun ls hl => ?_)
        refine lv_iconst hx hb dX6_castBy_28 kI_1 ?_
        refine lv_istore (lv' := [(6, .int (1 : Int32)), (5, .int (0 : Int32)), (4, .int x1), (0, .ref h0), (1, .int x1), (2, .int x2), (3, .int x3)]) hx hb dX6_castBy_29 hl (by decide) rfl (fun ls hl => ?_)
        refine lv_iconst hx hb dX6_castBy_31 kI_0 ?_
        refine lv_istore (lv' := [(7, .int (0 : Int32)), (6, .int (1 : Int32)), (5, .int (0 : Int32)), (4, .int x1), (0, .ref h0), (1, .int x1), (2, .int x2), (3, .int x3)]) hx hb dX6_castBy_32 hl (by decide) rfl (fun ls hl => ?_)
        refine lv_aload_n hx hb dX6_castBy_34 rfl (lv_at hl 4 rfl) ?_
        refine lv_iconst hx hb dX6_castBy_35 kI_0 ?_
        refine m_put (ci := 5) hx hb hU6 tyX6 tyX6_ok nmX6 hown hK hM hL rfl 35 (by decide) w1 rfl rfl rfl h dX6_castBy_36 (fun t39 H locs h hM hL => ?_)
        refine lv_iconst hx hb dX6_castBy_39 kI_0 ?_
        refine lv_istore (lv' := [(8, .int (0 : Int32)), (7, .int (0 : Int32)), (6, .int (1 : Int32)), (5, .int (0 : Int32)), (4, .int x1), (0, .ref h0), (1, .int x1), (2, .int x2), (3, .int x3)]) hx hb dX6_castBy_40 hl (by decide) rfl (fun ls hl => ?_)
        exact hk42 _ _ _ _ _ _ _ _ _ h _ _ _ hM hL (lv_sub hl [5, 7, 8, 4, 3, 2, 1, 0] rfl)
      · have h := (if_neg c38).symm.trans h
        refine lv_iload_n hx hb dX6_castBy_11 rfl (lv_at hl 3 rfl) ?_
        refine lv_bipush hx hb dX6_castBy_12 kB_7 ?_
        refine lv_imul hx hb dX6_castBy_14 ?_
        refine lv_topi (fun v40 ev40 => ?_)
        have h := vl_at ev40 h
        refine lv_istore_n (lv' := [(3, .int v40), (0, .ref h0), (1, .int x1), (2, .int x2), (4, .int x4)]) hx hb dX6_castBy_15 rfl hl (by decide) rfl (fun ls hl => ?_)
        obtain ⟨v41, ev41⟩ : ∃ y : Int32, y = x4 + (1 : Int32) := ⟨_, rfl⟩
        have h := vl_at ev41 h
        refine lv_iinc (v := v41) (lv' := [(4, .int v41), (3, .int v40), (0, .ref h0), (1, .int x1), (2, .int x2)]) hx hb dX6_castBy_16 hl (k := 4) rfl (by rw [ev41, kI_1]) (by decide) rfl (fun ls hl => ?_)
        refine lv_goto (tgt := 5) hx hb dX6_castBy_19 (by decide) ?_
        exact ih _ _ _ _ _ _ h _ _ _ hM hL (lv_sub hl [2, 3, 4, 1, 0] rfl)
  have hN159 : ∀ (k42 : Nat → Int32 → Int32 → Int32 → Int32 → Int32 → Int32 → Int32 → mS → Option (Int32 × mS)) (hk42 : ∀ (h0 : Nat) (x2 : Int32) (x3 : Int32) (x4 : Int32) (x5 : Int32) (x6 : Int32) (x7 : Int32) (x8 : Int32) (σ : mS), k42 h0 x2 x3 x4 x5 x6 x7 x8 σ = some z → ∀ (H : Heap) (locs : List Loc) (ls : Array Slot), mP G σ H → mL G locs → lv_has ls 10 [(0, .ref h0), (2, .int x2), (3, .int x3), (4, .int x4), (5, .int x5), (6, .int x6), (7, .int x7), (8, .int x8)] → W p l e rm_X6_castBy s m args below meth c H locs 0 0 Q (F0 m 42 ls [])) (h0 : Nat) (x2 : Int32) (x3 : Int32) (x4 : Int32) (x5 : Int32) (x6 : Int32) (x7 : Int32) (x8 : Int32) (x9 : Int32) (σ : mS), f_X6_castBy_159 k42 h0 x2 x3 x4 x5 x6 x7 x8 x9 σ = some z → ∀ (H : Heap) (locs : List Loc) (ls : Array Slot), mP G σ H → mL G locs → lv_has ls 10 [(0, .ref h0), (2, .int x2), (3, .int x3), (4, .int x4), (5, .int x5), (6, .int x6), (7, .int x7), (8, .int x8), (9, .int x9)] → W p l e rm_X6_castBy s m args below meth c H locs 0 0 Q (F0 m 159 ls []) := by
    intro k42 hk42 h0 x2 x3 x4 x5 x6 x7 x8 x9 σ h H locs ls hM hL hl
    rw [f_X6_castBy_159.eq_1] at h
    refine lv_iload hx hb dX6_castBy_159 (lv_at hl 5 rfl) ?_
    refine lv_if_eq (tgt := 201) hx hb dX6_castBy_161 (by decide) (fun c42 => ?_) (fun c42 => ?_)
    · have h := (if_pos c42).symm.trans h
      obtain ⟨v43, ev43⟩ : ∃ y : Int32, y = x8 + (1 : Int32) := ⟨_, rfl⟩
      have h := vl_at ev43 h
      refine lv_iinc (v := v43) (lv' := [(8, .int v43), (0, .ref h0), (2, .int x2), (3, .int x3), (4, .int x4), (5, .int x5), (6, .int x6), (7, .int x7), (9, .int x9)]) hx hb dX6_castBy_201 hl (k := 7) rfl (by rw [ev43, kI_1]) (by decide) rfl (fun ls hl => ?_)
      refine lv_goto (tgt := 42) hx hb dX6_castBy_204 (by decide) ?_
      exact hk42 _ _ _ _ _ _ _ _ _ h _ _ _ hM hL (lv_sub hl [1, 2, 3, 4, 5, 6, 7, 0] rfl)
    · have h := (if_neg c42).symm.trans h
      refine lv_aload_n hx hb dX6_castBy_164 rfl (lv_at hl 0 rfl) ?_
      refine lv_iload hx hb dX6_castBy_165 (lv_at hl 8 rfl) ?_
      obtain ⟨o44, h⟩ := oi_some h
      obtain ⟨q45, hq45, h⟩ := ob_some h
      refine m_calli (va_runV (As := [.int x9]) (rest := []) ⟨hx, hb, hml, hown, hts⟩ (c_X6_dropOf l G hq45) (cwV 1 hts gX6_castBy_X6_dropOf rfl rfl rfl hd_X6_dropOfv ⟨Nat.le_of_ble_eq_true rfl, Nat.le_of_ble_eq_true rfl⟩) (m_preV (ci := 5) hK hM rfl o44) rfl rfl hl.1 rfl (lv_room (Nat.le_of_ble_eq_true rfl)) dX6_castBy_167 ⟨Nat.le_of_ble_eq_true rfl, Nat.le_of_ble_eq_true rfl⟩) hL (fun H locs hM hL => ?_)
      refine lv_pop hx hb dX6_castBy_170 rfl ?_
      refine lv_aload_n hx hb dX6_castBy_171 rfl (lv_at hl 0 rfl) ?_
      obtain ⟨o46, h⟩ := oi_some h
      obtain ⟨q47, hq47, h⟩ := ob_some h
      refine m_calli (va_runV (As := []) (rest := []) ⟨hx, hb, hml, hown, hts⟩ (c_X6_hourOf l G hq47) (cwV 0 hts gX6_castBy_X6_hourOf rfl rfl rfl hd_X6_hourOfv ⟨Nat.le_of_ble_eq_true rfl, Nat.le_of_ble_eq_true rfl⟩) (m_preV (ci := 5) hK hM rfl o46) rfl rfl hl.1 rfl (lv_room (Nat.le_of_ble_eq_true rfl)) dX6_castBy_172 ⟨Nat.le_of_ble_eq_true rfl, Nat.le_of_ble_eq_true rfl⟩) hL (fun H locs hM hL => ?_)
      refine lv_pop hx hb dX6_castBy_175 rfl ?_
      refine lv_iload hx hb dX6_castBy_176 (lv_at hl 4 rfl) ?_
      refine lv_iconst hx hb dX6_castBy_178 kI_1 ?_
      refine lv_iload hx hb dX6_castBy_179 (lv_at hl 8 rfl) ?_
      refine lv_ishl hx hb dX6_castBy_181 ?_
      refine lv_ior hx hb dX6_castBy_182 ?_
      refine lv_topi (fun v48 ev48 => ?_)
      have h := vl_at ev48 h
      refine lv_istore (lv' := [(5, .int v48), (0, .ref h0), (2, .int x2), (3, .int x3), (4, .int x4), (6, .int x6), (7, .int x7), (8, .int x8), (9, .int x9)]) hx hb dX6_castBy_183 hl (by decide) rfl (fun ls hl => ?_)
      refine lv_aload_n hx hb dX6_castBy_185 rfl (lv_at hl 1 rfl) ?_
      refine lv_bipush hx hb dX6_castBy_186 kB_10 ?_
      refine lv_aload_n hx hb dX6_castBy_188 rfl (lv_at hl 1 rfl) ?_
      refine m_getI (ci := 5) hx hb hU6 hown hK hM rfl 35 (by decide) w1 h dX6_castBy_189 (fun v49 gv49 h => ?_)
      refine lv_imul hx hb dX6_castBy_192 ?_
      refine lv_iload hx hb dX6_castBy_193 (lv_at hl 8 rfl) ?_
      refine lv_iadd hx hb dX6_castBy_195 ?_
      refine lv_iconst hx hb dX6_castBy_196 kI_1 ?_
      refine lv_iadd hx hb dX6_castBy_197 ?_
      refine m_put (ci := 5) hx hb hU6 tyX6 tyX6_ok nmX6 hown hK hM hL rfl 35 (by decide) w1 rfl rfl rfl h dX6_castBy_198 (fun t50 H locs h hM hL => ?_)
      obtain ⟨v51, ev51⟩ : ∃ y : Int32, y = x8 + (1 : Int32) := ⟨_, rfl⟩
      have h := vl_at ev51 h
      refine lv_iinc (v := v51) (lv' := [(8, .int v51), (5, .int v48), (0, .ref h0), (2, .int x2), (3, .int x3), (4, .int x4), (6, .int x6), (7, .int x7), (9, .int x9)]) hx hb dX6_castBy_201 hl (k := 7) rfl (by rw [ev51, kI_1]) (by decide) rfl (fun ls hl => ?_)
      refine lv_goto (tgt := 42) hx hb dX6_castBy_204 (by decide) ?_
      exact hk42 _ _ _ _ _ _ _ _ _ h _ _ _ hM hL (lv_sub hl [2, 3, 4, 5, 1, 6, 7, 0] rfl)
  have hN144 : ∀ (k42 : Nat → Int32 → Int32 → Int32 → Int32 → Int32 → Int32 → Int32 → mS → Option (Int32 × mS)) (hk42 : ∀ (h0 : Nat) (x2 : Int32) (x3 : Int32) (x4 : Int32) (x5 : Int32) (x6 : Int32) (x7 : Int32) (x8 : Int32) (σ : mS), k42 h0 x2 x3 x4 x5 x6 x7 x8 σ = some z → ∀ (H : Heap) (locs : List Loc) (ls : Array Slot), mP G σ H → mL G locs → lv_has ls 10 [(0, .ref h0), (2, .int x2), (3, .int x3), (4, .int x4), (5, .int x5), (6, .int x6), (7, .int x7), (8, .int x8)] → W p l e rm_X6_castBy s m args below meth c H locs 0 0 Q (F0 m 42 ls [])) (h0 : Nat) (x2 : Int32) (x3 : Int32) (x4 : Int32) (x5 : Int32) (x7 : Int32) (x8 : Int32) (x9 : Int32) (s0 : Int32) (σ : mS), f_X6_castBy_144 k42 h0 x2 x3 x4 x5 x7 x8 x9 s0 σ = some z → ∀ (H : Heap) (locs : List Loc) (ls : Array Slot), mP G σ H → mL G locs → lv_has ls 10 [(0, .ref h0), (2, .int x2), (3, .int x3), (4, .int x4), (5, .int x5), (7, .int x7), (8, .int x8), (9, .int x9)] → W p l e rm_X6_castBy s m args below meth c H locs 0 0 Q (F0 m 144 ls [.int s0]) := by
    intro k42 hk42 h0 x2 x3 x4 x5 x7 x8 x9 s0 σ h H locs ls hM hL hl
    rw [f_X6_castBy_144.eq_1] at h
    refine lv_istore (lv' := [(6, .int s0), (0, .ref h0), (2, .int x2), (3, .int x3), (4, .int x4), (5, .int x5), (7, .int x7), (8, .int x8), (9, .int x9)]) hx hb dX6_castBy_144 hl (by decide) rfl (fun ls hl => ?_)
    refine lv_iload hx hb dX6_castBy_146 (lv_at hl 0 rfl) ?_
    refine lv_if_eq (tgt := 159) hx hb dX6_castBy_148 (by decide) (fun c52 => ?_) (fun c52 => ?_)
    · have h := (if_pos c52).symm.trans h
      refine hN159 _ hk42 _ _ _ _ _ _ _ _ _ _ h _ _ _ hM hL (lv_sub hl [1, 2, 3, 4, 5, 0, 6, 7, 8] rfl)
    · have h := (if_neg c52).symm.trans h
      refine lv_aload_n hx hb dX6_castBy_151 rfl (lv_at hl 1 rfl) ?_
      refine lv_iload hx hb dX6_castBy_152 (lv_at hl 8 rfl) ?_
      obtain ⟨o53, h⟩ := oi_some h
      obtain ⟨q54, hq54, h⟩ := ob_some h
      refine m_calli (va_runV (As := [.int x9]) (rest := []) ⟨hx, hb, hml, hown, hts⟩ (c_X6_can l G hq54) (cwV 1 hts gX6_castBy_X6_can rfl rfl rfl hd_X6_canv ⟨Nat.le_of_ble_eq_true rfl, Nat.le_of_ble_eq_true rfl⟩) (m_preV (ci := 5) hK hM rfl o53) rfl rfl hl.1 rfl (lv_room (Nat.le_of_ble_eq_true rfl)) dX6_castBy_154 ⟨Nat.le_of_ble_eq_true rfl, Nat.le_of_ble_eq_true rfl⟩) hL (fun H locs hM hL => ?_)
      refine lv_istore (lv' := [(6, .int q54), (0, .ref h0), (2, .int x2), (3, .int x3), (4, .int x4), (5, .int x5), (7, .int x7), (8, .int x8), (9, .int x9)]) hx hb dX6_castBy_157 hl (by decide) rfl (fun ls hl => ?_)
      refine hN159 _ hk42 _ _ _ _ _ _ _ _ _ _ h _ _ _ hM hL (lv_sub hl [1, 2, 3, 4, 5, 0, 6, 7, 8] rfl)
  have hN42 : ∀ (n : Nat) (h0 : Nat) (x2 : Int32) (x3 : Int32) (x4 : Int32) (x5 : Int32) (x6 : Int32) (x7 : Int32) (x8 : Int32) (σ : mS), f_X6_castBy_42 n h0 x2 x3 x4 x5 x6 x7 x8 σ = some z → ∀ (H : Heap) (locs : List Loc) (ls : Array Slot), mP G σ H → mL G locs → lv_has ls 10 [(0, .ref h0), (2, .int x2), (3, .int x3), (4, .int x4), (5, .int x5), (6, .int x6), (7, .int x7), (8, .int x8)] → W p l e rm_X6_castBy s m args below meth c H locs 0 0 Q (F0 m 42 ls []) := by
    intro n
    induction n with
    | zero =>
      intro h0 x2 x3 x4 x5 x6 x7 x8 σ h
      exact nomatch (show (none : Option (Int32 × mS)) = some z from h)
    | succ n ih =>
      intro h0 x2 x3 x4 x5 x6 x7 x8 σ h H locs ls hM hL hl
      rw [f_X6_castBy_42.eq_2] at h
      refine lv_iload hx hb dX6_castBy_42 (lv_at hl 7 rfl) ?_
      refine lv_iload_n hx hb dX6_castBy_44 rfl (lv_at hl 1 rfl) ?_
      refine lv_icmp_ge (tgt := 207) hx hb dX6_castBy_45 (by decide) (fun c55 => ?_) (fun c55 => ?_)
      · have h := (if_pos c55).symm.trans h
        refine lv_iload hx hb dX6_castBy_207 (lv_at hl 5 rfl) ?_
        obtain ⟨n56, h⟩ := oi_some h
        subst hQ
        have h := Option.some.inj h
        subst h
        exact m_zret (x := x6) hx hb hr (zn_of n56) hM hL dX6_castBy_209 hlocks
      · have h := (if_neg c55).symm.trans h
        refine lv_iload hx hb dX6_castBy_48 (lv_at hl 5 rfl) ?_
        refine lv_if_eq (tgt := 207) hx hb dX6_castBy_50 (by decide) (fun c57 => ?_) (fun c57 => ?_)
        · have h := (if_pos c57).symm.trans h
          refine lv_iload hx hb dX6_castBy_207 (lv_at hl 5 rfl) ?_
          obtain ⟨n58, h⟩ := oi_some h
          subst hQ
          have h := Option.some.inj h
          subst h
          exact m_zret (x := x6) hx hb hr (zn_of n58) hM hL dX6_castBy_209 hlocks
        · have h := (if_neg c57).symm.trans h
          refine lv_iload hx hb dX6_castBy_53 (lv_at hl 3 rfl) ?_
          refine lv_iload_n hx hb dX6_castBy_55 rfl (lv_at hl 2 rfl) ?_
          obtain ⟨n59, h⟩ := on_some h
          refine lv_idiv hx hb dX6_castBy_56 n59 ?_
          refine lv_iconst hx hb dX6_castBy_57 kI_0 ?_
          refine lv_bipush hx hb dX6_castBy_58 kB_6 ?_
          refine m_calli (va_runS (As := [.int (x4 / x3), .int (0 : Int32), .int (6 : Int32)]) (rest := []) ⟨hx, hb, hml, hown, hts⟩ (c_X6_within l G (x4 / x3) (0 : Int32) (6 : Int32)) (va_cwS 3 hts gX6_castBy_X6_within rfl rfl rfl hd_X6_within ⟨Nat.le_of_ble_eq_true rfl, Nat.le_of_ble_eq_true rfl⟩) (m_preS hK hM) rfl rfl hl.1 rfl (lv_room (Nat.le_of_ble_eq_true rfl)) dX6_castBy_60 ⟨Nat.le_of_ble_eq_true rfl, Nat.le_of_ble_eq_true rfl⟩) hL (fun H locs hM hL => ?_)
          refine lv_iconst hx hb dX6_castBy_63 kI_1 ?_
          refine lv_isub hx hb dX6_castBy_64 ?_
          refine lv_topi (fun v60 ev60 => ?_)
          have h := vl_at ev60 h
          refine lv_istore (lv' := [(9, .int v60), (0, .ref h0), (2, .int x2), (3, .int x3), (4, .int x4), (5, .int x5), (6, .int x6), (7, .int x7), (8, .int x8)]) hx hb dX6_castBy_65 hl (by decide) rfl (fun ls hl => ?_)
          refine lv_iload hx hb dX6_castBy_67 (lv_at hl 4 rfl) ?_
          refine lv_iload_n hx hb dX6_castBy_69 rfl (lv_at hl 3 rfl) ?_
          obtain ⟨n61, h⟩ := on_some h
          refine lv_irem hx hb dX6_castBy_70 n61 ?_
          refine lv_topi (fun v62 ev62 => ?_)
          have h := vl_at ev62 h
          refine lv_istore (lv' := [(4, .int v62), (9, .int v60), (0, .ref h0), (2, .int x2), (3, .int x3), (5, .int x5), (6, .int x6), (7, .int x7), (8, .int x8)]) hx hb dX6_castBy_71 hl (by decide) rfl (fun ls hl => ?_)
          refine lv_iload_n hx hb dX6_castBy_73 rfl (lv_at hl 4 rfl) ?_
          refine lv_iconst hx hb dX6_castBy_74 kI_1 ?_
          suffices hJ : ∀ (v64 : Int32) (ls : Array Slot), v64 = (if x3 ≤ (1 : Int32) then (1 : Int32) else (x3 / (7 : Int32))) → lv_has ls 10 [(0, .ref h0), (2, .int x2), (4, .int v62), (5, .int x5), (7, .int x7), (8, .int x8), (9, .int v60)] → W p l e rm_X6_castBy s m args below meth c H locs 0 0 Q (F0 m 86 ls [.int v64]) by
            refine lv_icmp_le (tgt := 85) hx hb dX6_castBy_75 (by decide) (fun c63 => ?_) (fun c63 => ?_)
            · refine lv_iconst hx hb dX6_castBy_85 kI_1 ?_
              exact hJ _ _ (((if_pos c63).trans rfl).symm) (lv_sub hl [2, 3, 0, 5, 7, 8, 1] rfl)
            · refine lv_iload_n hx hb dX6_castBy_78 rfl (lv_at hl 4 rfl) ?_
              refine lv_bipush hx hb dX6_castBy_79 kB_7 ?_
              refine lv_idiv hx hb dX6_castBy_81 (by decide) ?_
              refine lv_goto (tgt := 86) hx hb dX6_castBy_82 (by decide) ?_
              exact hJ _ _ (((if_neg c63).trans rfl).symm) (lv_sub hl [2, 3, 0, 5, 7, 8, 1] rfl)
          intro v64 ls ev64 hl
          have h := vl_at ev64 h
          refine lv_istore_n (lv' := [(3, .int v64), (0, .ref h0), (2, .int x2), (4, .int v62), (5, .int x5), (7, .int x7), (8, .int x8), (9, .int v60)]) hx hb dX6_castBy_86 rfl hl (by decide) rfl (fun ls hl => ?_)
          refine lv_iload hx hb dX6_castBy_87 (lv_at hl 5 rfl) ?_
          refine lv_iload hx hb dX6_castBy_89 (lv_at hl 7 rfl) ?_
          refine lv_iconst hx hb dX6_castBy_91 kI_m1 ?_
          suffices hJ : ∀ (v66 : Int32) (ls : Array Slot), v66 = (if v60 = (-1 : Int32) then (1 : Int32) else (0 : Int32)) → lv_has ls 10 [(0, .ref h0), (2, .int x2), (3, .int v64), (4, .int v62), (5, .int x5), (8, .int x8), (9, .int v60)] → W p l e rm_X6_castBy s m args below meth c H locs 0 0 Q (F0 m 100 ls [.int v66, .int x7]) by
            refine lv_icmp_ne (tgt := 99) hx hb dX6_castBy_92 (by decide) (fun c65 => ?_) (fun c65 => ?_)
            · refine lv_iconst hx hb dX6_castBy_99 kI_0 ?_
              exact hJ _ _ (((if_neg c65).trans rfl).symm) (lv_sub hl [1, 2, 0, 3, 4, 6, 7] rfl)
            · refine lv_iconst hx hb dX6_castBy_95 kI_1 ?_
              refine lv_goto (tgt := 100) hx hb dX6_castBy_96 (by decide) ?_
              exact hJ _ _ (((if_pos c65).trans rfl).symm) (lv_sub hl [1, 2, 0, 3, 4, 6, 7] rfl)
          intro v66 ls ev66 hl
          have h := vl_at ev66 h
          refine lv_ior hx hb dX6_castBy_100 ?_
          refine lv_topi (fun v67 ev67 => ?_)
          have h := vl_at ev67 h
          refine lv_istore (lv' := [(7, .int v67), (0, .ref h0), (2, .int x2), (3, .int v64), (4, .int v62), (5, .int x5), (8, .int x8), (9, .int v60)]) hx hb dX6_castBy_101 hl (by decide) rfl (fun ls hl => ?_)
          refine lv_iload hx hb dX6_castBy_103 (lv_at hl 7 rfl) ?_
          refine lv_iconst hx hb dX6_castBy_105 kI_m1 ?_
          refine lv_icmp_ne (tgt := 115) hx hb dX6_castBy_106 (by decide) (fun c68 => ?_) (fun c68 => ?_)
          · have h := (if_neg c68).symm.trans h
            refine lv_iload hx hb dX6_castBy_115 (lv_at hl 0 rfl) ?_
            refine lv_if_ne (tgt := 143) hx hb dX6_castBy_117 (by decide) (fun c69 => ?_) (fun c69 => ?_)
            · have h := (if_neg c69).symm.trans h
              refine lv_iconst hx hb dX6_castBy_143 kI_0 ?_
              refine hN144 _ (fun _ _ _ _ _ _ _ _ _ h H locs ls hM hL hl => ih _ _ _ _ _ _ _ _ _ h H locs ls hM hL hl) _ _ _ _ _ _ _ _ _ _ h _ _ _ hM hL (lv_sub hl [1, 2, 3, 4, 5, 0, 6, 7] rfl)
            · have h := (if_pos c69).symm.trans h
              refine lv_iload hx hb dX6_castBy_120 (lv_at hl 7 rfl) ?_
              refine lv_aload_n hx hb dX6_castBy_122 rfl (lv_at hl 1 rfl) ?_
              refine m_getI (ci := 5) hx hb hU6 hown hK hM rfl 0 (by decide) w2 h dX6_castBy_123 (fun v70 gv70 h => ?_)
              suffices hJ : ∀ (v73 : Int32) (ls : Array Slot), v73 = (if v70 ≤ v60 then (0 : Int32) else if ((x5 >>> (v60 &&& 31)) &&& (1 : Int32)) = 0 then (1 : Int32) else (0 : Int32)) → lv_has ls 10 [(0, .ref h0), (2, .int x2), (3, .int v64), (4, .int v62), (5, .int x5), (7, .int v67), (8, .int x8), (9, .int v60)] → W p l e rm_X6_castBy s m args below meth c H locs 0 0 Q (F0 m 144 ls [.int v73]) by
                refine lv_icmp_ge (tgt := 143) hx hb dX6_castBy_126 (by decide) (fun c71 => ?_) (fun c71 => ?_)
                · refine lv_iconst hx hb dX6_castBy_143 kI_0 ?_
                  exact hJ _ _ (((if_pos c71).trans rfl).symm) (lv_sub hl [1, 2, 3, 4, 5, 0, 6, 7] rfl)
                · refine lv_iload hx hb dX6_castBy_129 (lv_at hl 5 rfl) ?_
                  refine lv_iload hx hb dX6_castBy_131 (lv_at hl 7 rfl) ?_
                  refine lv_ishr hx hb dX6_castBy_133 ?_
                  refine lv_iconst hx hb dX6_castBy_134 kI_1 ?_
                  refine lv_iand hx hb dX6_castBy_135 ?_
                  refine lv_if_ne (tgt := 143) hx hb dX6_castBy_136 (by decide) (fun c72 => ?_) (fun c72 => ?_)
                  · refine lv_iconst hx hb dX6_castBy_143 kI_0 ?_
                    exact hJ _ _ (((if_neg c71).trans ((if_neg c72).trans rfl)).symm) (lv_sub hl [1, 2, 3, 4, 5, 0, 6, 7] rfl)
                  · refine lv_iconst hx hb dX6_castBy_139 kI_1 ?_
                    refine lv_goto (tgt := 144) hx hb dX6_castBy_140 (by decide) ?_
                    exact hJ _ _ (((if_neg c71).trans ((if_pos c72).trans rfl)).symm) (lv_sub hl [1, 2, 3, 4, 5, 0, 6, 7] rfl)
              intro v73 ls ev73 hl
              have h := vl_at ev73 h
              refine hN144 _ (fun _ _ _ _ _ _ _ _ _ h H locs ls hM hL hl => ih _ _ _ _ _ _ _ _ _ h H locs ls hM hL hl) _ _ _ _ _ _ _ _ _ _ h _ _ _ hM hL (lv_sub hl [0, 1, 2, 3, 4, 5, 6, 7] rfl)
          · have h := (if_pos c68).symm.trans h
            refine lv_iconst hx hb dX6_castBy_109 kI_1 ?_
            refine lv_istore (lv' := [(6, .int (1 : Int32)), (7, .int v67), (0, .ref h0), (2, .int x2), (3, .int v64), (4, .int v62), (5, .int x5), (8, .int x8), (9, .int v60)]) hx hb dX6_castBy_110 hl (by decide) rfl (fun ls hl => ?_)
            refine lv_goto (tgt := 201) hx hb dX6_castBy_112 (by decide) ?_
            obtain ⟨v74, ev74⟩ : ∃ y : Int32, y = x8 + (1 : Int32) := ⟨_, rfl⟩
            have h := vl_at ev74 h
            refine lv_iinc (v := v74) (lv' := [(8, .int v74), (6, .int (1 : Int32)), (7, .int v67), (0, .ref h0), (2, .int x2), (3, .int v64), (4, .int v62), (5, .int x5), (9, .int v60)]) hx hb dX6_castBy_201 hl (k := 7) rfl (by rw [ev74, kI_1]) (by decide) rfl (fun ls hl => ?_)
            refine lv_goto (tgt := 42) hx hb dX6_castBy_204 (by decide) ?_
            exact ih _ _ _ _ _ _ _ _ _ h _ _ _ hM hL (lv_sub hl [3, 4, 5, 6, 7, 1, 2, 0] rfl)
  rw [f_X6_castBy.eq_1] at h
  refine lv_iconst hx hb dX6_castBy_0 kI_1 ?_
  refine lv_istore_n (lv' := [(3, .int (1 : Int32)), (0, .ref h0), (1, .int x1), (2, .int x2)]) hx hb dX6_castBy_1 rfl hl (by decide) rfl (fun ls hl => ?_)
  refine lv_iconst hx hb dX6_castBy_2 kI_1 ?_
  refine lv_istore (lv' := [(4, .int (1 : Int32)), (3, .int (1 : Int32)), (0, .ref h0), (1, .int x1), (2, .int x2)]) hx hb dX6_castBy_3 hl (by decide) rfl (fun ls hl => ?_)
  refine hN5 _ (fun _ _ _ _ _ _ _ _ _ h H locs ls hM hL hl => hN42 _ _ _ _ _ _ _ _ _ _ h H locs ls hM hL hl) _ _ _ _ _ _ _ h _ _ _ hM hL (lv_sub hl [2, 3, 4, 1, 0] rfl)
abbrev rm_X6_cast : Room := { frames := 8, cells := 0, slots := 0, locals := 186 }
set_option maxHeartbeats 4000000 in
set_option maxRecDepth 100000 in
theorem c_X6_cast (l : Launch) (G : mG) {h0 : Nat} {x1 : Int32} {x2 : Int32} {σ : mS} {z : Int32 × mS} (h : f_X6_cast h0 x1 x2 σ = some z) : Met l yX6_cast wsX6_cast rm_X6_cast (va_Pc [.ref h0, .int x1, .int x2] (mB G σ)) (mQ G (.returned (some (.int z.1))) z.2) 0 0 (mF G) := by
  refine m_start (cc := cX6_cast) (maxL := 9) (ret := (some .int)) (by decide) rfl [.ref h0, .int x1, .int x2] (Nat.le_of_ble_eq_true rfl) ?_
  intro p e s m args below meth c ls hx hb hr hml hown hts hlocks hnm hK hM hl
  have hown : s.vm.findClass RX6 = some m.cls := hown
  have hnm : meth.name = "cast" := hnm
  obtain ⟨locs, hlocs⟩ : ∃ l : List Loc, l = [] := ⟨_, rfl⟩
  have hL : mL G locs := by rw [hlocs]; exact mL_nil G
  rw [← hlocs]
  generalize s.heap = H at hM ⊢
  have hl : lv_has ls 9 [(0, .ref h0), (1, .int x1), (2, .int x2)] := hl
  obtain ⟨Q, hQ⟩ : ∃ Q, Q = MQ below (mQ G (.returned (some (.int z.1))) z.2) args s 0 0 (mF G) := ⟨_, rfl⟩
  rw [← hQ]
  have hU6 : ∀ w ∈ wsX60, w.before args s = true := fun w h => hts w (List.mem_cons_of_mem _ (List.mem_append_right _ h))
  have w1 := (hts (.fieldLink RX6 109 "HandkerchiefsDroppedModel" "admitted" "I") (List.mem_of_getElem? (i := 1) rfl))
  have w2 := (hts (.fieldLink RX6 243 "HandkerchiefsDroppedModel" "castVerdict" "I") (List.mem_of_getElem? (i := 2) rfl))
  have w3 := (hts (.fieldLink RX6 237 "HandkerchiefsDroppedModel" "castDigits" "I") (List.mem_of_getElem? (i := 3) rfl))
  have hN159 : ∀ (k67 : Nat → Int32 → Int32 → Int32 → Int32 → Int32 → Int32 → mS → Option (Int32 × mS)) (hk67 : ∀ (h0 : Nat) (x1 : Int32) (x2 : Int32) (x3 : Int32) (x4 : Int32) (x5 : Int32) (x6 : Int32) (σ : mS), k67 h0 x1 x2 x3 x4 x5 x6 σ = some z → ∀ (H : Heap) (locs : List Loc) (ls : Array Slot), mP G σ H → mL G locs → lv_has ls 9 [(0, .ref h0), (1, .int x1), (2, .int x2), (3, .int x3), (4, .int x4), (5, .int x5), (6, .int x6)] → W p l e rm_X6_cast s m args below meth c H locs 0 0 Q (F0 m 67 ls [])) (h0 : Nat) (x1 : Int32) (x2 : Int32) (x3 : Int32) (x4 : Int32) (x5 : Int32) (x6 : Int32) (σ : mS), f_X6_cast_159 k67 h0 x1 x2 x3 x4 x5 x6 σ = some z → ∀ (H : Heap) (locs : List Loc) (ls : Array Slot), mP G σ H → mL G locs → lv_has ls 9 [(0, .ref h0), (1, .int x1), (2, .int x2), (3, .int x3), (4, .int x4), (5, .int x5), (6, .int x6)] → W p l e rm_X6_cast s m args below meth c H locs 0 0 Q (F0 m 159 ls []) := by
    intro k67 hk67 h0 x1 x2 x3 x4 x5 x6 σ h H locs ls hM hL hl
    rw [f_X6_cast_159.eq_1] at h
    refine lv_aload_n hx hb dX6_cast_159 rfl (lv_at hl 0 rfl) ?_
    obtain ⟨o31, h⟩ := oi_some h
    obtain ⟨q32, hq32, h⟩ := ob_some h
    refine m_callv (va_runV (As := []) (rest := []) ⟨hx, hb, hml, hown, hts⟩ (c_X6_lays l G hq32) (cwV 0 hts gX6_cast_X6_lays rfl rfl rfl hd_X6_laysv ⟨Nat.le_of_ble_eq_true rfl, Nat.le_of_ble_eq_true rfl⟩) (m_preV (ci := 5) hK hM rfl o31) rfl rfl hl.1 rfl (lv_room (Nat.le_of_ble_eq_true rfl)) dX6_cast_160 ⟨Nat.le_of_ble_eq_true rfl, Nat.le_of_ble_eq_true rfl⟩) hL (fun H locs hM hL => ?_)
    obtain ⟨v33, ev33⟩ : ∃ y : Int32, y = x6 + (1 : Int32) := ⟨_, rfl⟩
    have h := vl_at ev33 h
    refine lv_iinc (v := v33) (lv' := [(6, .int v33), (0, .ref h0), (1, .int x1), (2, .int x2), (3, .int x3), (4, .int x4), (5, .int x5)]) hx hb dX6_cast_163 hl (k := 6) rfl (by rw [ev33, kI_1]) (by decide) rfl (fun ls hl => ?_)
    refine lv_goto (tgt := 67) hx hb dX6_cast_166 (by decide) ?_
    exact hk67 _ _ _ _ _ _ _ _ h _ _ _ hM hL (lv_sub hl [1, 2, 3, 4, 5, 6, 0] rfl)
  have hN157 : ∀ (k67 : Nat → Int32 → Int32 → Int32 → Int32 → Int32 → Int32 → mS → Option (Int32 × mS)) (hk67 : ∀ (h0 : Nat) (x1 : Int32) (x2 : Int32) (x3 : Int32) (x4 : Int32) (x5 : Int32) (x6 : Int32) (σ : mS), k67 h0 x1 x2 x3 x4 x5 x6 σ = some z → ∀ (H : Heap) (locs : List Loc) (ls : Array Slot), mP G σ H → mL G locs → lv_has ls 9 [(0, .ref h0), (1, .int x1), (2, .int x2), (3, .int x3), (4, .int x4), (5, .int x5), (6, .int x6)] → W p l e rm_X6_cast s m args below meth c H locs 0 0 Q (F0 m 67 ls [])) (h0 : Nat) (x1 : Int32) (x2 : Int32) (x3 : Int32) (x4 : Int32) (x6 : Int32) (s0 : Int32) (σ : mS), f_X6_cast_157 k67 h0 x1 x2 x3 x4 x6 s0 σ = some z → ∀ (H : Heap) (locs : List Loc) (ls : Array Slot), mP G σ H → mL G locs → lv_has ls 9 [(0, .ref h0), (1, .int x1), (2, .int x2), (3, .int x3), (4, .int x4), (6, .int x6)] → W p l e rm_X6_cast s m args below meth c H locs 0 0 Q (F0 m 157 ls [.int s0]) := by
    intro k67 hk67 h0 x1 x2 x3 x4 x6 s0 σ h H locs ls hM hL hl
    rw [f_X6_cast_157.eq_1] at h
    refine lv_istore (lv' := [(5, .int s0), (0, .ref h0), (1, .int x1), (2, .int x2), (3, .int x3), (4, .int x4), (6, .int x6)]) hx hb dX6_cast_157 hl (by decide) rfl (fun ls hl => ?_)
    refine hN159 _ hk67 _ _ _ _ _ _ _ _ h _ _ _ hM hL (lv_sub hl [1, 2, 3, 4, 5, 0, 6] rfl)
  have hN141 : ∀ (k67 : Nat → Int32 → Int32 → Int32 → Int32 → Int32 → Int32 → mS → Option (Int32 × mS)) (hk67 : ∀ (h0 : Nat) (x1 : Int32) (x2 : Int32) (x3 : Int32) (x4 : Int32) (x5 : Int32) (x6 : Int32) (σ : mS), k67 h0 x1 x2 x3 x4 x5 x6 σ = some z → ∀ (H : Heap) (locs : List Loc) (ls : Array Slot), mP G σ H → mL G locs → lv_has ls 9 [(0, .ref h0), (1, .int x1), (2, .int x2), (3, .int x3), (4, .int x4), (5, .int x5), (6, .int x6)] → W p l e rm_X6_cast s m args below meth c H locs 0 0 Q (F0 m 67 ls [])) (h0 : Nat) (x1 : Int32) (x2 : Int32) (x3 : Int32) (x5 : Int32) (x6 : Int32) (x8 : Int32) (s0 : Int32) (σ : mS), f_X6_cast_141 k67 h0 x1 x2 x3 x5 x6 x8 s0 σ = some z → ∀ (H : Heap) (locs : List Loc) (ls : Array Slot), mP G σ H → mL G locs → lv_has ls 9 [(0, .ref h0), (1, .int x1), (2, .int x2), (3, .int x3), (5, .int x5), (6, .int x6), (8, .int x8)] → W p l e rm_X6_cast s m args below meth c H locs 0 0 Q (F0 m 141 ls [.int s0]) := by
    intro k67 hk67 h0 x1 x2 x3 x5 x6 x8 s0 σ h H locs ls hM hL hl
    rw [f_X6_cast_141.eq_1] at h
    refine lv_istore (lv' := [(4, .int s0), (0, .ref h0), (1, .int x1), (2, .int x2), (3, .int x3), (5, .int x5), (6, .int x6), (8, .int x8)]) hx hb dX6_cast_141 hl (by decide) rfl (fun ls hl => ?_)
    refine lv_iload hx hb dX6_cast_143 (lv_at hl 7 rfl) ?_
    refine lv_if_eq (tgt := 155) hx hb dX6_cast_145 (by decide) (fun c34 => ?_) (fun c34 => ?_)
    · have h := (if_pos c34).symm.trans h
      refine lv_iload hx hb dX6_cast_155 (lv_at hl 5 rfl) ?_
      refine hN157 _ hk67 _ _ _ _ _ _ _ _ h _ _ _ hM hL (lv_sub hl [1, 2, 3, 4, 0, 6] rfl)
    · have h := (if_neg c34).symm.trans h
      refine lv_aload_n hx hb dX6_cast_148 rfl (lv_at hl 1 rfl) ?_
      refine m_getI (ci := 5) hx hb hU6 hown hK hM rfl 36 (by decide) w2 h dX6_cast_149 (fun v35 gv35 h => ?_)
      refine lv_goto (tgt := 157) hx hb dX6_cast_152 (by decide) ?_
      refine hN157 _ hk67 _ _ _ _ _ _ _ _ h _ _ _ hM hL (lv_sub hl [1, 2, 3, 4, 0, 6] rfl)
  have hN125 : ∀ (k67 : Nat → Int32 → Int32 → Int32 → Int32 → Int32 → Int32 → mS → Option (Int32 × mS)) (hk67 : ∀ (h0 : Nat) (x1 : Int32) (x2 : Int32) (x3 : Int32) (x4 : Int32) (x5 : Int32) (x6 : Int32) (σ : mS), k67 h0 x1 x2 x3 x4 x5 x6 σ = some z → ∀ (H : Heap) (locs : List Loc) (ls : Array Slot), mP G σ H → mL G locs → lv_has ls 9 [(0, .ref h0), (1, .int x1), (2, .int x2), (3, .int x3), (4, .int x4), (5, .int x5), (6, .int x6)] → W p l e rm_X6_cast s m args below meth c H locs 0 0 Q (F0 m 67 ls [])) (h0 : Nat) (x1 : Int32) (x2 : Int32) (x3 : Int32) (x4 : Int32) (x5 : Int32) (x6 : Int32) (s0 : Int32) (σ : mS), f_X6_cast_125 k67 h0 x1 x2 x3 x4 x5 x6 s0 σ = some z → ∀ (H : Heap) (locs : List Loc) (ls : Array Slot), mP G σ H → mL G locs → lv_has ls 9 [(0, .ref h0), (1, .int x1), (2, .int x2), (3, .int x3), (4, .int x4), (5, .int x5), (6, .int x6)] → W p l e rm_X6_cast s m args below meth c H locs 0 0 Q (F0 m 125 ls [.int s0]) := by
    intro k67 hk67 h0 x1 x2 x3 x4 x5 x6 s0 σ h H locs ls hM hL hl
    rw [f_X6_cast_125.eq_1] at h
    refine lv_istore (lv' := [(8, .int s0), (0, .ref h0), (1, .int x1), (2, .int x2), (3, .int x3), (4, .int x4), (5, .int x5), (6, .int x6)]) hx hb dX6_cast_125 hl (by decide) rfl (fun ls hl => ?_)
    refine lv_iload hx hb dX6_cast_127 (lv_at hl 0 rfl) ?_
    refine lv_if_eq (tgt := 139) hx hb dX6_cast_129 (by decide) (fun c36 => ?_) (fun c36 => ?_)
    · have h := (if_pos c36).symm.trans h
      refine lv_iload hx hb dX6_cast_139 (lv_at hl 5 rfl) ?_
      refine hN141 _ hk67 _ _ _ _ _ _ _ _ _ h _ _ _ hM hL (lv_sub hl [1, 2, 3, 4, 6, 7, 0] rfl)
    · have h := (if_neg c36).symm.trans h
      refine lv_aload_n hx hb dX6_cast_132 rfl (lv_at hl 1 rfl) ?_
      refine m_getI (ci := 5) hx hb hU6 hown hK hM rfl 35 (by decide) w3 h dX6_cast_133 (fun v37 gv37 h => ?_)
      refine lv_goto (tgt := 141) hx hb dX6_cast_136 (by decide) ?_
      refine hN141 _ hk67 _ _ _ _ _ _ _ _ _ h _ _ _ hM hL (lv_sub hl [1, 2, 3, 4, 6, 7, 0] rfl)
  have hN67 : ∀ (n : Nat) (h0 : Nat) (x1 : Int32) (x2 : Int32) (x3 : Int32) (x4 : Int32) (x5 : Int32) (x6 : Int32) (σ : mS), f_X6_cast_67 n h0 x1 x2 x3 x4 x5 x6 σ = some z → ∀ (H : Heap) (locs : List Loc) (ls : Array Slot), mP G σ H → mL G locs → lv_has ls 9 [(0, .ref h0), (1, .int x1), (2, .int x2), (3, .int x3), (4, .int x4), (5, .int x5), (6, .int x6)] → W p l e rm_X6_cast s m args below meth c H locs 0 0 Q (F0 m 67 ls []) := by
    intro n
    induction n with
    | zero =>
      intro h0 x1 x2 x3 x4 x5 x6 σ h
      exact nomatch (show (none : Option (Int32 × mS)) = some z from h)
    | succ n ih =>
      intro h0 x1 x2 x3 x4 x5 x6 σ h H locs ls hM hL hl
      rw [f_X6_cast_67.eq_2] at h
      refine lv_iload hx hb dX6_cast_67 (lv_at hl 6 rfl) ?_
      refine lv_iload_n hx hb dX6_cast_69 rfl (lv_at hl 3 rfl) ?_
      refine lv_icmp_ge (tgt := 169) hx hb dX6_cast_70 (by decide) (fun c38 => ?_) (fun c38 => ?_)
      · have h := (if_pos c38).symm.trans h
        refine lv_iload_n hx hb dX6_cast_169 rfl (lv_at hl 2 rfl) ?_
        refine lv_if_ne (tgt := 178) hx hb dX6_cast_170 (by decide) (fun c39 => ?_) (fun c39 => ?_)
        · have h := (if_neg c39).symm.trans h
          refine lv_iload hx hb dX6_cast_178 (lv_at hl 5 rfl) ?_
          subst hQ
          have h := Option.some.inj h
          subst h
          exact m_iret hx hb hr hM hL dX6_cast_180 hlocks
        · have h := (if_pos c39).symm.trans h
          refine lv_iload hx hb dX6_cast_173 (lv_at hl 4 rfl) ?_
          refine lv_goto (tgt := 180) hx hb dX6_cast_175 (by decide) ?_
          subst hQ
          have h := Option.some.inj h
          subst h
          exact m_iret hx hb hr hM hL dX6_cast_180 hlocks
      · have h := (if_neg c38).symm.trans h
        refine lv_aload_n hx hb dX6_cast_73 rfl (lv_at hl 0 rfl) ?_
        refine lv_iload hx hb dX6_cast_74 (lv_at hl 6 rfl) ?_
        refine lv_iload_n hx hb dX6_cast_76 rfl (lv_at hl 1 rfl) ?_
        obtain ⟨o40, h⟩ := oi_some h
        obtain ⟨q41, hq41, h⟩ := ob_some h
        refine m_calli (va_runV (As := [.int x6, .int x1]) (rest := []) ⟨hx, hb, hml, hown, hts⟩ (c_X6_castBy l G hq41) (cwV 2 hts gX6_cast_X6_castBy rfl rfl rfl hd_X6_castByv ⟨Nat.le_of_ble_eq_true rfl, Nat.le_of_ble_eq_true rfl⟩) (m_preV (ci := 5) hK hM rfl o40) rfl rfl hl.1 rfl (lv_room (Nat.le_of_ble_eq_true rfl)) dX6_cast_77 ⟨Nat.le_of_ble_eq_true rfl, Nat.le_of_ble_eq_true rfl⟩) hL (fun H locs hM hL => ?_)
        refine lv_istore (lv' := [(7, .int q41.1), (0, .ref h0), (1, .int x1), (2, .int x2), (3, .int x3), (4, .int x4), (5, .int x5), (6, .int x6)]) hx hb dX6_cast_80 hl (by decide) rfl (fun ls hl => ?_)
        refine lv_iload hx hb dX6_cast_82 (lv_at hl 0 rfl) ?_
        refine lv_if_eq (tgt := 159) hx hb dX6_cast_84 (by decide) (fun c42 => ?_) (fun c42 => ?_)
        · have h := (if_pos c42).symm.trans h
          refine hN159 _ (fun _ _ _ _ _ _ _ _ h H locs ls hM hL hl => ih _ _ _ _ _ _ _ _ h H locs ls hM hL hl) _ _ _ _ _ _ _ _ h _ _ _ hM hL (lv_sub hl [1, 2, 3, 4, 5, 6, 7] rfl)
        · have h := (if_neg c42).symm.trans h
          refine lv_aload_n hx hb dX6_cast_87 rfl (lv_at hl 1 rfl) ?_
          refine lv_bipush hx hb dX6_cast_88 kB_12 ?_
          obtain ⟨o43, h⟩ := oi_some h
          obtain ⟨q44, hq44, h⟩ := ob_some h
          refine m_callv (va_runV (As := [.int (12 : Int32)]) (rest := []) ⟨hx, hb, hml, hown, hts⟩ (c_X6_goes l G hq44) (cwV 1 hts gX6_cast_X6_goes rfl rfl rfl hd_X6_goesv ⟨Nat.le_of_ble_eq_true rfl, Nat.le_of_ble_eq_true rfl⟩) (m_preV (ci := 5) hK hM rfl o43) rfl rfl hl.1 rfl (lv_room (Nat.le_of_ble_eq_true rfl)) dX6_cast_90 ⟨Nat.le_of_ble_eq_true rfl, Nat.le_of_ble_eq_true rfl⟩) hL (fun H locs hM hL => ?_)
          refine lv_aload_n hx hb dX6_cast_93 rfl (lv_at hl 1 rfl) ?_
          refine lv_aload_n hx hb dX6_cast_94 rfl (lv_at hl 1 rfl) ?_
          refine lv_aload_n hx hb dX6_cast_95 rfl (lv_at hl 1 rfl) ?_
          refine m_getI (ci := 5) hx hb hU6 hown hK hM rfl 7 (by decide) w1 h dX6_cast_96 (fun v45 gv45 h => ?_)
          obtain ⟨o46, h⟩ := oi_some h
          obtain ⟨q47, hq47, h⟩ := ob_some h
          refine m_calli (va_runV (As := [.int v45]) (rest := [.ref h0]) ⟨hx, hb, hml, hown, hts⟩ (c_X6_verdictOf l G hq47) (cwV 1 hts gX6_cast_X6_verdictOf rfl rfl rfl hd_X6_verdictOfv ⟨Nat.le_of_ble_eq_true rfl, Nat.le_of_ble_eq_true rfl⟩) (m_preV (ci := 5) hK hM rfl o46) rfl rfl hl.1 rfl (lv_room (Nat.le_of_ble_eq_true rfl)) dX6_cast_99 ⟨Nat.le_of_ble_eq_true rfl, Nat.le_of_ble_eq_true rfl⟩) hL (fun H locs hM hL => ?_)
          refine m_put (ci := 5) hx hb hU6 tyX6 tyX6_ok nmX6 hown hK hM hL rfl 36 (by decide) w2 rfl rfl rfl h dX6_cast_102 (fun t48 H locs h hM hL => ?_)
          refine lv_iload hx hb dX6_cast_105 (lv_at hl 5 rfl) ?_
          refine lv_iconst hx hb dX6_cast_107 kI_m1 ?_
          refine lv_icmp_eq (tgt := 120) hx hb dX6_cast_108 (by decide) (fun c49 => ?_) (fun c49 => ?_)
          · have h := (if_pos c49).symm.trans h
            refine lv_iconst hx hb dX6_cast_120 kI_1 ?_
            refine lv_goto (tgt := 125) hx hb dX6_cast_121 (by decide) ?_
            refine hN125 _ (fun _ _ _ _ _ _ _ _ h H locs ls hM hL hl => ih _ _ _ _ _ _ _ _ h H locs ls hM hL hl) _ _ _ _ _ _ _ _ _ h _ _ _ hM hL (lv_sub hl [1, 2, 3, 4, 5, 6, 7] rfl)
          · have h := (if_neg c49).symm.trans h
            refine lv_aload_n hx hb dX6_cast_111 rfl (lv_at hl 1 rfl) ?_
            refine m_getI (ci := 5) hx hb hU6 hown hK hM rfl 36 (by decide) w2 h dX6_cast_112 (fun v50 gv50 h => ?_)
            refine lv_iload hx hb dX6_cast_115 (lv_at hl 6 rfl) ?_
            suffices hJ : ∀ (v52 : Int32) (ls : Array Slot), v52 = (if v50 ≤ x5 then (0 : Int32) else (1 : Int32)) → lv_has ls 9 [(0, .ref h0), (1, .int x1), (2, .int x2), (3, .int x3), (4, .int x4), (5, .int x5), (6, .int x6)] → W p l e rm_X6_cast s m args below meth c H locs 0 0 Q (F0 m 125 ls [.int v52]) by
              refine lv_icmp_le (tgt := 124) hx hb dX6_cast_117 (by decide) (fun c51 => ?_) (fun c51 => ?_)
              · refine lv_iconst hx hb dX6_cast_124 kI_0 ?_
                exact hJ _ _ (((if_pos c51).trans rfl).symm) (lv_sub hl [1, 2, 3, 4, 5, 6, 7] rfl)
              · refine lv_iconst hx hb dX6_cast_120 kI_1 ?_
                refine lv_goto (tgt := 125) hx hb dX6_cast_121 (by decide) ?_
                exact hJ _ _ (((if_neg c51).trans rfl).symm) (lv_sub hl [1, 2, 3, 4, 5, 6, 7] rfl)
            intro v52 ls ev52 hl
            have h := vl_at ev52 h
            refine hN125 _ (fun _ _ _ _ _ _ _ _ h H locs ls hM hL hl => ih _ _ _ _ _ _ _ _ h H locs ls hM hL hl) _ _ _ _ _ _ _ _ _ h _ _ _ hM hL (lv_sub hl [0, 1, 2, 3, 4, 5, 6] rfl)
  rw [f_X6_cast.eq_1] at h
  refine lv_iload_n hx hb dX6_cast_0 rfl (lv_at hl 1 rfl) ?_
  refine lv_iconst hx hb dX6_cast_1 kI_0 ?_
  refine lv_iconst hx hb dX6_cast_2 kI_3 ?_
  refine m_calli (va_runS (As := [.int x1, .int (0 : Int32), .int (3 : Int32)]) (rest := []) ⟨hx, hb, hml, hown, hts⟩ (c_X6_in l G x1 (0 : Int32) (3 : Int32)) (va_cwS 3 hts gX6_cast_X6_in rfl rfl rfl hd_X6_in ⟨Nat.le_of_ble_eq_true rfl, Nat.le_of_ble_eq_true rfl⟩) (m_preS hK hM) rfl rfl hl.1 rfl (lv_room (Nat.le_of_ble_eq_true rfl)) dX6_cast_3 ⟨Nat.le_of_ble_eq_true rfl, Nat.le_of_ble_eq_true rfl⟩) hL (fun H locs hM hL => ?_)
  refine lv_if_eq (tgt := 18) hx hb dX6_cast_6 (by decide) (fun c53 => ?_) (fun c53 => ?_)
  · have h := (if_pos c53).symm.trans h
    refine lv_sipush hx hb dX6_cast_18 kS_m5000 ?_
    subst hQ
    have h := Option.some.inj h
    subst h
    exact m_iret hx hb hr hM hL dX6_cast_21 hlocks
  · have h := (if_neg c53).symm.trans h
    refine lv_iload_n hx hb dX6_cast_9 rfl (lv_at hl 2 rfl) ?_
    refine lv_iconst hx hb dX6_cast_10 kI_0 ?_
    refine lv_iconst hx hb dX6_cast_11 kI_1 ?_
    refine m_calli (va_runS (As := [.int x2, .int (0 : Int32), .int (1 : Int32)]) (rest := []) ⟨hx, hb, hml, hown, hts⟩ (c_X6_in l G x2 (0 : Int32) (1 : Int32)) (va_cwS 3 hts gX6_cast_X6_in rfl rfl rfl hd_X6_in ⟨Nat.le_of_ble_eq_true rfl, Nat.le_of_ble_eq_true rfl⟩) (m_preS hK hM) rfl rfl hl.1 rfl (lv_room (Nat.le_of_ble_eq_true rfl)) dX6_cast_12 ⟨Nat.le_of_ble_eq_true rfl, Nat.le_of_ble_eq_true rfl⟩) hL (fun H locs hM hL => ?_)
    refine lv_if_ne (tgt := 22) hx hb dX6_cast_15 (by decide) (fun c54 => ?_) (fun c54 => ?_)
    · have h := (if_neg c54).symm.trans h
      refine lv_iload_n hx hb dX6_cast_22 rfl (lv_at hl 1 rfl) ?_
      suffices hJ : ∀ (v58 : Int32) (ls : Array Slot), v58 = (if x1 = 0 then (1 : Int32) else if x1 = (1 : Int32) then (7 : Int32) else if x1 = (2 : Int32) then (49 : Int32) else (343 : Int32)) → lv_has ls 9 [(0, .ref h0), (1, .int x1), (2, .int x2)] → W p l e rm_X6_cast s m args below meth c H locs 0 0 Q (F0 m 53 ls [.int v58]) by
        refine lv_if_ne (tgt := 30) hx hb dX6_cast_23 (by decide) (fun c55 => ?_) (fun c55 => ?_)
        · refine lv_iload_n hx hb dX6_cast_30 rfl (lv_at hl 1 rfl) ?_
          refine lv_iconst hx hb dX6_cast_31 kI_1 ?_
          refine lv_icmp_ne (tgt := 40) hx hb dX6_cast_32 (by decide) (fun c56 => ?_) (fun c56 => ?_)
          · refine lv_iload_n hx hb dX6_cast_40 rfl (lv_at hl 1 rfl) ?_
            refine lv_iconst hx hb dX6_cast_41 kI_2 ?_
            refine lv_icmp_ne (tgt := 50) hx hb dX6_cast_42 (by decide) (fun c57 => ?_) (fun c57 => ?_)
            · refine lv_sipush hx hb dX6_cast_50 kS_343 ?_
              exact hJ _ _ (((if_neg c55).trans ((if_neg c56).trans ((if_neg c57).trans rfl))).symm) (lv_sub hl [0, 1, 2] rfl)
            · refine lv_bipush hx hb dX6_cast_45 kB_49 ?_
              refine lv_goto (tgt := 53) hx hb dX6_cast_47 (by decide) ?_
              exact hJ _ _ (((if_neg c55).trans ((if_neg c56).trans ((if_pos c57).trans rfl))).symm) (lv_sub hl [0, 1, 2] rfl)
          · refine lv_bipush hx hb dX6_cast_35 kB_7 ?_
            refine lv_goto (tgt := 53) hx hb dX6_cast_37 (by decide) ?_
            exact hJ _ _ (((if_neg c55).trans ((if_pos c56).trans rfl)).symm) (lv_sub hl [0, 1, 2] rfl)
        · refine lv_iconst hx hb dX6_cast_26 kI_1 ?_
          refine lv_goto (tgt := 53) hx hb dX6_cast_27 (by decide) ?_
          exact hJ _ _ (((if_pos c55).trans rfl).symm) (lv_sub hl [0, 1, 2] rfl)
      intro v58 ls ev58 hl
      have h := vl_at ev58 h
      refine lv_istore_n (lv' := [(3, .int v58), (0, .ref h0), (1, .int x1), (2, .int x2)]) hx hb dX6_cast_53 rfl hl (by decide) rfl (fun ls hl => ?_)
      refine lv_iconst hx hb dX6_cast_54 kI_m1 ?_
      refine lv_istore (lv' := [(4, .int (-1 : Int32)), (3, .int v58), (0, .ref h0), (1, .int x1), (2, .int x2)]) hx hb dX6_cast_55 hl (by decide) rfl (fun ls hl => ?_)
      refine lv_iconst hx hb dX6_cast_57 kI_0 ?_
      refine lv_istore (lv' := [(5, .int (0 : Int32)), (4, .int (-1 : Int32)), (3, .int v58), (0, .ref h0), (1, .int x1), (2, .int x2)]) hx hb dX6_cast_58 hl (by decide) rfl (fun ls hl => ?_)
      refine lv_aload_n hx hb dX6_cast_60 rfl (lv_at hl 3 rfl) ?_
      obtain ⟨o59, h⟩ := oi_some h
      obtain ⟨q60, hq60, h⟩ := ob_some h
      refine m_callv (va_runV (As := []) (rest := []) ⟨hx, hb, hml, hown, hts⟩ (c_X6_keeps l G hq60) (cwV 0 hts gX6_cast_X6_keeps rfl rfl rfl hd_X6_keepsv ⟨Nat.le_of_ble_eq_true rfl, Nat.le_of_ble_eq_true rfl⟩) (m_preV (ci := 5) hK hM rfl o59) rfl rfl hl.1 rfl (lv_room (Nat.le_of_ble_eq_true rfl)) dX6_cast_61 ⟨Nat.le_of_ble_eq_true rfl, Nat.le_of_ble_eq_true rfl⟩) hL (fun H locs hM hL => ?_)
      refine lv_iconst hx hb dX6_cast_64 kI_0 ?_
      refine lv_istore (lv' := [(6, .int (0 : Int32)), (5, .int (0 : Int32)), (4, .int (-1 : Int32)), (3, .int v58), (0, .ref h0), (1, .int x1), (2, .int x2)]) hx hb dX6_cast_65 hl (by decide) rfl (fun ls hl => ?_)
      refine hN67 _ _ _ _ _ _ _ _ _ h _ _ _ hM hL (lv_sub hl [4, 5, 6, 3, 2, 1, 0] rfl)
    · have h := (if_pos c54).symm.trans h
      refine lv_sipush hx hb dX6_cast_18 kS_m5000 ?_
      subst hQ
      have h := Option.some.inj h
      subst h
      exact m_iret hx hb hr hM hL dX6_cast_21 hlocks
abbrev rm_X6_lowest : Room := { frames := 0, cells := 0, slots := 0, locals := 0 }
set_option maxHeartbeats 4000000 in
set_option maxRecDepth 100000 in
theorem c_X6_lowest (l : Launch) (G : mG) {x0 : Int64} {x2 : Int64} {x4 : Int32} {σ : mS} {z : Int64} (h : f_X6_lowest x0 x2 x4 = some z) : Met l yX6_lowest wsX6_lowest rm_X6_lowest (va_Pc [.long x0, .long x2, .int x4] (mB G σ)) (mQ G (.returned (some (.long z))) (σ)) 0 0 (mF G) := by
  refine m_start (cc := cX6_lowest) (maxL := 11) (ret := (some .long)) (by decide) rfl [.long x0, .long x2, .int x4] (Nat.le_of_ble_eq_true rfl) ?_
  intro p e s m args below meth c ls hx hb hr hml hown hts hlocks hnm hK hM hl
  have hown : s.vm.findClass RX6 = some m.cls := hown
  have hnm : meth.name = "lowest" := hnm
  obtain ⟨locs, hlocs⟩ : ∃ l : List Loc, l = [] := ⟨_, rfl⟩
  have hL : mL G locs := by rw [hlocs]; exact mL_nil G
  rw [← hlocs]
  generalize s.heap = H at hM ⊢
  have hl : lv_has ls 11 [(0, .long x0), (2, .long x2), (4, .int x4)] := hl
  obtain ⟨Q, hQ⟩ : ∃ Q, Q = MQ below (mQ G (.returned (some (.long z))) (σ)) args s 0 0 (mF G) := ⟨_, rfl⟩
  rw [← hQ]
  have hN17 : ∀ (n : Nat) (x0 : Int64) (x2 : Int64) (x4 : Int32) (x5 : Int64) (x7 : Int64), f_X6_lowest_17 n x0 x2 x4 x5 x7 = some z → ∀ (H : Heap) (locs : List Loc) (ls : Array Slot), mP G σ H → mL G locs → lv_has ls 11 [(0, .long x0), (2, .long x2), (4, .int x4), (5, .long x5), (7, .long x7)] → W p l e rm_X6_lowest s m args below meth c H locs 0 0 Q (F0 m 17 ls []) := by
    intro n
    induction n with
    | zero =>
      intro x0 x2 x4 x5 x7 h
      exact nomatch (show (none : Option Int64) = some z from h)
    | succ n ih =>
      intro x0 x2 x4 x5 x7 h H locs ls hM hL hl
      rw [f_X6_lowest_17.eq_2] at h
      refine lv_lload hx hb dX6_lowest_17 (lv_at hl 4 rfl) ?_
      refine lv_lconst hx hb dX6_lowest_19 kL_0 ?_
      refine W.lcmp hx hb dX6_lowest_20 ?_
      refine lv_if_eq (tgt := 42) hx hb dX6_lowest_21 (by decide) (fun c9 => ?_) (fun c9 => ?_)
      · have h := (if_pos c9).symm.trans h
        refine lv_iload hx hb dX6_lowest_42 (lv_at hl 2 rfl) ?_
        suffices hJ : ∀ (v11 : Int64) (ls : Array Slot), v11 = (if x4 = 0 then x0 else x2) → lv_has ls 11 [(5, .long x5)] → W p l e rm_X6_lowest s m args below meth c H locs 0 0 Q (F0 m 52 ls [.long v11]) by
          refine lv_if_ne (tgt := 51) hx hb dX6_lowest_44 (by decide) (fun c10 => ?_) (fun c10 => ?_)
          · refine lv_lload_n hx hb dX6_lowest_51 rfl (lv_at hl 1 rfl) ?_
            exact hJ _ _ (((if_neg c10).trans rfl).symm) (lv_sub hl [3] rfl)
          · refine lv_lload_n hx hb dX6_lowest_47 rfl (lv_at hl 0 rfl) ?_
            refine lv_goto (tgt := 52) hx hb dX6_lowest_48 (by decide) ?_
            exact hJ _ _ (((if_pos c10).trans rfl).symm) (lv_sub hl [3] rfl)
        intro v11 ls ev11 hl
        have h := vl_at ev11 h
        refine lv_lload hx hb dX6_lowest_52 (lv_at hl 0 rfl) ?_
        obtain ⟨n12, h⟩ := on_some h
        refine lv_ldiv hx hb dX6_lowest_54 n12 ?_
        subst hQ
        have h := Option.some.inj h
        subst h
        exact m_lret hx hb hr hM hL dX6_lowest_55 hlocks
      · have h := (if_neg c9).symm.trans h
        refine lv_lload hx hb dX6_lowest_24 (lv_at hl 3 rfl) ?_
        refine lv_lload hx hb dX6_lowest_26 (lv_at hl 4 rfl) ?_
        obtain ⟨n13, h⟩ := on_some h
        refine lv_lrem hx hb dX6_lowest_28 n13 ?_
        refine lv_topl (fun v14 ev14 => ?_)
        have h := vl_at ev14 h
        refine lv_lstore (lv' := [(9, .long v14), (0, .long x0), (2, .long x2), (4, .int x4), (5, .long x5), (7, .long x7)]) hx hb dX6_lowest_29 hl (by decide) rfl (fun ls hl => ?_)
        refine lv_lload hx hb dX6_lowest_31 (lv_at hl 5 rfl) ?_
        refine lv_lstore (lv' := [(5, .long x7), (9, .long v14), (0, .long x0), (2, .long x2), (4, .int x4), (7, .long x7)]) hx hb dX6_lowest_33 hl (by decide) rfl (fun ls hl => ?_)
        refine lv_lload hx hb dX6_lowest_35 (lv_at hl 1 rfl) ?_
        refine lv_lstore (lv' := [(7, .long v14), (5, .long x7), (9, .long v14), (0, .long x0), (2, .long x2), (4, .int x4)]) hx hb dX6_lowest_37 hl (by decide) rfl (fun ls hl => ?_)
        refine lv_goto (tgt := 17) hx hb dX6_lowest_39 (by decide) ?_
        exact ih _ _ _ _ _ h _ _ _ hM hL (lv_sub hl [3, 4, 5, 1, 0] rfl)
  rw [f_X6_lowest.eq_1] at h
  refine lv_lload_n hx hb dX6_lowest_0 rfl (lv_at hl 0 rfl) ?_
  refine lv_lconst hx hb dX6_lowest_1 kL_0 ?_
  refine W.lcmp hx hb dX6_lowest_2 ?_
  suffices hJ : ∀ (v16 : Int64) (ls : Array Slot), v16 = (if 0 ≤ (lg_cmp x0 (0 : Int64)) then x0 else (-x0)) → lv_has ls 11 [(0, .long x0), (2, .long x2), (4, .int x4)] → W p l e rm_X6_lowest s m args below meth c H locs 0 0 Q (F0 m 12 ls [.long v16]) by
    refine lv_if_ge (tgt := 11) hx hb dX6_lowest_3 (by decide) (fun c15 => ?_) (fun c15 => ?_)
    · refine lv_lload_n hx hb dX6_lowest_11 rfl (lv_at hl 0 rfl) ?_
      exact hJ _ _ (((if_pos c15).trans rfl).symm) (lv_sub hl [0, 1, 2] rfl)
    · refine lv_lload_n hx hb dX6_lowest_6 rfl (lv_at hl 0 rfl) ?_
      refine lv_lneg hx hb dX6_lowest_7 ?_
      refine lv_goto (tgt := 12) hx hb dX6_lowest_8 (by decide) ?_
      exact hJ _ _ (((if_neg c15).trans rfl).symm) (lv_sub hl [0, 1, 2] rfl)
  intro v16 ls ev16 hl
  have h := vl_at ev16 h
  refine lv_lstore (lv' := [(5, .long v16), (0, .long x0), (2, .long x2), (4, .int x4)]) hx hb dX6_lowest_12 hl (by decide) rfl (fun ls hl => ?_)
  refine lv_lload_n hx hb dX6_lowest_14 rfl (lv_at hl 2 rfl) ?_
  refine lv_lstore (lv' := [(7, .long x2), (5, .long v16), (0, .long x0), (2, .long x2), (4, .int x4)]) hx hb dX6_lowest_15 hl (by decide) rfl (fun ls hl => ?_)
  refine hN17 _ _ _ _ _ _ h _ _ _ hM hL (lv_sub hl [2, 3, 4, 1, 0] rfl)
abbrev rm_X6_mean : Room := { frames := 1, cells := 0, slots := 0, locals := 30 }
set_option maxHeartbeats 4000000 in
set_option maxRecDepth 100000 in
theorem c_X6_mean (l : Launch) (G : mG) {h0 : Nat} {x1 : Int32} {σ : mS} {z : Int64} (h : f_X6_mean h0 x1 σ = some z) : Met l yX6_mean wsX6_mean rm_X6_mean (va_Pc [.ref h0, .int x1] (mB G σ)) (mQ G (.returned (some (.long z))) (σ)) 0 0 (mF G) := by
  refine m_start (cc := cX6_mean) (maxL := 2) (ret := (some .long)) (by decide) rfl [.ref h0, .int x1] (Nat.le_of_ble_eq_true rfl) ?_
  intro p e s m args below meth c ls hx hb hr hml hown hts hlocks hnm hK hM hl
  have hown : s.vm.findClass RX6 = some m.cls := hown
  have hnm : meth.name = "mean" := hnm
  obtain ⟨locs, hlocs⟩ : ∃ l : List Loc, l = [] := ⟨_, rfl⟩
  have hL : mL G locs := by rw [hlocs]; exact mL_nil G
  rw [← hlocs]
  generalize s.heap = H at hM ⊢
  have hl : lv_has ls 2 [(0, .ref h0), (1, .int x1)] := hl
  obtain ⟨Q, hQ⟩ : ∃ Q, Q = MQ below (mQ G (.returned (some (.long z))) (σ)) args s 0 0 (mF G) := ⟨_, rfl⟩
  rw [← hQ]
  have w0 := (hts (.constantLong RX6 250 (-4611686018427387904)) (List.mem_of_getElem? (i := 2) rfl))
  have hU6 : ∀ w ∈ wsX60, w.before args s = true := fun w h => hts w (List.mem_cons_of_mem _ (List.mem_append_right _ h))
  have w2 := (hts (.fieldLink RX6 109 "HandkerchiefsDroppedModel" "admitted" "I") (List.mem_of_getElem? (i := 1) rfl))
  rw [f_X6_mean.eq_1] at h
  refine lv_iload_n hx hb dX6_mean_0 rfl (lv_at hl 1 rfl) ?_
  refine lv_iconst hx hb dX6_mean_1 kI_0 ?_
  refine lv_iconst hx hb dX6_mean_2 kI_1 ?_
  refine m_calli (va_runS (As := [.int x1, .int (0 : Int32), .int (1 : Int32)]) (rest := []) ⟨hx, hb, hml, hown, hts⟩ (c_X6_in l G x1 (0 : Int32) (1 : Int32)) (va_cwS 3 hts gX6_mean_X6_in rfl rfl rfl hd_X6_in ⟨Nat.le_of_ble_eq_true rfl, Nat.le_of_ble_eq_true rfl⟩) (m_preS hK hM) rfl rfl hl.1 rfl (lv_room (Nat.le_of_ble_eq_true rfl)) dX6_mean_3 ⟨Nat.le_of_ble_eq_true rfl, Nat.le_of_ble_eq_true rfl⟩) hL (fun H locs hM hL => ?_)
  refine lv_if_eq (tgt := 40) hx hb dX6_mean_6 (by decide) (fun c10 => ?_) (fun c10 => ?_)
  · have h := (if_pos c10).symm.trans h
    refine lv_ldc2 hx hb hown w0 dX6_mean_40 ?_
    subst hQ
    have h := Option.some.inj h
    subst h
    exact m_lret hx hb hr hM hL dX6_mean_43 hlocks
  · have h := (if_neg c10).symm.trans h
    refine lv_aload_n hx hb dX6_mean_9 rfl (lv_at hl 0 rfl) ?_
    refine m_getI (ci := 5) hx hb hU6 hown hK hM rfl 7 (by decide) w2 h dX6_mean_10 (fun v11 gv11 h => ?_)
    refine lv_if_eq (tgt := 40) hx hb dX6_mean_13 (by decide) (fun c12 => ?_) (fun c12 => ?_)
    · have h := (if_pos c12).symm.trans h
      refine lv_ldc2 hx hb hown w0 dX6_mean_40 ?_
      subst hQ
      have h := Option.some.inj h
      subst h
      exact m_lret hx hb hr hM hL dX6_mean_43 hlocks
    · have h := (if_neg c12).symm.trans h
      refine lv_aload_n hx hb dX6_mean_16 rfl (lv_at hl 0 rfl) ?_
      refine lv_aload_n hx hb dX6_mean_17 rfl (lv_at hl 0 rfl) ?_
      refine m_getI (ci := 5) hx hb hU6 hown hK hM rfl 7 (by decide) w2 h dX6_mean_18 (fun v13 gv13 h => ?_)
      obtain ⟨o14, h⟩ := oi_some h
      obtain ⟨q15, hq15, h⟩ := ob_some h
      refine m_calli (va_runV (As := [.int v13]) (rest := []) ⟨hx, hb, hml, hown, hts⟩ (c_X6_verdictOf l G hq15) (cwV 1 hts gX6_mean_X6_verdictOf rfl rfl rfl hd_X6_verdictOfv ⟨Nat.le_of_ble_eq_true rfl, Nat.le_of_ble_eq_true rfl⟩) (m_preV (ci := 5) hK hM rfl o14) rfl rfl hl.1 rfl (lv_room (Nat.le_of_ble_eq_true rfl)) dX6_mean_21 ⟨Nat.le_of_ble_eq_true rfl, Nat.le_of_ble_eq_true rfl⟩) hL (fun H locs hM hL => ?_)
      refine lv_i2l hx hb dX6_mean_24 rfl ?_
      refine lv_aload_n hx hb dX6_mean_25 rfl (lv_at hl 0 rfl) ?_
      refine m_getI (ci := 5) hx hb hU6 hown hK hM rfl 7 (by decide) w2 h dX6_mean_26 (fun v16 gv16 h => ?_)
      obtain ⟨q17, hq17, h⟩ := ob_some h
      refine m_calli (va_runS (As := [.int v16]) (rest := [.long q15.toInt64]) ⟨hx, hb, hml, hown, hts⟩ (c_X6_onesOf l G hq17) (va_cwS 1 hts gX6_mean_X6_onesOf rfl rfl rfl hd_X6_onesOf ⟨Nat.le_of_ble_eq_true rfl, Nat.le_of_ble_eq_true rfl⟩) (m_preS hK hM) rfl rfl hl.1 rfl (lv_room (Nat.le_of_ble_eq_true rfl)) dX6_mean_29 ⟨Nat.le_of_ble_eq_true rfl, Nat.le_of_ble_eq_true rfl⟩) hL (fun H locs hM hL => ?_)
      refine lv_i2l hx hb dX6_mean_32 rfl ?_
      refine lv_iload_n hx hb dX6_mean_33 rfl (lv_at hl 1 rfl) ?_
      obtain ⟨q18, hq18, h⟩ := ob_some h
      refine m_calll (va_runS (As := [.long q15.toInt64, .long q17.toInt64, .int x1]) (rest := []) ⟨hx, hb, hml, hown, hts⟩ (c_X6_lowest l G hq18) (va_cwS 3 hts gX6_mean_X6_lowest rfl rfl rfl hd_X6_lowest ⟨Nat.le_of_ble_eq_true rfl, Nat.le_of_ble_eq_true rfl⟩) (m_preS hK hM) rfl rfl hl.1 rfl (lv_room (Nat.le_of_ble_eq_true rfl)) dX6_mean_34 ⟨Nat.le_of_ble_eq_true rfl, Nat.le_of_ble_eq_true rfl⟩) hL (fun H locs hM hL => ?_)
      refine lv_goto (tgt := 43) hx hb dX6_mean_37 (by decide) ?_
      subst hQ
      have h := Option.some.inj h
      subst h
      exact m_lret hx hb hr hM hL dX6_mean_43 hlocks
abbrev rm_X6_sheetWrong : Room := { frames := 1, cells := 0, slots := 0, locals := 22 }
set_option maxHeartbeats 4000000 in
set_option maxRecDepth 100000 in
theorem c_X6_sheetWrong (l : Launch) (G : mG) {h0 : Nat} {x1 : Int32} {σ : mS} {z : Int32} (h : f_X6_sheetWrong h0 x1 σ = some z) : Met l yX6_sheetWrong wsX6_sheetWrong rm_X6_sheetWrong (va_Pc [.ref h0, .int x1] (mB G σ)) (mQ G (.returned (some (.int z))) (σ)) 0 0 (mF G) := by
  refine m_start (cc := cX6_sheetWrong) (maxL := 2) (ret := (some .int)) (by decide) rfl [.ref h0, .int x1] (Nat.le_of_ble_eq_true rfl) ?_
  intro p e s m args below meth c ls hx hb hr hml hown hts hlocks hnm hK hM hl
  have hown : s.vm.findClass RX6 = some m.cls := hown
  have hnm : meth.name = "sheetWrong" := hnm
  obtain ⟨locs, hlocs⟩ : ∃ l : List Loc, l = [] := ⟨_, rfl⟩
  have hL : mL G locs := by rw [hlocs]; exact mL_nil G
  rw [← hlocs]
  generalize s.heap = H at hM ⊢
  have hl : lv_has ls 2 [(0, .ref h0), (1, .int x1)] := hl
  obtain ⟨Q, hQ⟩ : ∃ Q, Q = MQ below (mQ G (.returned (some (.int z))) (σ)) args s 0 0 (mF G) := ⟨_, rfl⟩
  rw [← hQ]
  have hU6 : ∀ w ∈ wsX60, w.before args s = true := fun w h => hts w (List.mem_cons_of_mem _ (List.mem_append_right _ h))
  have w1 := (hts (.fieldLink RX6 43 "HandkerchiefsDroppedModel" "sheetSort" "[I") (List.mem_of_getElem? (i := 1) rfl))
  have w2 := (hts (.fieldLink RX6 46 "HandkerchiefsDroppedModel" "sheetSize" "[I") (List.mem_of_getElem? (i := 2) rfl))
  rw [f_X6_sheetWrong.eq_1] at h
  refine lv_iload_n hx hb dX6_sheetWrong_0 rfl (lv_at hl 1 rfl) ?_
  refine lv_iconst hx hb dX6_sheetWrong_1 kI_0 ?_
  refine lv_iconst hx hb dX6_sheetWrong_2 kI_3 ?_
  refine m_calli (va_runS (As := [.int x1, .int (0 : Int32), .int (3 : Int32)]) (rest := []) ⟨hx, hb, hml, hown, hts⟩ (c_X6_in l G x1 (0 : Int32) (3 : Int32)) (va_cwS 3 hts gX6_sheetWrong_X6_in rfl rfl rfl hd_X6_in ⟨Nat.le_of_ble_eq_true rfl, Nat.le_of_ble_eq_true rfl⟩) (m_preS hK hM) rfl rfl hl.1 rfl (lv_room (Nat.le_of_ble_eq_true rfl)) dX6_sheetWrong_3 ⟨Nat.le_of_ble_eq_true rfl, Nat.le_of_ble_eq_true rfl⟩) hL (fun H locs hM hL => ?_)
  refine lv_if_ne (tgt := 12) hx hb dX6_sheetWrong_6 (by decide) (fun c8 => ?_) (fun c8 => ?_)
  · have h := (if_neg c8).symm.trans h
    refine lv_aload_n hx hb dX6_sheetWrong_12 rfl (lv_at hl 0 rfl) ?_
    refine m_getR (ci := 5) hx hb hU6 hown hK hM rfl 18 (by decide) w1 h dX6_sheetWrong_13 (fun r9 gr9 h => ?_)
    refine lv_iload_n hx hb dX6_sheetWrong_16 rfl (lv_at hl 1 rfl) ?_
    refine m_iald hx hb hK hM h dX6_sheetWrong_17 (fun v10 gv10 h => ?_)
    refine lv_iconst hx hb dX6_sheetWrong_18 kI_m1 ?_
    refine lv_icmp_ne (tgt := 25) hx hb dX6_sheetWrong_19 (by decide) (fun c11 => ?_) (fun c11 => ?_)
    · have h := (if_neg c11).symm.trans h
      refine lv_aload_n hx hb dX6_sheetWrong_25 rfl (lv_at hl 0 rfl) ?_
      refine m_getR (ci := 5) hx hb hU6 hown hK hM rfl 19 (by decide) w2 h dX6_sheetWrong_26 (fun r12 gr12 h => ?_)
      refine lv_iload_n hx hb dX6_sheetWrong_29 rfl (lv_at hl 1 rfl) ?_
      refine m_iald hx hb hK hM h dX6_sheetWrong_30 (fun v13 gv13 h => ?_)
      refine lv_bipush hx hb dX6_sheetWrong_31 kB_20 ?_
      refine lv_icmp_le (tgt := 41) hx hb dX6_sheetWrong_33 (by decide) (fun c14 => ?_) (fun c14 => ?_)
      · have h := (if_pos c14).symm.trans h
        refine lv_iconst hx hb dX6_sheetWrong_41 kI_0 ?_
        subst hQ
        have h := Option.some.inj h
        subst h
        exact m_iret hx hb hr hM hL dX6_sheetWrong_42 hlocks
      · have h := (if_neg c14).symm.trans h
        refine lv_bipush hx hb dX6_sheetWrong_36 kB_m2 ?_
        refine lv_goto (tgt := 42) hx hb dX6_sheetWrong_38 (by decide) ?_
        subst hQ
        have h := Option.some.inj h
        subst h
        exact m_iret hx hb hr hM hL dX6_sheetWrong_42 hlocks
    · have h := (if_pos c11).symm.trans h
      refine lv_bipush hx hb dX6_sheetWrong_22 kB_m11 ?_
      subst hQ
      have h := Option.some.inj h
      subst h
      exact m_iret hx hb hr hM hL dX6_sheetWrong_24 hlocks
  · have h := (if_pos c8).symm.trans h
    refine lv_bipush hx hb dX6_sheetWrong_9 kB_m2 ?_
    subst hQ
    have h := Option.some.inj h
    subst h
    exact m_iret hx hb hr hM hL dX6_sheetWrong_11 hlocks
abbrev rm_X6_unlike : Room := { frames := 7, cells := 0, slots := 0, locals := 157 }
set_option maxHeartbeats 4000000 in
set_option maxRecDepth 100000 in
theorem c_X6_unlike (l : Launch) (G : mG) {h0 : Nat} {x1 : Int32} {σ : mS} {z : Int32 × mS} (h : f_X6_unlike h0 x1 σ = some z) : Met l yX6_unlike wsX6_unlike rm_X6_unlike (va_Pc [.ref h0, .int x1] (mB G σ)) (mQ G (.returned (some (.int z.1))) z.2) 0 0 (mF G) := by
  refine m_start (cc := cX6_unlike) (maxL := 4) (ret := (some .int)) (by decide) rfl [.ref h0, .int x1] (Nat.le_of_ble_eq_true rfl) ?_
  intro p e s m args below meth c ls hx hb hr hml hown hts hlocks hnm hK hM hl
  have hown : s.vm.findClass RX6 = some m.cls := hown
  have hnm : meth.name = "unlike" := hnm
  obtain ⟨locs, hlocs⟩ : ∃ l : List Loc, l = [] := ⟨_, rfl⟩
  have hL : mL G locs := by rw [hlocs]; exact mL_nil G
  rw [← hlocs]
  generalize s.heap = H at hM ⊢
  have hl : lv_has ls 4 [(0, .ref h0), (1, .int x1)] := hl
  obtain ⟨Q, hQ⟩ : ∃ Q, Q = MQ below (mQ G (.returned (some (.int z.1))) z.2) args s 0 0 (mF G) := ⟨_, rfl⟩
  rw [← hQ]
  have hU6 : ∀ w ∈ wsX60, w.before args s = true := fun w h => hts w (List.mem_cons_of_mem _ (List.mem_append_right _ h))
  have w1 := (hts (.fieldLink RX6 46 "HandkerchiefsDroppedModel" "sheetSize" "[I") (List.mem_of_getElem? (i := 1) rfl))
  have w2 := (hts (.fieldLink RX6 49 "HandkerchiefsDroppedModel" "cells" "[I") (List.mem_of_getElem? (i := 2) rfl))
  have w3 := (hts (.fieldLink RX6 109 "HandkerchiefsDroppedModel" "admitted" "I") (List.mem_of_getElem? (i := 3) rfl))
  have hN8 : ∀ (k61 : Nat → Int32 → mS → Option (Int32 × mS)) (hk61 : ∀ (h0 : Nat) (x2 : Int32) (σ : mS), k61 h0 x2 σ = some z → ∀ (H : Heap) (locs : List Loc) (ls : Array Slot), mP G σ H → mL G locs → lv_has ls 4 [(0, .ref h0), (2, .int x2)] → W p l e rm_X6_unlike s m args below meth c H locs 0 0 Q (F0 m 61 ls [])) (n : Nat) (h0 : Nat) (x1 : Int32) (x2 : Int32) (x3 : Int32) (σ : mS), f_X6_unlike_8 k61 n h0 x1 x2 x3 σ = some z → ∀ (H : Heap) (locs : List Loc) (ls : Array Slot), mP G σ H → mL G locs → lv_has ls 4 [(0, .ref h0), (1, .int x1), (2, .int x2), (3, .int x3)] → W p l e rm_X6_unlike s m args below meth c H locs 0 0 Q (F0 m 8 ls []) := by
    intro k61 hk61 n
    induction n with
    | zero =>
      intro h0 x1 x2 x3 σ h
      exact nomatch (show (none : Option (Int32 × mS)) = some z from h)
    | succ n ih =>
      intro h0 x1 x2 x3 σ h H locs ls hM hL hl
      rw [f_X6_unlike_8.eq_2] at h
      refine lv_iload_n hx hb dX6_unlike_8 rfl (lv_at hl 3 rfl) ?_
      refine lv_aload_n hx hb dX6_unlike_9 rfl (lv_at hl 0 rfl) ?_
      refine m_getR (ci := 5) hx hb hU6 hown hK hM rfl 19 (by decide) w1 h dX6_unlike_10 (fun r18 gr18 h => ?_)
      refine lv_iload_n hx hb dX6_unlike_13 rfl (lv_at hl 1 rfl) ?_
      refine m_iald hx hb hK hM h dX6_unlike_14 (fun v19 gv19 h => ?_)
      refine lv_icmp_ge (tgt := 61) hx hb dX6_unlike_15 (by decide) (fun c20 => ?_) (fun c20 => ?_)
      · have h := (if_pos c20).symm.trans h
        exact hk61 _ _ _ h _ _ _ hM hL (lv_sub hl [0, 2] rfl)
      · have h := (if_neg c20).symm.trans h
        refine lv_iload_n hx hb dX6_unlike_18 rfl (lv_at hl 2 rfl) ?_
        refine lv_iconst hx hb dX6_unlike_19 kI_m1 ?_
        refine lv_icmp_ne (tgt := 61) hx hb dX6_unlike_20 (by decide) (fun c21 => ?_) (fun c21 => ?_)
        · have h := (if_neg c21).symm.trans h
          exact hk61 _ _ _ h _ _ _ hM hL (lv_sub hl [0, 2] rfl)
        · have h := (if_pos c21).symm.trans h
          refine lv_aload_n hx hb dX6_unlike_23 rfl (lv_at hl 0 rfl) ?_
          obtain ⟨o22, h⟩ := oi_some h
          obtain ⟨q23, hq23, h⟩ := ob_some h
          refine m_calli (va_runV (As := []) (rest := []) ⟨hx, hb, hml, hown, hts⟩ (c_X6_hourOf l G hq23) (cwV 0 hts gX6_unlike_X6_hourOf rfl rfl rfl hd_X6_hourOfv ⟨Nat.le_of_ble_eq_true rfl, Nat.le_of_ble_eq_true rfl⟩) (m_preV (ci := 5) hK hM rfl o22) rfl rfl hl.1 rfl (lv_room (Nat.le_of_ble_eq_true rfl)) dX6_unlike_24 ⟨Nat.le_of_ble_eq_true rfl, Nat.le_of_ble_eq_true rfl⟩) hL (fun H locs hM hL => ?_)
          refine lv_pop hx hb dX6_unlike_27 rfl ?_
          refine lv_aload_n hx hb dX6_unlike_28 rfl (lv_at hl 0 rfl) ?_
          refine m_getR (ci := 5) hx hb hU6 hown hK hM rfl 20 (by decide) w2 h dX6_unlike_29 (fun r24 gr24 h => ?_)
          refine lv_bipush hx hb dX6_unlike_32 kB_40 ?_
          refine lv_iload_n hx hb dX6_unlike_34 rfl (lv_at hl 1 rfl) ?_
          refine lv_imul hx hb dX6_unlike_35 ?_
          refine lv_iload_n hx hb dX6_unlike_36 rfl (lv_at hl 3 rfl) ?_
          refine lv_iadd hx hb dX6_unlike_37 ?_
          refine m_iald hx hb hK hM h dX6_unlike_38 (fun v25 gv25 h => ?_)
          refine lv_aload_n hx hb dX6_unlike_39 rfl (lv_at hl 0 rfl) ?_
          refine m_getI (ci := 5) hx hb hU6 hown hK hM rfl 7 (by decide) w3 h dX6_unlike_40 (fun v26 gv26 h => ?_)
          obtain ⟨q27, hq27, h⟩ := ob_some h
          refine m_calli (va_runS (As := [.int v26]) (rest := [.int v25]) ⟨hx, hb, hml, hown, hts⟩ (c_X6_onesOf l G hq27) (va_cwS 1 hts gX6_unlike_X6_onesOf rfl rfl rfl hd_X6_onesOf ⟨Nat.le_of_ble_eq_true rfl, Nat.le_of_ble_eq_true rfl⟩) (m_preS hK hM) rfl rfl hl.1 rfl (lv_room (Nat.le_of_ble_eq_true rfl)) dX6_unlike_43 ⟨Nat.le_of_ble_eq_true rfl, Nat.le_of_ble_eq_true rfl⟩) hL (fun H locs hM hL => ?_)
          suffices hJ : ∀ (v29 : Int32) (ls : Array Slot), v29 = (if v25 = q27 then (-1 : Int32) else x3) → lv_has ls 4 [(0, .ref h0), (1, .int x1), (3, .int x3)] → W p l e rm_X6_unlike s m args below meth c H locs 0 0 Q (F0 m 54 ls [.int v29]) by
            refine lv_icmp_ne (tgt := 53) hx hb dX6_unlike_46 (by decide) (fun c28 => ?_) (fun c28 => ?_)
            · refine lv_iload_n hx hb dX6_unlike_53 rfl (lv_at hl 3 rfl) ?_
              exact hJ _ _ (((if_neg c28).trans rfl).symm) (lv_sub hl [0, 1, 3] rfl)
            · refine lv_iconst hx hb dX6_unlike_49 kI_m1 ?_
              refine lv_goto (tgt := 54) hx hb dX6_unlike_50 (by decide) ?_
              exact hJ _ _ (((if_pos c28).trans rfl).symm) (lv_sub hl [0, 1, 3] rfl)
          intro v29 ls ev29 hl
          have h := vl_at ev29 h
          refine lv_istore_n (lv' := [(2, .int v29), (0, .ref h0), (1, .int x1), (3, .int x3)]) hx hb dX6_unlike_54 rfl hl (by decide) rfl (fun ls hl => ?_)
          obtain ⟨v30, ev30⟩ : ∃ y : Int32, y = x3 + (1 : Int32) := ⟨_, rfl⟩
          have h := vl_at ev30 h
          refine lv_iinc (v := v30) (lv' := [(3, .int v30), (2, .int v29), (0, .ref h0), (1, .int x1)]) hx hb dX6_unlike_55 hl (k := 3) rfl (by rw [ev30, kI_1]) (by decide) rfl (fun ls hl => ?_)
          refine lv_goto (tgt := 8) hx hb dX6_unlike_58 (by decide) ?_
          exact ih _ _ _ _ _ h _ _ _ hM hL (lv_sub hl [2, 3, 1, 0] rfl)
  rw [f_X6_unlike.eq_1] at h
  refine lv_iconst hx hb dX6_unlike_0 kI_m1 ?_
  refine lv_istore_n (lv' := [(2, .int (-1 : Int32)), (0, .ref h0), (1, .int x1)]) hx hb dX6_unlike_1 rfl hl (by decide) rfl (fun ls hl => ?_)
  refine lv_aload_n hx hb dX6_unlike_2 rfl (lv_at hl 1 rfl) ?_
  obtain ⟨o31, h⟩ := oi_some h
  obtain ⟨q32, hq32, h⟩ := ob_some h
  refine m_callv (va_runV (As := []) (rest := []) ⟨hx, hb, hml, hown, hts⟩ (c_X6_keeps l G hq32) (cwV 0 hts gX6_unlike_X6_keeps rfl rfl rfl hd_X6_keepsv ⟨Nat.le_of_ble_eq_true rfl, Nat.le_of_ble_eq_true rfl⟩) (m_preV (ci := 5) hK hM rfl o31) rfl rfl hl.1 rfl (lv_room (Nat.le_of_ble_eq_true rfl)) dX6_unlike_3 ⟨Nat.le_of_ble_eq_true rfl, Nat.le_of_ble_eq_true rfl⟩) hL (fun H locs hM hL => ?_)
  refine lv_iconst hx hb dX6_unlike_6 kI_0 ?_
  refine lv_istore_n (lv' := [(3, .int (0 : Int32)), (2, .int (-1 : Int32)), (0, .ref h0), (1, .int x1)]) hx hb dX6_unlike_7 rfl hl (by decide) rfl (fun ls hl => ?_)
  refine hN8 _ ?_ _ _ _ _ _ _ h _ _ _ hM hL (lv_sub hl [2, 3, 1, 0] rfl)
  · intro h0 x2 σ h H locs ls hM hL hl
    refine lv_aload_n hx hb dX6_unlike_61 rfl (lv_at hl 0 rfl) ?_
    obtain ⟨o33, h⟩ := oi_some h
    obtain ⟨q34, hq34, h⟩ := ob_some h
    refine m_callv (va_runV (As := []) (rest := []) ⟨hx, hb, hml, hown, hts⟩ (c_X6_lays l G hq34) (cwV 0 hts gX6_unlike_X6_lays rfl rfl rfl hd_X6_laysv ⟨Nat.le_of_ble_eq_true rfl, Nat.le_of_ble_eq_true rfl⟩) (m_preV (ci := 5) hK hM rfl o33) rfl rfl hl.1 rfl (lv_room (Nat.le_of_ble_eq_true rfl)) dX6_unlike_62 ⟨Nat.le_of_ble_eq_true rfl, Nat.le_of_ble_eq_true rfl⟩) hL (fun H locs hM hL => ?_)
    refine lv_iload_n hx hb dX6_unlike_65 rfl (lv_at hl 1 rfl) ?_
    subst hQ
    have h := Option.some.inj h
    subst h
    exact m_iret hx hb hr hM hL dX6_unlike_66 hlocks
abbrev rm_X6_judge : Room := { frames := 8, cells := 0, slots := 0, locals := 180 }
set_option maxHeartbeats 4000000 in
set_option maxRecDepth 100000 in
theorem c_X6_judge (l : Launch) (G : mG) {h0 : Nat} {x1 : Int32} {σ : mS} {z : Int32 × mS} (h : f_X6_judge h0 x1 σ = some z) : Met l yX6_judge wsX6_judge rm_X6_judge (va_Pc [.ref h0, .int x1] (mB G σ)) (mQ G (.returned (some (.int z.1))) z.2) 0 0 (mF G) := by
  refine m_start (cc := cX6_judge) (maxL := 3) (ret := (some .int)) (by decide) rfl [.ref h0, .int x1] (Nat.le_of_ble_eq_true rfl) ?_
  intro p e s m args below meth c ls hx hb hr hml hown hts hlocks hnm hK hM hl
  have hown : s.vm.findClass RX6 = some m.cls := hown
  have hnm : meth.name = "judge" := hnm
  obtain ⟨locs, hlocs⟩ : ∃ l : List Loc, l = [] := ⟨_, rfl⟩
  have hL : mL G locs := by rw [hlocs]; exact mL_nil G
  rw [← hlocs]
  generalize s.heap = H at hM ⊢
  have hl : lv_has ls 3 [(0, .ref h0), (1, .int x1)] := hl
  obtain ⟨Q, hQ⟩ : ∃ Q, Q = MQ below (mQ G (.returned (some (.int z.1))) z.2) args s 0 0 (mF G) := ⟨_, rfl⟩
  rw [← hQ]
  rw [f_X6_judge.eq_1] at h
  refine lv_aload_n hx hb dX6_judge_0 rfl (lv_at hl 0 rfl) ?_
  refine lv_iload_n hx hb dX6_judge_1 rfl (lv_at hl 1 rfl) ?_
  obtain ⟨o6, h⟩ := oi_some h
  obtain ⟨q7, hq7, h⟩ := ob_some h
  refine m_calli (va_runV (As := [.int x1]) (rest := []) ⟨hx, hb, hml, hown, hts⟩ (c_X6_sheetWrong l G hq7) (cwV 1 hts gX6_judge_X6_sheetWrong rfl rfl rfl hd_X6_sheetWrongv ⟨Nat.le_of_ble_eq_true rfl, Nat.le_of_ble_eq_true rfl⟩) (m_preV (ci := 5) hK hM rfl o6) rfl rfl hl.1 rfl (lv_room (Nat.le_of_ble_eq_true rfl)) dX6_judge_2 ⟨Nat.le_of_ble_eq_true rfl, Nat.le_of_ble_eq_true rfl⟩) hL (fun H locs hM hL => ?_)
  refine lv_istore_n (lv' := [(2, .int q7), (0, .ref h0), (1, .int x1)]) hx hb dX6_judge_5 rfl hl (by decide) rfl (fun ls hl => ?_)
  refine lv_iload_n hx hb dX6_judge_6 rfl (lv_at hl 0 rfl) ?_
  refine lv_if_ne (tgt := 18) hx hb dX6_judge_7 (by decide) (fun c8 => ?_) (fun c8 => ?_)
  · have h := (if_neg c8).symm.trans h
    refine lv_iload_n hx hb dX6_judge_18 rfl (lv_at hl 0 rfl) ?_
    subst hQ
    have h := Option.some.inj h
    subst h
    exact m_iret hx hb hr hM hL dX6_judge_19 hlocks
  · have h := (if_pos c8).symm.trans h
    refine lv_aload_n hx hb dX6_judge_10 rfl (lv_at hl 1 rfl) ?_
    refine lv_iload_n hx hb dX6_judge_11 rfl (lv_at hl 2 rfl) ?_
    obtain ⟨o9, h⟩ := oi_some h
    obtain ⟨q10, hq10, h⟩ := ob_some h
    refine m_calli (va_runV (As := [.int x1]) (rest := []) ⟨hx, hb, hml, hown, hts⟩ (c_X6_unlike l G hq10) (cwV 1 hts gX6_judge_X6_unlike rfl rfl rfl hd_X6_unlikev ⟨Nat.le_of_ble_eq_true rfl, Nat.le_of_ble_eq_true rfl⟩) (m_preV (ci := 5) hK hM rfl o9) rfl rfl hl.1 rfl (lv_room (Nat.le_of_ble_eq_true rfl)) dX6_judge_12 ⟨Nat.le_of_ble_eq_true rfl, Nat.le_of_ble_eq_true rfl⟩) hL (fun H locs hM hL => ?_)
    refine lv_goto (tgt := 19) hx hb dX6_judge_15 (by decide) ?_
    subst hQ
    have h := Option.some.inj h
    subst h
    exact m_iret hx hb hr hM hL dX6_judge_19 hlocks
abbrev rm_X6_kinds : Room := { frames := 8, cells := 0, slots := 0, locals := 180 }
set_option maxHeartbeats 4000000 in
set_option maxRecDepth 100000 in
theorem c_X6_kinds (l : Launch) (G : mG) {h0 : Nat} {x1 : Int32} {x2 : Int32} {x3 : Int32} {σ : mS} {z : Int32 × mS} (h : f_X6_kinds h0 x1 x2 x3 σ = some z) : Met l yX6_kinds wsX6_kinds rm_X6_kinds (va_Pc [.ref h0, .int x1, .int x2, .int x3] (mB G σ)) (mQ G (.returned (some (.int z.1))) z.2) 0 0 (mF G) := by
  refine m_start (cc := cX6_kinds) (maxL := 9) (ret := (some .int)) (by decide) rfl [.ref h0, .int x1, .int x2, .int x3] (Nat.le_of_ble_eq_true rfl) ?_
  intro p e s m args below meth c ls hx hb hr hml hown hts hlocks hnm hK hM hl
  have hown : s.vm.findClass RX6 = some m.cls := hown
  have hnm : meth.name = "kinds" := hnm
  obtain ⟨locs, hlocs⟩ : ∃ l : List Loc, l = [] := ⟨_, rfl⟩
  have hL : mL G locs := by rw [hlocs]; exact mL_nil G
  rw [← hlocs]
  generalize s.heap = H at hM ⊢
  have hl : lv_has ls 9 [(0, .ref h0), (1, .int x1), (2, .int x2), (3, .int x3)] := hl
  obtain ⟨Q, hQ⟩ : ∃ Q, Q = MQ below (mQ G (.returned (some (.int z.1))) z.2) args s 0 0 (mF G) := ⟨_, rfl⟩
  rw [← hQ]
  have hU6 : ∀ w ∈ wsX60, w.before args s = true := fun w h => hts w (List.mem_cons_of_mem _ (List.mem_append_right _ h))
  have w1 := (hts (.fieldLink RX6 7 "HandkerchiefsDroppedModel" "kind" "[I") (List.mem_of_getElem? (i := 1) rfl))
  have w2 := (hts (.fieldLink RX6 13 "HandkerchiefsDroppedModel" "moreOf" "[I") (List.mem_of_getElem? (i := 2) rfl))
  have hN60 : ∀ (n : Nat) (h0 : Nat) (x1 : Int32) (x2 : Int32) (x3 : Int32) (x5 : Int32) (x6 : Int32) (x7 : Int32) (x8 : Int32) (σ : mS), f_X6_kinds_60 n h0 x1 x2 x3 x5 x6 x7 x8 σ = some z → ∀ (H : Heap) (locs : List Loc) (ls : Array Slot), mP G σ H → mL G locs → lv_has ls 9 [(0, .ref h0), (1, .int x1), (2, .int x2), (3, .int x3), (5, .int x5), (6, .int x6), (7, .int x7), (8, .int x8)] → W p l e rm_X6_kinds s m args below meth c H locs 0 0 Q (F0 m 60 ls []) := by
    intro n
    induction n with
    | zero =>
      intro h0 x1 x2 x3 x5 x6 x7 x8 σ h
      exact nomatch (show (none : Option (Int32 × mS)) = some z from h)
    | succ n ih =>
      intro h0 x1 x2 x3 x5 x6 x7 x8 σ h H locs ls hM hL hl
      rw [f_X6_kinds_60.eq_2] at h
      refine lv_iload hx hb dX6_kinds_60 (lv_at hl 7 rfl) ?_
      refine lv_iload_n hx hb dX6_kinds_62 rfl (lv_at hl 3 rfl) ?_
      suffices hJ : ∀ (v34 : Int32) (ls : Array Slot), v34 = (if x3 = 0 then (6 : Int32) else (10 : Int32)) → lv_has ls 9 [(0, .ref h0), (1, .int x1), (2, .int x2), (3, .int x3), (5, .int x5), (6, .int x6), (7, .int x7), (8, .int x8)] → W p l e rm_X6_kinds s m args below meth c H locs 0 0 Q (F0 m 73 ls [.int v34, .int x8]) by
        refine lv_if_ne (tgt := 71) hx hb dX6_kinds_63 (by decide) (fun c33 => ?_) (fun c33 => ?_)
        · refine lv_bipush hx hb dX6_kinds_71 kB_10 ?_
          exact hJ _ _ (((if_neg c33).trans rfl).symm) (lv_sub hl [0, 1, 2, 3, 4, 5, 6, 7] rfl)
        · refine lv_bipush hx hb dX6_kinds_66 kB_6 ?_
          refine lv_goto (tgt := 73) hx hb dX6_kinds_68 (by decide) ?_
          exact hJ _ _ (((if_pos c33).trans rfl).symm) (lv_sub hl [0, 1, 2, 3, 4, 5, 6, 7] rfl)
      intro v34 ls ev34 hl
      have h := vl_at ev34 h
      refine lv_icmp_ge (tgt := 139) hx hb dX6_kinds_73 (by decide) (fun c35 => ?_) (fun c35 => ?_)
      · have h := (if_pos c35).symm.trans h
        refine lv_aload_n hx hb dX6_kinds_139 rfl (lv_at hl 0 rfl) ?_
        refine m_getR (ci := 5) hx hb hU6 hown hK hM rfl 1 (by decide) w1 h dX6_kinds_140 (fun r36 gr36 h => ?_)
        refine lv_iload_n hx hb dX6_kinds_143 rfl (lv_at hl 2 rfl) ?_
        refine lv_iload hx hb dX6_kinds_144 (lv_at hl 4 rfl) ?_
        refine m_iast hx hb hK hM hL h dX6_kinds_146 (fun t37 H locs h hM hL => ?_)
        refine lv_aload_n hx hb dX6_kinds_147 rfl (lv_at hl 0 rfl) ?_
        refine m_getR (ci := 5) hx hb hU6 hown hK hM rfl 2 (by decide) w2 h dX6_kinds_148 (fun r38 gr38 h => ?_)
        refine lv_iload_n hx hb dX6_kinds_151 rfl (lv_at hl 2 rfl) ?_
        refine lv_iload hx hb dX6_kinds_152 (lv_at hl 5 rfl) ?_
        refine m_iast hx hb hK hM hL h dX6_kinds_154 (fun t39 H locs h hM hL => ?_)
        refine lv_iload hx hb dX6_kinds_155 (lv_at hl 6 rfl) ?_
        subst hQ
        have h := Option.some.inj h
        subst h
        exact m_iret hx hb hr hM hL dX6_kinds_157 hlocks
      · have h := (if_neg c35).symm.trans h
        refine lv_aload_n hx hb dX6_kinds_76 rfl (lv_at hl 0 rfl) ?_
        refine m_getR (ci := 5) hx hb hU6 hown hK hM rfl 1 (by decide) w1 h dX6_kinds_77 (fun r40 gr40 h => ?_)
        refine lv_iload_n hx hb dX6_kinds_80 rfl (lv_at hl 2 rfl) ?_
        refine lv_iload_n hx hb dX6_kinds_81 rfl (lv_at hl 3 rfl) ?_
        suffices hJ : ∀ (v42 : Int32) (ls : Array Slot), v42 = (if x3 = 0 then x8 else x5) → lv_has ls 9 [(0, .ref h0), (1, .int x1), (2, .int x2), (3, .int x3), (5, .int x5), (6, .int x6), (7, .int x7), (8, .int x8)] → W p l e rm_X6_kinds s m args below meth c H locs 0 0 Q (F0 m 92 ls [.int v42, .int x2, .ref r40]) by
          refine lv_if_ne (tgt := 90) hx hb dX6_kinds_82 (by decide) (fun c41 => ?_) (fun c41 => ?_)
          · refine lv_iload hx hb dX6_kinds_90 (lv_at hl 4 rfl) ?_
            exact hJ _ _ (((if_neg c41).trans rfl).symm) (lv_sub hl [0, 1, 2, 3, 4, 5, 6, 7] rfl)
          · refine lv_iload hx hb dX6_kinds_85 (lv_at hl 7 rfl) ?_
            refine lv_goto (tgt := 92) hx hb dX6_kinds_87 (by decide) ?_
            exact hJ _ _ (((if_pos c41).trans rfl).symm) (lv_sub hl [0, 1, 2, 3, 4, 5, 6, 7] rfl)
        intro v42 ls ev42 hl
        have h := vl_at ev42 h
        refine m_iast hx hb hK hM hL h dX6_kinds_92 (fun t43 H locs h hM hL => ?_)
        refine lv_aload_n hx hb dX6_kinds_93 rfl (lv_at hl 0 rfl) ?_
        refine m_getR (ci := 5) hx hb hU6 hown hK hM rfl 2 (by decide) w2 h dX6_kinds_94 (fun r44 gr44 h => ?_)
        refine lv_iload_n hx hb dX6_kinds_97 rfl (lv_at hl 2 rfl) ?_
        refine lv_iload_n hx hb dX6_kinds_98 rfl (lv_at hl 3 rfl) ?_
        refine lv_iconst hx hb dX6_kinds_99 kI_1 ?_
        suffices hJ : ∀ (v46 : Int32) (ls : Array Slot), v46 = (if x3 = (1 : Int32) then x8 else x6) → lv_has ls 9 [(0, .ref h0), (1, .int x1), (2, .int x2), (3, .int x3), (5, .int x5), (6, .int x6), (7, .int x7), (8, .int x8)] → W p l e rm_X6_kinds s m args below meth c H locs 0 0 Q (F0 m 110 ls [.int v46, .int x2, .ref r44]) by
          refine lv_icmp_ne (tgt := 108) hx hb dX6_kinds_100 (by decide) (fun c45 => ?_) (fun c45 => ?_)
          · refine lv_iload hx hb dX6_kinds_108 (lv_at hl 5 rfl) ?_
            exact hJ _ _ (((if_neg c45).trans rfl).symm) (lv_sub hl [0, 1, 2, 3, 4, 5, 6, 7] rfl)
          · refine lv_iload hx hb dX6_kinds_103 (lv_at hl 7 rfl) ?_
            refine lv_goto (tgt := 110) hx hb dX6_kinds_105 (by decide) ?_
            exact hJ _ _ (((if_pos c45).trans rfl).symm) (lv_sub hl [0, 1, 2, 3, 4, 5, 6, 7] rfl)
        intro v46 ls ev46 hl
        have h := vl_at ev46 h
        refine m_iast hx hb hK hM hL h dX6_kinds_110 (fun t47 H locs h hM hL => ?_)
        refine lv_iload hx hb dX6_kinds_111 (lv_at hl 6 rfl) ?_
        refine lv_aload_n hx hb dX6_kinds_113 rfl (lv_at hl 0 rfl) ?_
        refine lv_iload_n hx hb dX6_kinds_114 rfl (lv_at hl 1 rfl) ?_
        obtain ⟨o48, h⟩ := oi_some h
        obtain ⟨q49, hq49, h⟩ := ob_some h
        refine m_calli (va_runV (As := [.int x1]) (rest := [.int x7]) ⟨hx, hb, hml, hown, hts⟩ (c_X6_unlike l G hq49) (cwV 1 hts gX6_kinds_X6_unlike rfl rfl rfl hd_X6_unlikev ⟨Nat.le_of_ble_eq_true rfl, Nat.le_of_ble_eq_true rfl⟩) (m_preV (ci := 5) hK hM rfl o48) rfl rfl hl.1 rfl (lv_room (Nat.le_of_ble_eq_true rfl)) dX6_kinds_115 ⟨Nat.le_of_ble_eq_true rfl, Nat.le_of_ble_eq_true rfl⟩) hL (fun H locs hM hL => ?_)
        refine lv_iconst hx hb dX6_kinds_118 kI_m1 ?_
        suffices hJ : ∀ (v51 : Int32) (ls : Array Slot), v51 = (if q49.1 = (-1 : Int32) then ((1 : Int32) <<< (x8 &&& 31)) else (0 : Int32)) → lv_has ls 9 [(0, .ref h0), (1, .int x1), (2, .int x2), (3, .int x3), (5, .int x5), (6, .int x6), (8, .int x8)] → W p l e rm_X6_kinds s m args below meth c H locs 0 0 Q (F0 m 130 ls [.int v51, .int x7]) by
          refine lv_icmp_ne (tgt := 129) hx hb dX6_kinds_119 (by decide) (fun c50 => ?_) (fun c50 => ?_)
          · refine lv_iconst hx hb dX6_kinds_129 kI_0 ?_
            exact hJ _ _ (((if_neg c50).trans rfl).symm) (lv_sub hl [0, 1, 2, 3, 4, 5, 7] rfl)
          · refine lv_iconst hx hb dX6_kinds_122 kI_1 ?_
            refine lv_iload hx hb dX6_kinds_123 (lv_at hl 7 rfl) ?_
            refine lv_ishl hx hb dX6_kinds_125 ?_
            refine lv_goto (tgt := 130) hx hb dX6_kinds_126 (by decide) ?_
            exact hJ _ _ (((if_pos c50).trans rfl).symm) (lv_sub hl [0, 1, 2, 3, 4, 5, 7] rfl)
        intro v51 ls ev51 hl
        have h := vl_at ev51 h
        refine lv_ior hx hb dX6_kinds_130 ?_
        refine lv_topi (fun v52 ev52 => ?_)
        have h := vl_at ev52 h
        refine lv_istore (lv' := [(7, .int v52), (0, .ref h0), (1, .int x1), (2, .int x2), (3, .int x3), (5, .int x5), (6, .int x6), (8, .int x8)]) hx hb dX6_kinds_131 hl (by decide) rfl (fun ls hl => ?_)
        obtain ⟨v53, ev53⟩ : ∃ y : Int32, y = x8 + (1 : Int32) := ⟨_, rfl⟩
        have h := vl_at ev53 h
        refine lv_iinc (v := v53) (lv' := [(8, .int v53), (7, .int v52), (0, .ref h0), (1, .int x1), (2, .int x2), (3, .int x3), (5, .int x5), (6, .int x6)]) hx hb dX6_kinds_133 hl (k := 7) rfl (by rw [ev53, kI_1]) (by decide) rfl (fun ls hl => ?_)
        refine lv_goto (tgt := 60) hx hb dX6_kinds_136 (by decide) ?_
        exact ih _ _ _ _ _ _ _ _ _ h _ _ _ hM hL (lv_sub hl [2, 3, 4, 5, 6, 7, 1, 0] rfl)
  rw [f_X6_kinds.eq_1] at h
  refine lv_aload_n hx hb dX6_kinds_0 rfl (lv_at hl 0 rfl) ?_
  refine lv_iload_n hx hb dX6_kinds_1 rfl (lv_at hl 1 rfl) ?_
  obtain ⟨o54, h⟩ := oi_some h
  obtain ⟨q55, hq55, h⟩ := ob_some h
  refine m_calli (va_runV (As := [.int x1]) (rest := []) ⟨hx, hb, hml, hown, hts⟩ (c_X6_sheetWrong l G hq55) (cwV 1 hts gX6_kinds_X6_sheetWrong rfl rfl rfl hd_X6_sheetWrongv ⟨Nat.le_of_ble_eq_true rfl, Nat.le_of_ble_eq_true rfl⟩) (m_preV (ci := 5) hK hM rfl o54) rfl rfl hl.1 rfl (lv_room (Nat.le_of_ble_eq_true rfl)) dX6_kinds_2 ⟨Nat.le_of_ble_eq_true rfl, Nat.le_of_ble_eq_true rfl⟩) hL (fun H locs hM hL => ?_)
  refine lv_istore (lv' := [(4, .int q55), (0, .ref h0), (1, .int x1), (2, .int x2), (3, .int x3)]) hx hb dX6_kinds_5 hl (by decide) rfl (fun ls hl => ?_)
  refine lv_iload hx hb dX6_kinds_7 (lv_at hl 0 rfl) ?_
  refine lv_if_eq (tgt := 15) hx hb dX6_kinds_9 (by decide) (fun c56 => ?_) (fun c56 => ?_)
  · have h := (if_pos c56).symm.trans h
    refine lv_aload_n hx hb dX6_kinds_15 rfl (lv_at hl 1 rfl) ?_
    refine lv_iload_n hx hb dX6_kinds_16 rfl (lv_at hl 3 rfl) ?_
    obtain ⟨o57, h⟩ := oi_some h
    obtain ⟨q58, hq58, h⟩ := ob_some h
    refine m_calli (va_runV (As := [.int x2]) (rest := []) ⟨hx, hb, hml, hown, hts⟩ (c_X6_isOne l G hq58) (cwV 1 hts gX6_kinds_X6_isOne rfl rfl rfl hd_X6_isOnev ⟨Nat.le_of_ble_eq_true rfl, Nat.le_of_ble_eq_true rfl⟩) (m_preV (ci := 5) hK hM rfl o57) rfl rfl hl.1 rfl (lv_room (Nat.le_of_ble_eq_true rfl)) dX6_kinds_17 ⟨Nat.le_of_ble_eq_true rfl, Nat.le_of_ble_eq_true rfl⟩) hL (fun H locs hM hL => ?_)
    refine lv_if_ne (tgt := 26) hx hb dX6_kinds_20 (by decide) (fun c59 => ?_) (fun c59 => ?_)
    · have h := (if_neg c59).symm.trans h
      refine lv_iload_n hx hb dX6_kinds_26 rfl (lv_at hl 4 rfl) ?_
      refine lv_iconst hx hb dX6_kinds_27 kI_0 ?_
      refine lv_iconst hx hb dX6_kinds_28 kI_1 ?_
      refine m_calli (va_runS (As := [.int x3, .int (0 : Int32), .int (1 : Int32)]) (rest := []) ⟨hx, hb, hml, hown, hts⟩ (c_X6_in l G x3 (0 : Int32) (1 : Int32)) (va_cwS 3 hts gX6_kinds_X6_in rfl rfl rfl hd_X6_in ⟨Nat.le_of_ble_eq_true rfl, Nat.le_of_ble_eq_true rfl⟩) (m_preS hK hM) rfl rfl hl.1 rfl (lv_room (Nat.le_of_ble_eq_true rfl)) dX6_kinds_29 ⟨Nat.le_of_ble_eq_true rfl, Nat.le_of_ble_eq_true rfl⟩) hL (fun H locs hM hL => ?_)
      refine lv_if_ne (tgt := 38) hx hb dX6_kinds_32 (by decide) (fun c60 => ?_) (fun c60 => ?_)
      · have h := (if_neg c60).symm.trans h
        refine lv_aload_n hx hb dX6_kinds_38 rfl (lv_at hl 1 rfl) ?_
        refine m_getR (ci := 5) hx hb hU6 hown hK hM rfl 1 (by decide) w1 h dX6_kinds_39 (fun r61 gr61 h => ?_)
        refine lv_iload_n hx hb dX6_kinds_42 rfl (lv_at hl 3 rfl) ?_
        refine m_iald hx hb hK hM h dX6_kinds_43 (fun v62 gv62 h => ?_)
        refine lv_istore (lv' := [(5, .int v62), (4, .int q55), (0, .ref h0), (1, .int x1), (2, .int x2), (3, .int x3)]) hx hb dX6_kinds_44 hl (by decide) rfl (fun ls hl => ?_)
        refine lv_aload_n hx hb dX6_kinds_46 rfl (lv_at hl 2 rfl) ?_
        refine m_getR (ci := 5) hx hb hU6 hown hK hM rfl 2 (by decide) w2 h dX6_kinds_47 (fun r63 gr63 h => ?_)
        refine lv_iload_n hx hb dX6_kinds_50 rfl (lv_at hl 4 rfl) ?_
        refine m_iald hx hb hK hM h dX6_kinds_51 (fun v64 gv64 h => ?_)
        refine lv_istore (lv' := [(6, .int v64), (5, .int v62), (4, .int q55), (0, .ref h0), (1, .int x1), (2, .int x2), (3, .int x3)]) hx hb dX6_kinds_52 hl (by decide) rfl (fun ls hl => ?_)
        refine lv_iconst hx hb dX6_kinds_54 kI_0 ?_
        refine lv_istore (lv' := [(7, .int (0 : Int32)), (6, .int v64), (5, .int v62), (4, .int q55), (0, .ref h0), (1, .int x1), (2, .int x2), (3, .int x3)]) hx hb dX6_kinds_55 hl (by decide) rfl (fun ls hl => ?_)
        refine lv_iconst hx hb dX6_kinds_57 kI_0 ?_
        refine lv_istore (lv' := [(8, .int (0 : Int32)), (7, .int (0 : Int32)), (6, .int v64), (5, .int v62), (4, .int q55), (0, .ref h0), (1, .int x1), (2, .int x2), (3, .int x3)]) hx hb dX6_kinds_58 hl (by decide) rfl (fun ls hl => ?_)
        refine hN60 _ _ _ _ _ _ _ _ _ _ h _ _ _ hM hL (lv_sub hl [5, 6, 7, 8, 3, 2, 1, 0] rfl)
      · have h := (if_pos c60).symm.trans h
        refine lv_bipush hx hb dX6_kinds_35 kB_m7 ?_
        subst hQ
        have h := Option.some.inj h
        subst h
        exact m_iret hx hb hr hM hL dX6_kinds_37 hlocks
    · have h := (if_pos c59).symm.trans h
      refine lv_bipush hx hb dX6_kinds_23 kB_m5 ?_
      subst hQ
      have h := Option.some.inj h
      subst h
      exact m_iret hx hb hr hM hL dX6_kinds_25 hlocks
  · have h := (if_neg c56).symm.trans h
    refine lv_iload hx hb dX6_kinds_12 (lv_at hl 0 rfl) ?_
    subst hQ
    have h := Option.some.inj h
    subst h
    exact m_iret hx hb hr hM hL dX6_kinds_14 hlocks
abbrev rm_X6_faces : Room := { frames := 8, cells := 0, slots := 0, locals := 180 }
set_option maxHeartbeats 4000000 in
set_option maxRecDepth 100000 in
theorem c_X6_faces (l : Launch) (G : mG) {h0 : Nat} {x1 : Int32} {x2 : Int32} {x3 : Int32} {σ : mS} {z : Int32 × mS} (h : f_X6_faces h0 x1 x2 x3 σ = some z) : Met l yX6_faces wsX6_faces rm_X6_faces (va_Pc [.ref h0, .int x1, .int x2, .int x3] (mB G σ)) (mQ G (.returned (some (.int z.1))) z.2) 0 0 (mF G) := by
  refine m_start (cc := cX6_faces) (maxL := 10) (ret := (some .int)) (by decide) rfl [.ref h0, .int x1, .int x2, .int x3] (Nat.le_of_ble_eq_true rfl) ?_
  intro p e s m args below meth c ls hx hb hr hml hown hts hlocks hnm hK hM hl
  have hown : s.vm.findClass RX6 = some m.cls := hown
  have hnm : meth.name = "faces" := hnm
  obtain ⟨locs, hlocs⟩ : ∃ l : List Loc, l = [] := ⟨_, rfl⟩
  have hL : mL G locs := by rw [hlocs]; exact mL_nil G
  rw [← hlocs]
  generalize s.heap = H at hM ⊢
  have hl : lv_has ls 10 [(0, .ref h0), (1, .int x1), (2, .int x2), (3, .int x3)] := hl
  obtain ⟨Q, hQ⟩ : ∃ Q, Q = MQ below (mQ G (.returned (some (.int z.1))) z.2) args s 0 0 (mF G) := ⟨_, rfl⟩
  rw [← hQ]
  have hU6 : ∀ w ∈ wsX60, w.before args s = true := fun w h => hts w (List.mem_cons_of_mem _ (List.mem_append_right _ h))
  have w1 := (hts (.fieldLink RX6 16 "HandkerchiefsDroppedModel" "rows" "[I") (List.mem_of_getElem? (i := 1) rfl))
  have hN59 : ∀ (n : Nat) (h0 : Nat) (x1 : Int32) (x2 : Int32) (x3 : Int32) (x5 : Int32) (x6 : Int32) (x7 : Int32) (x8 : Int32) (σ : mS), f_X6_faces_59 n h0 x1 x2 x3 x5 x6 x7 x8 σ = some z → ∀ (H : Heap) (locs : List Loc) (ls : Array Slot), mP G σ H → mL G locs → lv_has ls 10 [(0, .ref h0), (1, .int x1), (2, .int x2), (3, .int x3), (5, .int x5), (6, .int x6), (7, .int x7), (8, .int x8)] → W p l e rm_X6_faces s m args below meth c H locs 0 0 Q (F0 m 59 ls []) := by
    intro n
    induction n with
    | zero =>
      intro h0 x1 x2 x3 x5 x6 x7 x8 σ h
      exact nomatch (show (none : Option (Int32 × mS)) = some z from h)
    | succ n ih =>
      intro h0 x1 x2 x3 x5 x6 x7 x8 σ h H locs ls hM hL hl
      rw [f_X6_faces_59.eq_2] at h
      refine lv_iload hx hb dX6_faces_59 (lv_at hl 7 rfl) ?_
      refine lv_bipush hx hb dX6_faces_61 kB_99 ?_
      refine lv_icmp_gt (tgt := 135) hx hb dX6_faces_63 (by decide) (fun c27 => ?_) (fun c27 => ?_)
      · have h := (if_pos c27).symm.trans h
        refine lv_aload_n hx hb dX6_faces_135 rfl (lv_at hl 0 rfl) ?_
        refine m_getR (ci := 5) hx hb hU6 hown hK hM rfl 3 (by decide) w1 h dX6_faces_136 (fun r28 gr28 h => ?_)
        refine lv_iconst hx hb dX6_faces_139 kI_3 ?_
        refine lv_iload_n hx hb dX6_faces_140 rfl (lv_at hl 2 rfl) ?_
        refine lv_imul hx hb dX6_faces_141 ?_
        refine lv_iconst hx hb dX6_faces_142 kI_1 ?_
        refine lv_iadd hx hb dX6_faces_143 ?_
        refine lv_iload hx hb dX6_faces_144 (lv_at hl 4 rfl) ?_
        refine m_iast hx hb hK hM hL h dX6_faces_146 (fun t29 H locs h hM hL => ?_)
        refine lv_iload_n hx hb dX6_faces_147 rfl (lv_at hl 3 rfl) ?_
        refine lv_if_ne (tgt := 156) hx hb dX6_faces_148 (by decide) (fun c30 => ?_) (fun c30 => ?_)
        · have h := (if_neg c30).symm.trans h
          refine lv_iload hx hb dX6_faces_156 (lv_at hl 6 rfl) ?_
          subst hQ
          have h := Option.some.inj h
          subst h
          exact m_iret hx hb hr hM hL dX6_faces_158 hlocks
        · have h := (if_pos c30).symm.trans h
          refine lv_iload hx hb dX6_faces_151 (lv_at hl 5 rfl) ?_
          refine lv_goto (tgt := 158) hx hb dX6_faces_153 (by decide) ?_
          subst hQ
          have h := Option.some.inj h
          subst h
          exact m_iret hx hb hr hM hL dX6_faces_158 hlocks
      · have h := (if_neg c27).symm.trans h
        refine lv_aload_n hx hb dX6_faces_66 rfl (lv_at hl 0 rfl) ?_
        refine m_getR (ci := 5) hx hb hU6 hown hK hM rfl 3 (by decide) w1 h dX6_faces_67 (fun r31 gr31 h => ?_)
        refine lv_iconst hx hb dX6_faces_70 kI_3 ?_
        refine lv_iload_n hx hb dX6_faces_71 rfl (lv_at hl 2 rfl) ?_
        refine lv_imul hx hb dX6_faces_72 ?_
        refine lv_iconst hx hb dX6_faces_73 kI_1 ?_
        refine lv_iadd hx hb dX6_faces_74 ?_
        refine lv_iload hx hb dX6_faces_75 (lv_at hl 7 rfl) ?_
        refine m_iast hx hb hK hM hL h dX6_faces_77 (fun t32 H locs h hM hL => ?_)
        refine lv_aload_n hx hb dX6_faces_78 rfl (lv_at hl 0 rfl) ?_
        refine lv_iload_n hx hb dX6_faces_79 rfl (lv_at hl 1 rfl) ?_
        obtain ⟨o33, h⟩ := oi_some h
        obtain ⟨q34, hq34, h⟩ := ob_some h
        refine m_calli (va_runV (As := [.int x1]) (rest := []) ⟨hx, hb, hml, hown, hts⟩ (c_X6_unlike l G hq34) (cwV 1 hts gX6_faces_X6_unlike rfl rfl rfl hd_X6_unlikev ⟨Nat.le_of_ble_eq_true rfl, Nat.le_of_ble_eq_true rfl⟩) (m_preV (ci := 5) hK hM rfl o33) rfl rfl hl.1 rfl (lv_room (Nat.le_of_ble_eq_true rfl)) dX6_faces_80 ⟨Nat.le_of_ble_eq_true rfl, Nat.le_of_ble_eq_true rfl⟩) hL (fun H locs hM hL => ?_)
        refine lv_iconst hx hb dX6_faces_83 kI_m1 ?_
        suffices hJ : ∀ (v36 : Int32) (ls : Array Slot), v36 = (if q34.1 = (-1 : Int32) then (1 : Int32) else (0 : Int32)) → lv_has ls 10 [(0, .ref h0), (1, .int x1), (2, .int x2), (3, .int x3), (5, .int x5), (6, .int x6), (7, .int x7), (8, .int x8)] → W p l e rm_X6_faces s m args below meth c H locs 0 0 Q (F0 m 92 ls [.int v36]) by
          refine lv_icmp_ne (tgt := 91) hx hb dX6_faces_84 (by decide) (fun c35 => ?_) (fun c35 => ?_)
          · refine lv_iconst hx hb dX6_faces_91 kI_0 ?_
            exact hJ _ _ (((if_neg c35).trans rfl).symm) (lv_sub hl [0, 1, 2, 3, 4, 5, 6, 7] rfl)
          · refine lv_iconst hx hb dX6_faces_87 kI_1 ?_
            refine lv_goto (tgt := 92) hx hb dX6_faces_88 (by decide) ?_
            exact hJ _ _ (((if_pos c35).trans rfl).symm) (lv_sub hl [0, 1, 2, 3, 4, 5, 6, 7] rfl)
        intro v36 ls ev36 hl
        have h := vl_at ev36 h
        refine lv_istore (lv' := [(9, .int v36), (0, .ref h0), (1, .int x1), (2, .int x2), (3, .int x3), (5, .int x5), (6, .int x6), (7, .int x7), (8, .int x8)]) hx hb dX6_faces_92 hl (by decide) rfl (fun ls hl => ?_)
        refine lv_iload hx hb dX6_faces_94 (lv_at hl 6 rfl) ?_
        refine lv_iload hx hb dX6_faces_96 (lv_at hl 0 rfl) ?_
        suffices hJ : ∀ (v38 : Int32) (ls : Array Slot), v38 = (if v36 = 0 then (0 : Int32) else (1 : Int32)) → lv_has ls 10 [(0, .ref h0), (1, .int x1), (2, .int x2), (3, .int x3), (5, .int x5), (7, .int x7), (8, .int x8), (9, .int v36)] → W p l e rm_X6_faces s m args below meth c H locs 0 0 Q (F0 m 106 ls [.int v38, .int x6]) by
          refine lv_if_eq (tgt := 105) hx hb dX6_faces_98 (by decide) (fun c37 => ?_) (fun c37 => ?_)
          · refine lv_iconst hx hb dX6_faces_105 kI_0 ?_
            exact hJ _ _ (((if_pos c37).trans rfl).symm) (lv_sub hl [1, 2, 3, 4, 5, 7, 8, 0] rfl)
          · refine lv_iconst hx hb dX6_faces_101 kI_1 ?_
            refine lv_goto (tgt := 106) hx hb dX6_faces_102 (by decide) ?_
            exact hJ _ _ (((if_neg c37).trans rfl).symm) (lv_sub hl [1, 2, 3, 4, 5, 7, 8, 0] rfl)
        intro v38 ls ev38 hl
        have h := vl_at ev38 h
        refine lv_iadd hx hb dX6_faces_106 ?_
        refine lv_topi (fun v39 ev39 => ?_)
        have h := vl_at ev39 h
        refine lv_istore (lv' := [(6, .int v39), (0, .ref h0), (1, .int x1), (2, .int x2), (3, .int x3), (5, .int x5), (7, .int x7), (8, .int x8), (9, .int v36)]) hx hb dX6_faces_107 hl (by decide) rfl (fun ls hl => ?_)
        refine lv_iload hx hb dX6_faces_109 (lv_at hl 8 rfl) ?_
        suffices hJ : ∀ (v42 : Int32) (ls : Array Slot), v42 = (if v36 = 0 then x7 else if x7 = (-1 : Int32) then x8 else x7) → lv_has ls 10 [(0, .ref h0), (1, .int x1), (2, .int x2), (3, .int x3), (5, .int x5), (6, .int v39), (8, .int x8)] → W p l e rm_X6_faces s m args below meth c H locs 0 0 Q (F0 m 127 ls [.int v42]) by
          refine lv_if_eq (tgt := 125) hx hb dX6_faces_111 (by decide) (fun c40 => ?_) (fun c40 => ?_)
          · refine lv_iload hx hb dX6_faces_125 (lv_at hl 6 rfl) ?_
            exact hJ _ _ (((if_pos c40).trans rfl).symm) (lv_sub hl [1, 2, 3, 4, 5, 0, 7] rfl)
          · refine lv_iload hx hb dX6_faces_114 (lv_at hl 6 rfl) ?_
            refine lv_iconst hx hb dX6_faces_116 kI_m1 ?_
            refine lv_icmp_ne (tgt := 125) hx hb dX6_faces_117 (by decide) (fun c41 => ?_) (fun c41 => ?_)
            · refine lv_iload hx hb dX6_faces_125 (lv_at hl 6 rfl) ?_
              exact hJ _ _ (((if_neg c40).trans ((if_neg c41).trans rfl)).symm) (lv_sub hl [1, 2, 3, 4, 5, 0, 7] rfl)
            · refine lv_iload hx hb dX6_faces_120 (lv_at hl 7 rfl) ?_
              refine lv_goto (tgt := 127) hx hb dX6_faces_122 (by decide) ?_
              exact hJ _ _ (((if_neg c40).trans ((if_pos c41).trans rfl)).symm) (lv_sub hl [1, 2, 3, 4, 5, 0, 7] rfl)
        intro v42 ls ev42 hl
        have h := vl_at ev42 h
        refine lv_istore (lv' := [(7, .int v42), (0, .ref h0), (1, .int x1), (2, .int x2), (3, .int x3), (5, .int x5), (6, .int v39), (8, .int x8)]) hx hb dX6_faces_127 hl (by decide) rfl (fun ls hl => ?_)
        obtain ⟨v43, ev43⟩ : ∃ y : Int32, y = x8 + (1 : Int32) := ⟨_, rfl⟩
        have h := vl_at ev43 h
        refine lv_iinc (v := v43) (lv' := [(8, .int v43), (7, .int v42), (0, .ref h0), (1, .int x1), (2, .int x2), (3, .int x3), (5, .int x5), (6, .int v39)]) hx hb dX6_faces_129 hl (k := 7) rfl (by rw [ev43, kI_1]) (by decide) rfl (fun ls hl => ?_)
        refine lv_goto (tgt := 59) hx hb dX6_faces_132 (by decide) ?_
        exact ih _ _ _ _ _ _ _ _ _ h _ _ _ hM hL (lv_sub hl [2, 3, 4, 5, 6, 7, 1, 0] rfl)
  rw [f_X6_faces.eq_1] at h
  refine lv_aload_n hx hb dX6_faces_0 rfl (lv_at hl 0 rfl) ?_
  refine lv_iload_n hx hb dX6_faces_1 rfl (lv_at hl 1 rfl) ?_
  obtain ⟨o44, h⟩ := oi_some h
  obtain ⟨q45, hq45, h⟩ := ob_some h
  refine m_calli (va_runV (As := [.int x1]) (rest := []) ⟨hx, hb, hml, hown, hts⟩ (c_X6_sheetWrong l G hq45) (cwV 1 hts gX6_faces_X6_sheetWrong rfl rfl rfl hd_X6_sheetWrongv ⟨Nat.le_of_ble_eq_true rfl, Nat.le_of_ble_eq_true rfl⟩) (m_preV (ci := 5) hK hM rfl o44) rfl rfl hl.1 rfl (lv_room (Nat.le_of_ble_eq_true rfl)) dX6_faces_2 ⟨Nat.le_of_ble_eq_true rfl, Nat.le_of_ble_eq_true rfl⟩) hL (fun H locs hM hL => ?_)
  refine lv_istore (lv' := [(4, .int q45), (0, .ref h0), (1, .int x1), (2, .int x2), (3, .int x3)]) hx hb dX6_faces_5 hl (by decide) rfl (fun ls hl => ?_)
  refine lv_iload hx hb dX6_faces_7 (lv_at hl 0 rfl) ?_
  refine lv_if_eq (tgt := 15) hx hb dX6_faces_9 (by decide) (fun c46 => ?_) (fun c46 => ?_)
  · have h := (if_pos c46).symm.trans h
    refine lv_aload_n hx hb dX6_faces_15 rfl (lv_at hl 1 rfl) ?_
    refine lv_iload_n hx hb dX6_faces_16 rfl (lv_at hl 3 rfl) ?_
    obtain ⟨o47, h⟩ := oi_some h
    obtain ⟨q48, hq48, h⟩ := ob_some h
    refine m_calli (va_runV (As := [.int x2]) (rest := []) ⟨hx, hb, hml, hown, hts⟩ (c_X6_isOne l G hq48) (cwV 1 hts gX6_faces_X6_isOne rfl rfl rfl hd_X6_isOnev ⟨Nat.le_of_ble_eq_true rfl, Nat.le_of_ble_eq_true rfl⟩) (m_preV (ci := 5) hK hM rfl o47) rfl rfl hl.1 rfl (lv_room (Nat.le_of_ble_eq_true rfl)) dX6_faces_17 ⟨Nat.le_of_ble_eq_true rfl, Nat.le_of_ble_eq_true rfl⟩) hL (fun H locs hM hL => ?_)
    refine lv_if_ne (tgt := 26) hx hb dX6_faces_20 (by decide) (fun c49 => ?_) (fun c49 => ?_)
    · have h := (if_neg c49).symm.trans h
      refine lv_iload_n hx hb dX6_faces_26 rfl (lv_at hl 4 rfl) ?_
      refine lv_iconst hx hb dX6_faces_27 kI_0 ?_
      refine lv_iconst hx hb dX6_faces_28 kI_1 ?_
      refine m_calli (va_runS (As := [.int x3, .int (0 : Int32), .int (1 : Int32)]) (rest := []) ⟨hx, hb, hml, hown, hts⟩ (c_X6_in l G x3 (0 : Int32) (1 : Int32)) (va_cwS 3 hts gX6_faces_X6_in rfl rfl rfl hd_X6_in ⟨Nat.le_of_ble_eq_true rfl, Nat.le_of_ble_eq_true rfl⟩) (m_preS hK hM) rfl rfl hl.1 rfl (lv_room (Nat.le_of_ble_eq_true rfl)) dX6_faces_29 ⟨Nat.le_of_ble_eq_true rfl, Nat.le_of_ble_eq_true rfl⟩) hL (fun H locs hM hL => ?_)
      refine lv_if_ne (tgt := 38) hx hb dX6_faces_32 (by decide) (fun c50 => ?_) (fun c50 => ?_)
      · have h := (if_neg c50).symm.trans h
        refine lv_aload_n hx hb dX6_faces_38 rfl (lv_at hl 1 rfl) ?_
        refine m_getR (ci := 5) hx hb hU6 hown hK hM rfl 3 (by decide) w1 h dX6_faces_39 (fun r51 gr51 h => ?_)
        refine lv_iconst hx hb dX6_faces_42 kI_3 ?_
        refine lv_iload_n hx hb dX6_faces_43 rfl (lv_at hl 3 rfl) ?_
        refine lv_imul hx hb dX6_faces_44 ?_
        refine lv_iconst hx hb dX6_faces_45 kI_1 ?_
        refine lv_iadd hx hb dX6_faces_46 ?_
        refine m_iald hx hb hK hM h dX6_faces_47 (fun v52 gv52 h => ?_)
        refine lv_istore (lv' := [(5, .int v52), (4, .int q45), (0, .ref h0), (1, .int x1), (2, .int x2), (3, .int x3)]) hx hb dX6_faces_48 hl (by decide) rfl (fun ls hl => ?_)
        refine lv_iconst hx hb dX6_faces_50 kI_0 ?_
        refine lv_istore (lv' := [(6, .int (0 : Int32)), (5, .int v52), (4, .int q45), (0, .ref h0), (1, .int x1), (2, .int x2), (3, .int x3)]) hx hb dX6_faces_51 hl (by decide) rfl (fun ls hl => ?_)
        refine lv_iconst hx hb dX6_faces_53 kI_m1 ?_
        refine lv_istore (lv' := [(7, .int (-1 : Int32)), (6, .int (0 : Int32)), (5, .int v52), (4, .int q45), (0, .ref h0), (1, .int x1), (2, .int x2), (3, .int x3)]) hx hb dX6_faces_54 hl (by decide) rfl (fun ls hl => ?_)
        refine lv_iconst hx hb dX6_faces_56 kI_0 ?_
        refine lv_istore (lv' := [(8, .int (0 : Int32)), (7, .int (-1 : Int32)), (6, .int (0 : Int32)), (5, .int v52), (4, .int q45), (0, .ref h0), (1, .int x1), (2, .int x2), (3, .int x3)]) hx hb dX6_faces_57 hl (by decide) rfl (fun ls hl => ?_)
        refine hN59 _ _ _ _ _ _ _ _ _ _ h _ _ _ hM hL (lv_sub hl [5, 6, 7, 8, 3, 2, 1, 0] rfl)
      · have h := (if_pos c50).symm.trans h
        refine lv_bipush hx hb dX6_faces_35 kB_m7 ?_
        subst hQ
        have h := Option.some.inj h
        subst h
        exact m_iret hx hb hr hM hL dX6_faces_37 hlocks
    · have h := (if_pos c49).symm.trans h
      refine lv_bipush hx hb dX6_faces_23 kB_m5 ?_
      subst hQ
      have h := Option.some.inj h
      subst h
      exact m_iret hx hb hr hM hL dX6_faces_25 hlocks
  · have h := (if_neg c46).symm.trans h
    refine lv_iload hx hb dX6_faces_12 (lv_at hl 0 rfl) ?_
    subst hQ
    have h := Option.some.inj h
    subst h
    exact m_iret hx hb hr hM hL dX6_faces_14 hlocks
abbrev rm_X6_keens : Room := { frames := 8, cells := 0, slots := 0, locals := 180 }
set_option maxHeartbeats 4000000 in
set_option maxRecDepth 100000 in
theorem c_X6_keens (l : Launch) (G : mG) {h0 : Nat} {x1 : Int32} {x2 : Int32} {x3 : Int32} {σ : mS} {z : Int32 × mS} (h : f_X6_keens h0 x1 x2 x3 σ = some z) : Met l yX6_keens wsX6_keens rm_X6_keens (va_Pc [.ref h0, .int x1, .int x2, .int x3] (mB G σ)) (mQ G (.returned (some (.int z.1))) z.2) 0 0 (mF G) := by
  refine m_start (cc := cX6_keens) (maxL := 10) (ret := (some .int)) (by decide) rfl [.ref h0, .int x1, .int x2, .int x3] (Nat.le_of_ble_eq_true rfl) ?_
  intro p e s m args below meth c ls hx hb hr hml hown hts hlocks hnm hK hM hl
  have hown : s.vm.findClass RX6 = some m.cls := hown
  have hnm : meth.name = "keens" := hnm
  obtain ⟨locs, hlocs⟩ : ∃ l : List Loc, l = [] := ⟨_, rfl⟩
  have hL : mL G locs := by rw [hlocs]; exact mL_nil G
  rw [← hlocs]
  generalize s.heap = H at hM ⊢
  have hl : lv_has ls 10 [(0, .ref h0), (1, .int x1), (2, .int x2), (3, .int x3)] := hl
  obtain ⟨Q, hQ⟩ : ∃ Q, Q = MQ below (mQ G (.returned (some (.int z.1))) z.2) args s 0 0 (mF G) := ⟨_, rfl⟩
  rw [← hQ]
  have hU6 : ∀ w ∈ wsX60, w.before args s = true := fun w h => hts w (List.mem_cons_of_mem _ (List.mem_append_right _ h))
  have w1 := (hts (.fieldLink RX6 25 "HandkerchiefsDroppedModel" "keen" "[I") (List.mem_of_getElem? (i := 1) rfl))
  have hN56 : ∀ (n : Nat) (h0 : Nat) (x1 : Int32) (x2 : Int32) (x3 : Int32) (x5 : Int32) (x6 : Int32) (x7 : Int32) (x8 : Int32) (σ : mS), f_X6_keens_56 n h0 x1 x2 x3 x5 x6 x7 x8 σ = some z → ∀ (H : Heap) (locs : List Loc) (ls : Array Slot), mP G σ H → mL G locs → lv_has ls 10 [(0, .ref h0), (1, .int x1), (2, .int x2), (3, .int x3), (5, .int x5), (6, .int x6), (7, .int x7), (8, .int x8)] → W p l e rm_X6_keens s m args below meth c H locs 0 0 Q (F0 m 56 ls []) := by
    intro n
    induction n with
    | zero =>
      intro h0 x1 x2 x3 x5 x6 x7 x8 σ h
      exact nomatch (show (none : Option (Int32 × mS)) = some z from h)
    | succ n ih =>
      intro h0 x1 x2 x3 x5 x6 x7 x8 σ h H locs ls hM hL hl
      rw [f_X6_keens_56.eq_2] at h
      refine lv_iload hx hb dX6_keens_56 (lv_at hl 7 rfl) ?_
      refine lv_bipush hx hb dX6_keens_58 kB_99 ?_
      refine lv_icmp_gt (tgt := 128) hx hb dX6_keens_60 (by decide) (fun c25 => ?_) (fun c25 => ?_)
      · have h := (if_pos c25).symm.trans h
        refine lv_aload_n hx hb dX6_keens_128 rfl (lv_at hl 0 rfl) ?_
        refine m_getR (ci := 5) hx hb hU6 hown hK hM rfl 6 (by decide) w1 h dX6_keens_129 (fun r26 gr26 h => ?_)
        refine lv_iload_n hx hb dX6_keens_132 rfl (lv_at hl 2 rfl) ?_
        refine lv_iload hx hb dX6_keens_133 (lv_at hl 4 rfl) ?_
        refine m_iast hx hb hK hM hL h dX6_keens_135 (fun t27 H locs h hM hL => ?_)
        refine lv_iload_n hx hb dX6_keens_136 rfl (lv_at hl 3 rfl) ?_
        refine lv_if_ne (tgt := 145) hx hb dX6_keens_137 (by decide) (fun c28 => ?_) (fun c28 => ?_)
        · have h := (if_neg c28).symm.trans h
          refine lv_iload hx hb dX6_keens_145 (lv_at hl 6 rfl) ?_
          subst hQ
          have h := Option.some.inj h
          subst h
          exact m_iret hx hb hr hM hL dX6_keens_147 hlocks
        · have h := (if_pos c28).symm.trans h
          refine lv_iload hx hb dX6_keens_140 (lv_at hl 5 rfl) ?_
          refine lv_goto (tgt := 147) hx hb dX6_keens_142 (by decide) ?_
          subst hQ
          have h := Option.some.inj h
          subst h
          exact m_iret hx hb hr hM hL dX6_keens_147 hlocks
      · have h := (if_neg c25).symm.trans h
        refine lv_aload_n hx hb dX6_keens_63 rfl (lv_at hl 0 rfl) ?_
        refine m_getR (ci := 5) hx hb hU6 hown hK hM rfl 6 (by decide) w1 h dX6_keens_64 (fun r29 gr29 h => ?_)
        refine lv_iload_n hx hb dX6_keens_67 rfl (lv_at hl 2 rfl) ?_
        refine lv_iload hx hb dX6_keens_68 (lv_at hl 7 rfl) ?_
        refine m_iast hx hb hK hM hL h dX6_keens_70 (fun t30 H locs h hM hL => ?_)
        refine lv_aload_n hx hb dX6_keens_71 rfl (lv_at hl 0 rfl) ?_
        refine lv_iload_n hx hb dX6_keens_72 rfl (lv_at hl 1 rfl) ?_
        obtain ⟨o31, h⟩ := oi_some h
        obtain ⟨q32, hq32, h⟩ := ob_some h
        refine m_calli (va_runV (As := [.int x1]) (rest := []) ⟨hx, hb, hml, hown, hts⟩ (c_X6_unlike l G hq32) (cwV 1 hts gX6_keens_X6_unlike rfl rfl rfl hd_X6_unlikev ⟨Nat.le_of_ble_eq_true rfl, Nat.le_of_ble_eq_true rfl⟩) (m_preV (ci := 5) hK hM rfl o31) rfl rfl hl.1 rfl (lv_room (Nat.le_of_ble_eq_true rfl)) dX6_keens_73 ⟨Nat.le_of_ble_eq_true rfl, Nat.le_of_ble_eq_true rfl⟩) hL (fun H locs hM hL => ?_)
        refine lv_iconst hx hb dX6_keens_76 kI_m1 ?_
        suffices hJ : ∀ (v34 : Int32) (ls : Array Slot), v34 = (if q32.1 = (-1 : Int32) then (1 : Int32) else (0 : Int32)) → lv_has ls 10 [(0, .ref h0), (1, .int x1), (2, .int x2), (3, .int x3), (5, .int x5), (6, .int x6), (7, .int x7), (8, .int x8)] → W p l e rm_X6_keens s m args below meth c H locs 0 0 Q (F0 m 85 ls [.int v34]) by
          refine lv_icmp_ne (tgt := 84) hx hb dX6_keens_77 (by decide) (fun c33 => ?_) (fun c33 => ?_)
          · refine lv_iconst hx hb dX6_keens_84 kI_0 ?_
            exact hJ _ _ (((if_neg c33).trans rfl).symm) (lv_sub hl [0, 1, 2, 3, 4, 5, 6, 7] rfl)
          · refine lv_iconst hx hb dX6_keens_80 kI_1 ?_
            refine lv_goto (tgt := 85) hx hb dX6_keens_81 (by decide) ?_
            exact hJ _ _ (((if_pos c33).trans rfl).symm) (lv_sub hl [0, 1, 2, 3, 4, 5, 6, 7] rfl)
        intro v34 ls ev34 hl
        have h := vl_at ev34 h
        refine lv_istore (lv' := [(9, .int v34), (0, .ref h0), (1, .int x1), (2, .int x2), (3, .int x3), (5, .int x5), (6, .int x6), (7, .int x7), (8, .int x8)]) hx hb dX6_keens_85 hl (by decide) rfl (fun ls hl => ?_)
        refine lv_iload hx hb dX6_keens_87 (lv_at hl 6 rfl) ?_
        refine lv_iload hx hb dX6_keens_89 (lv_at hl 0 rfl) ?_
        suffices hJ : ∀ (v36 : Int32) (ls : Array Slot), v36 = (if v34 = 0 then (0 : Int32) else (1 : Int32)) → lv_has ls 10 [(0, .ref h0), (1, .int x1), (2, .int x2), (3, .int x3), (5, .int x5), (7, .int x7), (8, .int x8), (9, .int v34)] → W p l e rm_X6_keens s m args below meth c H locs 0 0 Q (F0 m 99 ls [.int v36, .int x6]) by
          refine lv_if_eq (tgt := 98) hx hb dX6_keens_91 (by decide) (fun c35 => ?_) (fun c35 => ?_)
          · refine lv_iconst hx hb dX6_keens_98 kI_0 ?_
            exact hJ _ _ (((if_pos c35).trans rfl).symm) (lv_sub hl [1, 2, 3, 4, 5, 7, 8, 0] rfl)
          · refine lv_iconst hx hb dX6_keens_94 kI_1 ?_
            refine lv_goto (tgt := 99) hx hb dX6_keens_95 (by decide) ?_
            exact hJ _ _ (((if_neg c35).trans rfl).symm) (lv_sub hl [1, 2, 3, 4, 5, 7, 8, 0] rfl)
        intro v36 ls ev36 hl
        have h := vl_at ev36 h
        refine lv_iadd hx hb dX6_keens_99 ?_
        refine lv_topi (fun v37 ev37 => ?_)
        have h := vl_at ev37 h
        refine lv_istore (lv' := [(6, .int v37), (0, .ref h0), (1, .int x1), (2, .int x2), (3, .int x3), (5, .int x5), (7, .int x7), (8, .int x8), (9, .int v34)]) hx hb dX6_keens_100 hl (by decide) rfl (fun ls hl => ?_)
        refine lv_iload hx hb dX6_keens_102 (lv_at hl 8 rfl) ?_
        suffices hJ : ∀ (v40 : Int32) (ls : Array Slot), v40 = (if v34 = 0 then x7 else if x7 = (-1 : Int32) then x8 else x7) → lv_has ls 10 [(0, .ref h0), (1, .int x1), (2, .int x2), (3, .int x3), (5, .int x5), (6, .int v37), (8, .int x8)] → W p l e rm_X6_keens s m args below meth c H locs 0 0 Q (F0 m 120 ls [.int v40]) by
          refine lv_if_eq (tgt := 118) hx hb dX6_keens_104 (by decide) (fun c38 => ?_) (fun c38 => ?_)
          · refine lv_iload hx hb dX6_keens_118 (lv_at hl 6 rfl) ?_
            exact hJ _ _ (((if_pos c38).trans rfl).symm) (lv_sub hl [1, 2, 3, 4, 5, 0, 7] rfl)
          · refine lv_iload hx hb dX6_keens_107 (lv_at hl 6 rfl) ?_
            refine lv_iconst hx hb dX6_keens_109 kI_m1 ?_
            refine lv_icmp_ne (tgt := 118) hx hb dX6_keens_110 (by decide) (fun c39 => ?_) (fun c39 => ?_)
            · refine lv_iload hx hb dX6_keens_118 (lv_at hl 6 rfl) ?_
              exact hJ _ _ (((if_neg c38).trans ((if_neg c39).trans rfl)).symm) (lv_sub hl [1, 2, 3, 4, 5, 0, 7] rfl)
            · refine lv_iload hx hb dX6_keens_113 (lv_at hl 7 rfl) ?_
              refine lv_goto (tgt := 120) hx hb dX6_keens_115 (by decide) ?_
              exact hJ _ _ (((if_neg c38).trans ((if_pos c39).trans rfl)).symm) (lv_sub hl [1, 2, 3, 4, 5, 0, 7] rfl)
        intro v40 ls ev40 hl
        have h := vl_at ev40 h
        refine lv_istore (lv' := [(7, .int v40), (0, .ref h0), (1, .int x1), (2, .int x2), (3, .int x3), (5, .int x5), (6, .int v37), (8, .int x8)]) hx hb dX6_keens_120 hl (by decide) rfl (fun ls hl => ?_)
        obtain ⟨v41, ev41⟩ : ∃ y : Int32, y = x8 + (1 : Int32) := ⟨_, rfl⟩
        have h := vl_at ev41 h
        refine lv_iinc (v := v41) (lv' := [(8, .int v41), (7, .int v40), (0, .ref h0), (1, .int x1), (2, .int x2), (3, .int x3), (5, .int x5), (6, .int v37)]) hx hb dX6_keens_122 hl (k := 7) rfl (by rw [ev41, kI_1]) (by decide) rfl (fun ls hl => ?_)
        refine lv_goto (tgt := 56) hx hb dX6_keens_125 (by decide) ?_
        exact ih _ _ _ _ _ _ _ _ _ h _ _ _ hM hL (lv_sub hl [2, 3, 4, 5, 6, 7, 1, 0] rfl)
  rw [f_X6_keens.eq_1] at h
  refine lv_aload_n hx hb dX6_keens_0 rfl (lv_at hl 0 rfl) ?_
  refine lv_iload_n hx hb dX6_keens_1 rfl (lv_at hl 1 rfl) ?_
  obtain ⟨o42, h⟩ := oi_some h
  obtain ⟨q43, hq43, h⟩ := ob_some h
  refine m_calli (va_runV (As := [.int x1]) (rest := []) ⟨hx, hb, hml, hown, hts⟩ (c_X6_sheetWrong l G hq43) (cwV 1 hts gX6_keens_X6_sheetWrong rfl rfl rfl hd_X6_sheetWrongv ⟨Nat.le_of_ble_eq_true rfl, Nat.le_of_ble_eq_true rfl⟩) (m_preV (ci := 5) hK hM rfl o42) rfl rfl hl.1 rfl (lv_room (Nat.le_of_ble_eq_true rfl)) dX6_keens_2 ⟨Nat.le_of_ble_eq_true rfl, Nat.le_of_ble_eq_true rfl⟩) hL (fun H locs hM hL => ?_)
  refine lv_istore (lv' := [(4, .int q43), (0, .ref h0), (1, .int x1), (2, .int x2), (3, .int x3)]) hx hb dX6_keens_5 hl (by decide) rfl (fun ls hl => ?_)
  refine lv_iload hx hb dX6_keens_7 (lv_at hl 0 rfl) ?_
  refine lv_if_eq (tgt := 15) hx hb dX6_keens_9 (by decide) (fun c44 => ?_) (fun c44 => ?_)
  · have h := (if_pos c44).symm.trans h
    refine lv_iload_n hx hb dX6_keens_15 rfl (lv_at hl 3 rfl) ?_
    refine lv_iconst hx hb dX6_keens_16 kI_0 ?_
    refine lv_iconst hx hb dX6_keens_17 kI_5 ?_
    refine m_calli (va_runS (As := [.int x2, .int (0 : Int32), .int (5 : Int32)]) (rest := []) ⟨hx, hb, hml, hown, hts⟩ (c_X6_in l G x2 (0 : Int32) (5 : Int32)) (va_cwS 3 hts gX6_keens_X6_in rfl rfl rfl hd_X6_in ⟨Nat.le_of_ble_eq_true rfl, Nat.le_of_ble_eq_true rfl⟩) (m_preS hK hM) rfl rfl hl.1 rfl (lv_room (Nat.le_of_ble_eq_true rfl)) dX6_keens_18 ⟨Nat.le_of_ble_eq_true rfl, Nat.le_of_ble_eq_true rfl⟩) hL (fun H locs hM hL => ?_)
    refine lv_if_ne (tgt := 27) hx hb dX6_keens_21 (by decide) (fun c45 => ?_) (fun c45 => ?_)
    · have h := (if_neg c45).symm.trans h
      refine lv_iload_n hx hb dX6_keens_27 rfl (lv_at hl 4 rfl) ?_
      refine lv_iconst hx hb dX6_keens_28 kI_0 ?_
      refine lv_iconst hx hb dX6_keens_29 kI_1 ?_
      refine m_calli (va_runS (As := [.int x3, .int (0 : Int32), .int (1 : Int32)]) (rest := []) ⟨hx, hb, hml, hown, hts⟩ (c_X6_in l G x3 (0 : Int32) (1 : Int32)) (va_cwS 3 hts gX6_keens_X6_in rfl rfl rfl hd_X6_in ⟨Nat.le_of_ble_eq_true rfl, Nat.le_of_ble_eq_true rfl⟩) (m_preS hK hM) rfl rfl hl.1 rfl (lv_room (Nat.le_of_ble_eq_true rfl)) dX6_keens_30 ⟨Nat.le_of_ble_eq_true rfl, Nat.le_of_ble_eq_true rfl⟩) hL (fun H locs hM hL => ?_)
      refine lv_if_ne (tgt := 39) hx hb dX6_keens_33 (by decide) (fun c46 => ?_) (fun c46 => ?_)
      · have h := (if_neg c46).symm.trans h
        refine lv_aload_n hx hb dX6_keens_39 rfl (lv_at hl 1 rfl) ?_
        refine m_getR (ci := 5) hx hb hU6 hown hK hM rfl 6 (by decide) w1 h dX6_keens_40 (fun r47 gr47 h => ?_)
        refine lv_iload_n hx hb dX6_keens_43 rfl (lv_at hl 3 rfl) ?_
        refine m_iald hx hb hK hM h dX6_keens_44 (fun v48 gv48 h => ?_)
        refine lv_istore (lv' := [(5, .int v48), (4, .int q43), (0, .ref h0), (1, .int x1), (2, .int x2), (3, .int x3)]) hx hb dX6_keens_45 hl (by decide) rfl (fun ls hl => ?_)
        refine lv_iconst hx hb dX6_keens_47 kI_0 ?_
        refine lv_istore (lv' := [(6, .int (0 : Int32)), (5, .int v48), (4, .int q43), (0, .ref h0), (1, .int x1), (2, .int x2), (3, .int x3)]) hx hb dX6_keens_48 hl (by decide) rfl (fun ls hl => ?_)
        refine lv_iconst hx hb dX6_keens_50 kI_m1 ?_
        refine lv_istore (lv' := [(7, .int (-1 : Int32)), (6, .int (0 : Int32)), (5, .int v48), (4, .int q43), (0, .ref h0), (1, .int x1), (2, .int x2), (3, .int x3)]) hx hb dX6_keens_51 hl (by decide) rfl (fun ls hl => ?_)
        refine lv_iconst hx hb dX6_keens_53 kI_0 ?_
        refine lv_istore (lv' := [(8, .int (0 : Int32)), (7, .int (-1 : Int32)), (6, .int (0 : Int32)), (5, .int v48), (4, .int q43), (0, .ref h0), (1, .int x1), (2, .int x2), (3, .int x3)]) hx hb dX6_keens_54 hl (by decide) rfl (fun ls hl => ?_)
        refine hN56 _ _ _ _ _ _ _ _ _ _ h _ _ _ hM hL (lv_sub hl [5, 6, 7, 8, 3, 2, 1, 0] rfl)
      · have h := (if_pos c46).symm.trans h
        refine lv_bipush hx hb dX6_keens_36 kB_m7 ?_
        subst hQ
        have h := Option.some.inj h
        subst h
        exact m_iret hx hb hr hM hL dX6_keens_38 hlocks
    · have h := (if_pos c45).symm.trans h
      refine lv_bipush hx hb dX6_keens_24 kB_m5 ?_
      subst hQ
      have h := Option.some.inj h
      subst h
      exact m_iret hx hb hr hM hL dX6_keens_26 hlocks
  · have h := (if_neg c44).symm.trans h
    refine lv_iload hx hb dX6_keens_12 (lv_at hl 0 rfl) ?_
    subst hQ
    have h := Option.some.inj h
    subst h
    exact m_iret hx hb hr hM hL dX6_keens_14 hlocks
abbrev rm_X6_burnt : Room := { frames := 8, cells := 0, slots := 0, locals := 180 }
set_option maxHeartbeats 4000000 in
set_option maxRecDepth 100000 in
theorem c_X6_burnt (l : Launch) (G : mG) {h0 : Nat} {x1 : Int32} {σ : mS} {z : Int32 × mS} (h : f_X6_burnt h0 x1 σ = some z) : Met l yX6_burnt wsX6_burnt rm_X6_burnt (va_Pc [.ref h0, .int x1] (mB G σ)) (mQ G (.returned (some (.int z.1))) z.2) 0 0 (mF G) := by
  refine m_start (cc := cX6_burnt) (maxL := 6) (ret := (some .int)) (by decide) rfl [.ref h0, .int x1] (Nat.le_of_ble_eq_true rfl) ?_
  intro p e s m args below meth c ls hx hb hr hml hown hts hlocks hnm hK hM hl
  have hown : s.vm.findClass RX6 = some m.cls := hown
  have hnm : meth.name = "burnt" := hnm
  obtain ⟨locs, hlocs⟩ : ∃ l : List Loc, l = [] := ⟨_, rfl⟩
  have hL : mL G locs := by rw [hlocs]; exact mL_nil G
  rw [← hlocs]
  generalize s.heap = H at hM ⊢
  have hl : lv_has ls 6 [(0, .ref h0), (1, .int x1)] := hl
  obtain ⟨Q, hQ⟩ : ∃ Q, Q = MQ below (mQ G (.returned (some (.int z.1))) z.2) args s 0 0 (mF G) := ⟨_, rfl⟩
  rw [← hQ]
  have hU6 : ∀ w ∈ wsX60, w.before args s = true := fun w h => hts w (List.mem_cons_of_mem _ (List.mem_append_right _ h))
  have w1 := (hts (.fieldLink RX6 19 "HandkerchiefsDroppedModel" "linens" "[I") (List.mem_of_getElem? (i := 1) rfl))
  have hN17 : ∀ (n : Nat) (h0 : Nat) (x1 : Int32) (x3 : Int32) (x4 : Int32) (σ : mS), f_X6_burnt_17 n h0 x1 x3 x4 σ = some z → ∀ (H : Heap) (locs : List Loc) (ls : Array Slot), mP G σ H → mL G locs → lv_has ls 6 [(0, .ref h0), (1, .int x1), (3, .int x3), (4, .int x4)] → W p l e rm_X6_burnt s m args below meth c H locs 0 0 Q (F0 m 17 ls []) := by
    intro n
    induction n with
    | zero =>
      intro h0 x1 x3 x4 σ h
      exact nomatch (show (none : Option (Int32 × mS)) = some z from h)
    | succ n ih =>
      intro h0 x1 x3 x4 σ h H locs ls hM hL hl
      rw [f_X6_burnt_17.eq_2] at h
      refine lv_iload hx hb dX6_burnt_17 (lv_at hl 3 rfl) ?_
      refine lv_bipush hx hb dX6_burnt_19 kB_8 ?_
      refine lv_icmp_ge (tgt := 88) hx hb dX6_burnt_21 (by decide) (fun c19 => ?_) (fun c19 => ?_)
      · have h := (if_pos c19).symm.trans h
        refine lv_iload_n hx hb dX6_burnt_88 rfl (lv_at hl 2 rfl) ?_
        subst hQ
        have h := Option.some.inj h
        subst h
        exact m_iret hx hb hr hM hL dX6_burnt_89 hlocks
      · have h := (if_neg c19).symm.trans h
        refine lv_aload_n hx hb dX6_burnt_24 rfl (lv_at hl 0 rfl) ?_
        refine m_getR (ci := 5) hx hb hU6 hown hK hM rfl 4 (by decide) w1 h dX6_burnt_25 (fun r20 gr20 h => ?_)
        refine lv_iconst hx hb dX6_burnt_28 kI_3 ?_
        refine lv_iload hx hb dX6_burnt_29 (lv_at hl 3 rfl) ?_
        refine lv_imul hx hb dX6_burnt_31 ?_
        refine m_iald hx hb hK hM h dX6_burnt_32 (fun v21 gv21 h => ?_)
        refine lv_istore (lv' := [(5, .int v21), (0, .ref h0), (1, .int x1), (3, .int x3), (4, .int x4)]) hx hb dX6_burnt_33 hl (by decide) rfl (fun ls hl => ?_)
        refine lv_iload hx hb dX6_burnt_35 (lv_at hl 0 rfl) ?_
        refine lv_iconst hx hb dX6_burnt_37 kI_m1 ?_
        refine lv_icmp_eq (tgt := 82) hx hb dX6_burnt_38 (by decide) (fun c22 => ?_) (fun c22 => ?_)
        · have h := (if_pos c22).symm.trans h
          obtain ⟨v23, ev23⟩ : ∃ y : Int32, y = x4 + (1 : Int32) := ⟨_, rfl⟩
          have h := vl_at ev23 h
          refine lv_iinc (v := v23) (lv' := [(4, .int v23), (5, .int v21), (0, .ref h0), (1, .int x1), (3, .int x3)]) hx hb dX6_burnt_82 hl (k := 4) rfl (by rw [ev23, kI_1]) (by decide) rfl (fun ls hl => ?_)
          refine lv_goto (tgt := 17) hx hb dX6_burnt_85 (by decide) ?_
          exact ih _ _ _ _ _ h _ _ _ hM hL (lv_sub hl [2, 3, 4, 0] rfl)
        · have h := (if_neg c22).symm.trans h
          refine lv_aload_n hx hb dX6_burnt_41 rfl (lv_at hl 1 rfl) ?_
          refine m_getR (ci := 5) hx hb hU6 hown hK hM rfl 4 (by decide) w1 h dX6_burnt_42 (fun r24 gr24 h => ?_)
          refine lv_iconst hx hb dX6_burnt_45 kI_3 ?_
          refine lv_iload hx hb dX6_burnt_46 (lv_at hl 4 rfl) ?_
          refine lv_imul hx hb dX6_burnt_48 ?_
          refine lv_iconst hx hb dX6_burnt_49 kI_m1 ?_
          refine m_iast hx hb hK hM hL h dX6_burnt_50 (fun t25 H locs h hM hL => ?_)
          refine lv_iload_n hx hb dX6_burnt_51 rfl (lv_at hl 3 rfl) ?_
          refine lv_aload_n hx hb dX6_burnt_52 rfl (lv_at hl 1 rfl) ?_
          refine lv_iload_n hx hb dX6_burnt_53 rfl (lv_at hl 2 rfl) ?_
          obtain ⟨o26, h⟩ := oi_some h
          obtain ⟨q27, hq27, h⟩ := ob_some h
          refine m_calli (va_runV (As := [.int x1]) (rest := [.int x3]) ⟨hx, hb, hml, hown, hts⟩ (c_X6_unlike l G hq27) (cwV 1 hts gX6_burnt_X6_unlike rfl rfl rfl hd_X6_unlikev ⟨Nat.le_of_ble_eq_true rfl, Nat.le_of_ble_eq_true rfl⟩) (m_preV (ci := 5) hK hM rfl o26) rfl rfl hl.1 rfl (lv_room (Nat.le_of_ble_eq_true rfl)) dX6_burnt_54 ⟨Nat.le_of_ble_eq_true rfl, Nat.le_of_ble_eq_true rfl⟩) hL (fun H locs hM hL => ?_)
          refine lv_iconst hx hb dX6_burnt_57 kI_m1 ?_
          suffices hJ : ∀ (v29 : Int32) (ls : Array Slot), v29 = (if q27.1 = (-1 : Int32) then ((1 : Int32) <<< (x4 &&& 31)) else (0 : Int32)) → lv_has ls 6 [(0, .ref h0), (1, .int x1), (4, .int x4), (5, .int v21)] → W p l e rm_X6_burnt s m args below meth c H locs 0 0 Q (F0 m 69 ls [.int v29, .int x3]) by
            refine lv_icmp_ne (tgt := 68) hx hb dX6_burnt_58 (by decide) (fun c28 => ?_) (fun c28 => ?_)
            · refine lv_iconst hx hb dX6_burnt_68 kI_0 ?_
              exact hJ _ _ (((if_neg c28).trans rfl).symm) (lv_sub hl [1, 2, 4, 0] rfl)
            · refine lv_iconst hx hb dX6_burnt_61 kI_1 ?_
              refine lv_iload hx hb dX6_burnt_62 (lv_at hl 4 rfl) ?_
              refine lv_ishl hx hb dX6_burnt_64 ?_
              refine lv_goto (tgt := 69) hx hb dX6_burnt_65 (by decide) ?_
              exact hJ _ _ (((if_pos c28).trans rfl).symm) (lv_sub hl [1, 2, 4, 0] rfl)
          intro v29 ls ev29 hl
          have h := vl_at ev29 h
          refine lv_ior hx hb dX6_burnt_69 ?_
          refine lv_topi (fun v30 ev30 => ?_)
          have h := vl_at ev30 h
          refine lv_istore_n (lv' := [(3, .int v30), (0, .ref h0), (1, .int x1), (4, .int x4), (5, .int v21)]) hx hb dX6_burnt_70 rfl hl (by decide) rfl (fun ls hl => ?_)
          refine lv_aload_n hx hb dX6_burnt_71 rfl (lv_at hl 1 rfl) ?_
          refine m_getR (ci := 5) hx hb hU6 hown hK hM rfl 4 (by decide) w1 h dX6_burnt_72 (fun r31 gr31 h => ?_)
          refine lv_iconst hx hb dX6_burnt_75 kI_3 ?_
          refine lv_iload hx hb dX6_burnt_76 (lv_at hl 3 rfl) ?_
          refine lv_imul hx hb dX6_burnt_78 ?_
          refine lv_iload hx hb dX6_burnt_79 (lv_at hl 4 rfl) ?_
          refine m_iast hx hb hK hM hL h dX6_burnt_81 (fun t32 H locs h hM hL => ?_)
          obtain ⟨v33, ev33⟩ : ∃ y : Int32, y = x4 + (1 : Int32) := ⟨_, rfl⟩
          have h := vl_at ev33 h
          refine lv_iinc (v := v33) (lv' := [(4, .int v33), (3, .int v30), (0, .ref h0), (1, .int x1), (5, .int v21)]) hx hb dX6_burnt_82 hl (k := 3) rfl (by rw [ev33, kI_1]) (by decide) rfl (fun ls hl => ?_)
          refine lv_goto (tgt := 17) hx hb dX6_burnt_85 (by decide) ?_
          exact ih _ _ _ _ _ h _ _ _ hM hL (lv_sub hl [2, 3, 1, 0] rfl)
  rw [f_X6_burnt.eq_1] at h
  refine lv_aload_n hx hb dX6_burnt_0 rfl (lv_at hl 0 rfl) ?_
  refine lv_iload_n hx hb dX6_burnt_1 rfl (lv_at hl 1 rfl) ?_
  obtain ⟨o34, h⟩ := oi_some h
  obtain ⟨q35, hq35, h⟩ := ob_some h
  refine m_calli (va_runV (As := [.int x1]) (rest := []) ⟨hx, hb, hml, hown, hts⟩ (c_X6_sheetWrong l G hq35) (cwV 1 hts gX6_burnt_X6_sheetWrong rfl rfl rfl hd_X6_sheetWrongv ⟨Nat.le_of_ble_eq_true rfl, Nat.le_of_ble_eq_true rfl⟩) (m_preV (ci := 5) hK hM rfl o34) rfl rfl hl.1 rfl (lv_room (Nat.le_of_ble_eq_true rfl)) dX6_burnt_2 ⟨Nat.le_of_ble_eq_true rfl, Nat.le_of_ble_eq_true rfl⟩) hL (fun H locs hM hL => ?_)
  refine lv_istore_n (lv' := [(2, .int q35), (0, .ref h0), (1, .int x1)]) hx hb dX6_burnt_5 rfl hl (by decide) rfl (fun ls hl => ?_)
  refine lv_iload_n hx hb dX6_burnt_6 rfl (lv_at hl 0 rfl) ?_
  refine lv_if_eq (tgt := 12) hx hb dX6_burnt_7 (by decide) (fun c36 => ?_) (fun c36 => ?_)
  · have h := (if_pos c36).symm.trans h
    refine lv_iconst hx hb dX6_burnt_12 kI_0 ?_
    refine lv_istore_n (lv' := [(3, .int (0 : Int32)), (2, .int q35), (0, .ref h0), (1, .int x1)]) hx hb dX6_burnt_13 rfl hl (by decide) rfl (fun ls hl => ?_)
    refine lv_iconst hx hb dX6_burnt_14 kI_0 ?_
    refine lv_istore (lv' := [(4, .int (0 : Int32)), (3, .int (0 : Int32)), (2, .int q35), (0, .ref h0), (1, .int x1)]) hx hb dX6_burnt_15 hl (by decide) rfl (fun ls hl => ?_)
    refine hN17 _ _ _ _ _ _ h _ _ _ hM hL (lv_sub hl [3, 4, 1, 0] rfl)
  · have h := (if_neg c36).symm.trans h
    refine lv_iload_n hx hb dX6_burnt_10 rfl (lv_at hl 0 rfl) ?_
    subst hQ
    have h := Option.some.inj h
    subst h
    exact m_iret hx hb hr hM hL dX6_burnt_11 hlocks
abbrev rm_X6_laws : Room := { frames := 8, cells := 0, slots := 0, locals := 180 }
set_option maxHeartbeats 4000000 in
set_option maxRecDepth 100000 in
theorem c_X6_laws (l : Launch) (G : mG) {h0 : Nat} {x1 : Int32} {σ : mS} {z : Int32 × mS} (h : f_X6_laws h0 x1 σ = some z) : Met l yX6_laws wsX6_laws rm_X6_laws (va_Pc [.ref h0, .int x1] (mB G σ)) (mQ G (.returned (some (.int z.1))) z.2) 0 0 (mF G) := by
  refine m_start (cc := cX6_laws) (maxL := 6) (ret := (some .int)) (by decide) rfl [.ref h0, .int x1] (Nat.le_of_ble_eq_true rfl) ?_
  intro p e s m args below meth c ls hx hb hr hml hown hts hlocks hnm hK hM hl
  have hown : s.vm.findClass RX6 = some m.cls := hown
  have hnm : meth.name = "laws" := hnm
  obtain ⟨locs, hlocs⟩ : ∃ l : List Loc, l = [] := ⟨_, rfl⟩
  have hL : mL G locs := by rw [hlocs]; exact mL_nil G
  rw [← hlocs]
  generalize s.heap = H at hM ⊢
  have hl : lv_has ls 6 [(0, .ref h0), (1, .int x1)] := hl
  obtain ⟨Q, hQ⟩ : ∃ Q, Q = MQ below (mQ G (.returned (some (.int z.1))) z.2) args s 0 0 (mF G) := ⟨_, rfl⟩
  rw [← hQ]
  have hU6 : ∀ w ∈ wsX60, w.before args s = true := fun w h => hts w (List.mem_cons_of_mem _ (List.mem_append_right _ h))
  have w1 := (hts (.fieldLink RX6 102 "HandkerchiefsDroppedModel" "rule" "I") (List.mem_of_getElem? (i := 1) rfl))
  have w2 := (hts (.fieldLink RX6 99 "HandkerchiefsDroppedModel" "texts" "I") (List.mem_of_getElem? (i := 2) rfl))
  have hN23 : ∀ (n : Nat) (h0 : Nat) (x1 : Int32) (x3 : Int32) (x4 : Int32) (x5 : Int32) (σ : mS), f_X6_laws_23 n h0 x1 x3 x4 x5 σ = some z → ∀ (H : Heap) (locs : List Loc) (ls : Array Slot), mP G σ H → mL G locs → lv_has ls 6 [(0, .ref h0), (1, .int x1), (3, .int x3), (4, .int x4), (5, .int x5)] → W p l e rm_X6_laws s m args below meth c H locs 0 0 Q (F0 m 23 ls []) := by
    intro n
    induction n with
    | zero =>
      intro h0 x1 x3 x4 x5 σ h
      exact nomatch (show (none : Option (Int32 × mS)) = some z from h)
    | succ n ih =>
      intro h0 x1 x3 x4 x5 σ h H locs ls hM hL hl
      rw [f_X6_laws_23.eq_2] at h
      refine lv_iload hx hb dX6_laws_23 (lv_at hl 4 rfl) ?_
      refine lv_aload_n hx hb dX6_laws_25 rfl (lv_at hl 0 rfl) ?_
      refine m_getI (ci := 5) hx hb hU6 hown hK hM rfl 13 (by decide) w2 h dX6_laws_26 (fun v15 gv15 h => ?_)
      refine lv_icmp_ge (tgt := 66) hx hb dX6_laws_29 (by decide) (fun c16 => ?_) (fun c16 => ?_)
      · have h := (if_pos c16).symm.trans h
        refine lv_aload_n hx hb dX6_laws_66 rfl (lv_at hl 0 rfl) ?_
        refine lv_iload_n hx hb dX6_laws_67 rfl (lv_at hl 2 rfl) ?_
        refine m_put (ci := 5) hx hb hU6 tyX6 tyX6_ok nmX6 hown hK hM hL rfl 14 (by decide) w1 rfl rfl rfl h dX6_laws_68 (fun t17 H locs h hM hL => ?_)
        refine lv_iload hx hb dX6_laws_71 (lv_at hl 3 rfl) ?_
        subst hQ
        have h := Option.some.inj h
        subst h
        exact m_iret hx hb hr hM hL dX6_laws_73 hlocks
      · have h := (if_neg c16).symm.trans h
        refine lv_aload_n hx hb dX6_laws_32 rfl (lv_at hl 0 rfl) ?_
        refine lv_iload hx hb dX6_laws_33 (lv_at hl 4 rfl) ?_
        refine m_put (ci := 5) hx hb hU6 tyX6 tyX6_ok nmX6 hown hK hM hL rfl 14 (by decide) w1 rfl rfl rfl h dX6_laws_35 (fun t18 H locs h hM hL => ?_)
        refine lv_iload hx hb dX6_laws_38 (lv_at hl 3 rfl) ?_
        refine lv_aload_n hx hb dX6_laws_40 rfl (lv_at hl 0 rfl) ?_
        refine lv_iload_n hx hb dX6_laws_41 rfl (lv_at hl 1 rfl) ?_
        obtain ⟨o19, h⟩ := oi_some h
        obtain ⟨q20, hq20, h⟩ := ob_some h
        refine m_calli (va_runV (As := [.int x1]) (rest := [.int x4]) ⟨hx, hb, hml, hown, hts⟩ (c_X6_unlike l G hq20) (cwV 1 hts gX6_laws_X6_unlike rfl rfl rfl hd_X6_unlikev ⟨Nat.le_of_ble_eq_true rfl, Nat.le_of_ble_eq_true rfl⟩) (m_preV (ci := 5) hK hM rfl o19) rfl rfl hl.1 rfl (lv_room (Nat.le_of_ble_eq_true rfl)) dX6_laws_42 ⟨Nat.le_of_ble_eq_true rfl, Nat.le_of_ble_eq_true rfl⟩) hL (fun H locs hM hL => ?_)
        refine lv_iconst hx hb dX6_laws_45 kI_m1 ?_
        suffices hJ : ∀ (v22 : Int32) (ls : Array Slot), v22 = (if q20.1 = (-1 : Int32) then ((1 : Int32) <<< (x5 &&& 31)) else (0 : Int32)) → lv_has ls 6 [(0, .ref h0), (1, .int x1), (3, .int x3), (5, .int x5)] → W p l e rm_X6_laws s m args below meth c H locs 0 0 Q (F0 m 57 ls [.int v22, .int x4]) by
          refine lv_icmp_ne (tgt := 56) hx hb dX6_laws_46 (by decide) (fun c21 => ?_) (fun c21 => ?_)
          · refine lv_iconst hx hb dX6_laws_56 kI_0 ?_
            exact hJ _ _ (((if_neg c21).trans rfl).symm) (lv_sub hl [0, 1, 2, 4] rfl)
          · refine lv_iconst hx hb dX6_laws_49 kI_1 ?_
            refine lv_iload hx hb dX6_laws_50 (lv_at hl 4 rfl) ?_
            refine lv_ishl hx hb dX6_laws_52 ?_
            refine lv_goto (tgt := 57) hx hb dX6_laws_53 (by decide) ?_
            exact hJ _ _ (((if_pos c21).trans rfl).symm) (lv_sub hl [0, 1, 2, 4] rfl)
        intro v22 ls ev22 hl
        have h := vl_at ev22 h
        refine lv_ior hx hb dX6_laws_57 ?_
        refine lv_topi (fun v23 ev23 => ?_)
        have h := vl_at ev23 h
        refine lv_istore (lv' := [(4, .int v23), (0, .ref h0), (1, .int x1), (3, .int x3), (5, .int x5)]) hx hb dX6_laws_58 hl (by decide) rfl (fun ls hl => ?_)
        obtain ⟨v24, ev24⟩ : ∃ y : Int32, y = x5 + (1 : Int32) := ⟨_, rfl⟩
        have h := vl_at ev24 h
        refine lv_iinc (v := v24) (lv' := [(5, .int v24), (4, .int v23), (0, .ref h0), (1, .int x1), (3, .int x3)]) hx hb dX6_laws_60 hl (k := 4) rfl (by rw [ev24, kI_1]) (by decide) rfl (fun ls hl => ?_)
        refine lv_goto (tgt := 23) hx hb dX6_laws_63 (by decide) ?_
        exact ih _ _ _ _ _ _ h _ _ _ hM hL (lv_sub hl [2, 3, 4, 1, 0] rfl)
  rw [f_X6_laws.eq_1] at h
  refine lv_aload_n hx hb dX6_laws_0 rfl (lv_at hl 0 rfl) ?_
  refine lv_iload_n hx hb dX6_laws_1 rfl (lv_at hl 1 rfl) ?_
  obtain ⟨o25, h⟩ := oi_some h
  obtain ⟨q26, hq26, h⟩ := ob_some h
  refine m_calli (va_runV (As := [.int x1]) (rest := []) ⟨hx, hb, hml, hown, hts⟩ (c_X6_sheetWrong l G hq26) (cwV 1 hts gX6_laws_X6_sheetWrong rfl rfl rfl hd_X6_sheetWrongv ⟨Nat.le_of_ble_eq_true rfl, Nat.le_of_ble_eq_true rfl⟩) (m_preV (ci := 5) hK hM rfl o25) rfl rfl hl.1 rfl (lv_room (Nat.le_of_ble_eq_true rfl)) dX6_laws_2 ⟨Nat.le_of_ble_eq_true rfl, Nat.le_of_ble_eq_true rfl⟩) hL (fun H locs hM hL => ?_)
  refine lv_istore_n (lv' := [(2, .int q26), (0, .ref h0), (1, .int x1)]) hx hb dX6_laws_5 rfl hl (by decide) rfl (fun ls hl => ?_)
  refine lv_iload_n hx hb dX6_laws_6 rfl (lv_at hl 0 rfl) ?_
  refine lv_if_eq (tgt := 12) hx hb dX6_laws_7 (by decide) (fun c27 => ?_) (fun c27 => ?_)
  · have h := (if_pos c27).symm.trans h
    refine lv_aload_n hx hb dX6_laws_12 rfl (lv_at hl 1 rfl) ?_
    refine m_getI (ci := 5) hx hb hU6 hown hK hM rfl 14 (by decide) w1 h dX6_laws_13 (fun v28 gv28 h => ?_)
    refine lv_istore_n (lv' := [(3, .int v28), (2, .int q26), (0, .ref h0), (1, .int x1)]) hx hb dX6_laws_16 rfl hl (by decide) rfl (fun ls hl => ?_)
    refine lv_iconst hx hb dX6_laws_17 kI_0 ?_
    refine lv_istore (lv' := [(4, .int (0 : Int32)), (3, .int v28), (2, .int q26), (0, .ref h0), (1, .int x1)]) hx hb dX6_laws_18 hl (by decide) rfl (fun ls hl => ?_)
    refine lv_iconst hx hb dX6_laws_20 kI_0 ?_
    refine lv_istore (lv' := [(5, .int (0 : Int32)), (4, .int (0 : Int32)), (3, .int v28), (2, .int q26), (0, .ref h0), (1, .int x1)]) hx hb dX6_laws_21 hl (by decide) rfl (fun ls hl => ?_)
    refine hN23 _ _ _ _ _ _ _ h _ _ _ hM hL (lv_sub hl [4, 5, 2, 1, 0] rfl)
  · have h := (if_neg c27).symm.trans h
    refine lv_iload_n hx hb dX6_laws_10 rfl (lv_at hl 0 rfl) ?_
    subst hQ
    have h := Option.some.inj h
    subst h
    exact m_iret hx hb hr hM hL dX6_laws_11 hlocks
abbrev rm_X6_film : Room := { frames := 7, cells := 0, slots := 0, locals := 157 }
set_option maxHeartbeats 4000000 in
set_option maxRecDepth 100000 in
theorem c_X6_film (l : Launch) (G : mG) {h0 : Nat} {x1 : Int32} {x2 : Int32} {σ : mS} {z : Int32 × mS} (h : f_X6_film h0 x1 x2 σ = some z) : Met l yX6_film wsX6_film rm_X6_film (va_Pc [.ref h0, .int x1, .int x2] (mB G σ)) (mQ G (.returned (some (.int z.1))) z.2) 0 0 (mF G) := by
  refine m_start (cc := cX6_film) (maxL := 4) (ret := (some .int)) (by decide) rfl [.ref h0, .int x1, .int x2] (Nat.le_of_ble_eq_true rfl) ?_
  intro p e s m args below meth c ls hx hb hr hml hown hts hlocks hnm hK hM hl
  have hown : s.vm.findClass RX6 = some m.cls := hown
  have hnm : meth.name = "film" := hnm
  obtain ⟨locs, hlocs⟩ : ∃ l : List Loc, l = [] := ⟨_, rfl⟩
  have hL : mL G locs := by rw [hlocs]; exact mL_nil G
  rw [← hlocs]
  generalize s.heap = H at hM ⊢
  have hl : lv_has ls 4 [(0, .ref h0), (1, .int x1), (2, .int x2)] := hl
  obtain ⟨Q, hQ⟩ : ∃ Q, Q = MQ below (mQ G (.returned (some (.int z.1))) z.2) args s 0 0 (mF G) := ⟨_, rfl⟩
  rw [← hQ]
  have hU6 : ∀ w ∈ wsX60, w.before args s = true := fun w h => hts w (List.mem_cons_of_mem _ (List.mem_append_right _ h))
  have w1 := (hts (.fieldLink RX6 43 "HandkerchiefsDroppedModel" "sheetSort" "[I") (List.mem_of_getElem? (i := 1) rfl))
  have w2 := (hts (.fieldLink RX6 46 "HandkerchiefsDroppedModel" "sheetSize" "[I") (List.mem_of_getElem? (i := 2) rfl))
  have w3 := (hts (.fieldLink RX6 49 "HandkerchiefsDroppedModel" "cells" "[I") (List.mem_of_getElem? (i := 3) rfl))
  have w4 := (hts (.fieldLink RX6 109 "HandkerchiefsDroppedModel" "admitted" "I") (List.mem_of_getElem? (i := 4) rfl))
  have hN45 : ∀ (n : Nat) (h0 : Nat) (x1 : Int32) (x2 : Int32) (x3 : Int32) (σ : mS), f_X6_film_45 n h0 x1 x2 x3 σ = some z → ∀ (H : Heap) (locs : List Loc) (ls : Array Slot), mP G σ H → mL G locs → lv_has ls 4 [(0, .ref h0), (1, .int x1), (2, .int x2), (3, .int x3)] → W p l e rm_X6_film s m args below meth c H locs 0 0 Q (F0 m 45 ls []) := by
    intro n
    induction n with
    | zero =>
      intro h0 x1 x2 x3 σ h
      exact nomatch (show (none : Option (Int32 × mS)) = some z from h)
    | succ n ih =>
      intro h0 x1 x2 x3 σ h H locs ls hM hL hl
      rw [f_X6_film_45.eq_2] at h
      refine lv_iload_n hx hb dX6_film_45 rfl (lv_at hl 3 rfl) ?_
      refine lv_bipush hx hb dX6_film_46 kB_40 ?_
      refine lv_icmp_ge (tgt := 97) hx hb dX6_film_48 (by decide) (fun c23 => ?_) (fun c23 => ?_)
      · have h := (if_pos c23).symm.trans h
        refine lv_aload_n hx hb dX6_film_97 rfl (lv_at hl 0 rfl) ?_
        obtain ⟨o24, h⟩ := oi_some h
        obtain ⟨q25, hq25, h⟩ := ob_some h
        refine m_callv (va_runV (As := []) (rest := []) ⟨hx, hb, hml, hown, hts⟩ (c_X6_lays l G hq25) (cwV 0 hts gX6_film_X6_lays rfl rfl rfl hd_X6_laysv ⟨Nat.le_of_ble_eq_true rfl, Nat.le_of_ble_eq_true rfl⟩) (m_preV (ci := 5) hK hM rfl o24) rfl rfl hl.1 rfl (lv_room (Nat.le_of_ble_eq_true rfl)) dX6_film_98 ⟨Nat.le_of_ble_eq_true rfl, Nat.le_of_ble_eq_true rfl⟩) hL (fun H locs hM hL => ?_)
        refine lv_iload_n hx hb dX6_film_101 rfl (lv_at hl 2 rfl) ?_
        subst hQ
        have h := Option.some.inj h
        subst h
        exact m_iret hx hb hr hM hL dX6_film_102 hlocks
      · have h := (if_neg c23).symm.trans h
        refine lv_aload_n hx hb dX6_film_51 rfl (lv_at hl 0 rfl) ?_
        refine m_getR (ci := 5) hx hb hU6 hown hK hM rfl 20 (by decide) w3 h dX6_film_52 (fun r26 gr26 h => ?_)
        refine lv_bipush hx hb dX6_film_55 kB_40 ?_
        refine lv_iload_n hx hb dX6_film_57 rfl (lv_at hl 1 rfl) ?_
        refine lv_imul hx hb dX6_film_58 ?_
        refine lv_iload_n hx hb dX6_film_59 rfl (lv_at hl 3 rfl) ?_
        refine lv_iadd hx hb dX6_film_60 ?_
        refine lv_iconst hx hb dX6_film_61 kI_0 ?_
        refine m_iast hx hb hK hM hL h dX6_film_62 (fun t27 H locs h hM hL => ?_)
        refine lv_iload_n hx hb dX6_film_63 rfl (lv_at hl 3 rfl) ?_
        refine lv_iload_n hx hb dX6_film_64 rfl (lv_at hl 2 rfl) ?_
        refine lv_icmp_ge (tgt := 91) hx hb dX6_film_65 (by decide) (fun c28 => ?_) (fun c28 => ?_)
        · have h := (if_pos c28).symm.trans h
          obtain ⟨v29, ev29⟩ : ∃ y : Int32, y = x3 + (1 : Int32) := ⟨_, rfl⟩
          have h := vl_at ev29 h
          refine lv_iinc (v := v29) (lv' := [(3, .int v29), (0, .ref h0), (1, .int x1), (2, .int x2)]) hx hb dX6_film_91 hl (k := 3) rfl (by rw [ev29, kI_1]) (by decide) rfl (fun ls hl => ?_)
          refine lv_goto (tgt := 45) hx hb dX6_film_94 (by decide) ?_
          exact ih _ _ _ _ _ h _ _ _ hM hL (lv_sub hl [1, 2, 3, 0] rfl)
        · have h := (if_neg c28).symm.trans h
          refine lv_aload_n hx hb dX6_film_68 rfl (lv_at hl 0 rfl) ?_
          obtain ⟨o30, h⟩ := oi_some h
          obtain ⟨q31, hq31, h⟩ := ob_some h
          refine m_calli (va_runV (As := []) (rest := []) ⟨hx, hb, hml, hown, hts⟩ (c_X6_hourOf l G hq31) (cwV 0 hts gX6_film_X6_hourOf rfl rfl rfl hd_X6_hourOfv ⟨Nat.le_of_ble_eq_true rfl, Nat.le_of_ble_eq_true rfl⟩) (m_preV (ci := 5) hK hM rfl o30) rfl rfl hl.1 rfl (lv_room (Nat.le_of_ble_eq_true rfl)) dX6_film_69 ⟨Nat.le_of_ble_eq_true rfl, Nat.le_of_ble_eq_true rfl⟩) hL (fun H locs hM hL => ?_)
          refine lv_pop hx hb dX6_film_72 rfl ?_
          refine lv_aload_n hx hb dX6_film_73 rfl (lv_at hl 0 rfl) ?_
          refine m_getR (ci := 5) hx hb hU6 hown hK hM rfl 20 (by decide) w3 h dX6_film_74 (fun r32 gr32 h => ?_)
          refine lv_bipush hx hb dX6_film_77 kB_40 ?_
          refine lv_iload_n hx hb dX6_film_79 rfl (lv_at hl 1 rfl) ?_
          refine lv_imul hx hb dX6_film_80 ?_
          refine lv_iload_n hx hb dX6_film_81 rfl (lv_at hl 3 rfl) ?_
          refine lv_iadd hx hb dX6_film_82 ?_
          refine lv_aload_n hx hb dX6_film_83 rfl (lv_at hl 0 rfl) ?_
          refine m_getI (ci := 5) hx hb hU6 hown hK hM rfl 7 (by decide) w4 h dX6_film_84 (fun v33 gv33 h => ?_)
          obtain ⟨q34, hq34, h⟩ := ob_some h
          refine m_calli (va_runS (As := [.int v33]) (rest := [.int (((40 : Int32) * x1) + x3), .ref r32]) ⟨hx, hb, hml, hown, hts⟩ (c_X6_onesOf l G hq34) (va_cwS 1 hts gX6_film_X6_onesOf rfl rfl rfl hd_X6_onesOf ⟨Nat.le_of_ble_eq_true rfl, Nat.le_of_ble_eq_true rfl⟩) (m_preS hK hM) rfl rfl hl.1 rfl (lv_room (Nat.le_of_ble_eq_true rfl)) dX6_film_87 ⟨Nat.le_of_ble_eq_true rfl, Nat.le_of_ble_eq_true rfl⟩) hL (fun H locs hM hL => ?_)
          refine m_iast hx hb hK hM hL h dX6_film_90 (fun t35 H locs h hM hL => ?_)
          obtain ⟨v36, ev36⟩ : ∃ y : Int32, y = x3 + (1 : Int32) := ⟨_, rfl⟩
          have h := vl_at ev36 h
          refine lv_iinc (v := v36) (lv' := [(3, .int v36), (0, .ref h0), (1, .int x1), (2, .int x2)]) hx hb dX6_film_91 hl (k := 3) rfl (by rw [ev36, kI_1]) (by decide) rfl (fun ls hl => ?_)
          refine lv_goto (tgt := 45) hx hb dX6_film_94 (by decide) ?_
          exact ih _ _ _ _ _ h _ _ _ hM hL (lv_sub hl [1, 2, 3, 0] rfl)
  rw [f_X6_film.eq_1] at h
  refine lv_iload_n hx hb dX6_film_0 rfl (lv_at hl 1 rfl) ?_
  refine lv_iconst hx hb dX6_film_1 kI_0 ?_
  refine lv_iconst hx hb dX6_film_2 kI_3 ?_
  refine m_calli (va_runS (As := [.int x1, .int (0 : Int32), .int (3 : Int32)]) (rest := []) ⟨hx, hb, hml, hown, hts⟩ (c_X6_in l G x1 (0 : Int32) (3 : Int32)) (va_cwS 3 hts gX6_film_X6_in rfl rfl rfl hd_X6_in ⟨Nat.le_of_ble_eq_true rfl, Nat.le_of_ble_eq_true rfl⟩) (m_preS hK hM) rfl rfl hl.1 rfl (lv_room (Nat.le_of_ble_eq_true rfl)) dX6_film_3 ⟨Nat.le_of_ble_eq_true rfl, Nat.le_of_ble_eq_true rfl⟩) hL (fun H locs hM hL => ?_)
  refine lv_if_ne (tgt := 12) hx hb dX6_film_6 (by decide) (fun c37 => ?_) (fun c37 => ?_)
  · have h := (if_neg c37).symm.trans h
    refine lv_iload_n hx hb dX6_film_12 rfl (lv_at hl 2 rfl) ?_
    refine lv_iconst hx hb dX6_film_13 kI_0 ?_
    refine lv_bipush hx hb dX6_film_14 kB_20 ?_
    refine m_calli (va_runS (As := [.int x2, .int (0 : Int32), .int (20 : Int32)]) (rest := []) ⟨hx, hb, hml, hown, hts⟩ (c_X6_in l G x2 (0 : Int32) (20 : Int32)) (va_cwS 3 hts gX6_film_X6_in rfl rfl rfl hd_X6_in ⟨Nat.le_of_ble_eq_true rfl, Nat.le_of_ble_eq_true rfl⟩) (m_preS hK hM) rfl rfl hl.1 rfl (lv_room (Nat.le_of_ble_eq_true rfl)) dX6_film_16 ⟨Nat.le_of_ble_eq_true rfl, Nat.le_of_ble_eq_true rfl⟩) hL (fun H locs hM hL => ?_)
    refine lv_if_ne (tgt := 25) hx hb dX6_film_19 (by decide) (fun c38 => ?_) (fun c38 => ?_)
    · have h := (if_neg c38).symm.trans h
      refine lv_aload_n hx hb dX6_film_25 rfl (lv_at hl 0 rfl) ?_
      refine m_getR (ci := 5) hx hb hU6 hown hK hM rfl 18 (by decide) w1 h dX6_film_26 (fun r39 gr39 h => ?_)
      refine lv_iload_n hx hb dX6_film_29 rfl (lv_at hl 1 rfl) ?_
      refine lv_iconst hx hb dX6_film_30 kI_0 ?_
      refine m_iast hx hb hK hM hL h dX6_film_31 (fun t40 H locs h hM hL => ?_)
      refine lv_aload_n hx hb dX6_film_32 rfl (lv_at hl 0 rfl) ?_
      refine m_getR (ci := 5) hx hb hU6 hown hK hM rfl 19 (by decide) w2 h dX6_film_33 (fun r41 gr41 h => ?_)
      refine lv_iload_n hx hb dX6_film_36 rfl (lv_at hl 1 rfl) ?_
      refine lv_iload_n hx hb dX6_film_37 rfl (lv_at hl 2 rfl) ?_
      refine m_iast hx hb hK hM hL h dX6_film_38 (fun t42 H locs h hM hL => ?_)
      refine lv_aload_n hx hb dX6_film_39 rfl (lv_at hl 0 rfl) ?_
      obtain ⟨o43, h⟩ := oi_some h
      obtain ⟨q44, hq44, h⟩ := ob_some h
      refine m_callv (va_runV (As := []) (rest := []) ⟨hx, hb, hml, hown, hts⟩ (c_X6_keeps l G hq44) (cwV 0 hts gX6_film_X6_keeps rfl rfl rfl hd_X6_keepsv ⟨Nat.le_of_ble_eq_true rfl, Nat.le_of_ble_eq_true rfl⟩) (m_preV (ci := 5) hK hM rfl o43) rfl rfl hl.1 rfl (lv_room (Nat.le_of_ble_eq_true rfl)) dX6_film_40 ⟨Nat.le_of_ble_eq_true rfl, Nat.le_of_ble_eq_true rfl⟩) hL (fun H locs hM hL => ?_)
      refine lv_iconst hx hb dX6_film_43 kI_0 ?_
      refine lv_istore_n (lv' := [(3, .int (0 : Int32)), (0, .ref h0), (1, .int x1), (2, .int x2)]) hx hb dX6_film_44 rfl hl (by decide) rfl (fun ls hl => ?_)
      refine hN45 _ _ _ _ _ _ h _ _ _ hM hL (lv_sub hl [1, 2, 3, 0] rfl)
    · have h := (if_pos c38).symm.trans h
      refine lv_bipush hx hb dX6_film_22 kB_m7 ?_
      subst hQ
      have h := Option.some.inj h
      subst h
      exact m_iret hx hb hr hM hL dX6_film_24 hlocks
  · have h := (if_pos c37).symm.trans h
    refine lv_bipush hx hb dX6_film_9 kB_m2 ?_
    subst hQ
    have h := Option.some.inj h
    subst h
    exact m_iret hx hb hr hM hL dX6_film_11 hlocks
abbrev rm_X6_assizes : Room := { frames := 7, cells := 0, slots := 0, locals := 157 }
set_option maxHeartbeats 4000000 in
set_option maxRecDepth 100000 in
theorem c_X6_assizes (l : Launch) (G : mG) {h0 : Nat} {x1 : Int32} {σ : mS} {z : Int32 × mS} (h : f_X6_assizes h0 x1 σ = some z) : Met l yX6_assizes wsX6_assizes rm_X6_assizes (va_Pc [.ref h0, .int x1] (mB G σ)) (mQ G (.returned (some (.int z.1))) z.2) 0 0 (mF G) := by
  refine m_start (cc := cX6_assizes) (maxL := 7) (ret := (some .int)) (by decide) rfl [.ref h0, .int x1] (Nat.le_of_ble_eq_true rfl) ?_
  intro p e s m args below meth c ls hx hb hr hml hown hts hlocks hnm hK hM hl
  have hown : s.vm.findClass RX6 = some m.cls := hown
  have hnm : meth.name = "assizes" := hnm
  obtain ⟨locs, hlocs⟩ : ∃ l : List Loc, l = [] := ⟨_, rfl⟩
  have hL : mL G locs := by rw [hlocs]; exact mL_nil G
  rw [← hlocs]
  generalize s.heap = H at hM ⊢
  have hl : lv_has ls 7 [(0, .ref h0), (1, .int x1)] := hl
  obtain ⟨Q, hQ⟩ : ∃ Q, Q = MQ below (mQ G (.returned (some (.int z.1))) z.2) args s 0 0 (mF G) := ⟨_, rfl⟩
  rw [← hQ]
  have hU6 : ∀ w ∈ wsX60, w.before args s = true := fun w h => hts w (List.mem_cons_of_mem _ (List.mem_append_right _ h))
  have w1 := (hts (.fieldLink RX6 109 "HandkerchiefsDroppedModel" "admitted" "I") (List.mem_of_getElem? (i := 5) rfl))
  have w2 := (hts (.fieldLink RX6 264 "HandkerchiefsDroppedModel" "admittedThen" "I") (List.mem_of_getElem? (i := 6) rfl))
  have w3 := (hts (.constantLong RX6 258 (48271)) (List.mem_of_getElem? (i := 1) rfl))
  have w4 := (hts (.constantLong RX6 260 (2147483647)) (List.mem_of_getElem? (i := 2) rfl))
  have w5 := (hts (.constantLong RX6 262 (8)) (List.mem_of_getElem? (i := 3) rfl))
  have w6 := (hts (.fieldLink RX6 78 "HandkerchiefsDroppedModel" "witnesses" "I") (List.mem_of_getElem? (i := 4) rfl))
  have hN88 : ∀ (k12 : Nat → Int64 → Int32 → mS → Option (Int32 × mS)) (hk12 : ∀ (h0 : Nat) (x2 : Int64) (x4 : Int32) (σ : mS), k12 h0 x2 x4 σ = some z → ∀ (H : Heap) (locs : List Loc) (ls : Array Slot), mP G σ H → mL G locs → lv_has ls 7 [(0, .ref h0), (2, .long x2), (4, .int x4)] → W p l e rm_X6_assizes s m args below meth c H locs 0 0 Q (F0 m 12 ls [])) (h0 : Nat) (x2 : Int64) (x4 : Int32) (σ : mS), f_X6_assizes_88 k12 h0 x2 x4 σ = some z → ∀ (H : Heap) (locs : List Loc) (ls : Array Slot), mP G σ H → mL G locs → lv_has ls 7 [(0, .ref h0), (2, .long x2), (4, .int x4)] → W p l e rm_X6_assizes s m args below meth c H locs 0 0 Q (F0 m 88 ls []) := by
    intro k12 hk12 h0 x2 x4 σ h H locs ls hM hL hl
    rw [f_X6_assizes_88.eq_1] at h
    refine lv_aload_n hx hb dX6_assizes_88 rfl (lv_at hl 0 rfl) ?_
    obtain ⟨o26, h⟩ := oi_some h
    obtain ⟨q27, hq27, h⟩ := ob_some h
    refine m_calli (va_runV (As := []) (rest := []) ⟨hx, hb, hml, hown, hts⟩ (c_X6_hourOf l G hq27) (cwV 0 hts gX6_assizes_X6_hourOf rfl rfl rfl hd_X6_hourOfv ⟨Nat.le_of_ble_eq_true rfl, Nat.le_of_ble_eq_true rfl⟩) (m_preV (ci := 5) hK hM rfl o26) rfl rfl hl.1 rfl (lv_room (Nat.le_of_ble_eq_true rfl)) dX6_assizes_89 ⟨Nat.le_of_ble_eq_true rfl, Nat.le_of_ble_eq_true rfl⟩) hL (fun H locs hM hL => ?_)
    refine lv_pop hx hb dX6_assizes_92 rfl ?_
    obtain ⟨v28, ev28⟩ : ∃ y : Int32, y = x4 + (1 : Int32) := ⟨_, rfl⟩
    have h := vl_at ev28 h
    refine lv_iinc (v := v28) (lv' := [(4, .int v28), (0, .ref h0), (2, .long x2)]) hx hb dX6_assizes_93 hl (k := 2) rfl (by rw [ev28, kI_1]) (by decide) rfl (fun ls hl => ?_)
    refine lv_goto (tgt := 12) hx hb dX6_assizes_96 (by decide) ?_
    exact hk12 _ _ _ _ h _ _ _ hM hL (lv_sub hl [1, 2, 0] rfl)
  have hN71 : ∀ (k12 : Nat → Int64 → Int32 → mS → Option (Int32 × mS)) (hk12 : ∀ (h0 : Nat) (x2 : Int64) (x4 : Int32) (σ : mS), k12 h0 x2 x4 σ = some z → ∀ (H : Heap) (locs : List Loc) (ls : Array Slot), mP G σ H → mL G locs → lv_has ls 7 [(0, .ref h0), (2, .long x2), (4, .int x4)] → W p l e rm_X6_assizes s m args below meth c H locs 0 0 Q (F0 m 12 ls [])) (h0 : Nat) (x2 : Int64) (x4 : Int32) (x5 : Int32) (x6 : Int32) (σ : mS), f_X6_assizes_71 k12 h0 x2 x4 x5 x6 σ = some z → ∀ (H : Heap) (locs : List Loc) (ls : Array Slot), mP G σ H → mL G locs → lv_has ls 7 [(0, .ref h0), (2, .long x2), (4, .int x4), (5, .int x5), (6, .int x6)] → W p l e rm_X6_assizes s m args below meth c H locs 0 0 Q (F0 m 71 ls []) := by
    intro k12 hk12 h0 x2 x4 x5 x6 σ h H locs ls hM hL hl
    rw [f_X6_assizes_71.eq_1] at h
    refine lv_iload hx hb dX6_assizes_71 (lv_at hl 4 rfl) ?_
    refine lv_if_eq (tgt := 88) hx hb dX6_assizes_73 (by decide) (fun c29 => ?_) (fun c29 => ?_)
    · have h := (if_pos c29).symm.trans h
      refine hN88 _ hk12 _ _ _ _ h _ _ _ hM hL (lv_sub hl [0, 1, 2] rfl)
    · have h := (if_neg c29).symm.trans h
      refine lv_aload_n hx hb dX6_assizes_76 rfl (lv_at hl 0 rfl) ?_
      refine lv_iload hx hb dX6_assizes_77 (lv_at hl 3 rfl) ?_
      refine lv_iconst hx hb dX6_assizes_79 kI_0 ?_
      refine lv_iconst hx hb dX6_assizes_80 kI_5 ?_
      refine m_calli (va_runS (As := [.int x5, .int (0 : Int32), .int (5 : Int32)]) (rest := [.ref h0]) ⟨hx, hb, hml, hown, hts⟩ (c_X6_within l G x5 (0 : Int32) (5 : Int32)) (va_cwS 3 hts gX6_assizes_X6_within rfl rfl rfl hd_X6_within ⟨Nat.le_of_ble_eq_true rfl, Nat.le_of_ble_eq_true rfl⟩) (m_preS hK hM) rfl rfl hl.1 rfl (lv_room (Nat.le_of_ble_eq_true rfl)) dX6_assizes_81 ⟨Nat.le_of_ble_eq_true rfl, Nat.le_of_ble_eq_true rfl⟩) hL (fun H locs hM hL => ?_)
      obtain ⟨o30, h⟩ := oi_some h
      obtain ⟨q31, hq31, h⟩ := ob_some h
      refine m_calli (va_runV (As := [.int (f_X6_within x5 (0 : Int32) (5 : Int32))]) (rest := []) ⟨hx, hb, hml, hown, hts⟩ (c_X6_dropOf l G hq31) (cwV 1 hts gX6_assizes_X6_dropOf rfl rfl rfl hd_X6_dropOfv ⟨Nat.le_of_ble_eq_true rfl, Nat.le_of_ble_eq_true rfl⟩) (m_preV (ci := 5) hK hM rfl o30) rfl rfl hl.1 rfl (lv_room (Nat.le_of_ble_eq_true rfl)) dX6_assizes_84 ⟨Nat.le_of_ble_eq_true rfl, Nat.le_of_ble_eq_true rfl⟩) hL (fun H locs hM hL => ?_)
      refine lv_pop hx hb dX6_assizes_87 rfl ?_
      refine hN88 _ hk12 _ _ _ _ h _ _ _ hM hL (lv_sub hl [0, 1, 2] rfl)
  have hN12 : ∀ (n : Nat) (h0 : Nat) (x2 : Int64) (x4 : Int32) (σ : mS), f_X6_assizes_12 n h0 x2 x4 σ = some z → ∀ (H : Heap) (locs : List Loc) (ls : Array Slot), mP G σ H → mL G locs → lv_has ls 7 [(0, .ref h0), (2, .long x2), (4, .int x4)] → W p l e rm_X6_assizes s m args below meth c H locs 0 0 Q (F0 m 12 ls []) := by
    intro n
    induction n with
    | zero =>
      intro h0 x2 x4 σ h
      exact nomatch (show (none : Option (Int32 × mS)) = some z from h)
    | succ n ih =>
      intro h0 x2 x4 σ h H locs ls hM hL hl
      rw [f_X6_assizes_12.eq_2] at h
      refine lv_iload hx hb dX6_assizes_12 (lv_at hl 2 rfl) ?_
      refine lv_bipush hx hb dX6_assizes_14 kB_10 ?_
      refine lv_icmp_ge (tgt := 99) hx hb dX6_assizes_16 (by decide) (fun c32 => ?_) (fun c32 => ?_)
      · have h := (if_pos c32).symm.trans h
        refine lv_aload_n hx hb dX6_assizes_99 rfl (lv_at hl 0 rfl) ?_
        refine lv_aload_n hx hb dX6_assizes_100 rfl (lv_at hl 0 rfl) ?_
        refine m_getI (ci := 5) hx hb hU6 hown hK hM rfl 7 (by decide) w1 h dX6_assizes_101 (fun v33 gv33 h => ?_)
        refine m_put (ci := 5) hx hb hU6 tyX6 tyX6_ok nmX6 hown hK hM hL rfl 37 (by decide) w2 rfl rfl rfl h dX6_assizes_104 (fun t34 H locs h hM hL => ?_)
        refine lv_aload_n hx hb dX6_assizes_107 rfl (lv_at hl 0 rfl) ?_
        obtain ⟨o35, h⟩ := oi_some h
        obtain ⟨q36, hq36, h⟩ := ob_some h
        refine m_callv (va_runV (As := []) (rest := []) ⟨hx, hb, hml, hown, hts⟩ (c_X6_lays l G hq36) (cwV 0 hts gX6_assizes_X6_lays rfl rfl rfl hd_X6_laysv ⟨Nat.le_of_ble_eq_true rfl, Nat.le_of_ble_eq_true rfl⟩) (m_preV (ci := 5) hK hM rfl o35) rfl rfl hl.1 rfl (lv_room (Nat.le_of_ble_eq_true rfl)) dX6_assizes_108 ⟨Nat.le_of_ble_eq_true rfl, Nat.le_of_ble_eq_true rfl⟩) hL (fun H locs hM hL => ?_)
        refine lv_aload_n hx hb dX6_assizes_111 rfl (lv_at hl 0 rfl) ?_
        refine lv_aload_n hx hb dX6_assizes_112 rfl (lv_at hl 0 rfl) ?_
        refine m_getI (ci := 5) hx hb hU6 hown hK hM rfl 37 (by decide) w2 h dX6_assizes_113 (fun v37 gv37 h => ?_)
        obtain ⟨o38, h⟩ := oi_some h
        obtain ⟨q39, hq39, h⟩ := ob_some h
        refine m_calli (va_runV (As := [.int v37]) (rest := []) ⟨hx, hb, hml, hown, hts⟩ (c_X6_verdictOf l G hq39) (cwV 1 hts gX6_assizes_X6_verdictOf rfl rfl rfl hd_X6_verdictOfv ⟨Nat.le_of_ble_eq_true rfl, Nat.le_of_ble_eq_true rfl⟩) (m_preV (ci := 5) hK hM rfl o38) rfl rfl hl.1 rfl (lv_room (Nat.le_of_ble_eq_true rfl)) dX6_assizes_116 ⟨Nat.le_of_ble_eq_true rfl, Nat.le_of_ble_eq_true rfl⟩) hL (fun H locs hM hL => ?_)
        subst hQ
        have h := Option.some.inj h
        subst h
        exact m_iret hx hb hr hM hL dX6_assizes_119 hlocks
      · have h := (if_neg c32).symm.trans h
        refine lv_lload_n hx hb dX6_assizes_19 rfl (lv_at hl 1 rfl) ?_
        refine lv_ldc2 hx hb hown w3 dX6_assizes_20 ?_
        refine lv_lmul hx hb dX6_assizes_23 ?_
        refine lv_ldc2 hx hb hown w4 dX6_assizes_24 ?_
        refine lv_lrem hx hb dX6_assizes_27 (by decide) ?_
        refine lv_topl (fun v40 ev40 => ?_)
        have h := vl_at ev40 h
        refine lv_lstore_n (lv' := [(2, .long v40), (0, .ref h0), (4, .int x4)]) hx hb dX6_assizes_28 rfl hl (by decide) rfl (fun ls hl => ?_)
        refine lv_lload_n hx hb dX6_assizes_29 rfl (lv_at hl 0 rfl) ?_
        refine lv_ldc2 hx hb hown w5 dX6_assizes_30 ?_
        refine lv_lrem hx hb dX6_assizes_33 (by decide) ?_
        refine lv_l2i hx hb dX6_assizes_34 rfl ?_
        refine lv_topi (fun v41 ev41 => ?_)
        have h := vl_at ev41 h
        refine lv_istore (lv' := [(5, .int v41), (2, .long v40), (0, .ref h0), (4, .int x4)]) hx hb dX6_assizes_35 hl (by decide) rfl (fun ls hl => ?_)
        refine lv_iload hx hb dX6_assizes_37 (lv_at hl 0 rfl) ?_
        refine lv_aload_n hx hb dX6_assizes_39 rfl (lv_at hl 2 rfl) ?_
        refine m_getI (ci := 5) hx hb hU6 hown hK hM rfl 0 (by decide) w6 h dX6_assizes_40 (fun v42 gv42 h => ?_)
        suffices hJ : ∀ (v44 : Int32) (ls : Array Slot), v44 = (if v42 ≤ v41 then (0 : Int32) else (1 : Int32)) → lv_has ls 7 [(0, .ref h0), (2, .long v40), (4, .int x4), (5, .int v41)] → W p l e rm_X6_assizes s m args below meth c H locs 0 0 Q (F0 m 51 ls [.int v44]) by
          refine lv_icmp_ge (tgt := 50) hx hb dX6_assizes_43 (by decide) (fun c43 => ?_) (fun c43 => ?_)
          · refine lv_iconst hx hb dX6_assizes_50 kI_0 ?_
            exact hJ _ _ (((if_pos c43).trans rfl).symm) (lv_sub hl [2, 1, 3, 0] rfl)
          · refine lv_iconst hx hb dX6_assizes_46 kI_1 ?_
            refine lv_goto (tgt := 51) hx hb dX6_assizes_47 (by decide) ?_
            exact hJ _ _ (((if_neg c43).trans rfl).symm) (lv_sub hl [2, 1, 3, 0] rfl)
        intro v44 ls ev44 hl
        have h := vl_at ev44 h
        refine lv_istore (lv' := [(6, .int v44), (0, .ref h0), (2, .long v40), (4, .int x4), (5, .int v41)]) hx hb dX6_assizes_51 hl (by decide) rfl (fun ls hl => ?_)
        refine lv_iload hx hb dX6_assizes_53 (lv_at hl 0 rfl) ?_
        refine lv_if_eq (tgt := 71) hx hb dX6_assizes_55 (by decide) (fun c45 => ?_) (fun c45 => ?_)
        · have h := (if_pos c45).symm.trans h
          refine hN71 _ (fun _ _ _ _ h H locs ls hM hL hl => ih _ _ _ _ h H locs ls hM hL hl) _ _ _ _ _ _ h _ _ _ hM hL (lv_sub hl [1, 2, 3, 4, 0] rfl)
        · have h := (if_neg c45).symm.trans h
          refine lv_aload_n hx hb dX6_assizes_58 rfl (lv_at hl 1 rfl) ?_
          refine lv_iload hx hb dX6_assizes_59 (lv_at hl 4 rfl) ?_
          refine lv_iconst hx hb dX6_assizes_61 kI_0 ?_
          refine lv_iconst hx hb dX6_assizes_62 kI_5 ?_
          refine m_calli (va_runS (As := [.int v41, .int (0 : Int32), .int (5 : Int32)]) (rest := [.ref h0]) ⟨hx, hb, hml, hown, hts⟩ (c_X6_within l G v41 (0 : Int32) (5 : Int32)) (va_cwS 3 hts gX6_assizes_X6_within rfl rfl rfl hd_X6_within ⟨Nat.le_of_ble_eq_true rfl, Nat.le_of_ble_eq_true rfl⟩) (m_preS hK hM) rfl rfl hl.1 rfl (lv_room (Nat.le_of_ble_eq_true rfl)) dX6_assizes_63 ⟨Nat.le_of_ble_eq_true rfl, Nat.le_of_ble_eq_true rfl⟩) hL (fun H locs hM hL => ?_)
          obtain ⟨o46, h⟩ := oi_some h
          obtain ⟨q47, hq47, h⟩ := ob_some h
          refine m_calli (va_runV (As := [.int (f_X6_within v41 (0 : Int32) (5 : Int32))]) (rest := []) ⟨hx, hb, hml, hown, hts⟩ (c_X6_can l G hq47) (cwV 1 hts gX6_assizes_X6_can rfl rfl rfl hd_X6_canv ⟨Nat.le_of_ble_eq_true rfl, Nat.le_of_ble_eq_true rfl⟩) (m_preV (ci := 5) hK hM rfl o46) rfl rfl hl.1 rfl (lv_room (Nat.le_of_ble_eq_true rfl)) dX6_assizes_66 ⟨Nat.le_of_ble_eq_true rfl, Nat.le_of_ble_eq_true rfl⟩) hL (fun H locs hM hL => ?_)
          refine lv_istore (lv' := [(6, .int q47), (0, .ref h0), (2, .long v40), (4, .int x4), (5, .int v41)]) hx hb dX6_assizes_69 hl (by decide) rfl (fun ls hl => ?_)
          refine hN71 _ (fun _ _ _ _ h H locs ls hM hL hl => ih _ _ _ _ h H locs ls hM hL hl) _ _ _ _ _ _ h _ _ _ hM hL (lv_sub hl [1, 2, 3, 4, 0] rfl)
  rw [f_X6_assizes.eq_1] at h
  refine lv_iload_n hx hb dX6_assizes_0 rfl (lv_at hl 1 rfl) ?_
  refine lv_i2l hx hb dX6_assizes_1 rfl ?_
  refine lv_lconst hx hb dX6_assizes_2 kL_1 ?_
  refine lv_ladd hx hb dX6_assizes_3 ?_
  refine lv_topl (fun v48 ev48 => ?_)
  have h := vl_at ev48 h
  refine lv_lstore_n (lv' := [(2, .long v48), (0, .ref h0), (1, .int x1)]) hx hb dX6_assizes_4 rfl hl (by decide) rfl (fun ls hl => ?_)
  refine lv_aload_n hx hb dX6_assizes_5 rfl (lv_at hl 1 rfl) ?_
  obtain ⟨o49, h⟩ := oi_some h
  obtain ⟨q50, hq50, h⟩ := ob_some h
  refine m_callv (va_runV (As := []) (rest := []) ⟨hx, hb, hml, hown, hts⟩ (c_X6_keeps l G hq50) (cwV 0 hts gX6_assizes_X6_keeps rfl rfl rfl hd_X6_keepsv ⟨Nat.le_of_ble_eq_true rfl, Nat.le_of_ble_eq_true rfl⟩) (m_preV (ci := 5) hK hM rfl o49) rfl rfl hl.1 rfl (lv_room (Nat.le_of_ble_eq_true rfl)) dX6_assizes_6 ⟨Nat.le_of_ble_eq_true rfl, Nat.le_of_ble_eq_true rfl⟩) hL (fun H locs hM hL => ?_)
  refine lv_iconst hx hb dX6_assizes_9 kI_0 ?_
  refine lv_istore (lv' := [(4, .int (0 : Int32)), (2, .long v48), (0, .ref h0), (1, .int x1)]) hx hb dX6_assizes_10 hl (by decide) rfl (fun ls hl => ?_)
  refine hN12 _ _ _ _ _ h _ _ _ hM hL (lv_sub hl [2, 1, 0] rfl)
