abbrev rm_X5_faces : Room := { frames := 7, cells := 0, slots := 0, locals := 180 }
set_option maxHeartbeats 4000000 in
set_option maxRecDepth 100000 in
theorem c_X5_faces (l : Launch) (G : mG) {h0 : Nat} {x1 : Int32} {x2 : Int32} {x3 : Int32} {σ : mS} {z : Int32 × mS} (h : f_X5_faces h0 x1 x2 x3 σ = some z) : Met l yX5_faces wsX5_faces rm_X5_faces (va_Pc [.ref h0, .int x1, .int x2, .int x3] (mB G σ)) (mQ G (.returned (some (.int z.1))) z.2) 0 0 (mF G) := by
  refine m_start (cc := cX5_faces) (maxL := 5) (ret := (some .int)) (by decide) rfl [.ref h0, .int x1, .int x2, .int x3] (Nat.le_of_ble_eq_true rfl) ?_
  intro p e s m args below meth c ls hx hb hr hml hown hts hlocks hnm hK hM hl
  have hown : s.vm.findClass RX5 = some m.cls := hown
  have hnm : meth.name = "faces" := hnm
  obtain ⟨locs, hlocs⟩ : ∃ l : List Loc, l = [] := ⟨_, rfl⟩
  have hL : mL G locs := by rw [hlocs]; exact mL_nil G
  rw [← hlocs]
  generalize s.heap = H at hM ⊢
  have hl : lv_has ls 5 [(0, .ref h0), (1, .int x1), (2, .int x2), (3, .int x3)] := hl
  obtain ⟨Q, hQ⟩ : ∃ Q, Q = MQ below (mQ G (.returned (some (.int z.1))) z.2) args s 0 0 (mF G) := ⟨_, rfl⟩
  rw [← hQ]
  have hU5 : ∀ w ∈ wsX50, w.before args s = true := fun w h => hts w (List.mem_cons_of_mem _ (List.mem_append_left _ (List.mem_append_left _ (List.mem_append_left _ (List.mem_append_right _ h)))))
  have w1 := (hts (.fieldLink RX5 44 "HandkerchiefsDropped" "now" "LHandkerchiefsDropped$Assize;") (List.mem_of_getElem? (i := 1) rfl))
  have w2 := (hts (.fieldLink RX5 51 "HandkerchiefsDropped" "thought" "LHandkerchiefsDropped$Assize;") (List.mem_of_getElem? (i := 2) rfl))
  have hU0 : ∀ w ∈ wsX00, w.before args s = true := fun w h => hts w (List.mem_cons_of_mem _ (List.mem_append_left _ (List.mem_append_left _ (List.mem_append_right _ h))))
  rw [f_X5_faces.eq_1] at h
  refine lv_aload_n hx hb dX5_faces_0 rfl (lv_at hl 0 rfl) ?_
  refine lv_iload_n hx hb dX5_faces_1 rfl (lv_at hl 1 rfl) ?_
  refine lv_aload_n hx hb dX5_faces_2 rfl (lv_at hl 0 rfl) ?_
  refine m_getR (ci := 4) hx hb hU5 hown hK hM rfl 3 (by decide) w1 h dX5_faces_3 (fun r11 gr11 h => ?_)
  refine lv_iload_n hx hb dX5_faces_6 rfl (lv_at hl 2 rfl) ?_
  obtain ⟨o12, h⟩ := oi_some h
  obtain ⟨q13, hq13, h⟩ := ob_some h
  refine m_calli (va_runV (As := [.int x2]) (rest := [.int x1, .ref h0]) ⟨hx, hb, hml, hown, hts⟩ (c_X0_hasWitness l G hq13) (cwV 1 hts gX5_faces_X0_hasWitness rfl rfl rfl hd_X0_hasWitnessv ⟨Nat.le_of_ble_eq_true rfl, Nat.le_of_ble_eq_true rfl⟩) (m_preV (ci := 0) hK hM rfl o12) rfl rfl hl.1 rfl (lv_room (Nat.le_of_ble_eq_true rfl)) dX5_faces_7 ⟨Nat.le_of_ble_eq_true rfl, Nat.le_of_ble_eq_true rfl⟩) hL (fun H locs hM hL => ?_)
  refine lv_iload_n hx hb dX5_faces_10 rfl (lv_at hl 3 rfl) ?_
  obtain ⟨o14, h⟩ := oi_some h
  obtain ⟨q15, hq15, h⟩ := ob_some h
  refine m_calli (va_runV (As := [.int x1, .int q13, .int x3]) (rest := []) ⟨hx, hb, hml, hown, hts⟩ (c_X5_refusalOfFitting l G hq15) (cwV 3 hts gX5_faces_X5_refusalOfFitting rfl rfl rfl hd_X5_refusalOfFittingv ⟨Nat.le_of_ble_eq_true rfl, Nat.le_of_ble_eq_true rfl⟩) (m_preV (ci := 4) hK hM rfl o14) rfl rfl hl.1 rfl (lv_room (Nat.le_of_ble_eq_true rfl)) dX5_faces_11 ⟨Nat.le_of_ble_eq_true rfl, Nat.le_of_ble_eq_true rfl⟩) hL (fun H locs hM hL => ?_)
  refine lv_istore (lv' := [(4, .int q15), (0, .ref h0), (1, .int x1), (2, .int x2), (3, .int x3)]) hx hb dX5_faces_14 hl (by decide) rfl (fun ls hl => ?_)
  refine lv_iload hx hb dX5_faces_16 (lv_at hl 0 rfl) ?_
  refine lv_if_eq (tgt := 26) hx hb dX5_faces_18 (by decide) (fun c16 => ?_) (fun c16 => ?_)
  · have h := (if_pos c16).symm.trans h
    refine lv_aload_n hx hb dX5_faces_26 rfl (lv_at hl 1 rfl) ?_
    refine lv_iload_n hx hb dX5_faces_27 rfl (lv_at hl 2 rfl) ?_
    refine lv_aload_n hx hb dX5_faces_28 rfl (lv_at hl 1 rfl) ?_
    refine m_getR (ci := 4) hx hb hU5 hown hK hM rfl 5 (by decide) w2 h dX5_faces_29 (fun r17 gr17 h => ?_)
    refine m_getRN (ci := 0) (host := RX5) hx hb hU0 hown hK hM rfl 5 (by decide) (List.mem_of_getElem? (i := 8) rfl) h dX5_faces_32 (fun r18 gr18 h => ?_)
    refine lv_iload_n hx hb dX5_faces_35 rfl (lv_at hl 3 rfl) ?_
    refine lv_iload_n hx hb dX5_faces_36 rfl (lv_at hl 4 rfl) ?_
    obtain ⟨o19, h⟩ := oi_some h
    obtain ⟨q20, hq20, h⟩ := ob_some h
    refine m_calli (va_runV (As := [.int x1, .ref r18, .int x2, .int x3]) (rest := []) ⟨hx, hb, hml, hown, hts⟩ (c_X5_fitting l G hq20) (cwV 4 hts gX5_faces_X5_fitting rfl rfl rfl hd_X5_fittingv ⟨Nat.le_of_ble_eq_true rfl, Nat.le_of_ble_eq_true rfl⟩) (m_preV (ci := 4) hK hM rfl o19) rfl rfl hl.1 rfl (lv_room (Nat.le_of_ble_eq_true rfl)) dX5_faces_37 ⟨Nat.le_of_ble_eq_true rfl, Nat.le_of_ble_eq_true rfl⟩) hL (fun H locs hM hL => ?_)
    subst hQ
    have h := Option.some.inj h
    subst h
    exact m_iret hx hb hr hM hL dX5_faces_40 hlocks
  · have h := (if_neg c16).symm.trans h
    refine lv_iload hx hb dX5_faces_21 (lv_at hl 0 rfl) ?_
    refine lv_goto (tgt := 40) hx hb dX5_faces_23 (by decide) ?_
    subst hQ
    have h := Option.some.inj h
    subst h
    exact m_iret hx hb hr hM hL dX5_faces_40 hlocks
abbrev rm_X5_keens : Room := { frames := 7, cells := 0, slots := 0, locals := 180 }
set_option maxHeartbeats 4000000 in
set_option maxRecDepth 100000 in
theorem c_X5_keens (l : Launch) (G : mG) {h0 : Nat} {x1 : Int32} {x2 : Int32} {x3 : Int32} {σ : mS} {z : Int32 × mS} (h : f_X5_keens h0 x1 x2 x3 σ = some z) : Met l yX5_keens wsX5_keens rm_X5_keens (va_Pc [.ref h0, .int x1, .int x2, .int x3] (mB G σ)) (mQ G (.returned (some (.int z.1))) z.2) 0 0 (mF G) := by
  refine m_start (cc := cX5_keens) (maxL := 5) (ret := (some .int)) (by decide) rfl [.ref h0, .int x1, .int x2, .int x3] (Nat.le_of_ble_eq_true rfl) ?_
  intro p e s m args below meth c ls hx hb hr hml hown hts hlocks hnm hK hM hl
  have hown : s.vm.findClass RX5 = some m.cls := hown
  have hnm : meth.name = "keens" := hnm
  obtain ⟨locs, hlocs⟩ : ∃ l : List Loc, l = [] := ⟨_, rfl⟩
  have hL : mL G locs := by rw [hlocs]; exact mL_nil G
  rw [← hlocs]
  generalize s.heap = H at hM ⊢
  have hl : lv_has ls 5 [(0, .ref h0), (1, .int x1), (2, .int x2), (3, .int x3)] := hl
  obtain ⟨Q, hQ⟩ : ∃ Q, Q = MQ below (mQ G (.returned (some (.int z.1))) z.2) args s 0 0 (mF G) := ⟨_, rfl⟩
  rw [← hQ]
  have hU5 : ∀ w ∈ wsX50, w.before args s = true := fun w h => hts w (List.mem_cons_of_mem _ (List.mem_append_left _ (List.mem_append_left _ (List.mem_append_left _ (List.mem_append_right _ h)))))
  have w1 := (hts (.fieldLink RX5 51 "HandkerchiefsDropped" "thought" "LHandkerchiefsDropped$Assize;") (List.mem_of_getElem? (i := 1) rfl))
  have hU0 : ∀ w ∈ wsX00, w.before args s = true := fun w h => hts w (List.mem_cons_of_mem _ (List.mem_append_left _ (List.mem_append_left _ (List.mem_append_right _ h))))
  rw [f_X5_keens.eq_1] at h
  refine lv_aload_n hx hb dX5_keens_0 rfl (lv_at hl 0 rfl) ?_
  refine lv_iload_n hx hb dX5_keens_1 rfl (lv_at hl 1 rfl) ?_
  refine lv_iload_n hx hb dX5_keens_2 rfl (lv_at hl 2 rfl) ?_
  refine lv_bipush hx hb dX5_keens_3 kB_6 ?_
  refine m_calli (va_runS (As := [.int x2, .int (6 : Int32)]) (rest := [.int x1, .ref h0]) ⟨hx, hb, hml, hown, hts⟩ (c_X5_isBelow l G x2 (6 : Int32)) (va_cwS 2 hts gX5_keens_X5_isBelow rfl rfl rfl hd_X5_isBelow ⟨Nat.le_of_ble_eq_true rfl, Nat.le_of_ble_eq_true rfl⟩) (m_preS hK hM) rfl rfl hl.1 rfl (lv_room (Nat.le_of_ble_eq_true rfl)) dX5_keens_5 ⟨Nat.le_of_ble_eq_true rfl, Nat.le_of_ble_eq_true rfl⟩) hL (fun H locs hM hL => ?_)
  refine lv_iload_n hx hb dX5_keens_8 rfl (lv_at hl 3 rfl) ?_
  obtain ⟨o8, h⟩ := oi_some h
  obtain ⟨q9, hq9, h⟩ := ob_some h
  refine m_calli (va_runV (As := [.int x1, .int (f_X5_isBelow x2 (6 : Int32)), .int x3]) (rest := []) ⟨hx, hb, hml, hown, hts⟩ (c_X5_refusalOfFitting l G hq9) (cwV 3 hts gX5_keens_X5_refusalOfFitting rfl rfl rfl hd_X5_refusalOfFittingv ⟨Nat.le_of_ble_eq_true rfl, Nat.le_of_ble_eq_true rfl⟩) (m_preV (ci := 4) hK hM rfl o8) rfl rfl hl.1 rfl (lv_room (Nat.le_of_ble_eq_true rfl)) dX5_keens_9 ⟨Nat.le_of_ble_eq_true rfl, Nat.le_of_ble_eq_true rfl⟩) hL (fun H locs hM hL => ?_)
  refine lv_istore (lv' := [(4, .int q9), (0, .ref h0), (1, .int x1), (2, .int x2), (3, .int x3)]) hx hb dX5_keens_12 hl (by decide) rfl (fun ls hl => ?_)
  refine lv_iload hx hb dX5_keens_14 (lv_at hl 0 rfl) ?_
  refine lv_if_eq (tgt := 24) hx hb dX5_keens_16 (by decide) (fun c10 => ?_) (fun c10 => ?_)
  · have h := (if_pos c10).symm.trans h
    refine lv_aload_n hx hb dX5_keens_24 rfl (lv_at hl 1 rfl) ?_
    refine lv_iload_n hx hb dX5_keens_25 rfl (lv_at hl 2 rfl) ?_
    refine lv_aload_n hx hb dX5_keens_26 rfl (lv_at hl 1 rfl) ?_
    refine m_getR (ci := 4) hx hb hU5 hown hK hM rfl 5 (by decide) w1 h dX5_keens_27 (fun r11 gr11 h => ?_)
    refine m_getRN (ci := 0) (host := RX5) hx hb hU0 hown hK hM rfl 1 (by decide) (List.mem_of_getElem? (i := 4) rfl) h dX5_keens_30 (fun r12 gr12 h => ?_)
    refine lv_iload_n hx hb dX5_keens_33 rfl (lv_at hl 3 rfl) ?_
    refine lv_iload_n hx hb dX5_keens_34 rfl (lv_at hl 4 rfl) ?_
    obtain ⟨o13, h⟩ := oi_some h
    obtain ⟨q14, hq14, h⟩ := ob_some h
    refine m_calli (va_runV (As := [.int x1, .ref r12, .int x2, .int x3]) (rest := []) ⟨hx, hb, hml, hown, hts⟩ (c_X5_fitting l G hq14) (cwV 4 hts gX5_keens_X5_fitting rfl rfl rfl hd_X5_fittingv ⟨Nat.le_of_ble_eq_true rfl, Nat.le_of_ble_eq_true rfl⟩) (m_preV (ci := 4) hK hM rfl o13) rfl rfl hl.1 rfl (lv_room (Nat.le_of_ble_eq_true rfl)) dX5_keens_35 ⟨Nat.le_of_ble_eq_true rfl, Nat.le_of_ble_eq_true rfl⟩) hL (fun H locs hM hL => ?_)
    subst hQ
    have h := Option.some.inj h
    subst h
    exact m_iret hx hb hr hM hL dX5_keens_38 hlocks
  · have h := (if_neg c10).symm.trans h
    refine lv_iload hx hb dX5_keens_19 (lv_at hl 0 rfl) ?_
    refine lv_goto (tgt := 38) hx hb dX5_keens_21 (by decide) ?_
    subst hQ
    have h := Option.some.inj h
    subst h
    exact m_iret hx hb hr hM hL dX5_keens_38 hlocks
abbrev rm_X5_burnt : Room := { frames := 6, cells := 0, slots := 0, locals := 153 }
set_option maxHeartbeats 4000000 in
set_option maxRecDepth 100000 in
theorem c_X5_burnt (l : Launch) (G : mG) {h0 : Nat} {x1 : Int32} {σ : mS} {z : Int32 × mS} (h : f_X5_burnt h0 x1 σ = some z) : Met l yX5_burnt wsX5_burnt rm_X5_burnt (va_Pc [.ref h0, .int x1] (mB G σ)) (mQ G (.returned (some (.int z.1))) z.2) 0 0 (mF G) := by
  refine m_start (cc := cX5_burnt) (maxL := 5) (ret := (some .int)) (by decide) rfl [.ref h0, .int x1] (Nat.le_of_ble_eq_true rfl) ?_
  intro p e s m args below meth c ls hx hb hr hml hown hts hlocks hnm hK hM hl
  have hown : s.vm.findClass RX5 = some m.cls := hown
  have hnm : meth.name = "burnt" := hnm
  obtain ⟨locs, hlocs⟩ : ∃ l : List Loc, l = [] := ⟨_, rfl⟩
  have hL : mL G locs := by rw [hlocs]; exact mL_nil G
  rw [← hlocs]
  generalize s.heap = H at hM ⊢
  have hl : lv_has ls 5 [(0, .ref h0), (1, .int x1)] := hl
  obtain ⟨Q, hQ⟩ : ∃ Q, Q = MQ below (mQ G (.returned (some (.int z.1))) z.2) args s 0 0 (mF G) := ⟨_, rfl⟩
  rw [← hQ]
  have hU5 : ∀ w ∈ wsX50, w.before args s = true := fun w h => hts w (List.mem_cons_of_mem _ (List.mem_append_left _ (List.mem_append_left _ (List.mem_append_left _ (List.mem_append_right _ h)))))
  have w1 := (hts (.fieldLink RX5 44 "HandkerchiefsDropped" "now" "LHandkerchiefsDropped$Assize;") (List.mem_of_getElem? (i := 1) rfl))
  have w2 := (hts (.fieldLink RX5 51 "HandkerchiefsDropped" "thought" "LHandkerchiefsDropped$Assize;") (List.mem_of_getElem? (i := 2) rfl))
  have hU0 : ∀ w ∈ wsX00, w.before args s = true := fun w h => hts w (List.mem_cons_of_mem _ (List.mem_append_left _ (List.mem_append_left _ (List.mem_append_right _ h))))
  have hN17 : ∀ (n : Nat) (h0 : Nat) (x1 : Int32) (x3 : Int32) (x4 : Int32) (σ : mS), f_X5_burnt_17 n h0 x1 x3 x4 σ = some z → ∀ (H : Heap) (locs : List Loc) (ls : Array Slot), mP G σ H → mL G locs → lv_has ls 5 [(0, .ref h0), (1, .int x1), (3, .int x3), (4, .int x4)] → W p l e rm_X5_burnt s m args below meth c H locs 0 0 Q (F0 m 17 ls []) := by
    intro n
    induction n with
    | zero =>
      intro h0 x1 x3 x4 σ h
      exact nomatch (show (none : Option (Int32 × mS)) = some z from h)
    | succ n ih =>
      intro h0 x1 x3 x4 σ h H locs ls hM hL hl
      rw [f_X5_burnt_17.eq_2] at h
      refine lv_iload hx hb dX5_burnt_17 (lv_at hl 3 rfl) ?_
      refine lv_bipush hx hb dX5_burnt_19 kB_8 ?_
      refine lv_icmp_ge (tgt := 84) hx hb dX5_burnt_21 (by decide) (fun c23 => ?_) (fun c23 => ?_)
      · have h := (if_pos c23).symm.trans h
        refine lv_iload_n hx hb dX5_burnt_84 rfl (lv_at hl 2 rfl) ?_
        subst hQ
        have h := Option.some.inj h
        subst h
        exact m_iret hx hb hr hM hL dX5_burnt_85 hlocks
      · have h := (if_neg c23).symm.trans h
        refine lv_aload_n hx hb dX5_burnt_24 rfl (lv_at hl 0 rfl) ?_
        refine m_getR (ci := 4) hx hb hU5 hown hK hM rfl 3 (by decide) w1 h dX5_burnt_25 (fun r24 gr24 h => ?_)
        refine lv_iload hx hb dX5_burnt_28 (lv_at hl 3 rfl) ?_
        obtain ⟨o25, h⟩ := oi_some h
        obtain ⟨q26, hq26, h⟩ := ob_some h
        refine m_calli (va_runV (As := [.int x4]) (rest := []) ⟨hx, hb, hml, hown, hts⟩ (c_X0_lies l G hq26) (cwV 1 hts gX5_burnt_X0_lies rfl rfl rfl hd_X0_liesv ⟨Nat.le_of_ble_eq_true rfl, Nat.le_of_ble_eq_true rfl⟩) (m_preV (ci := 0) hK hM rfl o25) rfl rfl hl.1 rfl (lv_room (Nat.le_of_ble_eq_true rfl)) dX5_burnt_30 ⟨Nat.le_of_ble_eq_true rfl, Nat.le_of_ble_eq_true rfl⟩) hL (fun H locs hM hL => ?_)
        refine lv_if_eq (tgt := 78) hx hb dX5_burnt_33 (by decide) (fun c27 => ?_) (fun c27 => ?_)
        · have h := (if_pos c27).symm.trans h
          obtain ⟨v28, ev28⟩ : ∃ y : Int32, y = x4 + (1 : Int32) := ⟨_, rfl⟩
          have h := vl_at ev28 h
          refine lv_iinc (v := v28) (lv' := [(4, .int v28), (0, .ref h0), (1, .int x1), (3, .int x3)]) hx hb dX5_burnt_78 hl (k := 3) rfl (by rw [ev28, kI_1]) (by decide) rfl (fun ls hl => ?_)
          refine lv_goto (tgt := 17) hx hb dX5_burnt_81 (by decide) ?_
          exact ih _ _ _ _ _ h _ _ _ hM hL (lv_sub hl [1, 2, 3, 0] rfl)
        · have h := (if_neg c27).symm.trans h
          refine lv_aload_n hx hb dX5_burnt_36 rfl (lv_at hl 0 rfl) ?_
          refine m_getR (ci := 4) hx hb hU5 hown hK hM rfl 5 (by decide) w2 h dX5_burnt_37 (fun r29 gr29 h => ?_)
          refine lv_aload_n hx hb dX5_burnt_40 rfl (lv_at hl 0 rfl) ?_
          refine m_getR (ci := 4) hx hb hU5 hown hK hM rfl 3 (by decide) w1 h dX5_burnt_41 (fun r30 gr30 h => ?_)
          obtain ⟨o31, h⟩ := oi_some h
          obtain ⟨q32, hq32, h⟩ := ob_some h
          refine m_callv (va_runV (As := [.ref r30]) (rest := []) ⟨hx, hb, hml, hown, hts⟩ (c_X0_become l G hq32) (cwV 1 hts gX5_burnt_X0_become rfl rfl rfl hd_X0_becomev ⟨Nat.le_of_ble_eq_true rfl, Nat.le_of_ble_eq_true rfl⟩) (m_preV (ci := 0) hK hM rfl o31) rfl rfl hl.1 rfl (lv_room (Nat.le_of_ble_eq_true rfl)) dX5_burnt_44 ⟨Nat.le_of_ble_eq_true rfl, Nat.le_of_ble_eq_true rfl⟩) hL (fun H locs hM hL => ?_)
          refine lv_aload_n hx hb dX5_burnt_47 rfl (lv_at hl 0 rfl) ?_
          refine m_getR (ci := 4) hx hb hU5 hown hK hM rfl 5 (by decide) w2 h dX5_burnt_48 (fun r33 gr33 h => ?_)
          refine m_getRN (ci := 0) (host := RX5) hx hb hU0 hown hK hM rfl 7 (by decide) (List.mem_of_getElem? (i := 10) rfl) h dX5_burnt_51 (fun r34 gr34 h => ?_)
          refine lv_iload hx hb dX5_burnt_54 (lv_at hl 3 rfl) ?_
          refine lv_iconst hx hb dX5_burnt_56 kI_m1 ?_
          refine m_iast hx hb hK hM hL h dX5_burnt_57 (fun t35 H locs h hM hL => ?_)
          refine lv_iload_n hx hb dX5_burnt_58 rfl (lv_at hl 2 rfl) ?_
          refine lv_aload_n hx hb dX5_burnt_59 rfl (lv_at hl 0 rfl) ?_
          refine lv_iload_n hx hb dX5_burnt_60 rfl (lv_at hl 1 rfl) ?_
          obtain ⟨o36, h⟩ := oi_some h
          obtain ⟨q37, hq37, h⟩ := ob_some h
          refine m_calli (va_runV (As := [.int x1]) (rest := [.int x3]) ⟨hx, hb, hml, hown, hts⟩ (c_X5_firstOtherwise l G hq37) (cwV 1 hts gX5_burnt_X5_firstOtherwise rfl rfl rfl hd_X5_firstOtherwisev ⟨Nat.le_of_ble_eq_true rfl, Nat.le_of_ble_eq_true rfl⟩) (m_preV (ci := 4) hK hM rfl o36) rfl rfl hl.1 rfl (lv_room (Nat.le_of_ble_eq_true rfl)) dX5_burnt_61 ⟨Nat.le_of_ble_eq_true rfl, Nat.le_of_ble_eq_true rfl⟩) hL (fun H locs hM hL => ?_)
          refine lv_iconst hx hb dX5_burnt_64 kI_m1 ?_
          suffices hJ : ∀ (v39 : Int32) (ls : Array Slot), v39 = (if q37.1 = (-1 : Int32) then ((1 : Int32) <<< (x4 &&& 31)) else (0 : Int32)) → lv_has ls 5 [(0, .ref h0), (1, .int x1), (4, .int x4)] → W p l e rm_X5_burnt s m args below meth c H locs 0 0 Q (F0 m 76 ls [.int v39, .int x3]) by
            refine lv_icmp_ne (tgt := 75) hx hb dX5_burnt_65 (by decide) (fun c38 => ?_) (fun c38 => ?_)
            · refine lv_iconst hx hb dX5_burnt_75 kI_0 ?_
              exact hJ _ _ (((if_neg c38).trans rfl).symm) (lv_sub hl [0, 1, 3] rfl)
            · refine lv_iconst hx hb dX5_burnt_68 kI_1 ?_
              refine lv_iload hx hb dX5_burnt_69 (lv_at hl 3 rfl) ?_
              refine lv_ishl hx hb dX5_burnt_71 ?_
              refine lv_goto (tgt := 76) hx hb dX5_burnt_72 (by decide) ?_
              exact hJ _ _ (((if_pos c38).trans rfl).symm) (lv_sub hl [0, 1, 3] rfl)
          intro v39 ls ev39 hl
          have h := vl_at ev39 h
          refine lv_ior hx hb dX5_burnt_76 ?_
          refine lv_topi (fun v40 ev40 => ?_)
          have h := vl_at ev40 h
          refine lv_istore_n (lv' := [(3, .int v40), (0, .ref h0), (1, .int x1), (4, .int x4)]) hx hb dX5_burnt_77 rfl hl (by decide) rfl (fun ls hl => ?_)
          obtain ⟨v41, ev41⟩ : ∃ y : Int32, y = x4 + (1 : Int32) := ⟨_, rfl⟩
          have h := vl_at ev41 h
          refine lv_iinc (v := v41) (lv' := [(4, .int v41), (3, .int v40), (0, .ref h0), (1, .int x1)]) hx hb dX5_burnt_78 hl (k := 3) rfl (by rw [ev41, kI_1]) (by decide) rfl (fun ls hl => ?_)
          refine lv_goto (tgt := 17) hx hb dX5_burnt_81 (by decide) ?_
          exact ih _ _ _ _ _ h _ _ _ hM hL (lv_sub hl [2, 3, 1, 0] rfl)
  rw [f_X5_burnt.eq_1] at h
  refine lv_aload_n hx hb dX5_burnt_0 rfl (lv_at hl 0 rfl) ?_
  refine lv_iload_n hx hb dX5_burnt_1 rfl (lv_at hl 1 rfl) ?_
  obtain ⟨o42, h⟩ := oi_some h
  obtain ⟨q43, hq43, h⟩ := ob_some h
  refine m_calli (va_runV (As := [.int x1]) (rest := []) ⟨hx, hb, hml, hown, hts⟩ (c_X5_refusalOfTale l G hq43) (cwV 1 hts gX5_burnt_X5_refusalOfTale rfl rfl rfl hd_X5_refusalOfTalev ⟨Nat.le_of_ble_eq_true rfl, Nat.le_of_ble_eq_true rfl⟩) (m_preV (ci := 4) hK hM rfl o42) rfl rfl hl.1 rfl (lv_room (Nat.le_of_ble_eq_true rfl)) dX5_burnt_2 ⟨Nat.le_of_ble_eq_true rfl, Nat.le_of_ble_eq_true rfl⟩) hL (fun H locs hM hL => ?_)
  refine lv_istore_n (lv' := [(2, .int q43), (0, .ref h0), (1, .int x1)]) hx hb dX5_burnt_5 rfl hl (by decide) rfl (fun ls hl => ?_)
  refine lv_iload_n hx hb dX5_burnt_6 rfl (lv_at hl 0 rfl) ?_
  refine lv_if_eq (tgt := 12) hx hb dX5_burnt_7 (by decide) (fun c44 => ?_) (fun c44 => ?_)
  · have h := (if_pos c44).symm.trans h
    refine lv_iconst hx hb dX5_burnt_12 kI_0 ?_
    refine lv_istore_n (lv' := [(3, .int (0 : Int32)), (2, .int q43), (0, .ref h0), (1, .int x1)]) hx hb dX5_burnt_13 rfl hl (by decide) rfl (fun ls hl => ?_)
    refine lv_iconst hx hb dX5_burnt_14 kI_0 ?_
    refine lv_istore (lv' := [(4, .int (0 : Int32)), (3, .int (0 : Int32)), (2, .int q43), (0, .ref h0), (1, .int x1)]) hx hb dX5_burnt_15 hl (by decide) rfl (fun ls hl => ?_)
    refine hN17 _ _ _ _ _ _ h _ _ _ hM hL (lv_sub hl [3, 4, 1, 0] rfl)
  · have h := (if_neg c44).symm.trans h
    refine lv_iload_n hx hb dX5_burnt_10 rfl (lv_at hl 0 rfl) ?_
    subst hQ
    have h := Option.some.inj h
    subst h
    exact m_iret hx hb hr hM hL dX5_burnt_11 hlocks
abbrev rm_X5_laws : Room := { frames := 6, cells := 0, slots := 0, locals := 153 }
set_option maxHeartbeats 4000000 in
set_option maxRecDepth 100000 in
theorem c_X5_laws (l : Launch) (G : mG) {h0 : Nat} {x1 : Int32} {σ : mS} {z : Int32 × mS} (h : f_X5_laws h0 x1 σ = some z) : Met l yX5_laws wsX5_laws rm_X5_laws (va_Pc [.ref h0, .int x1] (mB G σ)) (mQ G (.returned (some (.int z.1))) z.2) 0 0 (mF G) := by
  refine m_start (cc := cX5_laws) (maxL := 5) (ret := (some .int)) (by decide) rfl [.ref h0, .int x1] (Nat.le_of_ble_eq_true rfl) ?_
  intro p e s m args below meth c ls hx hb hr hml hown hts hlocks hnm hK hM hl
  have hown : s.vm.findClass RX5 = some m.cls := hown
  have hnm : meth.name = "laws" := hnm
  obtain ⟨locs, hlocs⟩ : ∃ l : List Loc, l = [] := ⟨_, rfl⟩
  have hL : mL G locs := by rw [hlocs]; exact mL_nil G
  rw [← hlocs]
  generalize s.heap = H at hM ⊢
  have hl : lv_has ls 5 [(0, .ref h0), (1, .int x1)] := hl
  obtain ⟨Q, hQ⟩ : ∃ Q, Q = MQ below (mQ G (.returned (some (.int z.1))) z.2) args s 0 0 (mF G) := ⟨_, rfl⟩
  rw [← hQ]
  have hU5 : ∀ w ∈ wsX50, w.before args s = true := fun w h => hts w (List.mem_cons_of_mem _ (List.mem_append_left _ (List.mem_append_left _ (List.mem_append_left _ (List.mem_append_right _ h)))))
  have w1 := (hts (.fieldLink RX5 37 "HandkerchiefsDropped" "textCount" "I") (List.mem_of_getElem? (i := 1) rfl))
  have w2 := (hts (.fieldLink RX5 51 "HandkerchiefsDropped" "thought" "LHandkerchiefsDropped$Assize;") (List.mem_of_getElem? (i := 2) rfl))
  have w3 := (hts (.fieldLink RX5 44 "HandkerchiefsDropped" "now" "LHandkerchiefsDropped$Assize;") (List.mem_of_getElem? (i := 3) rfl))
  have w4 := (hts (.fieldLink RX5 11 "HandkerchiefsDropped" "texts" "[LHandkerchiefsDropped$Law;") (List.mem_of_getElem? (i := 4) rfl))
  have hU0 : ∀ w ∈ wsX00, w.before args s = true := fun w h => hts w (List.mem_cons_of_mem _ (List.mem_append_left _ (List.mem_append_left _ (List.mem_append_right _ h))))
  have hN17 : ∀ (n : Nat) (h0 : Nat) (x1 : Int32) (x3 : Int32) (x4 : Int32) (σ : mS), f_X5_laws_17 n h0 x1 x3 x4 σ = some z → ∀ (H : Heap) (locs : List Loc) (ls : Array Slot), mP G σ H → mL G locs → lv_has ls 5 [(0, .ref h0), (1, .int x1), (3, .int x3), (4, .int x4)] → W p l e rm_X5_laws s m args below meth c H locs 0 0 Q (F0 m 17 ls []) := by
    intro n
    induction n with
    | zero =>
      intro h0 x1 x3 x4 σ h
      exact nomatch (show (none : Option (Int32 × mS)) = some z from h)
    | succ n ih =>
      intro h0 x1 x3 x4 σ h H locs ls hM hL hl
      rw [f_X5_laws_17.eq_2] at h
      refine lv_iload hx hb dX5_laws_17 (lv_at hl 3 rfl) ?_
      refine lv_aload_n hx hb dX5_laws_19 rfl (lv_at hl 0 rfl) ?_
      refine m_getI (ci := 4) hx hb hU5 hown hK hM rfl 7 (by decide) w1 h dX5_laws_20 (fun v20 gv20 h => ?_)
      refine lv_icmp_ge (tgt := 77) hx hb dX5_laws_23 (by decide) (fun c21 => ?_) (fun c21 => ?_)
      · have h := (if_pos c21).symm.trans h
        refine lv_iload_n hx hb dX5_laws_77 rfl (lv_at hl 2 rfl) ?_
        subst hQ
        have h := Option.some.inj h
        subst h
        exact m_iret hx hb hr hM hL dX5_laws_78 hlocks
      · have h := (if_neg c21).symm.trans h
        refine lv_aload_n hx hb dX5_laws_26 rfl (lv_at hl 0 rfl) ?_
        refine m_getR (ci := 4) hx hb hU5 hown hK hM rfl 5 (by decide) w2 h dX5_laws_27 (fun r22 gr22 h => ?_)
        refine lv_aload_n hx hb dX5_laws_30 rfl (lv_at hl 0 rfl) ?_
        refine m_getR (ci := 4) hx hb hU5 hown hK hM rfl 3 (by decide) w3 h dX5_laws_31 (fun r23 gr23 h => ?_)
        obtain ⟨o24, h⟩ := oi_some h
        obtain ⟨q25, hq25, h⟩ := ob_some h
        refine m_callv (va_runV (As := [.ref r23]) (rest := []) ⟨hx, hb, hml, hown, hts⟩ (c_X0_become l G hq25) (cwV 1 hts gX5_laws_X0_become rfl rfl rfl hd_X0_becomev ⟨Nat.le_of_ble_eq_true rfl, Nat.le_of_ble_eq_true rfl⟩) (m_preV (ci := 0) hK hM rfl o24) rfl rfl hl.1 rfl (lv_room (Nat.le_of_ble_eq_true rfl)) dX5_laws_34 ⟨Nat.le_of_ble_eq_true rfl, Nat.le_of_ble_eq_true rfl⟩) hL (fun H locs hM hL => ?_)
        refine lv_aload_n hx hb dX5_laws_37 rfl (lv_at hl 0 rfl) ?_
        refine m_getR (ci := 4) hx hb hU5 hown hK hM rfl 5 (by decide) w2 h dX5_laws_38 (fun r26 gr26 h => ?_)
        refine lv_aload_n hx hb dX5_laws_41 rfl (lv_at hl 0 rfl) ?_
        refine m_getR (ci := 4) hx hb hU5 hown hK hM rfl 0 (by decide) w4 h dX5_laws_42 (fun r27 gr27 h => ?_)
        refine lv_iload hx hb dX5_laws_45 (lv_at hl 3 rfl) ?_
        refine m_aald hx hb hK hM 1 rfl h dX5_laws_47 (fun r28 gr28 h => ?_)
        refine m_putN (host := RX5) (ci := 0) hx hb hU0 tyX0 tyX0_ok nmX0 hown hK hM hL rfl 14 (by decide) (List.mem_of_getElem? (i := 17) rfl) rfl rfl rfl h dX5_laws_48 (fun t29 H locs h hM hL => ?_)
        refine lv_iload_n hx hb dX5_laws_51 rfl (lv_at hl 2 rfl) ?_
        refine lv_aload_n hx hb dX5_laws_52 rfl (lv_at hl 0 rfl) ?_
        refine lv_iload_n hx hb dX5_laws_53 rfl (lv_at hl 1 rfl) ?_
        obtain ⟨o30, h⟩ := oi_some h
        obtain ⟨q31, hq31, h⟩ := ob_some h
        refine m_calli (va_runV (As := [.int x1]) (rest := [.int x3]) ⟨hx, hb, hml, hown, hts⟩ (c_X5_firstOtherwise l G hq31) (cwV 1 hts gX5_laws_X5_firstOtherwise rfl rfl rfl hd_X5_firstOtherwisev ⟨Nat.le_of_ble_eq_true rfl, Nat.le_of_ble_eq_true rfl⟩) (m_preV (ci := 4) hK hM rfl o30) rfl rfl hl.1 rfl (lv_room (Nat.le_of_ble_eq_true rfl)) dX5_laws_54 ⟨Nat.le_of_ble_eq_true rfl, Nat.le_of_ble_eq_true rfl⟩) hL (fun H locs hM hL => ?_)
        refine lv_iconst hx hb dX5_laws_57 kI_m1 ?_
        suffices hJ : ∀ (v33 : Int32) (ls : Array Slot), v33 = (if q31.1 = (-1 : Int32) then ((1 : Int32) <<< (x4 &&& 31)) else (0 : Int32)) → lv_has ls 5 [(0, .ref h0), (1, .int x1), (4, .int x4)] → W p l e rm_X5_laws s m args below meth c H locs 0 0 Q (F0 m 69 ls [.int v33, .int x3]) by
          refine lv_icmp_ne (tgt := 68) hx hb dX5_laws_58 (by decide) (fun c32 => ?_) (fun c32 => ?_)
          · refine lv_iconst hx hb dX5_laws_68 kI_0 ?_
            exact hJ _ _ (((if_neg c32).trans rfl).symm) (lv_sub hl [0, 1, 3] rfl)
          · refine lv_iconst hx hb dX5_laws_61 kI_1 ?_
            refine lv_iload hx hb dX5_laws_62 (lv_at hl 3 rfl) ?_
            refine lv_ishl hx hb dX5_laws_64 ?_
            refine lv_goto (tgt := 69) hx hb dX5_laws_65 (by decide) ?_
            exact hJ _ _ (((if_pos c32).trans rfl).symm) (lv_sub hl [0, 1, 3] rfl)
        intro v33 ls ev33 hl
        have h := vl_at ev33 h
        refine lv_ior hx hb dX5_laws_69 ?_
        refine lv_topi (fun v34 ev34 => ?_)
        have h := vl_at ev34 h
        refine lv_istore_n (lv' := [(3, .int v34), (0, .ref h0), (1, .int x1), (4, .int x4)]) hx hb dX5_laws_70 rfl hl (by decide) rfl (fun ls hl => ?_)
        obtain ⟨v35, ev35⟩ : ∃ y : Int32, y = x4 + (1 : Int32) := ⟨_, rfl⟩
        have h := vl_at ev35 h
        refine lv_iinc (v := v35) (lv' := [(4, .int v35), (3, .int v34), (0, .ref h0), (1, .int x1)]) hx hb dX5_laws_71 hl (k := 3) rfl (by rw [ev35, kI_1]) (by decide) rfl (fun ls hl => ?_)
        refine lv_goto (tgt := 17) hx hb dX5_laws_74 (by decide) ?_
        exact ih _ _ _ _ _ h _ _ _ hM hL (lv_sub hl [2, 3, 1, 0] rfl)
  rw [f_X5_laws.eq_1] at h
  refine lv_aload_n hx hb dX5_laws_0 rfl (lv_at hl 0 rfl) ?_
  refine lv_iload_n hx hb dX5_laws_1 rfl (lv_at hl 1 rfl) ?_
  obtain ⟨o36, h⟩ := oi_some h
  obtain ⟨q37, hq37, h⟩ := ob_some h
  refine m_calli (va_runV (As := [.int x1]) (rest := []) ⟨hx, hb, hml, hown, hts⟩ (c_X5_refusalOfTale l G hq37) (cwV 1 hts gX5_laws_X5_refusalOfTale rfl rfl rfl hd_X5_refusalOfTalev ⟨Nat.le_of_ble_eq_true rfl, Nat.le_of_ble_eq_true rfl⟩) (m_preV (ci := 4) hK hM rfl o36) rfl rfl hl.1 rfl (lv_room (Nat.le_of_ble_eq_true rfl)) dX5_laws_2 ⟨Nat.le_of_ble_eq_true rfl, Nat.le_of_ble_eq_true rfl⟩) hL (fun H locs hM hL => ?_)
  refine lv_istore_n (lv' := [(2, .int q37), (0, .ref h0), (1, .int x1)]) hx hb dX5_laws_5 rfl hl (by decide) rfl (fun ls hl => ?_)
  refine lv_iload_n hx hb dX5_laws_6 rfl (lv_at hl 0 rfl) ?_
  refine lv_if_eq (tgt := 12) hx hb dX5_laws_7 (by decide) (fun c38 => ?_) (fun c38 => ?_)
  · have h := (if_pos c38).symm.trans h
    refine lv_iconst hx hb dX5_laws_12 kI_0 ?_
    refine lv_istore_n (lv' := [(3, .int (0 : Int32)), (2, .int q37), (0, .ref h0), (1, .int x1)]) hx hb dX5_laws_13 rfl hl (by decide) rfl (fun ls hl => ?_)
    refine lv_iconst hx hb dX5_laws_14 kI_0 ?_
    refine lv_istore (lv' := [(4, .int (0 : Int32)), (3, .int (0 : Int32)), (2, .int q37), (0, .ref h0), (1, .int x1)]) hx hb dX5_laws_15 hl (by decide) rfl (fun ls hl => ?_)
    refine hN17 _ _ _ _ _ _ h _ _ _ hM hL (lv_sub hl [3, 4, 1, 0] rfl)
  · have h := (if_neg c38).symm.trans h
    refine lv_iload_n hx hb dX5_laws_10 rfl (lv_at hl 0 rfl) ?_
    subst hQ
    have h := Option.some.inj h
    subst h
    exact m_iret hx hb hr hM hL dX5_laws_11 hlocks
abbrev rm_X5_film : Room := { frames := 5, cells := 0, slots := 0, locals := 130 }
set_option maxHeartbeats 4000000 in
set_option maxRecDepth 100000 in
theorem c_X5_film (l : Launch) (G : mG) {h0 : Nat} {x1 : Int32} {x2 : Int32} {σ : mS} {z : Int32 × mS} (h : f_X5_film h0 x1 x2 σ = some z) : Met l yX5_film wsX5_film rm_X5_film (va_Pc [.ref h0, .int x1, .int x2] (mB G σ)) (mQ G (.returned (some (.int z.1))) z.2) 0 0 (mF G) := by
  refine m_start (cc := cX5_film) (maxL := 5) (ret := (some .int)) (by decide) rfl [.ref h0, .int x1, .int x2] (Nat.le_of_ble_eq_true rfl) ?_
  intro p e s m args below meth c ls hx hb hr hml hown hts hlocks hnm hK hM hl
  have hown : s.vm.findClass RX5 = some m.cls := hown
  have hnm : meth.name = "film" := hnm
  obtain ⟨locs, hlocs⟩ : ∃ l : List Loc, l = [] := ⟨_, rfl⟩
  have hL : mL G locs := by rw [hlocs]; exact mL_nil G
  rw [← hlocs]
  generalize s.heap = H at hM ⊢
  have hl : lv_has ls 5 [(0, .ref h0), (1, .int x1), (2, .int x2)] := hl
  obtain ⟨Q, hQ⟩ : ∃ Q, Q = MQ below (mQ G (.returned (some (.int z.1))) z.2) args s 0 0 (mF G) := ⟨_, rfl⟩
  rw [← hQ]
  have hU5 : ∀ w ∈ wsX50, w.before args s = true := fun w h => hts w (List.mem_cons_of_mem _ (List.mem_append_left _ (List.mem_append_left _ (List.mem_append_left _ (List.mem_append_right _ h)))))
  have w1 := (hts (.fieldLink RX5 24 "HandkerchiefsDropped" "sheets" "[LHandkerchiefsDropped$Sheet;") (List.mem_of_getElem? (i := 1) rfl))
  have w2 := (hts (.fieldLink RX5 51 "HandkerchiefsDropped" "thought" "LHandkerchiefsDropped$Assize;") (List.mem_of_getElem? (i := 2) rfl))
  have w3 := (hts (.fieldLink RX5 44 "HandkerchiefsDropped" "now" "LHandkerchiefsDropped$Assize;") (List.mem_of_getElem? (i := 3) rfl))
  have hU0 : ∀ w ∈ wsX00, w.before args s = true := fun w h => hts w (List.mem_cons_of_mem _ (List.mem_append_left _ (List.mem_append_left _ (List.mem_append_right _ h))))
  have hN50 : ∀ (n : Nat) (h0 : Nat) (x2 : Int32) (h3 : Nat) (x4 : Int32) (σ : mS), f_X5_film_50 n h0 x2 h3 x4 σ = some z → ∀ (H : Heap) (locs : List Loc) (ls : Array Slot), mP G σ H → mL G locs → lv_has ls 5 [(0, .ref h0), (2, .int x2), (3, .ref h3), (4, .int x4)] → W p l e rm_X5_film s m args below meth c H locs 0 0 Q (F0 m 50 ls []) := by
    intro n
    induction n with
    | zero =>
      intro h0 x2 h3 x4 σ h
      exact nomatch (show (none : Option (Int32 × mS)) = some z from h)
    | succ n ih =>
      intro h0 x2 h3 x4 σ h H locs ls hM hL hl
      rw [f_X5_film_50.eq_2] at h
      refine lv_iload hx hb dX5_film_50 (lv_at hl 3 rfl) ?_
      refine lv_iload_n hx hb dX5_film_52 rfl (lv_at hl 1 rfl) ?_
      refine lv_icmp_ge (tgt := 87) hx hb dX5_film_53 (by decide) (fun c20 => ?_) (fun c20 => ?_)
      · have h := (if_pos c20).symm.trans h
        refine lv_iload_n hx hb dX5_film_87 rfl (lv_at hl 1 rfl) ?_
        subst hQ
        have h := Option.some.inj h
        subst h
        exact m_iret hx hb hr hM hL dX5_film_88 hlocks
      · have h := (if_neg c20).symm.trans h
        refine lv_aload_n hx hb dX5_film_56 rfl (lv_at hl 0 rfl) ?_
        refine m_getR (ci := 4) hx hb hU5 hown hK hM rfl 5 (by decide) w2 h dX5_film_57 (fun r21 gr21 h => ?_)
        refine lv_iconst hx hb dX5_film_60 kI_1 ?_
        obtain ⟨o22, h⟩ := oi_some h
        obtain ⟨q23, hq23, h⟩ := ob_some h
        refine m_calli (va_runV (As := [.int (1 : Int32)]) (rest := []) ⟨hx, hb, hml, hown, hts⟩ (c_X0_passHours l G hq23) (cwV 1 hts gX5_film_X0_passHours rfl rfl rfl hd_X0_passHoursv ⟨Nat.le_of_ble_eq_true rfl, Nat.le_of_ble_eq_true rfl⟩) (m_preV (ci := 0) hK hM rfl o22) rfl rfl hl.1 rfl (lv_room (Nat.le_of_ble_eq_true rfl)) dX5_film_61 ⟨Nat.le_of_ble_eq_true rfl, Nat.le_of_ble_eq_true rfl⟩) hL (fun H locs hM hL => ?_)
        refine lv_pop hx hb dX5_film_64 rfl ?_
        refine lv_aload_n hx hb dX5_film_65 rfl (lv_at hl 2 rfl) ?_
        refine lv_iload hx hb dX5_film_66 (lv_at hl 3 rfl) ?_
        refine lv_aload_n hx hb dX5_film_68 rfl (lv_at hl 0 rfl) ?_
        refine m_getR (ci := 4) hx hb hU5 hown hK hM rfl 5 (by decide) w2 h dX5_film_69 (fun r24 gr24 h => ?_)
        refine m_getIN (ci := 0) (host := RX5) hx hb hU0 hown hK hM rfl 11 (by decide) (List.mem_of_getElem? (i := 14) rfl) h dX5_film_72 (fun v25 gv25 h => ?_)
        refine m_calli (va_runS (As := [.int v25]) (rest := [.int x4, .ref h3]) ⟨hx, hb, hml, hown, hts⟩ (c_J6_bitCount l G v25) (va_cwS 1 hts gX5_film_J6_bitCount_0f7a4 rfl rfl rfl hd_J6_bitCount ⟨Nat.le_of_ble_eq_true rfl, Nat.le_of_ble_eq_true rfl⟩) (m_preS hK hM) rfl rfl hl.1 rfl (lv_room (Nat.le_of_ble_eq_true rfl)) dX5_film_75 ⟨Nat.le_of_ble_eq_true rfl, Nat.le_of_ble_eq_true rfl⟩) hL (fun H locs hM hL => ?_)
        obtain ⟨o26, h⟩ := oi_some h
        obtain ⟨q27, hq27, h⟩ := ob_some h
        refine m_callv (va_runV (As := [.int x4, .int (f_J6_bitCount v25)]) (rest := []) ⟨hx, hb, hml, hown, hts⟩ (c_X3_become l G hq27) (cwV 2 hts gX5_film_X3_become rfl rfl rfl hd_X3_becomev ⟨Nat.le_of_ble_eq_true rfl, Nat.le_of_ble_eq_true rfl⟩) (m_preV (ci := 2) hK hM rfl o26) rfl rfl hl.1 rfl (lv_room (Nat.le_of_ble_eq_true rfl)) dX5_film_78 ⟨Nat.le_of_ble_eq_true rfl, Nat.le_of_ble_eq_true rfl⟩) hL (fun H locs hM hL => ?_)
        obtain ⟨v28, ev28⟩ : ∃ y : Int32, y = x4 + (1 : Int32) := ⟨_, rfl⟩
        have h := vl_at ev28 h
        refine lv_iinc (v := v28) (lv' := [(4, .int v28), (0, .ref h0), (2, .int x2), (3, .ref h3)]) hx hb dX5_film_81 hl (k := 3) rfl (by rw [ev28, kI_1]) (by decide) rfl (fun ls hl => ?_)
        refine lv_goto (tgt := 50) hx hb dX5_film_84 (by decide) ?_
        exact ih _ _ _ _ _ h _ _ _ hM hL (lv_sub hl [1, 2, 3, 0] rfl)
  rw [f_X5_film.eq_1] at h
  refine lv_iload_n hx hb dX5_film_0 rfl (lv_at hl 1 rfl) ?_
  refine lv_iconst hx hb dX5_film_1 kI_4 ?_
  refine m_calli (va_runS (As := [.int x1, .int (4 : Int32)]) (rest := []) ⟨hx, hb, hml, hown, hts⟩ (c_X5_isBelow l G x1 (4 : Int32)) (va_cwS 2 hts gX5_film_X5_isBelow rfl rfl rfl hd_X5_isBelow ⟨Nat.le_of_ble_eq_true rfl, Nat.le_of_ble_eq_true rfl⟩) (m_preS hK hM) rfl rfl hl.1 rfl (lv_room (Nat.le_of_ble_eq_true rfl)) dX5_film_2 ⟨Nat.le_of_ble_eq_true rfl, Nat.le_of_ble_eq_true rfl⟩) hL (fun H locs hM hL => ?_)
  refine lv_if_ne (tgt := 11) hx hb dX5_film_5 (by decide) (fun c29 => ?_) (fun c29 => ?_)
  · have h := (if_neg c29).symm.trans h
    refine lv_iload_n hx hb dX5_film_11 rfl (lv_at hl 2 rfl) ?_
    refine lv_bipush hx hb dX5_film_12 kB_21 ?_
    refine m_calli (va_runS (As := [.int x2, .int (21 : Int32)]) (rest := []) ⟨hx, hb, hml, hown, hts⟩ (c_X5_isBelow l G x2 (21 : Int32)) (va_cwS 2 hts gX5_film_X5_isBelow rfl rfl rfl hd_X5_isBelow ⟨Nat.le_of_ble_eq_true rfl, Nat.le_of_ble_eq_true rfl⟩) (m_preS hK hM) rfl rfl hl.1 rfl (lv_room (Nat.le_of_ble_eq_true rfl)) dX5_film_14 ⟨Nat.le_of_ble_eq_true rfl, Nat.le_of_ble_eq_true rfl⟩) hL (fun H locs hM hL => ?_)
    refine lv_if_ne (tgt := 23) hx hb dX5_film_17 (by decide) (fun c30 => ?_) (fun c30 => ?_)
    · have h := (if_neg c30).symm.trans h
      refine lv_aload_n hx hb dX5_film_23 rfl (lv_at hl 0 rfl) ?_
      refine m_getR (ci := 4) hx hb hU5 hown hK hM rfl 2 (by decide) w1 h dX5_film_24 (fun r31 gr31 h => ?_)
      refine lv_iload_n hx hb dX5_film_27 rfl (lv_at hl 1 rfl) ?_
      refine m_aald hx hb hK hM 2 rfl h dX5_film_28 (fun r32 gr32 h => ?_)
      refine lv_astore_n (lv' := [(3, .ref r32), (0, .ref h0), (1, .int x1), (2, .int x2)]) hx hb dX5_film_29 rfl hl (by decide) rfl (fun ls hl => ?_)
      refine lv_aload_n hx hb dX5_film_30 rfl (lv_at hl 0 rfl) ?_
      refine lv_iconst hx hb dX5_film_31 kI_0 ?_
      refine lv_iload_n hx hb dX5_film_32 rfl (lv_at hl 3 rfl) ?_
      obtain ⟨o33, h⟩ := oi_some h
      obtain ⟨q34, hq34, h⟩ := ob_some h
      refine m_callv (va_runV (As := [.int (0 : Int32), .int x2]) (rest := []) ⟨hx, hb, hml, hown, hts⟩ (c_X3_begin l G hq34) (cwV 2 hts gX5_film_X3_begin rfl rfl rfl hd_X3_beginv ⟨Nat.le_of_ble_eq_true rfl, Nat.le_of_ble_eq_true rfl⟩) (m_preV (ci := 2) hK hM rfl o33) rfl rfl hl.1 rfl (lv_room (Nat.le_of_ble_eq_true rfl)) dX5_film_33 ⟨Nat.le_of_ble_eq_true rfl, Nat.le_of_ble_eq_true rfl⟩) hL (fun H locs hM hL => ?_)
      refine lv_aload_n hx hb dX5_film_36 rfl (lv_at hl 1 rfl) ?_
      refine m_getR (ci := 4) hx hb hU5 hown hK hM rfl 5 (by decide) w2 h dX5_film_37 (fun r35 gr35 h => ?_)
      refine lv_aload_n hx hb dX5_film_40 rfl (lv_at hl 1 rfl) ?_
      refine m_getR (ci := 4) hx hb hU5 hown hK hM rfl 3 (by decide) w3 h dX5_film_41 (fun r36 gr36 h => ?_)
      obtain ⟨o37, h⟩ := oi_some h
      obtain ⟨q38, hq38, h⟩ := ob_some h
      refine m_callv (va_runV (As := [.ref r36]) (rest := []) ⟨hx, hb, hml, hown, hts⟩ (c_X0_become l G hq38) (cwV 1 hts gX5_film_X0_become rfl rfl rfl hd_X0_becomev ⟨Nat.le_of_ble_eq_true rfl, Nat.le_of_ble_eq_true rfl⟩) (m_preV (ci := 0) hK hM rfl o37) rfl rfl hl.1 rfl (lv_room (Nat.le_of_ble_eq_true rfl)) dX5_film_44 ⟨Nat.le_of_ble_eq_true rfl, Nat.le_of_ble_eq_true rfl⟩) hL (fun H locs hM hL => ?_)
      refine lv_iconst hx hb dX5_film_47 kI_0 ?_
      refine lv_istore (lv' := [(4, .int (0 : Int32)), (3, .ref r32), (0, .ref h0), (1, .int x1), (2, .int x2)]) hx hb dX5_film_48 hl (by decide) rfl (fun ls hl => ?_)
      refine hN50 _ _ _ _ _ _ h _ _ _ hM hL (lv_sub hl [2, 4, 1, 0] rfl)
    · have h := (if_pos c30).symm.trans h
      refine lv_bipush hx hb dX5_film_20 kB_m7 ?_
      subst hQ
      have h := Option.some.inj h
      subst h
      exact m_iret hx hb hr hM hL dX5_film_22 hlocks
  · have h := (if_pos c29).symm.trans h
    refine lv_bipush hx hb dX5_film_8 kB_m2 ?_
    subst hQ
    have h := Option.some.inj h
    subst h
    exact m_iret hx hb hr hM hL dX5_film_10 hlocks
abbrev rm_X5_holdAssizes : Room := { frames := 5, cells := 0, slots := 0, locals := 130 }
set_option maxHeartbeats 4000000 in
set_option maxRecDepth 100000 in
theorem c_X5_holdAssizes (l : Launch) (G : mG) {h0 : Nat} {x1 : Int32} {σ : mS} {z : mS} (h : f_X5_holdAssizes h0 x1 σ = some z) : Met l yX5_holdAssizes wsX5_holdAssizes rm_X5_holdAssizes (va_Pc [.ref h0, .int x1] (mB G σ)) (mQ G (.returned none) z) 0 0 (mF G) := by
  refine m_start (cc := cX5_holdAssizes) (maxL := 6) (ret := none) (by decide) rfl [.ref h0, .int x1] (Nat.le_of_ble_eq_true rfl) ?_
  intro p e s m args below meth c ls hx hb hr hml hown hts hlocks hnm hK hM hl
  have hown : s.vm.findClass RX5 = some m.cls := hown
  have hnm : meth.name = "holdAssizes" := hnm
  obtain ⟨locs, hlocs⟩ : ∃ l : List Loc, l = [] := ⟨_, rfl⟩
  have hL : mL G locs := by rw [hlocs]; exact mL_nil G
  rw [← hlocs]
  generalize s.heap = H at hM ⊢
  have hl : lv_has ls 6 [(0, .ref h0), (1, .int x1)] := hl
  obtain ⟨Q, hQ⟩ : ∃ Q, Q = MQ below (mQ G (.returned none) z) args s 0 0 (mF G) := ⟨_, rfl⟩
  rw [← hQ]
  have hU5 : ∀ w ∈ wsX50, w.before args s = true := fun w h => hts w (List.mem_cons_of_mem _ (List.mem_append_left _ (List.mem_append_left _ (List.mem_append_right _ h))))
  have w1 := (hts (.fieldLink RX5 51 "HandkerchiefsDropped" "thought" "LHandkerchiefsDropped$Assize;") (List.mem_of_getElem? (i := 1) rfl))
  have w2 := (hts (.fieldLink RX5 44 "HandkerchiefsDropped" "now" "LHandkerchiefsDropped$Assize;") (List.mem_of_getElem? (i := 2) rfl))
  have w3 := (hts (.constantLong RX5 262 (48271)) (List.mem_of_getElem? (i := 3) rfl))
  have w4 := (hts (.constantLong RX5 264 (2147483647)) (List.mem_of_getElem? (i := 4) rfl))
  have w5 := (hts (.constantLong RX5 266 (8)) (List.mem_of_getElem? (i := 5) rfl))
  have hN78 : ∀ (k19 : Nat → Int64 → Int32 → mS → Option mS) (hk19 : ∀ (h0 : Nat) (x2 : Int64) (x4 : Int32) (σ : mS), k19 h0 x2 x4 σ = some z → ∀ (H : Heap) (locs : List Loc) (ls : Array Slot), mP G σ H → mL G locs → lv_has ls 6 [(0, .ref h0), (2, .long x2), (4, .int x4)] → W p l e rm_X5_holdAssizes s m args below meth c H locs 0 0 Q (F0 m 19 ls [])) (h0 : Nat) (x2 : Int64) (x4 : Int32) (σ : mS), f_X5_holdAssizes_78 k19 h0 x2 x4 σ = some z → ∀ (H : Heap) (locs : List Loc) (ls : Array Slot), mP G σ H → mL G locs → lv_has ls 6 [(0, .ref h0), (2, .long x2), (4, .int x4)] → W p l e rm_X5_holdAssizes s m args below meth c H locs 0 0 Q (F0 m 78 ls []) := by
    intro k19 hk19 h0 x2 x4 σ h H locs ls hM hL hl
    rw [f_X5_holdAssizes_78.eq_1] at h
    refine lv_aload_n hx hb dX5_holdAssizes_78 rfl (lv_at hl 0 rfl) ?_
    refine m_getR (ci := 4) hx hb hU5 hown hK hM rfl 5 (by decide) w1 h dX5_holdAssizes_79 (fun r24 gr24 h => ?_)
    refine lv_iconst hx hb dX5_holdAssizes_82 kI_1 ?_
    obtain ⟨o25, h⟩ := oi_some h
    obtain ⟨q26, hq26, h⟩ := ob_some h
    refine m_calli (va_runV (As := [.int (1 : Int32)]) (rest := []) ⟨hx, hb, hml, hown, hts⟩ (c_X0_passHours l G hq26) (cwV 1 hts gX5_holdAssizes_X0_passHours rfl rfl rfl hd_X0_passHoursv ⟨Nat.le_of_ble_eq_true rfl, Nat.le_of_ble_eq_true rfl⟩) (m_preV (ci := 0) hK hM rfl o25) rfl rfl hl.1 rfl (lv_room (Nat.le_of_ble_eq_true rfl)) dX5_holdAssizes_83 ⟨Nat.le_of_ble_eq_true rfl, Nat.le_of_ble_eq_true rfl⟩) hL (fun H locs hM hL => ?_)
    refine lv_pop hx hb dX5_holdAssizes_86 rfl ?_
    obtain ⟨v27, ev27⟩ : ∃ y : Int32, y = x4 + (1 : Int32) := ⟨_, rfl⟩
    have h := vl_at ev27 h
    refine lv_iinc (v := v27) (lv' := [(4, .int v27), (0, .ref h0), (2, .long x2)]) hx hb dX5_holdAssizes_87 hl (k := 2) rfl (by rw [ev27, kI_1]) (by decide) rfl (fun ls hl => ?_)
    refine lv_goto (tgt := 19) hx hb dX5_holdAssizes_90 (by decide) ?_
    exact hk19 _ _ _ _ h _ _ _ hM hL (lv_sub hl [1, 2, 0] rfl)
  have hN19 : ∀ (n : Nat) (h0 : Nat) (x2 : Int64) (x4 : Int32) (σ : mS), f_X5_holdAssizes_19 n h0 x2 x4 σ = some z → ∀ (H : Heap) (locs : List Loc) (ls : Array Slot), mP G σ H → mL G locs → lv_has ls 6 [(0, .ref h0), (2, .long x2), (4, .int x4)] → W p l e rm_X5_holdAssizes s m args below meth c H locs 0 0 Q (F0 m 19 ls []) := by
    intro n
    induction n with
    | zero =>
      intro h0 x2 x4 σ h
      exact nomatch (show (none : Option mS) = some z from h)
    | succ n ih =>
      intro h0 x2 x4 σ h H locs ls hM hL hl
      rw [f_X5_holdAssizes_19.eq_2] at h
      refine lv_iload hx hb dX5_holdAssizes_19 (lv_at hl 2 rfl) ?_
      refine lv_bipush hx hb dX5_holdAssizes_21 kB_10 ?_
      refine lv_icmp_ge (tgt := 93) hx hb dX5_holdAssizes_23 (by decide) (fun c28 => ?_) (fun c28 => ?_)
      · have h := (if_pos c28).symm.trans h
        subst hQ
        cases h
        exact m_vret hx hb hr hM hL dX5_holdAssizes_93 hlocks
      · have h := (if_neg c28).symm.trans h
        refine lv_lload_n hx hb dX5_holdAssizes_26 rfl (lv_at hl 1 rfl) ?_
        refine lv_ldc2 hx hb hown w3 dX5_holdAssizes_27 ?_
        refine lv_lmul hx hb dX5_holdAssizes_30 ?_
        refine lv_ldc2 hx hb hown w4 dX5_holdAssizes_31 ?_
        refine lv_lrem hx hb dX5_holdAssizes_34 (by decide) ?_
        refine lv_topl (fun v29 ev29 => ?_)
        have h := vl_at ev29 h
        refine lv_lstore_n (lv' := [(2, .long v29), (0, .ref h0), (4, .int x4)]) hx hb dX5_holdAssizes_35 rfl hl (by decide) rfl (fun ls hl => ?_)
        refine lv_lload_n hx hb dX5_holdAssizes_36 rfl (lv_at hl 0 rfl) ?_
        refine lv_ldc2 hx hb hown w5 dX5_holdAssizes_37 ?_
        refine lv_lrem hx hb dX5_holdAssizes_40 (by decide) ?_
        refine lv_l2i hx hb dX5_holdAssizes_41 rfl ?_
        refine lv_topi (fun v30 ev30 => ?_)
        have h := vl_at ev30 h
        refine lv_istore (lv' := [(5, .int v30), (2, .long v29), (0, .ref h0), (4, .int x4)]) hx hb dX5_holdAssizes_42 hl (by decide) rfl (fun ls hl => ?_)
        refine lv_aload_n hx hb dX5_holdAssizes_44 rfl (lv_at hl 2 rfl) ?_
        refine m_getR (ci := 4) hx hb hU5 hown hK hM rfl 5 (by decide) w1 h dX5_holdAssizes_45 (fun r31 gr31 h => ?_)
        refine lv_iload hx hb dX5_holdAssizes_48 (lv_at hl 0 rfl) ?_
        obtain ⟨o32, h⟩ := oi_some h
        obtain ⟨q33, hq33, h⟩ := ob_some h
        refine m_calli (va_runV (As := [.int v30]) (rest := []) ⟨hx, hb, hml, hown, hts⟩ (c_X0_hasWitness l G hq33) (cwV 1 hts gX5_holdAssizes_X0_hasWitness rfl rfl rfl hd_X0_hasWitnessv ⟨Nat.le_of_ble_eq_true rfl, Nat.le_of_ble_eq_true rfl⟩) (m_preV (ci := 0) hK hM rfl o32) rfl rfl hl.1 rfl (lv_room (Nat.le_of_ble_eq_true rfl)) dX5_holdAssizes_50 ⟨Nat.le_of_ble_eq_true rfl, Nat.le_of_ble_eq_true rfl⟩) hL (fun H locs hM hL => ?_)
        refine lv_if_eq (tgt := 78) hx hb dX5_holdAssizes_53 (by decide) (fun c34 => ?_) (fun c34 => ?_)
        · have h := (if_pos c34).symm.trans h
          refine hN78 _ (fun _ _ _ _ h H locs ls hM hL hl => ih _ _ _ _ h H locs ls hM hL hl) _ _ _ _ h _ _ _ hM hL (lv_sub hl [2, 1, 3] rfl)
        · have h := (if_neg c34).symm.trans h
          refine lv_aload_n hx hb dX5_holdAssizes_56 rfl (lv_at hl 2 rfl) ?_
          refine m_getR (ci := 4) hx hb hU5 hown hK hM rfl 5 (by decide) w1 h dX5_holdAssizes_57 (fun r35 gr35 h => ?_)
          refine lv_iload hx hb dX5_holdAssizes_60 (lv_at hl 0 rfl) ?_
          obtain ⟨o36, h⟩ := oi_some h
          obtain ⟨q37, hq37, h⟩ := ob_some h
          refine m_calli (va_runV (As := [.int v30]) (rest := []) ⟨hx, hb, hml, hown, hts⟩ (c_X0_canLetFall l G hq37) (cwV 1 hts gX5_holdAssizes_X0_canLetFall rfl rfl rfl hd_X0_canLetFallv ⟨Nat.le_of_ble_eq_true rfl, Nat.le_of_ble_eq_true rfl⟩) (m_preV (ci := 0) hK hM rfl o36) rfl rfl hl.1 rfl (lv_room (Nat.le_of_ble_eq_true rfl)) dX5_holdAssizes_62 ⟨Nat.le_of_ble_eq_true rfl, Nat.le_of_ble_eq_true rfl⟩) hL (fun H locs hM hL => ?_)
          refine lv_if_eq (tgt := 78) hx hb dX5_holdAssizes_65 (by decide) (fun c38 => ?_) (fun c38 => ?_)
          · have h := (if_pos c38).symm.trans h
            refine hN78 _ (fun _ _ _ _ h H locs ls hM hL hl => ih _ _ _ _ h H locs ls hM hL hl) _ _ _ _ h _ _ _ hM hL (lv_sub hl [2, 1, 3] rfl)
          · have h := (if_neg c38).symm.trans h
            refine lv_aload_n hx hb dX5_holdAssizes_68 rfl (lv_at hl 2 rfl) ?_
            refine m_getR (ci := 4) hx hb hU5 hown hK hM rfl 5 (by decide) w1 h dX5_holdAssizes_69 (fun r39 gr39 h => ?_)
            refine lv_iload hx hb dX5_holdAssizes_72 (lv_at hl 0 rfl) ?_
            obtain ⟨o40, h⟩ := oi_some h
            obtain ⟨q41, hq41, h⟩ := ob_some h
            refine m_calli (va_runV (As := [.int v30]) (rest := []) ⟨hx, hb, hml, hown, hts⟩ (c_X0_letFall l G hq41) (cwV 1 hts gX5_holdAssizes_X0_letFall rfl rfl rfl hd_X0_letFallv ⟨Nat.le_of_ble_eq_true rfl, Nat.le_of_ble_eq_true rfl⟩) (m_preV (ci := 0) hK hM rfl o40) rfl rfl hl.1 rfl (lv_room (Nat.le_of_ble_eq_true rfl)) dX5_holdAssizes_74 ⟨Nat.le_of_ble_eq_true rfl, Nat.le_of_ble_eq_true rfl⟩) hL (fun H locs hM hL => ?_)
            refine lv_pop hx hb dX5_holdAssizes_77 rfl ?_
            refine hN78 _ (fun _ _ _ _ h H locs ls hM hL hl => ih _ _ _ _ h H locs ls hM hL hl) _ _ _ _ h _ _ _ hM hL (lv_sub hl [2, 1, 3] rfl)
  rw [f_X5_holdAssizes.eq_1] at h
  refine lv_aload_n hx hb dX5_holdAssizes_0 rfl (lv_at hl 0 rfl) ?_
  refine m_getR (ci := 4) hx hb hU5 hown hK hM rfl 5 (by decide) w1 h dX5_holdAssizes_1 (fun r42 gr42 h => ?_)
  refine lv_aload_n hx hb dX5_holdAssizes_4 rfl (lv_at hl 0 rfl) ?_
  refine m_getR (ci := 4) hx hb hU5 hown hK hM rfl 3 (by decide) w2 h dX5_holdAssizes_5 (fun r43 gr43 h => ?_)
  obtain ⟨o44, h⟩ := oi_some h
  obtain ⟨q45, hq45, h⟩ := ob_some h
  refine m_callv (va_runV (As := [.ref r43]) (rest := []) ⟨hx, hb, hml, hown, hts⟩ (c_X0_become l G hq45) (cwV 1 hts gX5_holdAssizes_X0_become rfl rfl rfl hd_X0_becomev ⟨Nat.le_of_ble_eq_true rfl, Nat.le_of_ble_eq_true rfl⟩) (m_preV (ci := 0) hK hM rfl o44) rfl rfl hl.1 rfl (lv_room (Nat.le_of_ble_eq_true rfl)) dX5_holdAssizes_8 ⟨Nat.le_of_ble_eq_true rfl, Nat.le_of_ble_eq_true rfl⟩) hL (fun H locs hM hL => ?_)
  refine lv_iload_n hx hb dX5_holdAssizes_11 rfl (lv_at hl 1 rfl) ?_
  refine lv_i2l hx hb dX5_holdAssizes_12 rfl ?_
  refine lv_lconst hx hb dX5_holdAssizes_13 kL_1 ?_
  refine lv_ladd hx hb dX5_holdAssizes_14 ?_
  refine lv_topl (fun v46 ev46 => ?_)
  have h := vl_at ev46 h
  refine lv_lstore_n (lv' := [(2, .long v46), (0, .ref h0), (1, .int x1)]) hx hb dX5_holdAssizes_15 rfl hl (by decide) rfl (fun ls hl => ?_)
  refine lv_iconst hx hb dX5_holdAssizes_16 kI_0 ?_
  refine lv_istore (lv' := [(4, .int (0 : Int32)), (2, .long v46), (0, .ref h0), (1, .int x1)]) hx hb dX5_holdAssizes_17 hl (by decide) rfl (fun ls hl => ?_)
  refine hN19 _ _ _ _ _ h _ _ _ hM hL (lv_sub hl [2, 1, 0] rfl)
abbrev rm_X5_drawn : Room := { frames := 6, cells := 0, slots := 0, locals := 155 }
set_option maxHeartbeats 4000000 in
set_option maxRecDepth 100000 in
theorem c_X5_drawn (l : Launch) (G : mG) {h0 : Nat} {x1 : Int32} {x2 : Int32} {σ : mS} {z : Int32 × mS} (h : f_X5_drawn h0 x1 x2 σ = some z) : Met l yX5_drawn wsX5_drawn rm_X5_drawn (va_Pc [.ref h0, .int x1, .int x2] (mB G σ)) (mQ G (.returned (some (.int z.1))) z.2) 0 0 (mF G) := by
  refine m_start (cc := cX5_drawn) (maxL := 3) (ret := (some .int)) (by decide) rfl [.ref h0, .int x1, .int x2] (Nat.le_of_ble_eq_true rfl) ?_
  intro p e s m args below meth c ls hx hb hr hml hown hts hlocks hnm hK hM hl
  have hown : s.vm.findClass RX5 = some m.cls := hown
  have hnm : meth.name = "drawn" := hnm
  obtain ⟨locs, hlocs⟩ : ∃ l : List Loc, l = [] := ⟨_, rfl⟩
  have hL : mL G locs := by rw [hlocs]; exact mL_nil G
  rw [← hlocs]
  generalize s.heap = H at hM ⊢
  have hl : lv_has ls 3 [(0, .ref h0), (1, .int x1), (2, .int x2)] := hl
  obtain ⟨Q, hQ⟩ : ∃ Q, Q = MQ below (mQ G (.returned (some (.int z.1))) z.2) args s 0 0 (mF G) := ⟨_, rfl⟩
  rw [← hQ]
  have w0 := (hts (.constant RX5 258 (100000)) (List.mem_of_getElem? (i := 1) rfl))
  have hU5 : ∀ w ∈ wsX50, w.before args s = true := fun w h => hts w (List.mem_cons_of_mem _ (List.mem_append_left _ (List.mem_append_left _ (List.mem_append_right _ h))))
  have w2 := (hts (.fieldLink RX5 51 "HandkerchiefsDropped" "thought" "LHandkerchiefsDropped$Assize;") (List.mem_of_getElem? (i := 2) rfl))
  have hU0 : ∀ w ∈ wsX00, w.before args s = true := fun w h => hts w (List.mem_cons_of_mem _ (List.mem_append_left _ (List.mem_append_right _ h)))
  rw [f_X5_drawn.eq_1] at h
  refine lv_iload_n hx hb dX5_drawn_0 rfl (lv_at hl 1 rfl) ?_
  refine lv_ldcw hx hb hown w0 dX5_drawn_1 ?_
  refine m_calli (va_runS (As := [.int x1, .int (100000 : Int32)]) (rest := []) ⟨hx, hb, hml, hown, hts⟩ (c_X5_isBelow l G x1 (100000 : Int32)) (va_cwS 2 hts gX5_drawn_X5_isBelow rfl rfl rfl hd_X5_isBelow ⟨Nat.le_of_ble_eq_true rfl, Nat.le_of_ble_eq_true rfl⟩) (m_preS hK hM) rfl rfl hl.1 rfl (lv_room (Nat.le_of_ble_eq_true rfl)) dX5_drawn_4 ⟨Nat.le_of_ble_eq_true rfl, Nat.le_of_ble_eq_true rfl⟩) hL (fun H locs hM hL => ?_)
  refine lv_if_eq (tgt := 18) hx hb dX5_drawn_7 (by decide) (fun c11 => ?_) (fun c11 => ?_)
  · have h := (if_pos c11).symm.trans h
    refine lv_sipush hx hb dX5_drawn_18 kS_m5000 ?_
    subst hQ
    have h := Option.some.inj h
    subst h
    exact m_iret hx hb hr hM hL dX5_drawn_21 hlocks
  · have h := (if_neg c11).symm.trans h
    refine lv_iload_n hx hb dX5_drawn_10 rfl (lv_at hl 2 rfl) ?_
    refine lv_iconst hx hb dX5_drawn_11 kI_2 ?_
    refine m_calli (va_runS (As := [.int x2, .int (2 : Int32)]) (rest := []) ⟨hx, hb, hml, hown, hts⟩ (c_X5_isBelow l G x2 (2 : Int32)) (va_cwS 2 hts gX5_drawn_X5_isBelow rfl rfl rfl hd_X5_isBelow ⟨Nat.le_of_ble_eq_true rfl, Nat.le_of_ble_eq_true rfl⟩) (m_preS hK hM) rfl rfl hl.1 rfl (lv_room (Nat.le_of_ble_eq_true rfl)) dX5_drawn_12 ⟨Nat.le_of_ble_eq_true rfl, Nat.le_of_ble_eq_true rfl⟩) hL (fun H locs hM hL => ?_)
    refine lv_if_ne (tgt := 22) hx hb dX5_drawn_15 (by decide) (fun c12 => ?_) (fun c12 => ?_)
    · have h := (if_neg c12).symm.trans h
      refine lv_aload_n hx hb dX5_drawn_22 rfl (lv_at hl 0 rfl) ?_
      refine lv_iload_n hx hb dX5_drawn_23 rfl (lv_at hl 1 rfl) ?_
      obtain ⟨o13, h⟩ := oi_some h
      obtain ⟨q14, hq14, h⟩ := ob_some h
      refine m_callv (va_runV (As := [.int x1]) (rest := []) ⟨hx, hb, hml, hown, hts⟩ (c_X5_holdAssizes l G hq14) (cwV 1 hts gX5_drawn_X5_holdAssizes rfl rfl rfl hd_X5_holdAssizesv ⟨Nat.le_of_ble_eq_true rfl, Nat.le_of_ble_eq_true rfl⟩) (m_preV (ci := 4) hK hM rfl o13) rfl rfl hl.1 rfl (lv_room (Nat.le_of_ble_eq_true rfl)) dX5_drawn_24 ⟨Nat.le_of_ble_eq_true rfl, Nat.le_of_ble_eq_true rfl⟩) hL (fun H locs hM hL => ?_)
      refine lv_iload_n hx hb dX5_drawn_27 rfl (lv_at hl 2 rfl) ?_
      refine lv_if_ne (tgt := 41) hx hb dX5_drawn_28 (by decide) (fun c15 => ?_) (fun c15 => ?_)
      · have h := (if_neg c15).symm.trans h
        refine lv_aload_n hx hb dX5_drawn_41 rfl (lv_at hl 0 rfl) ?_
        refine m_getR (ci := 4) hx hb hU5 hown hK hM rfl 5 (by decide) w2 h dX5_drawn_42 (fun r16 gr16 h => ?_)
        refine m_getIN (ci := 0) (host := RX5) hx hb hU0 hown hK hM rfl 11 (by decide) (List.mem_of_getElem? (i := 14) rfl) h dX5_drawn_45 (fun v17 gv17 h => ?_)
        subst hQ
        have h := Option.some.inj h
        subst h
        exact m_iret hx hb hr hM hL dX5_drawn_48 hlocks
      · have h := (if_pos c15).symm.trans h
        refine lv_aload_n hx hb dX5_drawn_31 rfl (lv_at hl 0 rfl) ?_
        refine m_getR (ci := 4) hx hb hU5 hown hK hM rfl 5 (by decide) w2 h dX5_drawn_32 (fun r18 gr18 h => ?_)
        obtain ⟨o19, h⟩ := oi_some h
        obtain ⟨q20, hq20, h⟩ := ob_some h
        refine m_calli (va_runV (As := []) (rest := []) ⟨hx, hb, hml, hown, hts⟩ (c_X0_verdict l G hq20) (cwV 0 hts gX5_drawn_X0_verdict rfl rfl rfl hd_X0_verdictv ⟨Nat.le_of_ble_eq_true rfl, Nat.le_of_ble_eq_true rfl⟩) (m_preV (ci := 0) hK hM rfl o19) rfl rfl hl.1 rfl (lv_room (Nat.le_of_ble_eq_true rfl)) dX5_drawn_35 ⟨Nat.le_of_ble_eq_true rfl, Nat.le_of_ble_eq_true rfl⟩) hL (fun H locs hM hL => ?_)
        refine lv_goto (tgt := 48) hx hb dX5_drawn_38 (by decide) ?_
        subst hQ
        have h := Option.some.inj h
        subst h
        exact m_iret hx hb hr hM hL dX5_drawn_48 hlocks
    · have h := (if_pos c12).symm.trans h
      refine lv_sipush hx hb dX5_drawn_18 kS_m5000 ?_
      subst hQ
      have h := Option.some.inj h
      subst h
      exact m_iret hx hb hr hM hL dX5_drawn_21 hlocks
abbrev rm_X5_odds : Room := { frames := 6, cells := 0, slots := 0, locals := 155 }
set_option maxHeartbeats 4000000 in
set_option maxRecDepth 100000 in
theorem c_X5_odds (l : Launch) (G : mG) {h0 : Nat} {x1 : Int32} {x2 : Int32} {x3 : Int32} {x4 : Int32} {σ : mS} {z : Int64 × mS} (h : f_X5_odds h0 x1 x2 x3 x4 σ = some z) : Met l yX5_odds wsX5_odds rm_X5_odds (va_Pc [.ref h0, .int x1, .int x2, .int x3, .int x4] (mB G σ)) (mQ G (.returned (some (.long z.1))) z.2) 0 0 (mF G) := by
  refine m_start (cc := cX5_odds) (maxL := 8) (ret := (some .long)) (by decide) rfl [.ref h0, .int x1, .int x2, .int x3, .int x4] (Nat.le_of_ble_eq_true rfl) ?_
  intro p e s m args below meth c ls hx hb hr hml hown hts hlocks hnm hK hM hl
  have hown : s.vm.findClass RX5 = some m.cls := hown
  have hnm : meth.name = "odds" := hnm
  obtain ⟨locs, hlocs⟩ : ∃ l : List Loc, l = [] := ⟨_, rfl⟩
  have hL : mL G locs := by rw [hlocs]; exact mL_nil G
  rw [← hlocs]
  generalize s.heap = H at hM ⊢
  have hl : lv_has ls 8 [(0, .ref h0), (1, .int x1), (2, .int x2), (3, .int x3), (4, .int x4)] := hl
  obtain ⟨Q, hQ⟩ : ∃ Q, Q = MQ below (mQ G (.returned (some (.long z.1))) z.2) args s 0 0 (mF G) := ⟨_, rfl⟩
  rw [← hQ]
  have w0 := (hts (.constant RX5 258 (100000)) (List.mem_of_getElem? (i := 1) rfl))
  have w1 := (hts (.constantLong RX5 218 (-4611686018427387904)) (List.mem_of_getElem? (i := 2) rfl))
  have hU5 : ∀ w ∈ wsX50, w.before args s = true := fun w h => hts w (List.mem_cons_of_mem _ (List.mem_append_left _ (List.mem_append_left _ (List.mem_append_right _ h))))
  have w3 := (hts (.fieldLink RX5 51 "HandkerchiefsDropped" "thought" "LHandkerchiefsDropped$Assize;") (List.mem_of_getElem? (i := 3) rfl))
  have hN57 : ∀ (n : Nat) (h0 : Nat) (x1 : Int32) (x2 : Int32) (x3 : Int32) (x4 : Int32) (x6 : Int32) (x7 : Int32) (σ : mS), f_X5_odds_57 n h0 x1 x2 x3 x4 x6 x7 σ = some z → ∀ (H : Heap) (locs : List Loc) (ls : Array Slot), mP G σ H → mL G locs → lv_has ls 8 [(0, .ref h0), (1, .int x1), (2, .int x2), (3, .int x3), (4, .int x4), (6, .int x6), (7, .int x7)] → W p l e rm_X5_odds s m args below meth c H locs 0 0 Q (F0 m 57 ls []) := by
    intro n
    induction n with
    | zero =>
      intro h0 x1 x2 x3 x4 x6 x7 σ h
      exact nomatch (show (none : Option (Int64 × mS)) = some z from h)
    | succ n ih =>
      intro h0 x1 x2 x3 x4 x6 x7 σ h H locs ls hM hL hl
      rw [f_X5_odds_57.eq_2] at h
      refine lv_iload hx hb dX5_odds_57 (lv_at hl 6 rfl) ?_
      refine lv_iload_n hx hb dX5_odds_59 rfl (lv_at hl 2 rfl) ?_
      refine lv_icmp_ge (tgt := 98) hx hb dX5_odds_60 (by decide) (fun c19 => ?_) (fun c19 => ?_)
      · have h := (if_pos c19).symm.trans h
        refine lv_iload hx hb dX5_odds_98 (lv_at hl 5 rfl) ?_
        refine lv_iload_n hx hb dX5_odds_100 rfl (lv_at hl 2 rfl) ?_
        refine lv_iload hx hb dX5_odds_101 (lv_at hl 4 rfl) ?_
        obtain ⟨q20, hq20, h⟩ := ob_some h
        refine m_calll (va_runS (As := [.int x6, .int x2, .int x4]) (rest := []) ⟨hx, hb, hml, hown, hts⟩ (c_X5_lowest l G hq20) (va_cwS 3 hts gX5_odds_X5_lowest rfl rfl rfl hd_X5_lowest ⟨Nat.le_of_ble_eq_true rfl, Nat.le_of_ble_eq_true rfl⟩) (m_preS hK hM) rfl rfl hl.1 rfl (lv_room (Nat.le_of_ble_eq_true rfl)) dX5_odds_103 ⟨Nat.le_of_ble_eq_true rfl, Nat.le_of_ble_eq_true rfl⟩) hL (fun H locs hM hL => ?_)
        subst hQ
        have h := Option.some.inj h
        subst h
        exact m_lret hx hb hr hM hL dX5_odds_106 hlocks
      · have h := (if_neg c19).symm.trans h
        refine lv_aload_n hx hb dX5_odds_63 rfl (lv_at hl 0 rfl) ?_
        refine lv_iload_n hx hb dX5_odds_64 rfl (lv_at hl 1 rfl) ?_
        refine lv_iload hx hb dX5_odds_65 (lv_at hl 6 rfl) ?_
        refine lv_iadd hx hb dX5_odds_67 ?_
        obtain ⟨o21, h⟩ := oi_some h
        obtain ⟨q22, hq22, h⟩ := ob_some h
        refine m_callv (va_runV (As := [.int (x1 + x7)]) (rest := []) ⟨hx, hb, hml, hown, hts⟩ (c_X5_holdAssizes l G hq22) (cwV 1 hts gX5_odds_X5_holdAssizes rfl rfl rfl hd_X5_holdAssizesv ⟨Nat.le_of_ble_eq_true rfl, Nat.le_of_ble_eq_true rfl⟩) (m_preV (ci := 4) hK hM rfl o21) rfl rfl hl.1 rfl (lv_room (Nat.le_of_ble_eq_true rfl)) dX5_odds_68 ⟨Nat.le_of_ble_eq_true rfl, Nat.le_of_ble_eq_true rfl⟩) hL (fun H locs hM hL => ?_)
        refine lv_iload hx hb dX5_odds_71 (lv_at hl 5 rfl) ?_
        refine lv_aload_n hx hb dX5_odds_73 rfl (lv_at hl 0 rfl) ?_
        refine m_getR (ci := 4) hx hb hU5 hown hK hM rfl 5 (by decide) w3 h dX5_odds_74 (fun r23 gr23 h => ?_)
        obtain ⟨o24, h⟩ := oi_some h
        obtain ⟨q25, hq25, h⟩ := ob_some h
        refine m_calli (va_runV (As := []) (rest := [.int x6]) ⟨hx, hb, hml, hown, hts⟩ (c_X0_verdict l G hq25) (cwV 0 hts gX5_odds_X0_verdict rfl rfl rfl hd_X0_verdictv ⟨Nat.le_of_ble_eq_true rfl, Nat.le_of_ble_eq_true rfl⟩) (m_preV (ci := 0) hK hM rfl o24) rfl rfl hl.1 rfl (lv_room (Nat.le_of_ble_eq_true rfl)) dX5_odds_77 ⟨Nat.le_of_ble_eq_true rfl, Nat.le_of_ble_eq_true rfl⟩) hL (fun H locs hM hL => ?_)
        refine lv_iload_n hx hb dX5_odds_80 rfl (lv_at hl 3 rfl) ?_
        suffices hJ : ∀ (v27 : Int32) (ls : Array Slot), v27 = (if q25 < x3 then (0 : Int32) else (1 : Int32)) → lv_has ls 8 [(0, .ref h0), (1, .int x1), (2, .int x2), (3, .int x3), (4, .int x4), (7, .int x7)] → W p l e rm_X5_odds s m args below meth c H locs 0 0 Q (F0 m 89 ls [.int v27, .int x6]) by
          refine lv_icmp_lt (tgt := 88) hx hb dX5_odds_81 (by decide) (fun c26 => ?_) (fun c26 => ?_)
          · refine lv_iconst hx hb dX5_odds_88 kI_0 ?_
            exact hJ _ _ (((if_pos c26).trans rfl).symm) (lv_sub hl [0, 1, 2, 3, 4, 6] rfl)
          · refine lv_iconst hx hb dX5_odds_84 kI_1 ?_
            refine lv_goto (tgt := 89) hx hb dX5_odds_85 (by decide) ?_
            exact hJ _ _ (((if_neg c26).trans rfl).symm) (lv_sub hl [0, 1, 2, 3, 4, 6] rfl)
        intro v27 ls ev27 hl
        have h := vl_at ev27 h
        refine lv_iadd hx hb dX5_odds_89 ?_
        refine lv_topi (fun v28 ev28 => ?_)
        have h := vl_at ev28 h
        refine lv_istore (lv' := [(6, .int v28), (0, .ref h0), (1, .int x1), (2, .int x2), (3, .int x3), (4, .int x4), (7, .int x7)]) hx hb dX5_odds_90 hl (by decide) rfl (fun ls hl => ?_)
        obtain ⟨v29, ev29⟩ : ∃ y : Int32, y = x7 + (1 : Int32) := ⟨_, rfl⟩
        have h := vl_at ev29 h
        refine lv_iinc (v := v29) (lv' := [(7, .int v29), (6, .int v28), (0, .ref h0), (1, .int x1), (2, .int x2), (3, .int x3), (4, .int x4)]) hx hb dX5_odds_92 hl (k := 6) rfl (by rw [ev29, kI_1]) (by decide) rfl (fun ls hl => ?_)
        refine lv_goto (tgt := 57) hx hb dX5_odds_95 (by decide) ?_
        exact ih _ _ _ _ _ _ _ _ h _ _ _ hM hL (lv_sub hl [2, 3, 4, 5, 6, 1, 0] rfl)
  rw [f_X5_odds.eq_1] at h
  refine lv_iload_n hx hb dX5_odds_0 rfl (lv_at hl 1 rfl) ?_
  refine lv_ldcw hx hb hown w0 dX5_odds_1 ?_
  refine m_calli (va_runS (As := [.int x1, .int (100000 : Int32)]) (rest := []) ⟨hx, hb, hml, hown, hts⟩ (c_X5_isBelow l G x1 (100000 : Int32)) (va_cwS 2 hts gX5_odds_X5_isBelow rfl rfl rfl hd_X5_isBelow ⟨Nat.le_of_ble_eq_true rfl, Nat.le_of_ble_eq_true rfl⟩) (m_preS hK hM) rfl rfl hl.1 rfl (lv_room (Nat.le_of_ble_eq_true rfl)) dX5_odds_4 ⟨Nat.le_of_ble_eq_true rfl, Nat.le_of_ble_eq_true rfl⟩) hL (fun H locs hM hL => ?_)
  suffices hJ : ∀ (v33 : Int32) (ls : Array Slot), v33 = (if (f_X5_isBelow x1 (100000 : Int32)) = 0 then (0 : Int32) else if x2 < (1 : Int32) then (0 : Int32) else if (40 : Int32) < x2 then (0 : Int32) else (1 : Int32)) → lv_has ls 8 [(0, .ref h0), (1, .int x1), (2, .int x2), (3, .int x3), (4, .int x4)] → W p l e rm_X5_odds s m args below meth c H locs 0 0 Q (F0 m 26 ls [.int v33]) by
    refine lv_if_eq (tgt := 25) hx hb dX5_odds_7 (by decide) (fun c30 => ?_) (fun c30 => ?_)
    · refine lv_iconst hx hb dX5_odds_25 kI_0 ?_
      exact hJ _ _ (((if_pos c30).trans rfl).symm) (lv_sub hl [0, 1, 2, 3, 4] rfl)
    · refine lv_iload_n hx hb dX5_odds_10 rfl (lv_at hl 2 rfl) ?_
      refine lv_iconst hx hb dX5_odds_11 kI_1 ?_
      refine lv_icmp_lt (tgt := 25) hx hb dX5_odds_12 (by decide) (fun c31 => ?_) (fun c31 => ?_)
      · refine lv_iconst hx hb dX5_odds_25 kI_0 ?_
        exact hJ _ _ (((if_neg c30).trans ((if_pos c31).trans rfl)).symm) (lv_sub hl [0, 1, 2, 3, 4] rfl)
      · refine lv_iload_n hx hb dX5_odds_15 rfl (lv_at hl 2 rfl) ?_
        refine lv_bipush hx hb dX5_odds_16 kB_40 ?_
        refine lv_icmp_gt (tgt := 25) hx hb dX5_odds_18 (by decide) (fun c32 => ?_) (fun c32 => ?_)
        · refine lv_iconst hx hb dX5_odds_25 kI_0 ?_
          exact hJ _ _ (((if_neg c30).trans ((if_neg c31).trans ((if_pos c32).trans rfl))).symm) (lv_sub hl [0, 1, 2, 3, 4] rfl)
        · refine lv_iconst hx hb dX5_odds_21 kI_1 ?_
          refine lv_goto (tgt := 26) hx hb dX5_odds_22 (by decide) ?_
          exact hJ _ _ (((if_neg c30).trans ((if_neg c31).trans ((if_neg c32).trans rfl))).symm) (lv_sub hl [0, 1, 2, 3, 4] rfl)
  intro v33 ls ev33 hl
  have h := vl_at ev33 h
  refine lv_istore (lv' := [(5, .int v33), (0, .ref h0), (1, .int x1), (2, .int x2), (3, .int x3), (4, .int x4)]) hx hb dX5_odds_26 hl (by decide) rfl (fun ls hl => ?_)
  refine lv_iload hx hb dX5_odds_28 (lv_at hl 0 rfl) ?_
  refine lv_if_eq (tgt := 47) hx hb dX5_odds_30 (by decide) (fun c34 => ?_) (fun c34 => ?_)
  · have h := (if_pos c34).symm.trans h
    refine lv_ldc2 hx hb hown w1 dX5_odds_47 ?_
    subst hQ
    have h := Option.some.inj h
    subst h
    exact m_lret hx hb hr hM hL dX5_odds_50 hlocks
  · have h := (if_neg c34).symm.trans h
    refine lv_iload_n hx hb dX5_odds_33 rfl (lv_at hl 4 rfl) ?_
    refine lv_sipush hx hb dX5_odds_34 kS_m999 ?_
    refine lv_icmp_lt (tgt := 47) hx hb dX5_odds_37 (by decide) (fun c35 => ?_) (fun c35 => ?_)
    · have h := (if_pos c35).symm.trans h
      refine lv_ldc2 hx hb hown w1 dX5_odds_47 ?_
      subst hQ
      have h := Option.some.inj h
      subst h
      exact m_lret hx hb hr hM hL dX5_odds_50 hlocks
    · have h := (if_neg c35).symm.trans h
      refine lv_iload_n hx hb dX5_odds_40 rfl (lv_at hl 4 rfl) ?_
      refine lv_sipush hx hb dX5_odds_41 kS_999 ?_
      refine lv_icmp_le (tgt := 51) hx hb dX5_odds_44 (by decide) (fun c36 => ?_) (fun c36 => ?_)
      · have h := (if_pos c36).symm.trans h
        refine lv_iconst hx hb dX5_odds_51 kI_0 ?_
        refine lv_istore (lv' := [(6, .int (0 : Int32)), (5, .int v33), (0, .ref h0), (1, .int x1), (2, .int x2), (3, .int x3), (4, .int x4)]) hx hb dX5_odds_52 hl (by decide) rfl (fun ls hl => ?_)
        refine lv_iconst hx hb dX5_odds_54 kI_0 ?_
        refine lv_istore (lv' := [(7, .int (0 : Int32)), (6, .int (0 : Int32)), (5, .int v33), (0, .ref h0), (1, .int x1), (2, .int x2), (3, .int x3), (4, .int x4)]) hx hb dX5_odds_55 hl (by decide) rfl (fun ls hl => ?_)
        refine hN57 _ _ _ _ _ _ _ _ _ h _ _ _ hM hL (lv_sub hl [3, 4, 5, 6, 7, 1, 0] rfl)
      · have h := (if_neg c36).symm.trans h
        refine lv_ldc2 hx hb hown w1 dX5_odds_47 ?_
        subst hQ
        have h := Option.some.inj h
        subst h
        exact m_lret hx hb hr hM hL dX5_odds_50 hlocks
abbrev rm_X5_image : Room := { frames := 2, cells := 0, slots := 0, locals := 81 }
set_option maxHeartbeats 4000000 in
set_option maxRecDepth 100000 in
theorem c_X5_image (l : Launch) (G : mG) {h0 : Nat} {σ : mS} {z : Int32 × mS} (h : f_X5_image h0 σ = some z) : Met l yX5_image wsX5_image rm_X5_image (va_Pc [.ref h0] (mB G σ)) (mQ G (.returned (some (.int z.1))) z.2) 0 0 (mF G) := by
  refine m_start (cc := cX5_image) (maxL := 1) (ret := (some .int)) (by decide) rfl [.ref h0] (Nat.le_of_ble_eq_true rfl) ?_
  intro p e s m args below meth c ls hx hb hr hml hown hts hlocks hnm hK hM hl
  have hown : s.vm.findClass RX5 = some m.cls := hown
  have hnm : meth.name = "image" := hnm
  obtain ⟨locs, hlocs⟩ : ∃ l : List Loc, l = [] := ⟨_, rfl⟩
  have hL : mL G locs := by rw [hlocs]; exact mL_nil G
  rw [← hlocs]
  generalize s.heap = H at hM ⊢
  have hl : lv_has ls 1 [(0, .ref h0)] := hl
  obtain ⟨Q, hQ⟩ : ∃ Q, Q = MQ below (mQ G (.returned (some (.int z.1))) z.2) args s 0 0 (mF G) := ⟨_, rfl⟩
  rw [← hQ]
  have hU5 : ∀ w ∈ wsX50, w.before args s = true := fun w h => hts w (List.mem_cons_of_mem _ (List.mem_append_left _ (List.mem_append_right _ h)))
  have w1 := (hts (.fieldLink RX5 48 "HandkerchiefsDropped" "kept" "LHandkerchiefsDropped$Assize;") (List.mem_of_getElem? (i := 1) rfl))
  have w2 := (hts (.fieldLink RX5 44 "HandkerchiefsDropped" "now" "LHandkerchiefsDropped$Assize;") (List.mem_of_getElem? (i := 2) rfl))
  have w3 := (hts (.fieldLink RX5 268 "HandkerchiefsDropped" "hasImage" "Z") (List.mem_of_getElem? (i := 3) rfl))
  have hU0 : ∀ w ∈ wsX00, w.before args s = true := fun w h => hts w (List.mem_cons_of_mem _ (List.mem_append_right _ h))
  rw [f_X5_image.eq_1] at h
  refine lv_aload_n hx hb dX5_image_0 rfl (lv_at hl 0 rfl) ?_
  refine m_getR (ci := 4) hx hb hU5 hown hK hM rfl 4 (by decide) w1 h dX5_image_1 (fun r8 gr8 h => ?_)
  refine lv_aload_n hx hb dX5_image_4 rfl (lv_at hl 0 rfl) ?_
  refine m_getR (ci := 4) hx hb hU5 hown hK hM rfl 3 (by decide) w2 h dX5_image_5 (fun r9 gr9 h => ?_)
  obtain ⟨o10, h⟩ := oi_some h
  obtain ⟨q11, hq11, h⟩ := ob_some h
  refine m_callv (va_runV (As := [.ref r9]) (rest := []) ⟨hx, hb, hml, hown, hts⟩ (c_X0_become l G hq11) (cwV 1 hts gX5_image_X0_become rfl rfl rfl hd_X0_becomev ⟨Nat.le_of_ble_eq_true rfl, Nat.le_of_ble_eq_true rfl⟩) (m_preV (ci := 0) hK hM rfl o10) rfl rfl hl.1 rfl (lv_room (Nat.le_of_ble_eq_true rfl)) dX5_image_8 ⟨Nat.le_of_ble_eq_true rfl, Nat.le_of_ble_eq_true rfl⟩) hL (fun H locs hM hL => ?_)
  refine lv_aload_n hx hb dX5_image_11 rfl (lv_at hl 0 rfl) ?_
  refine lv_iconst hx hb dX5_image_12 kI_1 ?_
  refine m_put (ci := 4) hx hb hU5 tyX5 tyX5_ok nmX5 hown hK hM hL rfl 8 (by decide) w3 rfl rfl rfl h dX5_image_13 (fun t12 H locs h hM hL => ?_)
  refine lv_aload_n hx hb dX5_image_16 rfl (lv_at hl 0 rfl) ?_
  refine m_getR (ci := 4) hx hb hU5 hown hK hM rfl 3 (by decide) w2 h dX5_image_17 (fun r13 gr13 h => ?_)
  refine m_getIN (ci := 0) (host := RX5) hx hb hU0 hown hK hM rfl 13 (by decide) (List.mem_of_getElem? (i := 16) rfl) h dX5_image_20 (fun v14 gv14 h => ?_)
  subst hQ
  have h := Option.some.inj h
  subst h
  exact m_iret hx hb hr hM hL dX5_image_23 hlocks
abbrev rm_X5_back : Room := { frames := 2, cells := 0, slots := 0, locals := 81 }
set_option maxHeartbeats 4000000 in
set_option maxRecDepth 100000 in
theorem c_X5_back (l : Launch) (G : mG) {h0 : Nat} {σ : mS} {z : Int32 × mS} (h : f_X5_back h0 σ = some z) : Met l yX5_back wsX5_back rm_X5_back (va_Pc [.ref h0] (mB G σ)) (mQ G (.returned (some (.int z.1))) z.2) 0 0 (mF G) := by
  refine m_start (cc := cX5_back) (maxL := 1) (ret := (some .int)) (by decide) rfl [.ref h0] (Nat.le_of_ble_eq_true rfl) ?_
  intro p e s m args below meth c ls hx hb hr hml hown hts hlocks hnm hK hM hl
  have hown : s.vm.findClass RX5 = some m.cls := hown
  have hnm : meth.name = "back" := hnm
  obtain ⟨locs, hlocs⟩ : ∃ l : List Loc, l = [] := ⟨_, rfl⟩
  have hL : mL G locs := by rw [hlocs]; exact mL_nil G
  rw [← hlocs]
  generalize s.heap = H at hM ⊢
  have hl : lv_has ls 1 [(0, .ref h0)] := hl
  obtain ⟨Q, hQ⟩ : ∃ Q, Q = MQ below (mQ G (.returned (some (.int z.1))) z.2) args s 0 0 (mF G) := ⟨_, rfl⟩
  rw [← hQ]
  have hU5 : ∀ w ∈ wsX50, w.before args s = true := fun w h => hts w (List.mem_cons_of_mem _ (List.mem_append_left _ (List.mem_append_right _ h)))
  have w1 := (hts (.fieldLink RX5 268 "HandkerchiefsDropped" "hasImage" "Z") (List.mem_of_getElem? (i := 1) rfl))
  have w2 := (hts (.fieldLink RX5 44 "HandkerchiefsDropped" "now" "LHandkerchiefsDropped$Assize;") (List.mem_of_getElem? (i := 2) rfl))
  have w3 := (hts (.fieldLink RX5 48 "HandkerchiefsDropped" "kept" "LHandkerchiefsDropped$Assize;") (List.mem_of_getElem? (i := 3) rfl))
  have hU0 : ∀ w ∈ wsX00, w.before args s = true := fun w h => hts w (List.mem_cons_of_mem _ (List.mem_append_right _ h))
  rw [f_X5_back.eq_1] at h
  refine lv_aload_n hx hb dX5_back_0 rfl (lv_at hl 0 rfl) ?_
  refine m_getI (ci := 4) hx hb hU5 hown hK hM rfl 8 (by decide) w1 h dX5_back_1 (fun v9 gv9 h => ?_)
  refine lv_if_ne (tgt := 10) hx hb dX5_back_4 (by decide) (fun c10 => ?_) (fun c10 => ?_)
  · have h := (if_neg c10).symm.trans h
    refine lv_aload_n hx hb dX5_back_10 rfl (lv_at hl 0 rfl) ?_
    refine m_getR (ci := 4) hx hb hU5 hown hK hM rfl 3 (by decide) w2 h dX5_back_11 (fun r11 gr11 h => ?_)
    refine lv_aload_n hx hb dX5_back_14 rfl (lv_at hl 0 rfl) ?_
    refine m_getR (ci := 4) hx hb hU5 hown hK hM rfl 4 (by decide) w3 h dX5_back_15 (fun r12 gr12 h => ?_)
    obtain ⟨o13, h⟩ := oi_some h
    obtain ⟨q14, hq14, h⟩ := ob_some h
    refine m_callv (va_runV (As := [.ref r12]) (rest := []) ⟨hx, hb, hml, hown, hts⟩ (c_X0_become l G hq14) (cwV 1 hts gX5_back_X0_become rfl rfl rfl hd_X0_becomev ⟨Nat.le_of_ble_eq_true rfl, Nat.le_of_ble_eq_true rfl⟩) (m_preV (ci := 0) hK hM rfl o13) rfl rfl hl.1 rfl (lv_room (Nat.le_of_ble_eq_true rfl)) dX5_back_18 ⟨Nat.le_of_ble_eq_true rfl, Nat.le_of_ble_eq_true rfl⟩) hL (fun H locs hM hL => ?_)
    refine lv_aload_n hx hb dX5_back_21 rfl (lv_at hl 0 rfl) ?_
    refine m_getR (ci := 4) hx hb hU5 hown hK hM rfl 3 (by decide) w2 h dX5_back_22 (fun r15 gr15 h => ?_)
    refine m_getIN (ci := 0) (host := RX5) hx hb hU0 hown hK hM rfl 13 (by decide) (List.mem_of_getElem? (i := 16) rfl) h dX5_back_25 (fun v16 gv16 h => ?_)
    subst hQ
    have h := Option.some.inj h
    subst h
    exact m_iret hx hb hr hM hL dX5_back_28 hlocks
  · have h := (if_pos c10).symm.trans h
    refine lv_bipush hx hb dX5_back_7 kB_m3 ?_
    subst hQ
    have h := Option.some.inj h
    subst h
    exact m_iret hx hb hr hM hL dX5_back_9 hlocks
abbrev rm_X5_sheet : Room := { frames := 2, cells := 0, slots := 0, locals := 45 }
set_option maxHeartbeats 4000000 in
set_option maxRecDepth 100000 in
theorem c_X5_sheet (l : Launch) (G : mG) {h0 : Nat} {x1 : Int32} {x2 : Int32} {x3 : Int32} {σ : mS} {z : Int32 × mS} (h : f_X5_sheet h0 x1 x2 x3 σ = some z) : Met l yX5_sheet wsX5_sheet rm_X5_sheet (va_Pc [.ref h0, .int x1, .int x2, .int x3] (mB G σ)) (mQ G (.returned (some (.int z.1))) z.2) 0 0 (mF G) := by
  refine m_start (cc := cX5_sheet) (maxL := 4) (ret := (some .int)) (by decide) rfl [.ref h0, .int x1, .int x2, .int x3] (Nat.le_of_ble_eq_true rfl) ?_
  intro p e s m args below meth c ls hx hb hr hml hown hts hlocks hnm hK hM hl
  have hown : s.vm.findClass RX5 = some m.cls := hown
  have hnm : meth.name = "sheet" := hnm
  obtain ⟨locs, hlocs⟩ : ∃ l : List Loc, l = [] := ⟨_, rfl⟩
  have hL : mL G locs := by rw [hlocs]; exact mL_nil G
  rw [← hlocs]
  generalize s.heap = H at hM ⊢
  have hl : lv_has ls 4 [(0, .ref h0), (1, .int x1), (2, .int x2), (3, .int x3)] := hl
  obtain ⟨Q, hQ⟩ : ∃ Q, Q = MQ below (mQ G (.returned (some (.int z.1))) z.2) args s 0 0 (mF G) := ⟨_, rfl⟩
  rw [← hQ]
  have hU5 : ∀ w ∈ wsX50, w.before args s = true := fun w h => hts w (List.mem_cons_of_mem _ (List.mem_append_left _ (List.mem_append_right _ h)))
  have w1 := (hts (.fieldLink RX5 24 "HandkerchiefsDropped" "sheets" "[LHandkerchiefsDropped$Sheet;") (List.mem_of_getElem? (i := 1) rfl))
  have hN47 : ∀ (h0 : Nat) (x1 : Int32) (x2 : Int32) (x3 : Int32) (σ : mS), f_X5_sheet_47 h0 x1 x2 x3 σ = some z → ∀ (H : Heap) (locs : List Loc) (ls : Array Slot), mP G σ H → mL G locs → lv_has ls 4 [(0, .ref h0), (1, .int x1), (2, .int x2), (3, .int x3)] → W p l e rm_X5_sheet s m args below meth c H locs 0 0 Q (F0 m 47 ls []) := by
    intro h0 x1 x2 x3 σ h H locs ls hM hL hl
    rw [f_X5_sheet_47.eq_1] at h
    refine lv_aload_n hx hb dX5_sheet_47 rfl (lv_at hl 0 rfl) ?_
    refine m_getR (ci := 4) hx hb hU5 hown hK hM rfl 2 (by decide) w1 h dX5_sheet_48 (fun r14 gr14 h => ?_)
    refine lv_iload_n hx hb dX5_sheet_51 rfl (lv_at hl 1 rfl) ?_
    refine m_aald hx hb hK hM 2 rfl h dX5_sheet_52 (fun r15 gr15 h => ?_)
    refine lv_iload_n hx hb dX5_sheet_53 rfl (lv_at hl 2 rfl) ?_
    refine lv_iload_n hx hb dX5_sheet_54 rfl (lv_at hl 2 rfl) ?_
    refine lv_iconst hx hb dX5_sheet_55 kI_m1 ?_
    suffices hJ : ∀ (v17 : Int32) (ls : Array Slot), v17 = (if x2 = (-1 : Int32) then (0 : Int32) else x3) → lv_has ls 4 [] → W p l e rm_X5_sheet s m args below meth c H locs 0 0 Q (F0 m 64 ls [.int v17, .int x2, .ref r15]) by
      refine lv_icmp_ne (tgt := 63) hx hb dX5_sheet_56 (by decide) (fun c16 => ?_) (fun c16 => ?_)
      · refine lv_iload_n hx hb dX5_sheet_63 rfl (lv_at hl 3 rfl) ?_
        exact hJ _ _ (((if_neg c16).trans rfl).symm) (lv_sub hl [] rfl)
      · refine lv_iconst hx hb dX5_sheet_59 kI_0 ?_
        refine lv_goto (tgt := 64) hx hb dX5_sheet_60 (by decide) ?_
        exact hJ _ _ (((if_pos c16).trans rfl).symm) (lv_sub hl [] rfl)
    intro v17 ls ev17 hl
    have h := vl_at ev17 h
    obtain ⟨o18, h⟩ := oi_some h
    obtain ⟨q19, hq19, h⟩ := ob_some h
    refine m_callv (va_runV (As := [.int x2, .int v17]) (rest := []) ⟨hx, hb, hml, hown, hts⟩ (c_X3_begin l G hq19) (cwV 2 hts gX5_sheet_X3_begin rfl rfl rfl hd_X3_beginv ⟨Nat.le_of_ble_eq_true rfl, Nat.le_of_ble_eq_true rfl⟩) (m_preV (ci := 2) hK hM rfl o18) rfl rfl hl.1 rfl (lv_room (Nat.le_of_ble_eq_true rfl)) dX5_sheet_64 ⟨Nat.le_of_ble_eq_true rfl, Nat.le_of_ble_eq_true rfl⟩) hL (fun H locs hM hL => ?_)
    refine lv_iconst hx hb dX5_sheet_67 kI_1 ?_
    subst hQ
    have h := Option.some.inj h
    subst h
    exact m_iret hx hb hr hM hL dX5_sheet_68 hlocks
  have hN35 : ∀ (h0 : Nat) (x1 : Int32) (x2 : Int32) (x3 : Int32) (σ : mS), f_X5_sheet_35 h0 x1 x2 x3 σ = some z → ∀ (H : Heap) (locs : List Loc) (ls : Array Slot), mP G σ H → mL G locs → lv_has ls 4 [(0, .ref h0), (1, .int x1), (2, .int x2), (3, .int x3)] → W p l e rm_X5_sheet s m args below meth c H locs 0 0 Q (F0 m 35 ls []) := by
    intro h0 x1 x2 x3 σ h H locs ls hM hL hl
    rw [f_X5_sheet_35.eq_1] at h
    refine lv_iload_n hx hb dX5_sheet_35 rfl (lv_at hl 2 rfl) ?_
    refine lv_iconst hx hb dX5_sheet_36 kI_m1 ?_
    refine lv_icmp_eq (tgt := 47) hx hb dX5_sheet_37 (by decide) (fun c20 => ?_) (fun c20 => ?_)
    · have h := (if_pos c20).symm.trans h
      refine hN47 _ _ _ _ _ h _ _ _ hM hL (lv_sub hl [0, 1, 2, 3] rfl)
    · have h := (if_neg c20).symm.trans h
      refine lv_iload_n hx hb dX5_sheet_40 rfl (lv_at hl 3 rfl) ?_
      refine lv_if_ge (tgt := 47) hx hb dX5_sheet_41 (by decide) (fun c21 => ?_) (fun c21 => ?_)
      · have h := (if_pos c21).symm.trans h
        refine hN47 _ _ _ _ _ h _ _ _ hM hL (lv_sub hl [0, 1, 2, 3] rfl)
      · have h := (if_neg c21).symm.trans h
        refine lv_bipush hx hb dX5_sheet_44 kB_m14 ?_
        subst hQ
        have h := Option.some.inj h
        subst h
        exact m_iret hx hb hr hM hL dX5_sheet_46 hlocks
  rw [f_X5_sheet.eq_1] at h
  refine lv_iload_n hx hb dX5_sheet_0 rfl (lv_at hl 1 rfl) ?_
  refine lv_iconst hx hb dX5_sheet_1 kI_4 ?_
  refine m_calli (va_runS (As := [.int x1, .int (4 : Int32)]) (rest := []) ⟨hx, hb, hml, hown, hts⟩ (c_X5_isBelow l G x1 (4 : Int32)) (va_cwS 2 hts gX5_sheet_X5_isBelow rfl rfl rfl hd_X5_isBelow ⟨Nat.le_of_ble_eq_true rfl, Nat.le_of_ble_eq_true rfl⟩) (m_preS hK hM) rfl rfl hl.1 rfl (lv_room (Nat.le_of_ble_eq_true rfl)) dX5_sheet_2 ⟨Nat.le_of_ble_eq_true rfl, Nat.le_of_ble_eq_true rfl⟩) hL (fun H locs hM hL => ?_)
  refine lv_if_eq (tgt := 18) hx hb dX5_sheet_5 (by decide) (fun c22 => ?_) (fun c22 => ?_)
  · have h := (if_pos c22).symm.trans h
    refine lv_bipush hx hb dX5_sheet_18 kB_m2 ?_
    subst hQ
    have h := Option.some.inj h
    subst h
    exact m_iret hx hb hr hM hL dX5_sheet_20 hlocks
  · have h := (if_neg c22).symm.trans h
    refine lv_iload_n hx hb dX5_sheet_8 rfl (lv_at hl 2 rfl) ?_
    refine lv_iconst hx hb dX5_sheet_9 kI_m1 ?_
    refine lv_icmp_lt (tgt := 18) hx hb dX5_sheet_10 (by decide) (fun c23 => ?_) (fun c23 => ?_)
    · have h := (if_pos c23).symm.trans h
      refine lv_bipush hx hb dX5_sheet_18 kB_m2 ?_
      subst hQ
      have h := Option.some.inj h
      subst h
      exact m_iret hx hb hr hM hL dX5_sheet_20 hlocks
    · have h := (if_neg c23).symm.trans h
      refine lv_iload_n hx hb dX5_sheet_13 rfl (lv_at hl 2 rfl) ?_
      refine lv_iconst hx hb dX5_sheet_14 kI_2 ?_
      refine lv_icmp_le (tgt := 21) hx hb dX5_sheet_15 (by decide) (fun c24 => ?_) (fun c24 => ?_)
      · have h := (if_pos c24).symm.trans h
        refine lv_iload_n hx hb dX5_sheet_21 rfl (lv_at hl 2 rfl) ?_
        refine lv_iconst hx hb dX5_sheet_22 kI_m1 ?_
        refine lv_icmp_eq (tgt := 35) hx hb dX5_sheet_23 (by decide) (fun c25 => ?_) (fun c25 => ?_)
        · have h := (if_pos c25).symm.trans h
          refine hN35 _ _ _ _ _ h _ _ _ hM hL (lv_sub hl [0, 1, 2, 3] rfl)
        · have h := (if_neg c25).symm.trans h
          refine lv_iload_n hx hb dX5_sheet_26 rfl (lv_at hl 3 rfl) ?_
          refine lv_bipush hx hb dX5_sheet_27 kB_40 ?_
          refine lv_icmp_le (tgt := 35) hx hb dX5_sheet_29 (by decide) (fun c26 => ?_) (fun c26 => ?_)
          · have h := (if_pos c26).symm.trans h
            refine hN35 _ _ _ _ _ h _ _ _ hM hL (lv_sub hl [0, 1, 2, 3] rfl)
          · have h := (if_neg c26).symm.trans h
            refine lv_bipush hx hb dX5_sheet_32 kB_m2 ?_
            subst hQ
            have h := Option.some.inj h
            subst h
            exact m_iret hx hb hr hM hL dX5_sheet_34 hlocks
      · have h := (if_neg c24).symm.trans h
        refine lv_bipush hx hb dX5_sheet_18 kB_m2 ?_
        subst hQ
        have h := Option.some.inj h
        subst h
        exact m_iret hx hb hr hM hL dX5_sheet_20 hlocks
abbrev rm_X5_cell : Room := { frames := 1, cells := 0, slots := 0, locals := 22 }
set_option maxHeartbeats 4000000 in
set_option maxRecDepth 100000 in
theorem c_X5_cell (l : Launch) (G : mG) {h0 : Nat} {x1 : Int32} {x2 : Int32} {x3 : Int32} {σ : mS} {z : Int32 × mS} (h : f_X5_cell h0 x1 x2 x3 σ = some z) : Met l yX5_cell wsX5_cell rm_X5_cell (va_Pc [.ref h0, .int x1, .int x2, .int x3] (mB G σ)) (mQ G (.returned (some (.int z.1))) z.2) 0 0 (mF G) := by
  refine m_start (cc := cX5_cell) (maxL := 4) (ret := (some .int)) (by decide) rfl [.ref h0, .int x1, .int x2, .int x3] (Nat.le_of_ble_eq_true rfl) ?_
  intro p e s m args below meth c ls hx hb hr hml hown hts hlocks hnm hK hM hl
  have hown : s.vm.findClass RX5 = some m.cls := hown
  have hnm : meth.name = "cell" := hnm
  obtain ⟨locs, hlocs⟩ : ∃ l : List Loc, l = [] := ⟨_, rfl⟩
  have hL : mL G locs := by rw [hlocs]; exact mL_nil G
  rw [← hlocs]
  generalize s.heap = H at hM ⊢
  have hl : lv_has ls 4 [(0, .ref h0), (1, .int x1), (2, .int x2), (3, .int x3)] := hl
  obtain ⟨Q, hQ⟩ : ∃ Q, Q = MQ below (mQ G (.returned (some (.int z.1))) z.2) args s 0 0 (mF G) := ⟨_, rfl⟩
  rw [← hQ]
  have hU5 : ∀ w ∈ wsX50, w.before args s = true := fun w h => hts w (List.mem_cons_of_mem _ (List.mem_append_left _ (List.mem_append_right _ h)))
  have w1 := (hts (.fieldLink RX5 24 "HandkerchiefsDropped" "sheets" "[LHandkerchiefsDropped$Sheet;") (List.mem_of_getElem? (i := 1) rfl))
  have hU3 : ∀ w ∈ wsX30, w.before args s = true := fun w h => hts w (List.mem_cons_of_mem _ (List.mem_append_right _ h))
  rw [f_X5_cell.eq_1] at h
  refine lv_iload_n hx hb dX5_cell_0 rfl (lv_at hl 1 rfl) ?_
  refine lv_iconst hx hb dX5_cell_1 kI_4 ?_
  refine m_calli (va_runS (As := [.int x1, .int (4 : Int32)]) (rest := []) ⟨hx, hb, hml, hown, hts⟩ (c_X5_isBelow l G x1 (4 : Int32)) (va_cwS 2 hts gX5_cell_X5_isBelow rfl rfl rfl hd_X5_isBelow ⟨Nat.le_of_ble_eq_true rfl, Nat.le_of_ble_eq_true rfl⟩) (m_preS hK hM) rfl rfl hl.1 rfl (lv_room (Nat.le_of_ble_eq_true rfl)) dX5_cell_2 ⟨Nat.le_of_ble_eq_true rfl, Nat.le_of_ble_eq_true rfl⟩) hL (fun H locs hM hL => ?_)
  refine lv_if_ne (tgt := 11) hx hb dX5_cell_5 (by decide) (fun c15 => ?_) (fun c15 => ?_)
  · have h := (if_neg c15).symm.trans h
    refine lv_aload_n hx hb dX5_cell_11 rfl (lv_at hl 0 rfl) ?_
    refine m_getR (ci := 4) hx hb hU5 hown hK hM rfl 2 (by decide) w1 h dX5_cell_12 (fun r16 gr16 h => ?_)
    refine lv_iload_n hx hb dX5_cell_15 rfl (lv_at hl 1 rfl) ?_
    refine m_aald hx hb hK hM 2 rfl h dX5_cell_16 (fun r17 gr17 h => ?_)
    obtain ⟨o18, h⟩ := oi_some h
    obtain ⟨q19, hq19, h⟩ := ob_some h
    refine m_calli (va_runV (As := []) (rest := []) ⟨hx, hb, hml, hown, hts⟩ (c_X3_isMissing l G hq19) (cwV 0 hts gX5_cell_X3_isMissing rfl rfl rfl hd_X3_isMissingv ⟨Nat.le_of_ble_eq_true rfl, Nat.le_of_ble_eq_true rfl⟩) (m_preV (ci := 2) hK hM rfl o18) rfl rfl hl.1 rfl (lv_room (Nat.le_of_ble_eq_true rfl)) dX5_cell_17 ⟨Nat.le_of_ble_eq_true rfl, Nat.le_of_ble_eq_true rfl⟩) hL (fun H locs hM hL => ?_)
    refine lv_if_eq (tgt := 26) hx hb dX5_cell_20 (by decide) (fun c20 => ?_) (fun c20 => ?_)
    · have h := (if_pos c20).symm.trans h
      refine lv_iload_n hx hb dX5_cell_26 rfl (lv_at hl 2 rfl) ?_
      refine lv_aload_n hx hb dX5_cell_27 rfl (lv_at hl 0 rfl) ?_
      refine m_getR (ci := 4) hx hb hU5 hown hK hM rfl 2 (by decide) w1 h dX5_cell_28 (fun r21 gr21 h => ?_)
      refine lv_iload_n hx hb dX5_cell_31 rfl (lv_at hl 1 rfl) ?_
      refine m_aald hx hb hK hM 2 rfl h dX5_cell_32 (fun r22 gr22 h => ?_)
      refine m_getIN (ci := 2) (host := RX5) hx hb hU3 hown hK hM rfl 2 (by decide) (List.mem_of_getElem? (i := 21) rfl) h dX5_cell_33 (fun v23 gv23 h => ?_)
      refine m_calli (va_runS (As := [.int x2, .int v23]) (rest := []) ⟨hx, hb, hml, hown, hts⟩ (c_X5_isBelow l G x2 v23) (va_cwS 2 hts gX5_cell_X5_isBelow rfl rfl rfl hd_X5_isBelow ⟨Nat.le_of_ble_eq_true rfl, Nat.le_of_ble_eq_true rfl⟩) (m_preS hK hM) rfl rfl hl.1 rfl (lv_room (Nat.le_of_ble_eq_true rfl)) dX5_cell_36 ⟨Nat.le_of_ble_eq_true rfl, Nat.le_of_ble_eq_true rfl⟩) hL (fun H locs hM hL => ?_)
      refine lv_if_ne (tgt := 45) hx hb dX5_cell_39 (by decide) (fun c24 => ?_) (fun c24 => ?_)
      · have h := (if_neg c24).symm.trans h
        refine lv_aload_n hx hb dX5_cell_45 rfl (lv_at hl 0 rfl) ?_
        refine m_getR (ci := 4) hx hb hU5 hown hK hM rfl 2 (by decide) w1 h dX5_cell_46 (fun r25 gr25 h => ?_)
        refine lv_iload_n hx hb dX5_cell_49 rfl (lv_at hl 1 rfl) ?_
        refine m_aald hx hb hK hM 2 rfl h dX5_cell_50 (fun r26 gr26 h => ?_)
        refine lv_iload_n hx hb dX5_cell_51 rfl (lv_at hl 2 rfl) ?_
        refine lv_iload_n hx hb dX5_cell_52 rfl (lv_at hl 3 rfl) ?_
        obtain ⟨o27, h⟩ := oi_some h
        obtain ⟨q28, hq28, h⟩ := ob_some h
        refine m_callv (va_runV (As := [.int x2, .int x3]) (rest := []) ⟨hx, hb, hml, hown, hts⟩ (c_X3_become l G hq28) (cwV 2 hts gX5_cell_X3_become rfl rfl rfl hd_X3_becomev ⟨Nat.le_of_ble_eq_true rfl, Nat.le_of_ble_eq_true rfl⟩) (m_preV (ci := 2) hK hM rfl o27) rfl rfl hl.1 rfl (lv_room (Nat.le_of_ble_eq_true rfl)) dX5_cell_53 ⟨Nat.le_of_ble_eq_true rfl, Nat.le_of_ble_eq_true rfl⟩) hL (fun H locs hM hL => ?_)
        refine lv_iconst hx hb dX5_cell_56 kI_1 ?_
        subst hQ
        have h := Option.some.inj h
        subst h
        exact m_iret hx hb hr hM hL dX5_cell_57 hlocks
      · have h := (if_pos c24).symm.trans h
        refine lv_bipush hx hb dX5_cell_42 kB_m12 ?_
        subst hQ
        have h := Option.some.inj h
        subst h
        exact m_iret hx hb hr hM hL dX5_cell_44 hlocks
    · have h := (if_neg c20).symm.trans h
      refine lv_bipush hx hb dX5_cell_23 kB_m11 ?_
      subst hQ
      have h := Option.some.inj h
      subst h
      exact m_iret hx hb hr hM hL dX5_cell_25 hlocks
  · have h := (if_pos c15).symm.trans h
    refine lv_bipush hx hb dX5_cell_8 kB_m2 ?_
    subst hQ
    have h := Option.some.inj h
    subst h
    exact m_iret hx hb hr hM hL dX5_cell_10 hlocks
abbrev rm_X5_copy : Room := { frames := 1, cells := 0, slots := 0, locals := 60 }
set_option maxHeartbeats 4000000 in
set_option maxRecDepth 100000 in
theorem c_X5_copy (l : Launch) (G : mG) {h0 : Nat} {x1 : Int32} {x2 : Int32} {x3 : Int32} {x4 : Int32} {x5 : Int32} {σ : mS} {z : Int32 × mS} (h : f_X5_copy h0 x1 x2 x3 x4 x5 σ = some z) : Met l yX5_copy wsX5_copy rm_X5_copy (va_Pc [.ref h0, .int x1, .int x2, .int x3, .int x4, .int x5] (mB G σ)) (mQ G (.returned (some (.int z.1))) z.2) 0 0 (mF G) := by
  refine m_start (cc := cX5_copy) (maxL := 8) (ret := (some .int)) (by decide) rfl [.ref h0, .int x1, .int x2, .int x3, .int x4, .int x5] (Nat.le_of_ble_eq_true rfl) ?_
  intro p e s m args below meth c ls hx hb hr hml hown hts hlocks hnm hK hM hl
  have hown : s.vm.findClass RX5 = some m.cls := hown
  have hnm : meth.name = "copy" := hnm
  obtain ⟨locs, hlocs⟩ : ∃ l : List Loc, l = [] := ⟨_, rfl⟩
  have hL : mL G locs := by rw [hlocs]; exact mL_nil G
  rw [← hlocs]
  generalize s.heap = H at hM ⊢
  have hl : lv_has ls 8 [(0, .ref h0), (1, .int x1), (2, .int x2), (3, .int x3), (4, .int x4), (5, .int x5)] := hl
  obtain ⟨Q, hQ⟩ : ∃ Q, Q = MQ below (mQ G (.returned (some (.int z.1))) z.2) args s 0 0 (mF G) := ⟨_, rfl⟩
  rw [← hQ]
  have hU5 : ∀ w ∈ wsX50, w.before args s = true := fun w h => hts w (List.mem_cons_of_mem _ (List.mem_append_left _ (List.mem_append_right _ h)))
  have w1 := (hts (.fieldLink RX5 24 "HandkerchiefsDropped" "sheets" "[LHandkerchiefsDropped$Sheet;") (List.mem_of_getElem? (i := 1) rfl))
  have hU3 : ∀ w ∈ wsX30, w.before args s = true := fun w h => hts w (List.mem_cons_of_mem _ (List.mem_append_right _ h))
  have w3 := (hts (.methodLink RX5 278 arraycopyName) (List.mem_of_getElem? (i := 2) rfl))
  have w4 := (hts (.native arraycopyName) (List.mem_of_getElem? (i := 3) rfl))
  have w5 := (hts (.static arraycopyName) (List.mem_of_getElem? (i := 4) rfl))
  have w6 := (hts (.initialized "java/lang/System") (List.mem_of_getElem? (i := 5) rfl))
  rw [f_X5_copy.eq_1] at h
  refine lv_iload_n hx hb dX5_copy_0 rfl (lv_at hl 1 rfl) ?_
  refine lv_iconst hx hb dX5_copy_1 kI_4 ?_
  refine m_calli (va_runS (As := [.int x1, .int (4 : Int32)]) (rest := []) ⟨hx, hb, hml, hown, hts⟩ (c_X5_isBelow l G x1 (4 : Int32)) (va_cwS 2 hts gX5_copy_X5_isBelow rfl rfl rfl hd_X5_isBelow ⟨Nat.le_of_ble_eq_true rfl, Nat.le_of_ble_eq_true rfl⟩) (m_preS hK hM) rfl rfl hl.1 rfl (lv_room (Nat.le_of_ble_eq_true rfl)) dX5_copy_2 ⟨Nat.le_of_ble_eq_true rfl, Nat.le_of_ble_eq_true rfl⟩) hL (fun H locs hM hL => ?_)
  refine lv_if_eq (tgt := 16) hx hb dX5_copy_5 (by decide) (fun c25 => ?_) (fun c25 => ?_)
  · have h := (if_pos c25).symm.trans h
    refine lv_bipush hx hb dX5_copy_16 kB_m2 ?_
    subst hQ
    have h := Option.some.inj h
    subst h
    exact m_iret hx hb hr hM hL dX5_copy_18 hlocks
  · have h := (if_neg c25).symm.trans h
    refine lv_iload_n hx hb dX5_copy_8 rfl (lv_at hl 3 rfl) ?_
    refine lv_iconst hx hb dX5_copy_9 kI_4 ?_
    refine m_calli (va_runS (As := [.int x3, .int (4 : Int32)]) (rest := []) ⟨hx, hb, hml, hown, hts⟩ (c_X5_isBelow l G x3 (4 : Int32)) (va_cwS 2 hts gX5_copy_X5_isBelow rfl rfl rfl hd_X5_isBelow ⟨Nat.le_of_ble_eq_true rfl, Nat.le_of_ble_eq_true rfl⟩) (m_preS hK hM) rfl rfl hl.1 rfl (lv_room (Nat.le_of_ble_eq_true rfl)) dX5_copy_10 ⟨Nat.le_of_ble_eq_true rfl, Nat.le_of_ble_eq_true rfl⟩) hL (fun H locs hM hL => ?_)
    refine lv_if_ne (tgt := 19) hx hb dX5_copy_13 (by decide) (fun c26 => ?_) (fun c26 => ?_)
    · have h := (if_neg c26).symm.trans h
      refine lv_aload_n hx hb dX5_copy_19 rfl (lv_at hl 0 rfl) ?_
      refine m_getR (ci := 4) hx hb hU5 hown hK hM rfl 2 (by decide) w1 h dX5_copy_20 (fun r27 gr27 h => ?_)
      refine lv_iload_n hx hb dX5_copy_23 rfl (lv_at hl 1 rfl) ?_
      refine m_aald hx hb hK hM 2 rfl h dX5_copy_24 (fun r28 gr28 h => ?_)
      refine lv_astore (lv' := [(6, .ref r28), (0, .ref h0), (1, .int x1), (2, .int x2), (3, .int x3), (4, .int x4), (5, .int x5)]) hx hb dX5_copy_25 hl (by decide) rfl (fun ls hl => ?_)
      refine lv_aload_n hx hb dX5_copy_27 rfl (lv_at hl 1 rfl) ?_
      refine m_getR (ci := 4) hx hb hU5 hown hK hM rfl 2 (by decide) w1 h dX5_copy_28 (fun r29 gr29 h => ?_)
      refine lv_iload_n hx hb dX5_copy_31 rfl (lv_at hl 4 rfl) ?_
      refine m_aald hx hb hK hM 2 rfl h dX5_copy_32 (fun r30 gr30 h => ?_)
      refine lv_astore (lv' := [(7, .ref r30), (6, .ref r28), (0, .ref h0), (1, .int x1), (2, .int x2), (3, .int x3), (4, .int x4), (5, .int x5)]) hx hb dX5_copy_33 hl (by decide) rfl (fun ls hl => ?_)
      refine lv_aload hx hb dX5_copy_35 (lv_at hl 1 rfl) ?_
      obtain ⟨o31, h⟩ := oi_some h
      obtain ⟨q32, hq32, h⟩ := ob_some h
      refine m_calli (va_runV (As := []) (rest := []) ⟨hx, hb, hml, hown, hts⟩ (c_X3_isMissing l G hq32) (cwV 0 hts gX5_copy_X3_isMissing rfl rfl rfl hd_X3_isMissingv ⟨Nat.le_of_ble_eq_true rfl, Nat.le_of_ble_eq_true rfl⟩) (m_preV (ci := 2) hK hM rfl o31) rfl rfl hl.1 rfl (lv_room (Nat.le_of_ble_eq_true rfl)) dX5_copy_37 ⟨Nat.le_of_ble_eq_true rfl, Nat.le_of_ble_eq_true rfl⟩) hL (fun H locs hM hL => ?_)
      refine lv_if_ne (tgt := 51) hx hb dX5_copy_40 (by decide) (fun c33 => ?_) (fun c33 => ?_)
      · have h := (if_neg c33).symm.trans h
        refine lv_bipush hx hb dX5_copy_51 kB_m11 ?_
        subst hQ
        have h := Option.some.inj h
        subst h
        exact m_iret hx hb hr hM hL dX5_copy_53 hlocks
      · have h := (if_pos c33).symm.trans h
        refine lv_aload hx hb dX5_copy_43 (lv_at hl 0 rfl) ?_
        obtain ⟨o34, h⟩ := oi_some h
        obtain ⟨q35, hq35, h⟩ := ob_some h
        refine m_calli (va_runV (As := []) (rest := []) ⟨hx, hb, hml, hown, hts⟩ (c_X3_isMissing l G hq35) (cwV 0 hts gX5_copy_X3_isMissing rfl rfl rfl hd_X3_isMissingv ⟨Nat.le_of_ble_eq_true rfl, Nat.le_of_ble_eq_true rfl⟩) (m_preV (ci := 2) hK hM rfl o34) rfl rfl hl.1 rfl (lv_room (Nat.le_of_ble_eq_true rfl)) dX5_copy_45 ⟨Nat.le_of_ble_eq_true rfl, Nat.le_of_ble_eq_true rfl⟩) hL (fun H locs hM hL => ?_)
        refine lv_if_eq (tgt := 54) hx hb dX5_copy_48 (by decide) (fun c36 => ?_) (fun c36 => ?_)
        · have h := (if_pos c36).symm.trans h
          refine lv_aload hx hb dX5_copy_54 (lv_at hl 1 rfl) ?_
          refine m_getIN (ci := 2) (host := RX5) hx hb hU3 hown hK hM rfl 1 (by decide) (List.mem_of_getElem? (i := 20) rfl) h dX5_copy_56 (fun v37 gv37 h => ?_)
          refine lv_aload hx hb dX5_copy_59 (lv_at hl 0 rfl) ?_
          refine m_getIN (ci := 2) (host := RX5) hx hb hU3 hown hK hM rfl 1 (by decide) (List.mem_of_getElem? (i := 20) rfl) h dX5_copy_61 (fun v38 gv38 h => ?_)
          refine lv_icmp_eq (tgt := 70) hx hb dX5_copy_64 (by decide) (fun c39 => ?_) (fun c39 => ?_)
          · have h := (if_pos c39).symm.trans h
            refine lv_aload hx hb dX5_copy_70 (lv_at hl 1 rfl) ?_
            refine lv_iload_n hx hb dX5_copy_72 rfl (lv_at hl 4 rfl) ?_
            refine lv_iload hx hb dX5_copy_73 (lv_at hl 7 rfl) ?_
            obtain ⟨o40, h⟩ := oi_some h
            obtain ⟨q41, hq41, h⟩ := ob_some h
            refine m_calli (va_runV (As := [.int x2, .int x5]) (rest := []) ⟨hx, hb, hml, hown, hts⟩ (c_X3_has l G hq41) (cwV 2 hts gX5_copy_X3_has rfl rfl rfl hd_X3_hasv ⟨Nat.le_of_ble_eq_true rfl, Nat.le_of_ble_eq_true rfl⟩) (m_preV (ci := 2) hK hM rfl o40) rfl rfl hl.1 rfl (lv_room (Nat.le_of_ble_eq_true rfl)) dX5_copy_75 ⟨Nat.le_of_ble_eq_true rfl, Nat.le_of_ble_eq_true rfl⟩) hL (fun H locs hM hL => ?_)
            refine lv_if_eq (tgt := 93) hx hb dX5_copy_78 (by decide) (fun c42 => ?_) (fun c42 => ?_)
            · have h := (if_pos c42).symm.trans h
              refine lv_bipush hx hb dX5_copy_93 kB_m12 ?_
              subst hQ
              have h := Option.some.inj h
              subst h
              exact m_iret hx hb hr hM hL dX5_copy_95 hlocks
            · have h := (if_neg c42).symm.trans h
              refine lv_aload hx hb dX5_copy_81 (lv_at hl 0 rfl) ?_
              refine lv_iload hx hb dX5_copy_83 (lv_at hl 6 rfl) ?_
              refine lv_iload hx hb dX5_copy_85 (lv_at hl 7 rfl) ?_
              obtain ⟨o43, h⟩ := oi_some h
              obtain ⟨q44, hq44, h⟩ := ob_some h
              refine m_calli (va_runV (As := [.int x4, .int x5]) (rest := []) ⟨hx, hb, hml, hown, hts⟩ (c_X3_has l G hq44) (cwV 2 hts gX5_copy_X3_has rfl rfl rfl hd_X3_hasv ⟨Nat.le_of_ble_eq_true rfl, Nat.le_of_ble_eq_true rfl⟩) (m_preV (ci := 2) hK hM rfl o43) rfl rfl hl.1 rfl (lv_room (Nat.le_of_ble_eq_true rfl)) dX5_copy_87 ⟨Nat.le_of_ble_eq_true rfl, Nat.le_of_ble_eq_true rfl⟩) hL (fun H locs hM hL => ?_)
              refine lv_if_ne (tgt := 96) hx hb dX5_copy_90 (by decide) (fun c45 => ?_) (fun c45 => ?_)
              · have h := (if_neg c45).symm.trans h
                refine lv_aload hx hb dX5_copy_96 (lv_at hl 1 rfl) ?_
                refine m_getRN (ci := 2) (host := RX5) hx hb hU3 hown hK hM rfl 0 (by decide) (List.mem_of_getElem? (i := 19) rfl) h dX5_copy_98 (fun r46 gr46 h => ?_)
                refine lv_iload_n hx hb dX5_copy_101 rfl (lv_at hl 4 rfl) ?_
                refine lv_aload hx hb dX5_copy_102 (lv_at hl 0 rfl) ?_
                refine m_getRN (ci := 2) (host := RX5) hx hb hU3 hown hK hM rfl 0 (by decide) (List.mem_of_getElem? (i := 19) rfl) h dX5_copy_104 (fun r47 gr47 h => ?_)
                refine lv_iload hx hb dX5_copy_107 (lv_at hl 6 rfl) ?_
                refine lv_iload hx hb dX5_copy_109 (lv_at hl 7 rfl) ?_
                refine m_copy hx hb (hml.trans hl.1.symm) hown w3 w4 w5 w6 hK hM hL h (Nat.le_of_ble_eq_true rfl) (Nat.le_of_ble_eq_true rfl) dX5_copy_111 (fun t48 H locs h hM hL => ?_)
                refine lv_iload hx hb dX5_copy_114 (lv_at hl 7 rfl) ?_
                subst hQ
                have h := Option.some.inj h
                subst h
                exact m_iret hx hb hr hM hL dX5_copy_116 hlocks
              · have h := (if_pos c45).symm.trans h
                refine lv_bipush hx hb dX5_copy_93 kB_m12 ?_
                subst hQ
                have h := Option.some.inj h
                subst h
                exact m_iret hx hb hr hM hL dX5_copy_95 hlocks
          · have h := (if_neg c39).symm.trans h
            refine lv_bipush hx hb dX5_copy_67 kB_m13 ?_
            subst hQ
            have h := Option.some.inj h
            subst h
            exact m_iret hx hb hr hM hL dX5_copy_69 hlocks
        · have h := (if_neg c36).symm.trans h
          refine lv_bipush hx hb dX5_copy_51 kB_m11 ?_
          subst hQ
          have h := Option.some.inj h
          subst h
          exact m_iret hx hb hr hM hL dX5_copy_53 hlocks
    · have h := (if_pos c26).symm.trans h
      refine lv_bipush hx hb dX5_copy_16 kB_m2 ?_
      subst hQ
      have h := Option.some.inj h
      subst h
      exact m_iret hx hb hr hM hL dX5_copy_18 hlocks
abbrev rm_X5_witnessesBy : Room := { frames := 2, cells := 0, slots := 0, locals := 47 }
set_option maxHeartbeats 4000000 in
set_option maxRecDepth 100000 in
theorem c_X5_witnessesBy (l : Launch) (G : mG) {h0 : Nat} {x1 : Int32} {x2 : Int32} {x3 : Int32} {x4 : Int32} {σ : mS} {z : Int32 × mS} (h : f_X5_witnessesBy h0 x1 x2 x3 x4 σ = some z) : Met l yX5_witnessesBy wsX5_witnessesBy rm_X5_witnessesBy (va_Pc [.ref h0, .int x1, .int x2, .int x3, .int x4] (mB G σ)) (mQ G (.returned (some (.int z.1))) z.2) 0 0 (mF G) := by
  refine m_start (cc := cX5_witnessesBy) (maxL := 9) (ret := (some .int)) (by decide) rfl [.ref h0, .int x1, .int x2, .int x3, .int x4] (Nat.le_of_ble_eq_true rfl) ?_
  intro p e s m args below meth c ls hx hb hr hml hown hts hlocks hnm hK hM hl
  have hown : s.vm.findClass RX5 = some m.cls := hown
  have hnm : meth.name = "witnessesBy" := hnm
  obtain ⟨locs, hlocs⟩ : ∃ l : List Loc, l = [] := ⟨_, rfl⟩
  have hL : mL G locs := by rw [hlocs]; exact mL_nil G
  rw [← hlocs]
  generalize s.heap = H at hM ⊢
  have hl : lv_has ls 9 [(0, .ref h0), (1, .int x1), (2, .int x2), (3, .int x3), (4, .int x4)] := hl
  obtain ⟨Q, hQ⟩ : ∃ Q, Q = MQ below (mQ G (.returned (some (.int z.1))) z.2) args s 0 0 (mF G) := ⟨_, rfl⟩
  rw [← hQ]
  have hU5 : ∀ w ∈ wsX50, w.before args s = true := fun w h => hts w (List.mem_cons_of_mem _ (List.mem_append_left _ (List.mem_append_left _ (List.mem_append_right _ h))))
  have w1 := (hts (.fieldLink RX5 24 "HandkerchiefsDropped" "sheets" "[LHandkerchiefsDropped$Sheet;") (List.mem_of_getElem? (i := 1) rfl))
  have hU3 : ∀ w ∈ wsX30, w.before args s = true := fun w h => hts w (List.mem_cons_of_mem _ (List.mem_append_left _ (List.mem_append_right _ h)))
  have hN66 : ∀ (n : Nat) (h0 : Nat) (x3 : Int32) (x4 : Int32) (h5 : Nat) (x6 : Int32) (x7 : Int32) (σ : mS), f_X5_witnessesBy_66 n h0 x3 x4 h5 x6 x7 σ = some z → ∀ (H : Heap) (locs : List Loc) (ls : Array Slot), mP G σ H → mL G locs → lv_has ls 9 [(0, .ref h0), (3, .int x3), (4, .int x4), (5, .ref h5), (6, .int x6), (7, .int x7)] → W p l e rm_X5_witnessesBy s m args below meth c H locs 0 0 Q (F0 m 66 ls []) := by
    intro n
    induction n with
    | zero =>
      intro h0 x3 x4 h5 x6 x7 σ h
      exact nomatch (show (none : Option (Int32 × mS)) = some z from h)
    | succ n ih =>
      intro h0 x3 x4 h5 x6 x7 σ h H locs ls hM hL hl
      rw [f_X5_witnessesBy_66.eq_2] at h
      refine lv_iload hx hb dX5_witnessesBy_66 (lv_at hl 5 rfl) ?_
      refine lv_iload hx hb dX5_witnessesBy_68 (lv_at hl 2 rfl) ?_
      refine lv_icmp_ge (tgt := 146) hx hb dX5_witnessesBy_70 (by decide) (fun c28 => ?_) (fun c28 => ?_)
      · have h := (if_pos c28).symm.trans h
        refine lv_iload hx hb dX5_witnessesBy_146 (lv_at hl 4 rfl) ?_
        subst hQ
        have h := Option.some.inj h
        subst h
        exact m_iret hx hb hr hM hL dX5_witnessesBy_148 hlocks
      · have h := (if_neg c28).symm.trans h
        refine lv_iload_n hx hb dX5_witnessesBy_73 rfl (lv_at hl 1 rfl) ?_
        refine lv_iconst hx hb dX5_witnessesBy_74 kI_3 ?_
        refine lv_iload hx hb dX5_witnessesBy_75 (lv_at hl 5 rfl) ?_
        refine lv_imul hx hb dX5_witnessesBy_77 ?_
        refine lv_iadd hx hb dX5_witnessesBy_78 ?_
        refine lv_topi (fun v29 ev29 => ?_)
        have h := vl_at ev29 h
        refine lv_istore (lv' := [(8, .int v29), (0, .ref h0), (3, .int x3), (4, .int x4), (5, .ref h5), (6, .int x6), (7, .int x7)]) hx hb dX5_witnessesBy_79 hl (by decide) rfl (fun ls hl => ?_)
        refine lv_aload hx hb dX5_witnessesBy_81 (lv_at hl 4 rfl) ?_
        refine lv_iload hx hb dX5_witnessesBy_83 (lv_at hl 0 rfl) ?_
        refine lv_iconst hx hb dX5_witnessesBy_85 kI_3 ?_
        obtain ⟨o30, h⟩ := oi_some h
        obtain ⟨q31, hq31, h⟩ := ob_some h
        refine m_calli (va_runV (As := [.int v29, .int (3 : Int32)]) (rest := []) ⟨hx, hb, hml, hown, hts⟩ (c_X3_has l G hq31) (cwV 2 hts gX5_witnessesBy_X3_has rfl rfl rfl hd_X3_hasv ⟨Nat.le_of_ble_eq_true rfl, Nat.le_of_ble_eq_true rfl⟩) (m_preV (ci := 2) hK hM rfl o30) rfl rfl hl.1 rfl (lv_room (Nat.le_of_ble_eq_true rfl)) dX5_witnessesBy_86 ⟨Nat.le_of_ble_eq_true rfl, Nat.le_of_ble_eq_true rfl⟩) hL (fun H locs hM hL => ?_)
        refine lv_if_ne (tgt := 95) hx hb dX5_witnessesBy_89 (by decide) (fun c32 => ?_) (fun c32 => ?_)
        · have h := (if_neg c32).symm.trans h
          refine lv_iload hx hb dX5_witnessesBy_95 (lv_at hl 5 rfl) ?_
          refine lv_aload_n hx hb dX5_witnessesBy_97 rfl (lv_at hl 1 rfl) ?_
          refine lv_aload hx hb dX5_witnessesBy_98 (lv_at hl 4 rfl) ?_
          refine m_getRN (ci := 2) (host := RX5) hx hb hU3 hown hK hM rfl 0 (by decide) (List.mem_of_getElem? (i := 19) rfl) h dX5_witnessesBy_100 (fun r33 gr33 h => ?_)
          refine lv_iload hx hb dX5_witnessesBy_103 (lv_at hl 0 rfl) ?_
          refine m_iald hx hb hK hM h dX5_witnessesBy_105 (fun v34 gv34 h => ?_)
          refine lv_aload hx hb dX5_witnessesBy_106 (lv_at hl 4 rfl) ?_
          refine m_getRN (ci := 2) (host := RX5) hx hb hU3 hown hK hM rfl 0 (by decide) (List.mem_of_getElem? (i := 19) rfl) h dX5_witnessesBy_108 (fun r35 gr35 h => ?_)
          refine lv_iload hx hb dX5_witnessesBy_111 (lv_at hl 0 rfl) ?_
          refine lv_iconst hx hb dX5_witnessesBy_113 kI_1 ?_
          refine lv_iadd hx hb dX5_witnessesBy_114 ?_
          refine m_iald hx hb hK hM h dX5_witnessesBy_115 (fun v36 gv36 h => ?_)
          refine lv_aload hx hb dX5_witnessesBy_116 (lv_at hl 4 rfl) ?_
          refine m_getRN (ci := 2) (host := RX5) hx hb hU3 hown hK hM rfl 0 (by decide) (List.mem_of_getElem? (i := 19) rfl) h dX5_witnessesBy_118 (fun r37 gr37 h => ?_)
          refine lv_iload hx hb dX5_witnessesBy_121 (lv_at hl 0 rfl) ?_
          refine lv_iconst hx hb dX5_witnessesBy_123 kI_2 ?_
          refine lv_iadd hx hb dX5_witnessesBy_124 ?_
          refine m_iald hx hb hK hM h dX5_witnessesBy_125 (fun v38 gv38 h => ?_)
          obtain ⟨o39, h⟩ := oi_some h
          obtain ⟨q40, hq40, h⟩ := ob_some h
          refine m_calli (va_runV (As := [.int v34, .int v36, .int v38]) (rest := [.int x6]) ⟨hx, hb, hml, hown, hts⟩ (c_X5_witness l G hq40) (cwV 3 hts gX5_witnessesBy_X5_witness rfl rfl rfl hd_X5_witnessv ⟨Nat.le_of_ble_eq_true rfl, Nat.le_of_ble_eq_true rfl⟩) (m_preV (ci := 4) hK hM rfl o39) rfl rfl hl.1 rfl (lv_room (Nat.le_of_ble_eq_true rfl)) dX5_witnessesBy_126 ⟨Nat.le_of_ble_eq_true rfl, Nat.le_of_ble_eq_true rfl⟩) hL (fun H locs hM hL => ?_)
          suffices hJ : ∀ (v42 : Int32) (ls : Array Slot), v42 = (if q40.1 < 0 then (0 : Int32) else (1 : Int32)) → lv_has ls 9 [(0, .ref h0), (3, .int x3), (4, .int x4), (5, .ref h5), (7, .int x7)] → W p l e rm_X5_witnessesBy s m args below meth c H locs 0 0 Q (F0 m 137 ls [.int v42, .int x6]) by
            refine lv_if_lt (tgt := 136) hx hb dX5_witnessesBy_129 (by decide) (fun c41 => ?_) (fun c41 => ?_)
            · refine lv_iconst hx hb dX5_witnessesBy_136 kI_0 ?_
              exact hJ _ _ (((if_pos c41).trans rfl).symm) (lv_sub hl [1, 2, 3, 4, 6] rfl)
            · refine lv_iconst hx hb dX5_witnessesBy_132 kI_1 ?_
              refine lv_goto (tgt := 137) hx hb dX5_witnessesBy_133 (by decide) ?_
              exact hJ _ _ (((if_neg c41).trans rfl).symm) (lv_sub hl [1, 2, 3, 4, 6] rfl)
          intro v42 ls ev42 hl
          have h := vl_at ev42 h
          refine lv_iadd hx hb dX5_witnessesBy_137 ?_
          refine lv_topi (fun v43 ev43 => ?_)
          have h := vl_at ev43 h
          refine lv_istore (lv' := [(6, .int v43), (0, .ref h0), (3, .int x3), (4, .int x4), (5, .ref h5), (7, .int x7)]) hx hb dX5_witnessesBy_138 hl (by decide) rfl (fun ls hl => ?_)
          obtain ⟨v44, ev44⟩ : ∃ y : Int32, y = x7 + (1 : Int32) := ⟨_, rfl⟩
          have h := vl_at ev44 h
          refine lv_iinc (v := v44) (lv' := [(7, .int v44), (6, .int v43), (0, .ref h0), (3, .int x3), (4, .int x4), (5, .ref h5)]) hx hb dX5_witnessesBy_140 hl (k := 5) rfl (by rw [ev44, kI_1]) (by decide) rfl (fun ls hl => ?_)
          refine lv_goto (tgt := 66) hx hb dX5_witnessesBy_143 (by decide) ?_
          exact ih _ _ _ _ _ _ _ h _ _ _ hM hL (lv_sub hl [2, 3, 4, 5, 1, 0] rfl)
        · have h := (if_pos c32).symm.trans h
          refine lv_bipush hx hb dX5_witnessesBy_92 kB_m12 ?_
          subst hQ
          have h := Option.some.inj h
          subst h
          exact m_iret hx hb hr hM hL dX5_witnessesBy_94 hlocks
  rw [f_X5_witnessesBy.eq_1] at h
  refine lv_iload_n hx hb dX5_witnessesBy_0 rfl (lv_at hl 1 rfl) ?_
  refine lv_iconst hx hb dX5_witnessesBy_1 kI_4 ?_
  refine m_calli (va_runS (As := [.int x1, .int (4 : Int32)]) (rest := []) ⟨hx, hb, hml, hown, hts⟩ (c_X5_isBelow l G x1 (4 : Int32)) (va_cwS 2 hts gX5_witnessesBy_X5_isBelow rfl rfl rfl hd_X5_isBelow ⟨Nat.le_of_ble_eq_true rfl, Nat.le_of_ble_eq_true rfl⟩) (m_preS hK hM) rfl rfl hl.1 rfl (lv_room (Nat.le_of_ble_eq_true rfl)) dX5_witnessesBy_2 ⟨Nat.le_of_ble_eq_true rfl, Nat.le_of_ble_eq_true rfl⟩) hL (fun H locs hM hL => ?_)
  refine lv_if_eq (tgt := 26) hx hb dX5_witnessesBy_5 (by decide) (fun c45 => ?_) (fun c45 => ?_)
  · have h := (if_pos c45).symm.trans h
    refine lv_bipush hx hb dX5_witnessesBy_26 kB_m2 ?_
    subst hQ
    have h := Option.some.inj h
    subst h
    exact m_iret hx hb hr hM hL dX5_witnessesBy_28 hlocks
  · have h := (if_neg c45).symm.trans h
    refine lv_iload_n hx hb dX5_witnessesBy_8 rfl (lv_at hl 2 rfl) ?_
    refine lv_iconst hx hb dX5_witnessesBy_9 kI_3 ?_
    refine m_calli (va_runS (As := [.int x2, .int (3 : Int32)]) (rest := []) ⟨hx, hb, hml, hown, hts⟩ (c_X5_isBelow l G x2 (3 : Int32)) (va_cwS 2 hts gX5_witnessesBy_X5_isBelow rfl rfl rfl hd_X5_isBelow ⟨Nat.le_of_ble_eq_true rfl, Nat.le_of_ble_eq_true rfl⟩) (m_preS hK hM) rfl rfl hl.1 rfl (lv_room (Nat.le_of_ble_eq_true rfl)) dX5_witnessesBy_10 ⟨Nat.le_of_ble_eq_true rfl, Nat.le_of_ble_eq_true rfl⟩) hL (fun H locs hM hL => ?_)
    refine lv_if_eq (tgt := 26) hx hb dX5_witnessesBy_13 (by decide) (fun c46 => ?_) (fun c46 => ?_)
    · have h := (if_pos c46).symm.trans h
      refine lv_bipush hx hb dX5_witnessesBy_26 kB_m2 ?_
      subst hQ
      have h := Option.some.inj h
      subst h
      exact m_iret hx hb hr hM hL dX5_witnessesBy_28 hlocks
    · have h := (if_neg c46).symm.trans h
      refine lv_iload hx hb dX5_witnessesBy_16 (lv_at hl 4 rfl) ?_
      refine lv_bipush hx hb dX5_witnessesBy_18 kB_7 ?_
      refine m_calli (va_runS (As := [.int x4, .int (7 : Int32)]) (rest := []) ⟨hx, hb, hml, hown, hts⟩ (c_X5_isBelow l G x4 (7 : Int32)) (va_cwS 2 hts gX5_witnessesBy_X5_isBelow rfl rfl rfl hd_X5_isBelow ⟨Nat.le_of_ble_eq_true rfl, Nat.le_of_ble_eq_true rfl⟩) (m_preS hK hM) rfl rfl hl.1 rfl (lv_room (Nat.le_of_ble_eq_true rfl)) dX5_witnessesBy_20 ⟨Nat.le_of_ble_eq_true rfl, Nat.le_of_ble_eq_true rfl⟩) hL (fun H locs hM hL => ?_)
      refine lv_if_ne (tgt := 29) hx hb dX5_witnessesBy_23 (by decide) (fun c47 => ?_) (fun c47 => ?_)
      · have h := (if_neg c47).symm.trans h
        refine lv_aload_n hx hb dX5_witnessesBy_29 rfl (lv_at hl 0 rfl) ?_
        refine m_getR (ci := 4) hx hb hU5 hown hK hM rfl 2 (by decide) w1 h dX5_witnessesBy_30 (fun r48 gr48 h => ?_)
        refine lv_iload_n hx hb dX5_witnessesBy_33 rfl (lv_at hl 1 rfl) ?_
        refine m_aald hx hb hK hM 2 rfl h dX5_witnessesBy_34 (fun r49 gr49 h => ?_)
        refine lv_astore (lv' := [(5, .ref r49), (0, .ref h0), (1, .int x1), (2, .int x2), (3, .int x3), (4, .int x4)]) hx hb dX5_witnessesBy_35 hl (by decide) rfl (fun ls hl => ?_)
        refine lv_aload hx hb dX5_witnessesBy_37 (lv_at hl 0 rfl) ?_
        obtain ⟨o50, h⟩ := oi_some h
        obtain ⟨q51, hq51, h⟩ := ob_some h
        refine m_calli (va_runV (As := []) (rest := []) ⟨hx, hb, hml, hown, hts⟩ (c_X3_isMissing l G hq51) (cwV 0 hts gX5_witnessesBy_X3_isMissing rfl rfl rfl hd_X3_isMissingv ⟨Nat.le_of_ble_eq_true rfl, Nat.le_of_ble_eq_true rfl⟩) (m_preV (ci := 2) hK hM rfl o50) rfl rfl hl.1 rfl (lv_room (Nat.le_of_ble_eq_true rfl)) dX5_witnessesBy_39 ⟨Nat.le_of_ble_eq_true rfl, Nat.le_of_ble_eq_true rfl⟩) hL (fun H locs hM hL => ?_)
        refine lv_if_eq (tgt := 48) hx hb dX5_witnessesBy_42 (by decide) (fun c52 => ?_) (fun c52 => ?_)
        · have h := (if_pos c52).symm.trans h
          refine lv_aload hx hb dX5_witnessesBy_48 (lv_at hl 0 rfl) ?_
          refine m_getIN (ci := 2) (host := RX5) hx hb hU3 hown hK hM rfl 1 (by decide) (List.mem_of_getElem? (i := 20) rfl) h dX5_witnessesBy_50 (fun v53 gv53 h => ?_)
          refine lv_iload_n hx hb dX5_witnessesBy_53 rfl (lv_at hl 3 rfl) ?_
          refine lv_icmp_eq (tgt := 60) hx hb dX5_witnessesBy_54 (by decide) (fun c54 => ?_) (fun c54 => ?_)
          · have h := (if_pos c54).symm.trans h
            refine lv_iconst hx hb dX5_witnessesBy_60 kI_0 ?_
            refine lv_istore (lv' := [(6, .int (0 : Int32)), (5, .ref r49), (0, .ref h0), (1, .int x1), (2, .int x2), (3, .int x3), (4, .int x4)]) hx hb dX5_witnessesBy_61 hl (by decide) rfl (fun ls hl => ?_)
            refine lv_iconst hx hb dX5_witnessesBy_63 kI_0 ?_
            refine lv_istore (lv' := [(7, .int (0 : Int32)), (6, .int (0 : Int32)), (5, .ref r49), (0, .ref h0), (1, .int x1), (2, .int x2), (3, .int x3), (4, .int x4)]) hx hb dX5_witnessesBy_64 hl (by decide) rfl (fun ls hl => ?_)
            refine hN66 _ _ _ _ _ _ _ _ h _ _ _ hM hL (lv_sub hl [3, 6, 7, 2, 1, 0] rfl)
          · have h := (if_neg c54).symm.trans h
            refine lv_bipush hx hb dX5_witnessesBy_57 kB_m13 ?_
            subst hQ
            have h := Option.some.inj h
            subst h
            exact m_iret hx hb hr hM hL dX5_witnessesBy_59 hlocks
        · have h := (if_neg c52).symm.trans h
          refine lv_bipush hx hb dX5_witnessesBy_45 kB_m11 ?_
          subst hQ
          have h := Option.some.inj h
          subst h
          exact m_iret hx hb hr hM hL dX5_witnessesBy_47 hlocks
      · have h := (if_pos c47).symm.trans h
        refine lv_bipush hx hb dX5_witnessesBy_26 kB_m2 ?_
        subst hQ
        have h := Option.some.inj h
        subst h
        exact m_iret hx hb hr hM hL dX5_witnessesBy_28 hlocks
abbrev rm_X5_taken : Room := { frames := 2, cells := 0, slots := 0, locals := 42 }
set_option maxHeartbeats 4000000 in
set_option maxRecDepth 100000 in
theorem c_X5_taken (l : Launch) (G : mG) {h0 : Nat} {x1 : Int32} {x2 : Int32} {σ : mS} {z : Int32} (h : f_X5_taken h0 x1 x2 σ = some z) : Met l yX5_taken wsX5_taken rm_X5_taken (va_Pc [.ref h0, .int x1, .int x2] (mB G σ)) (mQ G (.returned (some (.int z))) (σ)) 0 0 (mF G) := by
  refine m_start (cc := cX5_taken) (maxL := 4) (ret := (some .int)) (by decide) rfl [.ref h0, .int x1, .int x2] (Nat.le_of_ble_eq_true rfl) ?_
  intro p e s m args below meth c ls hx hb hr hml hown hts hlocks hnm hK hM hl
  have hown : s.vm.findClass RX5 = some m.cls := hown
  have hnm : meth.name = "taken" := hnm
  obtain ⟨locs, hlocs⟩ : ∃ l : List Loc, l = [] := ⟨_, rfl⟩
  have hL : mL G locs := by rw [hlocs]; exact mL_nil G
  rw [← hlocs]
  generalize s.heap = H at hM ⊢
  have hl : lv_has ls 4 [(0, .ref h0), (1, .int x1), (2, .int x2)] := hl
  obtain ⟨Q, hQ⟩ : ∃ Q, Q = MQ below (mQ G (.returned (some (.int z))) (σ)) args s 0 0 (mF G) := ⟨_, rfl⟩
  rw [← hQ]
  have hU5 : ∀ w ∈ wsX50, w.before args s = true := fun w h => hts w (List.mem_cons_of_mem _ (List.mem_append_left _ (List.mem_append_right _ h)))
  have w1 := (hts (.fieldLink RX5 44 "HandkerchiefsDropped" "now" "LHandkerchiefsDropped$Assize;") (List.mem_of_getElem? (i := 1) rfl))
  have hU0 : ∀ w ∈ wsX00, w.before args s = true := fun w h => hts w (List.mem_cons_of_mem _ (List.mem_append_right _ h))
  have hN71 : ∀ (h0 : Nat) (x1 : Int32) (x2 : Int32) (x3 : Int32), f_X5_taken_71 σ h0 x1 x2 x3 = some z → ∀ (H : Heap) (locs : List Loc) (ls : Array Slot), mP G σ H → mL G locs → lv_has ls 4 [(0, .ref h0), (1, .int x1), (2, .int x2), (3, .int x3)] → W p l e rm_X5_taken s m args below meth c H locs 0 0 Q (F0 m 71 ls []) := by
    intro h0 x1 x2 x3 h H locs ls hM hL hl
    rw [f_X5_taken_71.eq_1] at h
    refine lv_iload_n hx hb dX5_taken_71 rfl (lv_at hl 3 rfl) ?_
    refine lv_if_eq (tgt := 98) hx hb dX5_taken_72 (by decide) (fun c23 => ?_) (fun c23 => ?_)
    · have h := (if_pos c23).symm.trans h
      refine lv_iload_n hx hb dX5_taken_98 rfl (lv_at hl 2 rfl) ?_
      refine lv_bipush hx hb dX5_taken_99 kB_6 ?_
      refine lv_icmp_ne (tgt := 119) hx hb dX5_taken_101 (by decide) (fun c24 => ?_) (fun c24 => ?_)
      · have h := (if_neg c24).symm.trans h
        refine lv_bipush hx hb dX5_taken_119 kB_m13 ?_
        subst hQ
        have h := Option.some.inj h
        subst h
        exact m_iret hx hb hr hM hL dX5_taken_121 hlocks
      · have h := (if_pos c24).symm.trans h
        refine lv_aload_n hx hb dX5_taken_104 rfl (lv_at hl 0 rfl) ?_
        refine m_getR (ci := 4) hx hb hU5 hown hK hM rfl 3 (by decide) w1 h dX5_taken_105 (fun r25 gr25 h => ?_)
        refine m_getRN (ci := 0) (host := RX5) hx hb hU0 hown hK hM rfl 8 (by decide) (List.mem_of_getElem? (i := 11) rfl) h dX5_taken_108 (fun r26 gr26 h => ?_)
        refine lv_iload_n hx hb dX5_taken_111 rfl (lv_at hl 1 rfl) ?_
        refine lv_bipush hx hb dX5_taken_112 kB_6 ?_
        refine lv_isub hx hb dX5_taken_114 ?_
        refine m_iald hx hb hK hM h dX5_taken_115 (fun v27 gv27 h => ?_)
        refine lv_goto (tgt := 121) hx hb dX5_taken_116 (by decide) ?_
        subst hQ
        have h := Option.some.inj h
        subst h
        exact m_iret hx hb hr hM hL dX5_taken_121 hlocks
    · have h := (if_neg c23).symm.trans h
      refine lv_aload_n hx hb dX5_taken_75 rfl (lv_at hl 0 rfl) ?_
      refine m_getR (ci := 4) hx hb hU5 hown hK hM rfl 3 (by decide) w1 h dX5_taken_76 (fun r28 gr28 h => ?_)
      refine m_getRN (ci := 0) (host := RX5) hx hb hU0 hown hK hM rfl 2 (by decide) (List.mem_of_getElem? (i := 5) rfl) h dX5_taken_79 (fun r29 gr29 h => ?_)
      refine lv_iload_n hx hb dX5_taken_82 rfl (lv_at hl 1 rfl) ?_
      refine m_iald hx hb hK hM h dX5_taken_83 (fun v30 gv30 h => ?_)
      refine lv_iload_n hx hb dX5_taken_84 rfl (lv_at hl 2 rfl) ?_
      refine m_calli (va_runS (As := [.int v30, .int x2]) (rest := []) ⟨hx, hb, hml, hown, hts⟩ (c_X1_isOne l G v30 x2) (va_cwS 2 hts gX5_taken_X1_isOne rfl rfl rfl hd_X1_isOne ⟨Nat.le_of_ble_eq_true rfl, Nat.le_of_ble_eq_true rfl⟩) (m_preS hK hM) rfl rfl hl.1 rfl (lv_room (Nat.le_of_ble_eq_true rfl)) dX5_taken_85 ⟨Nat.le_of_ble_eq_true rfl, Nat.le_of_ble_eq_true rfl⟩) hL (fun H locs hM hL => ?_)
      refine lv_if_eq (tgt := 95) hx hb dX5_taken_88 (by decide) (fun c31 => ?_) (fun c31 => ?_)
      · have h := (if_pos c31).symm.trans h
        refine lv_bipush hx hb dX5_taken_95 kB_m13 ?_
        subst hQ
        have h := Option.some.inj h
        subst h
        exact m_iret hx hb hr hM hL dX5_taken_97 hlocks
      · have h := (if_neg c31).symm.trans h
        refine lv_iload_n hx hb dX5_taken_91 rfl (lv_at hl 1 rfl) ?_
        refine lv_goto (tgt := 97) hx hb dX5_taken_92 (by decide) ?_
        subst hQ
        have h := Option.some.inj h
        subst h
        exact m_iret hx hb hr hM hL dX5_taken_97 hlocks
  rw [f_X5_taken.eq_1] at h
  refine lv_iload_n hx hb dX5_taken_0 rfl (lv_at hl 2 rfl) ?_
  refine lv_bipush hx hb dX5_taken_1 kB_7 ?_
  refine m_calli (va_runS (As := [.int x2, .int (7 : Int32)]) (rest := []) ⟨hx, hb, hml, hown, hts⟩ (c_X5_isBelow l G x2 (7 : Int32)) (va_cwS 2 hts gX5_taken_X5_isBelow rfl rfl rfl hd_X5_isBelow ⟨Nat.le_of_ble_eq_true rfl, Nat.le_of_ble_eq_true rfl⟩) (m_preS hK hM) rfl rfl hl.1 rfl (lv_room (Nat.le_of_ble_eq_true rfl)) dX5_taken_3 ⟨Nat.le_of_ble_eq_true rfl, Nat.le_of_ble_eq_true rfl⟩) hL (fun H locs hM hL => ?_)
  refine lv_if_ne (tgt := 12) hx hb dX5_taken_6 (by decide) (fun c32 => ?_) (fun c32 => ?_)
  · have h := (if_neg c32).symm.trans h
    refine lv_iload_n hx hb dX5_taken_12 rfl (lv_at hl 1 rfl) ?_
    refine lv_bipush hx hb dX5_taken_13 kB_14 ?_
    refine m_calli (va_runS (As := [.int x1, .int (14 : Int32)]) (rest := []) ⟨hx, hb, hml, hown, hts⟩ (c_X5_isBelow l G x1 (14 : Int32)) (va_cwS 2 hts gX5_taken_X5_isBelow rfl rfl rfl hd_X5_isBelow ⟨Nat.le_of_ble_eq_true rfl, Nat.le_of_ble_eq_true rfl⟩) (m_preS hK hM) rfl rfl hl.1 rfl (lv_room (Nat.le_of_ble_eq_true rfl)) dX5_taken_15 ⟨Nat.le_of_ble_eq_true rfl, Nat.le_of_ble_eq_true rfl⟩) hL (fun H locs hM hL => ?_)
    refine lv_if_ne (tgt := 24) hx hb dX5_taken_18 (by decide) (fun c33 => ?_) (fun c33 => ?_)
    · have h := (if_neg c33).symm.trans h
      refine lv_iload_n hx hb dX5_taken_24 rfl (lv_at hl 1 rfl) ?_
      refine lv_bipush hx hb dX5_taken_25 kB_6 ?_
      suffices hJ : ∀ (v35 : Int32) (ls : Array Slot), v35 = (if (6 : Int32) ≤ x1 then (0 : Int32) else (1 : Int32)) → lv_has ls 4 [(0, .ref h0), (1, .int x1), (2, .int x2)] → W p l e rm_X5_taken s m args below meth c H locs 0 0 Q (F0 m 35 ls [.int v35]) by
        refine lv_icmp_ge (tgt := 34) hx hb dX5_taken_27 (by decide) (fun c34 => ?_) (fun c34 => ?_)
        · refine lv_iconst hx hb dX5_taken_34 kI_0 ?_
          exact hJ _ _ (((if_pos c34).trans rfl).symm) (lv_sub hl [0, 1, 2] rfl)
        · refine lv_iconst hx hb dX5_taken_30 kI_1 ?_
          refine lv_goto (tgt := 35) hx hb dX5_taken_31 (by decide) ?_
          exact hJ _ _ (((if_neg c34).trans rfl).symm) (lv_sub hl [0, 1, 2] rfl)
      intro v35 ls ev35 hl
      have h := vl_at ev35 h
      refine lv_istore_n (lv' := [(3, .int v35), (0, .ref h0), (1, .int x1), (2, .int x2)]) hx hb dX5_taken_35 rfl hl (by decide) rfl (fun ls hl => ?_)
      refine lv_iload_n hx hb dX5_taken_36 rfl (lv_at hl 0 rfl) ?_
      refine lv_if_eq (tgt := 54) hx hb dX5_taken_37 (by decide) (fun c36 => ?_) (fun c36 => ?_)
      · have h := (if_pos c36).symm.trans h
        refine lv_aload_n hx hb dX5_taken_54 rfl (lv_at hl 1 rfl) ?_
        refine m_getR (ci := 4) hx hb hU5 hown hK hM rfl 3 (by decide) w1 h dX5_taken_55 (fun r37 gr37 h => ?_)
        refine lv_iload_n hx hb dX5_taken_58 rfl (lv_at hl 2 rfl) ?_
        refine lv_bipush hx hb dX5_taken_59 kB_6 ?_
        refine lv_isub hx hb dX5_taken_61 ?_
        obtain ⟨o38, h⟩ := oi_some h
        obtain ⟨q39, hq39, h⟩ := ob_some h
        refine m_calli (va_runV (As := [.int (x1 - (6 : Int32))]) (rest := []) ⟨hx, hb, hml, hown, hts⟩ (c_X0_lies l G hq39) (cwV 1 hts gX5_taken_X0_lies rfl rfl rfl hd_X0_liesv ⟨Nat.le_of_ble_eq_true rfl, Nat.le_of_ble_eq_true rfl⟩) (m_preV (ci := 0) hK hM rfl o38) rfl rfl hl.1 rfl (lv_room (Nat.le_of_ble_eq_true rfl)) dX5_taken_62 ⟨Nat.le_of_ble_eq_true rfl, Nat.le_of_ble_eq_true rfl⟩) hL (fun H locs hM hL => ?_)
        refine lv_if_ne (tgt := 71) hx hb dX5_taken_65 (by decide) (fun c40 => ?_) (fun c40 => ?_)
        · have h := (if_neg c40).symm.trans h
          refine hN71 _ _ _ _ h _ _ _ hM hL (lv_sub hl [1, 2, 3, 0] rfl)
        · have h := (if_pos c40).symm.trans h
          refine lv_bipush hx hb dX5_taken_68 kB_m11 ?_
          subst hQ
          have h := Option.some.inj h
          subst h
          exact m_iret hx hb hr hM hL dX5_taken_70 hlocks
      · have h := (if_neg c36).symm.trans h
        refine lv_aload_n hx hb dX5_taken_40 rfl (lv_at hl 1 rfl) ?_
        refine m_getR (ci := 4) hx hb hU5 hown hK hM rfl 3 (by decide) w1 h dX5_taken_41 (fun r41 gr41 h => ?_)
        refine lv_iload_n hx hb dX5_taken_44 rfl (lv_at hl 2 rfl) ?_
        obtain ⟨o42, h⟩ := oi_some h
        obtain ⟨q43, hq43, h⟩ := ob_some h
        refine m_calli (va_runV (As := [.int x1]) (rest := []) ⟨hx, hb, hml, hown, hts⟩ (c_X0_hasWitness l G hq43) (cwV 1 hts gX5_taken_X0_hasWitness rfl rfl rfl hd_X0_hasWitnessv ⟨Nat.le_of_ble_eq_true rfl, Nat.le_of_ble_eq_true rfl⟩) (m_preV (ci := 0) hK hM rfl o42) rfl rfl hl.1 rfl (lv_room (Nat.le_of_ble_eq_true rfl)) dX5_taken_45 ⟨Nat.le_of_ble_eq_true rfl, Nat.le_of_ble_eq_true rfl⟩) hL (fun H locs hM hL => ?_)
        refine lv_if_ne (tgt := 71) hx hb dX5_taken_48 (by decide) (fun c44 => ?_) (fun c44 => ?_)
        · have h := (if_neg c44).symm.trans h
          refine hN71 _ _ _ _ h _ _ _ hM hL (lv_sub hl [1, 2, 3, 0] rfl)
        · have h := (if_pos c44).symm.trans h
          refine lv_goto (tgt := 68) hx hb dX5_taken_51 (by decide) ?_
          refine lv_bipush hx hb dX5_taken_68 kB_m11 ?_
          subst hQ
          have h := Option.some.inj h
          subst h
          exact m_iret hx hb hr hM hL dX5_taken_70 hlocks
    · have h := (if_pos c33).symm.trans h
      refine lv_bipush hx hb dX5_taken_21 kB_m12 ?_
      subst hQ
      have h := Option.some.inj h
      subst h
      exact m_iret hx hb hr hM hL dX5_taken_23 hlocks
  · have h := (if_pos c32).symm.trans h
    refine lv_bipush hx hb dX5_taken_9 kB_m2 ?_
    subst hQ
    have h := Option.some.inj h
    subst h
    exact m_iret hx hb hr hM hL dX5_taken_11 hlocks
