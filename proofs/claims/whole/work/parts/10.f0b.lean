abbrev rm_X0_stoops : Room := { frames := 4, cells := 0, slots := 0, locals := 104 }
set_option maxHeartbeats 4000000 in
set_option maxRecDepth 100000 in
theorem c_X0_stoops (l : Launch) (G : mG) {h0 : Nat} {x1 : Int32} {x2 : Int32} {σ : mS} {z : Int32 × mS} (h : f_X0_stoops h0 x1 x2 σ = some z) : Met l yX0_stoops wsX0_stoops rm_X0_stoops (va_Pc [.ref h0, .int x1, .int x2] (mB G σ)) (mQ G (.returned (some (.int z.1))) z.2) 0 0 (mF G) := by
  refine m_start (cc := cX0_stoops) (maxL := 3) (ret := (some .boolean)) (by decide) rfl [.ref h0, .int x1, .int x2] (Nat.le_of_ble_eq_true rfl) ?_
  intro p e s m args below meth c ls hx hb hr hml hown hts hlocks hnm hK hM hl
  have hown : s.vm.findClass RX0 = some m.cls := hown
  have hnm : meth.name = "stoops" := hnm
  obtain ⟨locs, hlocs⟩ : ∃ l : List Loc, l = [] := ⟨_, rfl⟩
  have hL : mL G locs := by rw [hlocs]; exact mL_nil G
  rw [← hlocs]
  generalize s.heap = H at hM ⊢
  have hl : lv_has ls 3 [(0, .ref h0), (1, .int x1), (2, .int x2)] := hl
  obtain ⟨Q, hQ⟩ : ∃ Q, Q = MQ below (mQ G (.returned (some (.int z.1))) z.2) args s 0 0 (mF G) := ⟨_, rfl⟩
  rw [← hQ]
  have hU0 : ∀ w ∈ wsX00, w.before args s = true := fun w h => hts w (List.mem_cons_of_mem _ (List.mem_append_left _ (List.mem_append_right _ h)))
  have w1 := (hts (.fieldLink RX0 15 "HandkerchiefsDropped$Assize" "keen" "[I") (List.mem_of_getElem? (i := 1) rfl))
  rw [f_X0_stoops.eq_1] at h
  refine lv_aload_n hx hb dX0_stoops_0 rfl (lv_at hl 0 rfl) ?_
  refine m_getR (ci := 0) hx hb hU0 hown hK hM rfl 1 (by decide) w1 h dX0_stoops_1 (fun r6 gr6 h => ?_)
  refine lv_iload_n hx hb dX0_stoops_4 rfl (lv_at hl 1 rfl) ?_
  refine m_iald hx hb hK hM h dX0_stoops_5 (fun v7 gv7 h => ?_)
  refine lv_aload_n hx hb dX0_stoops_6 rfl (lv_at hl 0 rfl) ?_
  refine lv_iload_n hx hb dX0_stoops_7 rfl (lv_at hl 2 rfl) ?_
  refine lv_iload_n hx hb dX0_stoops_8 rfl (lv_at hl 1 rfl) ?_
  obtain ⟨o8, h⟩ := oi_some h
  obtain ⟨q9, hq9, h⟩ := ob_some h
  refine m_calli (va_runV (As := [.int x2, .int x1]) (rest := [.int v7]) ⟨hx, hb, hml, hown, hts⟩ (c_X0_looks l G hq9) (cwV 2 hts gX0_stoops_X0_looks rfl rfl rfl hd_X0_looksv ⟨Nat.le_of_ble_eq_true rfl, Nat.le_of_ble_eq_true rfl⟩) (m_preV (ci := 0) hK hM rfl o8) rfl rfl hl.1 rfl (lv_room (Nat.le_of_ble_eq_true rfl)) dX0_stoops_9 ⟨Nat.le_of_ble_eq_true rfl, Nat.le_of_ble_eq_true rfl⟩) hL (fun H locs hM hL => ?_)
  refine lv_iadd hx hb dX0_stoops_12 ?_
  refine lv_bipush hx hb dX0_stoops_13 kB_100 ?_
  refine lv_icmp_lt (tgt := 22) hx hb dX0_stoops_15 (by decide) (fun c10 => ?_) (fun c10 => ?_)
  · have h := (if_pos c10).symm.trans h
    refine lv_iconst hx hb dX0_stoops_22 kI_0 ?_
    subst hQ
    cases h
    exact m_zret (x := (0 : Int32)) hx hb hr rfl hM hL dX0_stoops_23 hlocks
  · have h := (if_neg c10).symm.trans h
    refine lv_iconst hx hb dX0_stoops_18 kI_1 ?_
    refine lv_goto (tgt := 23) hx hb dX0_stoops_19 (by decide) ?_
    subst hQ
    cases h
    exact m_zret (x := (1 : Int32)) hx hb hr rfl hM hL dX0_stoops_23 hlocks
abbrev rm_X0_stooping : Room := { frames := 5, cells := 0, slots := 0, locals := 126 }
set_option maxHeartbeats 4000000 in
set_option maxRecDepth 100000 in
theorem c_X0_stooping (l : Launch) (G : mG) {h0 : Nat} {x1 : Int32} {σ : mS} {z : Int32 × mS} (h : f_X0_stooping h0 x1 σ = some z) : Met l yX0_stooping wsX0_stooping rm_X0_stooping (va_Pc [.ref h0, .int x1] (mB G σ)) (mQ G (.returned (some (.int z.1))) z.2) 0 0 (mF G) := by
  refine m_start (cc := cX0_stooping) (maxL := 4) (ret := (some .int)) (by decide) rfl [.ref h0, .int x1] (Nat.le_of_ble_eq_true rfl) ?_
  intro p e s m args below meth c ls hx hb hr hml hown hts hlocks hnm hK hM hl
  have hown : s.vm.findClass RX0 = some m.cls := hown
  have hnm : meth.name = "stooping" := hnm
  obtain ⟨locs, hlocs⟩ : ∃ l : List Loc, l = [] := ⟨_, rfl⟩
  have hL : mL G locs := by rw [hlocs]; exact mL_nil G
  rw [← hlocs]
  generalize s.heap = H at hM ⊢
  have hl : lv_has ls 4 [(0, .ref h0), (1, .int x1)] := hl
  obtain ⟨Q, hQ⟩ : ∃ Q, Q = MQ below (mQ G (.returned (some (.int z.1))) z.2) args s 0 0 (mF G) := ⟨_, rfl⟩
  rw [← hQ]
  have hN4 : ∀ (n : Nat) (h0 : Nat) (x1 : Int32) (x2 : Int32) (x3 : Int32) (σ : mS), f_X0_stooping_4 n h0 x1 x2 x3 σ = some z → ∀ (H : Heap) (locs : List Loc) (ls : Array Slot), mP G σ H → mL G locs → lv_has ls 4 [(0, .ref h0), (1, .int x1), (2, .int x2), (3, .int x3)] → W p l e rm_X0_stooping s m args below meth c H locs 0 0 Q (F0 m 4 ls []) := by
    intro n
    induction n with
    | zero =>
      intro h0 x1 x2 x3 σ h
      exact nomatch (show (none : Option (Int32 × mS)) = some z from h)
    | succ n ih =>
      intro h0 x1 x2 x3 σ h H locs ls hM hL hl
      rw [f_X0_stooping_4.eq_2] at h
      refine lv_iload_n hx hb dX0_stooping_4 rfl (lv_at hl 3 rfl) ?_
      refine lv_bipush hx hb dX0_stooping_5 kB_6 ?_
      refine lv_icmp_ge (tgt := 35) hx hb dX0_stooping_7 (by decide) (fun c8 => ?_) (fun c8 => ?_)
      · have h := (if_pos c8).symm.trans h
        refine lv_iload_n hx hb dX0_stooping_35 rfl (lv_at hl 2 rfl) ?_
        subst hQ
        cases h
        exact m_iret hx hb hr hM hL dX0_stooping_36 hlocks
      · have h := (if_neg c8).symm.trans h
        refine lv_iload_n hx hb dX0_stooping_10 rfl (lv_at hl 2 rfl) ?_
        refine lv_aload_n hx hb dX0_stooping_11 rfl (lv_at hl 0 rfl) ?_
        refine lv_iload_n hx hb dX0_stooping_12 rfl (lv_at hl 3 rfl) ?_
        refine lv_iload_n hx hb dX0_stooping_13 rfl (lv_at hl 1 rfl) ?_
        obtain ⟨o9, h⟩ := oi_some h
        obtain ⟨q10, hq10, h⟩ := ob_some h
        refine m_calli (va_runV (As := [.int x3, .int x1]) (rest := [.int x2]) ⟨hx, hb, hml, hown, hts⟩ (c_X0_stoops l G hq10) (cwV 2 hts gX0_stooping_X0_stoops rfl rfl rfl hd_X0_stoopsv ⟨Nat.le_of_ble_eq_true rfl, Nat.le_of_ble_eq_true rfl⟩) (m_preV (ci := 0) hK hM rfl o9) rfl rfl hl.1 rfl (lv_room (Nat.le_of_ble_eq_true rfl)) dX0_stooping_14 ⟨Nat.le_of_ble_eq_true rfl, Nat.le_of_ble_eq_true rfl⟩) hL (fun H locs hM hL => ?_)
        suffices hJ : ∀ (v12 : Int32) (ls : Array Slot), v12 = (if q10.1 = 0 then (0 : Int32) else ((1 : Int32) <<< (x3 &&& 31))) → lv_has ls 4 [(0, .ref h0), (1, .int x1), (3, .int x3)] → W p l e rm_X0_stooping s m args below meth c H locs 0 0 Q (F0 m 27 ls [.int v12, .int x2]) by
          refine lv_if_eq (tgt := 26) hx hb dX0_stooping_17 (by decide) (fun c11 => ?_) (fun c11 => ?_)
          · refine lv_iconst hx hb dX0_stooping_26 kI_0 ?_
            exact hJ _ _ (((if_pos c11).trans rfl).symm) (lv_sub hl [0, 1, 3] rfl)
          · refine lv_iconst hx hb dX0_stooping_20 kI_1 ?_
            refine lv_iload_n hx hb dX0_stooping_21 rfl (lv_at hl 3 rfl) ?_
            refine lv_ishl hx hb dX0_stooping_22 ?_
            refine lv_goto (tgt := 27) hx hb dX0_stooping_23 (by decide) ?_
            exact hJ _ _ (((if_neg c11).trans rfl).symm) (lv_sub hl [0, 1, 3] rfl)
        intro v12 ls ev12 hl
        have h := vl_at ev12 h
        refine lv_ior hx hb dX0_stooping_27 ?_
        refine lv_topi (fun v13 ev13 => ?_)
        have h := vl_at ev13 h
        refine lv_istore_n (lv' := [(2, .int v13), (0, .ref h0), (1, .int x1), (3, .int x3)]) hx hb dX0_stooping_28 rfl hl (by decide) rfl (fun ls hl => ?_)
        obtain ⟨v14, ev14⟩ : ∃ y : Int32, y = x3 + (1 : Int32) := ⟨_, rfl⟩
        have h := vl_at ev14 h
        refine lv_iinc (v := v14) (lv' := [(3, .int v14), (2, .int v13), (0, .ref h0), (1, .int x1)]) hx hb dX0_stooping_29 hl (k := 3) rfl (by rw [ev14, kI_1]) (by decide) rfl (fun ls hl => ?_)
        refine lv_goto (tgt := 4) hx hb dX0_stooping_32 (by decide) ?_
        exact ih _ _ _ _ _ h _ _ _ hM hL (lv_sub hl [2, 3, 1, 0] rfl)
  rw [f_X0_stooping.eq_1] at h
  refine lv_iconst hx hb dX0_stooping_0 kI_0 ?_
  refine lv_istore_n (lv' := [(2, .int (0 : Int32)), (0, .ref h0), (1, .int x1)]) hx hb dX0_stooping_1 rfl hl (by decide) rfl (fun ls hl => ?_)
  refine lv_iconst hx hb dX0_stooping_2 kI_0 ?_
  refine lv_istore_n (lv' := [(3, .int (0 : Int32)), (2, .int (0 : Int32)), (0, .ref h0), (1, .int x1)]) hx hb dX0_stooping_3 rfl hl (by decide) rfl (fun ls hl => ?_)
  refine hN4 _ _ _ _ _ _ h _ _ _ hM hL (lv_sub hl [2, 3, 1, 0] rfl)
abbrev rm_X0_canLetFall : Room := { frames := 1, cells := 0, slots := 0, locals := 22 }
set_option maxHeartbeats 4000000 in
set_option maxRecDepth 100000 in
theorem c_X0_canLetFall (l : Launch) (G : mG) {h0 : Nat} {x1 : Int32} {σ : mS} {z : Int32} (h : f_X0_canLetFall h0 x1 σ = some z) : Met l yX0_canLetFall wsX0_canLetFall rm_X0_canLetFall (va_Pc [.ref h0, .int x1] (mB G σ)) (mQ G (.returned (some (.int z))) (σ)) 0 0 (mF G) := by
  refine m_start (cc := cX0_canLetFall) (maxL := 2) (ret := (some .boolean)) (by decide) rfl [.ref h0, .int x1] (Nat.le_of_ble_eq_true rfl) ?_
  intro p e s m args below meth c ls hx hb hr hml hown hts hlocks hnm hK hM hl
  have hown : s.vm.findClass RX0 = some m.cls := hown
  have hnm : meth.name = "canLetFall" := hnm
  obtain ⟨locs, hlocs⟩ : ∃ l : List Loc, l = [] := ⟨_, rfl⟩
  have hL : mL G locs := by rw [hlocs]; exact mL_nil G
  rw [← hlocs]
  generalize s.heap = H at hM ⊢
  have hl : lv_has ls 2 [(0, .ref h0), (1, .int x1)] := hl
  obtain ⟨Q, hQ⟩ : ∃ Q, Q = MQ below (mQ G (.returned (some (.int z))) (σ)) args s 0 0 (mF G) := ⟨_, rfl⟩
  rw [← hQ]
  have hU0 : ∀ w ∈ wsX00, w.before args s = true := fun w h => hts w (List.mem_cons_of_mem _ (List.mem_append_right _ h))
  have w1 := (hts (.fieldLink RX0 24 "HandkerchiefsDropped$Assize" "known" "[I") (List.mem_of_getElem? (i := 1) rfl))
  rw [f_X0_canLetFall.eq_1] at h
  refine lv_aload_n hx hb dX0_canLetFall_0 rfl (lv_at hl 0 rfl) ?_
  refine m_getR (ci := 0) hx hb hU0 hown hK hM rfl 4 (by decide) w1 h dX0_canLetFall_1 (fun r7 gr7 h => ?_)
  refine lv_iload_n hx hb dX0_canLetFall_4 rfl (lv_at hl 1 rfl) ?_
  refine m_iald hx hb hK hM h dX0_canLetFall_5 (fun v8 gv8 h => ?_)
  refine lv_if_eq (tgt := 22) hx hb dX0_canLetFall_6 (by decide) (fun c9 => ?_) (fun c9 => ?_)
  · have h := (if_pos c9).symm.trans h
    refine lv_iconst hx hb dX0_canLetFall_22 kI_0 ?_
    subst hQ
    cases h
    exact m_zret (x := (0 : Int32)) hx hb hr rfl hM hL dX0_canLetFall_23 hlocks
  · have h := (if_neg c9).symm.trans h
    refine lv_aload_n hx hb dX0_canLetFall_9 rfl (lv_at hl 0 rfl) ?_
    obtain ⟨o10, h⟩ := oi_some h
    obtain ⟨q11, hq11, h⟩ := ob_some h
    refine m_calli (va_runV (As := []) (rest := []) ⟨hx, hb, hml, hown, hts⟩ (c_X0_lying l G hq11) (cwV 0 hts gX0_canLetFall_X0_lying rfl rfl rfl hd_X0_lyingv ⟨Nat.le_of_ble_eq_true rfl, Nat.le_of_ble_eq_true rfl⟩) (m_preV (ci := 0) hK hM rfl o10) rfl rfl hl.1 rfl (lv_room (Nat.le_of_ble_eq_true rfl)) dX0_canLetFall_10 ⟨Nat.le_of_ble_eq_true rfl, Nat.le_of_ble_eq_true rfl⟩) hL (fun H locs hM hL => ?_)
    refine lv_bipush hx hb dX0_canLetFall_13 kB_8 ?_
    refine lv_icmp_ge (tgt := 22) hx hb dX0_canLetFall_15 (by decide) (fun c12 => ?_) (fun c12 => ?_)
    · have h := (if_pos c12).symm.trans h
      refine lv_iconst hx hb dX0_canLetFall_22 kI_0 ?_
      subst hQ
      cases h
      exact m_zret (x := (0 : Int32)) hx hb hr rfl hM hL dX0_canLetFall_23 hlocks
    · have h := (if_neg c12).symm.trans h
      refine lv_iconst hx hb dX0_canLetFall_18 kI_1 ?_
      refine lv_goto (tgt := 23) hx hb dX0_canLetFall_19 (by decide) ?_
      subst hQ
      cases h
      exact m_zret (x := (1 : Int32)) hx hb hr rfl hM hL dX0_canLetFall_23 hlocks
abbrev rm_X0_letFall : Room := { frames := 4, cells := 0, slots := 0, locals := 105 }
set_option maxHeartbeats 4000000 in
set_option maxRecDepth 100000 in
theorem c_X0_letFall (l : Launch) (G : mG) {h0 : Nat} {x1 : Int32} {σ : mS} {z : Int32 × mS} (h : f_X0_letFall h0 x1 σ = some z) : Met l yX0_letFall wsX0_letFall rm_X0_letFall (va_Pc [.ref h0, .int x1] (mB G σ)) (mQ G (.returned (some (.int z.1))) z.2) 0 0 (mF G) := by
  refine m_start (cc := cX0_letFall) (maxL := 5) (ret := (some .int)) (by decide) rfl [.ref h0, .int x1] (Nat.le_of_ble_eq_true rfl) ?_
  intro p e s m args below meth c ls hx hb hr hml hown hts hlocks hnm hK hM hl
  have hown : s.vm.findClass RX0 = some m.cls := hown
  have hnm : meth.name = "letFall" := hnm
  obtain ⟨locs, hlocs⟩ : ∃ l : List Loc, l = [] := ⟨_, rfl⟩
  have hL : mL G locs := by rw [hlocs]; exact mL_nil G
  rw [← hlocs]
  generalize s.heap = H at hM ⊢
  have hl : lv_has ls 5 [(0, .ref h0), (1, .int x1)] := hl
  obtain ⟨Q, hQ⟩ : ∃ Q, Q = MQ below (mQ G (.returned (some (.int z.1))) z.2) args s 0 0 (mF G) := ⟨_, rfl⟩
  rw [← hQ]
  have hU0 : ∀ w ∈ wsX00, w.before args s = true := fun w h => hts w (List.mem_cons_of_mem _ (List.mem_append_left _ (List.mem_append_right _ h)))
  have w1 := (hts (.fieldLink RX0 33 "HandkerchiefsDropped$Assize" "owner" "[I") (List.mem_of_getElem? (i := 1) rfl))
  have w2 := (hts (.fieldLink RX0 36 "HandkerchiefsDropped$Assize" "fact" "[I") (List.mem_of_getElem? (i := 2) rfl))
  have w3 := (hts (.fieldLink RX0 39 "HandkerchiefsDropped$Assize" "left" "[I") (List.mem_of_getElem? (i := 3) rfl))
  have hN15 : ∀ (n : Nat) (h0 : Nat) (x1 : Int32) (x2 : Int32) (x3 : Int32) (x4 : Int32) (σ : mS), f_X0_letFall_15 n h0 x1 x2 x3 x4 σ = some z → ∀ (H : Heap) (locs : List Loc) (ls : Array Slot), mP G σ H → mL G locs → lv_has ls 5 [(0, .ref h0), (1, .int x1), (2, .int x2), (3, .int x3), (4, .int x4)] → W p l e rm_X0_letFall s m args below meth c H locs 0 0 Q (F0 m 15 ls []) := by
    intro n
    induction n with
    | zero =>
      intro h0 x1 x2 x3 x4 σ h
      exact nomatch (show (none : Option (Int32 × mS)) = some z from h)
    | succ n ih =>
      intro h0 x1 x2 x3 x4 σ h H locs ls hM hL hl
      rw [f_X0_letFall_15.eq_2] at h
      refine lv_iload hx hb dX0_letFall_15 (lv_at hl 4 rfl) ?_
      refine lv_bipush hx hb dX0_letFall_17 kB_8 ?_
      refine lv_icmp_ge (tgt := 71) hx hb dX0_letFall_19 (by decide) (fun c17 => ?_) (fun c17 => ?_)
      · have h := (if_pos c17).symm.trans h
        refine lv_iconst hx hb dX0_letFall_71 kI_m1 ?_
        subst hQ
        cases h
        exact m_iret hx hb hr hM hL dX0_letFall_72 hlocks
      · have h := (if_neg c17).symm.trans h
        refine lv_iload_n hx hb dX0_letFall_22 rfl (lv_at hl 2 rfl) ?_
        refine lv_iconst hx hb dX0_letFall_23 kI_m1 ?_
        refine lv_icmp_eq (tgt := 71) hx hb dX0_letFall_24 (by decide) (fun c18 => ?_) (fun c18 => ?_)
        · have h := (if_pos c18).symm.trans h
          refine lv_iconst hx hb dX0_letFall_71 kI_m1 ?_
          subst hQ
          cases h
          exact m_iret hx hb hr hM hL dX0_letFall_72 hlocks
        · have h := (if_neg c18).symm.trans h
          refine lv_aload_n hx hb dX0_letFall_27 rfl (lv_at hl 0 rfl) ?_
          refine m_getR (ci := 0) hx hb hU0 hown hK hM rfl 7 (by decide) w1 h dX0_letFall_28 (fun r19 gr19 h => ?_)
          refine lv_iload hx hb dX0_letFall_31 (lv_at hl 4 rfl) ?_
          refine m_iald hx hb hK hM h dX0_letFall_33 (fun v20 gv20 h => ?_)
          refine lv_iconst hx hb dX0_letFall_34 kI_m1 ?_
          refine lv_icmp_ne (tgt := 65) hx hb dX0_letFall_35 (by decide) (fun c21 => ?_) (fun c21 => ?_)
          · have h := (if_neg c21).symm.trans h
            obtain ⟨v22, ev22⟩ : ∃ y : Int32, y = x4 + (1 : Int32) := ⟨_, rfl⟩
            have h := vl_at ev22 h
            refine lv_iinc (v := v22) (lv' := [(4, .int v22), (0, .ref h0), (1, .int x1), (2, .int x2), (3, .int x3)]) hx hb dX0_letFall_65 hl (k := 4) rfl (by rw [ev22, kI_1]) (by decide) rfl (fun ls hl => ?_)
            refine lv_goto (tgt := 15) hx hb dX0_letFall_68 (by decide) ?_
            exact ih _ _ _ _ _ _ h _ _ _ hM hL (lv_sub hl [1, 2, 3, 4, 0] rfl)
          · have h := (if_pos c21).symm.trans h
            refine lv_aload_n hx hb dX0_letFall_38 rfl (lv_at hl 0 rfl) ?_
            refine m_getR (ci := 0) hx hb hU0 hown hK hM rfl 7 (by decide) w1 h dX0_letFall_39 (fun r23 gr23 h => ?_)
            refine lv_iload hx hb dX0_letFall_42 (lv_at hl 4 rfl) ?_
            refine lv_iload_n hx hb dX0_letFall_44 rfl (lv_at hl 1 rfl) ?_
            refine m_iast hx hb hK hM hL h dX0_letFall_45 (fun t24 H locs h hM hL => ?_)
            refine lv_aload_n hx hb dX0_letFall_46 rfl (lv_at hl 0 rfl) ?_
            refine m_getR (ci := 0) hx hb hU0 hown hK hM rfl 8 (by decide) w2 h dX0_letFall_47 (fun r25 gr25 h => ?_)
            refine lv_iload hx hb dX0_letFall_50 (lv_at hl 4 rfl) ?_
            refine lv_iload_n hx hb dX0_letFall_52 rfl (lv_at hl 2 rfl) ?_
            refine m_iast hx hb hK hM hL h dX0_letFall_53 (fun t26 H locs h hM hL => ?_)
            refine lv_aload_n hx hb dX0_letFall_54 rfl (lv_at hl 0 rfl) ?_
            refine m_getR (ci := 0) hx hb hU0 hown hK hM rfl 9 (by decide) w3 h dX0_letFall_55 (fun r27 gr27 h => ?_)
            refine lv_iload hx hb dX0_letFall_58 (lv_at hl 4 rfl) ?_
            refine lv_iload_n hx hb dX0_letFall_60 rfl (lv_at hl 3 rfl) ?_
            refine m_iast hx hb hK hM hL h dX0_letFall_61 (fun t28 H locs h hM hL => ?_)
            refine lv_iload hx hb dX0_letFall_62 (lv_at hl 4 rfl) ?_
            subst hQ
            cases h
            exact m_iret hx hb hr hM hL dX0_letFall_64 hlocks
  rw [f_X0_letFall.eq_1] at h
  refine lv_aload_n hx hb dX0_letFall_0 rfl (lv_at hl 0 rfl) ?_
  refine lv_iload_n hx hb dX0_letFall_1 rfl (lv_at hl 1 rfl) ?_
  obtain ⟨o29, h⟩ := oi_some h
  obtain ⟨q30, hq30, h⟩ := ob_some h
  refine m_calli (va_runV (As := [.int x1]) (rest := []) ⟨hx, hb, hml, hown, hts⟩ (c_X0_drops l G hq30) (cwV 1 hts gX0_letFall_X0_drops rfl rfl rfl hd_X0_dropsv ⟨Nat.le_of_ble_eq_true rfl, Nat.le_of_ble_eq_true rfl⟩) (m_preV (ci := 0) hK hM rfl o29) rfl rfl hl.1 rfl (lv_room (Nat.le_of_ble_eq_true rfl)) dX0_letFall_2 ⟨Nat.le_of_ble_eq_true rfl, Nat.le_of_ble_eq_true rfl⟩) hL (fun H locs hM hL => ?_)
  refine lv_istore_n (lv' := [(2, .int q30.1), (0, .ref h0), (1, .int x1)]) hx hb dX0_letFall_5 rfl hl (by decide) rfl (fun ls hl => ?_)
  refine lv_aload_n hx hb dX0_letFall_6 rfl (lv_at hl 1 rfl) ?_
  refine lv_iload_n hx hb dX0_letFall_7 rfl (lv_at hl 2 rfl) ?_
  obtain ⟨o31, h⟩ := oi_some h
  obtain ⟨q32, hq32, h⟩ := ob_some h
  refine m_calli (va_runV (As := [.int x1]) (rest := []) ⟨hx, hb, hml, hown, hts⟩ (c_X0_waits l G hq32) (cwV 1 hts gX0_letFall_X0_waits rfl rfl rfl hd_X0_waitsv ⟨Nat.le_of_ble_eq_true rfl, Nat.le_of_ble_eq_true rfl⟩) (m_preV (ci := 0) hK hM rfl o31) rfl rfl hl.1 rfl (lv_room (Nat.le_of_ble_eq_true rfl)) dX0_letFall_8 ⟨Nat.le_of_ble_eq_true rfl, Nat.le_of_ble_eq_true rfl⟩) hL (fun H locs hM hL => ?_)
  refine lv_istore_n (lv' := [(3, .int q32.1), (2, .int q30.1), (0, .ref h0), (1, .int x1)]) hx hb dX0_letFall_11 rfl hl (by decide) rfl (fun ls hl => ?_)
  refine lv_iconst hx hb dX0_letFall_12 kI_0 ?_
  refine lv_istore (lv' := [(4, .int (0 : Int32)), (3, .int q32.1), (2, .int q30.1), (0, .ref h0), (1, .int x1)]) hx hb dX0_letFall_13 hl (by decide) rfl (fun ls hl => ?_)
  refine hN15 _ _ _ _ _ _ _ h _ _ _ hM hL (lv_sub hl [3, 4, 2, 1, 0] rfl)
abbrev rm_X0_fade : Room := { frames := 1, cells := 0, slots := 0, locals := 30 }
set_option maxHeartbeats 4000000 in
set_option maxRecDepth 100000 in
theorem c_X0_fade (l : Launch) (G : mG) {h0 : Nat} {x1 : Int32} {x2 : Int32} {σ : mS} {z : mS} (h : f_X0_fade h0 x1 x2 σ = some z) : Met l yX0_fade wsX0_fade rm_X0_fade (va_Pc [.ref h0, .int x1, .int x2] (mB G σ)) (mQ G (.returned none) z) 0 0 (mF G) := by
  refine m_start (cc := cX0_fade) (maxL := 3) (ret := none) (by decide) rfl [.ref h0, .int x1, .int x2] (Nat.le_of_ble_eq_true rfl) ?_
  intro p e s m args below meth c ls hx hb hr hml hown hts hlocks hnm hK hM hl
  have hown : s.vm.findClass RX0 = some m.cls := hown
  have hnm : meth.name = "fade" := hnm
  obtain ⟨locs, hlocs⟩ : ∃ l : List Loc, l = [] := ⟨_, rfl⟩
  have hL : mL G locs := by rw [hlocs]; exact mL_nil G
  rw [← hlocs]
  generalize s.heap = H at hM ⊢
  have hl : lv_has ls 3 [(0, .ref h0), (1, .int x1), (2, .int x2)] := hl
  obtain ⟨Q, hQ⟩ : ∃ Q, Q = MQ below (mQ G (.returned none) z) args s 0 0 (mF G) := ⟨_, rfl⟩
  rw [← hQ]
  have hU0 : ∀ w ∈ wsX00, w.before args s = true := fun w h => hts w (List.mem_cons_of_mem _ (List.mem_append_right _ h))
  have w1 := (hts (.fieldLink RX0 39 "HandkerchiefsDropped$Assize" "left" "[I") (List.mem_of_getElem? (i := 1) rfl))
  have w2 := (hts (.fieldLink RX0 33 "HandkerchiefsDropped$Assize" "owner" "[I") (List.mem_of_getElem? (i := 2) rfl))
  have w3 := (hts (.fieldLink RX0 30 "HandkerchiefsDropped$Assize" "vain" "[I") (List.mem_of_getElem? (i := 3) rfl))
  have w4 := (hts (.methodLink RX0 127 Lib.Math.min.name) (List.mem_of_getElem? (i := 4) rfl))
  have w5 := (hts (.static Lib.Math.min.name) (List.mem_of_getElem? (i := 5) rfl))
  have w6 := (hts (.initialized "java/lang/Math") (List.mem_of_getElem? (i := 6) rfl))
  have w7 := (hts (.code Lib.Math.min.name Lib.Math.min.code 2 (some .int)) (List.mem_of_getElem? (i := 7) rfl))
  rw [f_X0_fade.eq_1] at h
  refine lv_aload_n hx hb dX0_fade_0 rfl (lv_at hl 0 rfl) ?_
  refine m_getR (ci := 0) hx hb hU0 hown hK hM rfl 9 (by decide) w1 h dX0_fade_1 (fun r13 gr13 h => ?_)
  refine lv_iload_n hx hb dX0_fade_4 rfl (lv_at hl 1 rfl) ?_
  refine lv_dup2_11 hx hb dX0_fade_5 rfl rfl ?_
  refine m_iald hx hb hK hM h dX0_fade_6 (fun v14 gv14 h => ?_)
  refine lv_iconst hx hb dX0_fade_7 kI_1 ?_
  refine lv_isub hx hb dX0_fade_8 ?_
  refine m_iast hx hb hK hM hL h dX0_fade_9 (fun t15 H locs h hM hL => ?_)
  refine lv_aload_n hx hb dX0_fade_10 rfl (lv_at hl 0 rfl) ?_
  refine m_getR (ci := 0) hx hb hU0 hown hK hM rfl 9 (by decide) w1 h dX0_fade_11 (fun r16 gr16 h => ?_)
  refine lv_iload_n hx hb dX0_fade_14 rfl (lv_at hl 1 rfl) ?_
  refine m_iald hx hb hK hM h dX0_fade_15 (fun v17 gv17 h => ?_)
  refine lv_if_ne (tgt := 45) hx hb dX0_fade_16 (by decide) (fun c18 => ?_) (fun c18 => ?_)
  · have h := (if_neg c18).symm.trans h
    subst hQ
    cases h
    exact m_vret hx hb hr hM hL dX0_fade_45 hlocks
  · have h := (if_pos c18).symm.trans h
    refine lv_aload_n hx hb dX0_fade_19 rfl (lv_at hl 0 rfl) ?_
    refine m_getR (ci := 0) hx hb hU0 hown hK hM rfl 7 (by decide) w2 h dX0_fade_20 (fun r19 gr19 h => ?_)
    refine lv_iload_n hx hb dX0_fade_23 rfl (lv_at hl 1 rfl) ?_
    refine lv_iconst hx hb dX0_fade_24 kI_m1 ?_
    refine m_iast hx hb hK hM hL h dX0_fade_25 (fun t20 H locs h hM hL => ?_)
    refine lv_aload_n hx hb dX0_fade_26 rfl (lv_at hl 0 rfl) ?_
    refine m_getR (ci := 0) hx hb hU0 hown hK hM rfl 6 (by decide) w3 h dX0_fade_27 (fun r21 gr21 h => ?_)
    refine lv_iload_n hx hb dX0_fade_30 rfl (lv_at hl 2 rfl) ?_
    refine lv_bipush hx hb dX0_fade_31 kB_99 ?_
    refine lv_aload_n hx hb dX0_fade_33 rfl (lv_at hl 0 rfl) ?_
    refine m_getR (ci := 0) hx hb hU0 hown hK hM rfl 6 (by decide) w3 h dX0_fade_34 (fun r22 gr22 h => ?_)
    refine lv_iload_n hx hb dX0_fade_37 rfl (lv_at hl 2 rfl) ?_
    refine m_iald hx hb hK hM h dX0_fade_38 (fun v23 gv23 h => ?_)
    refine lv_iconst hx hb dX0_fade_39 kI_1 ?_
    refine lv_iadd hx hb dX0_fade_40 ?_
    refine va_mmin hx hb (hml.trans hl.1.symm) hown w4 w5 w6 w7 (Nat.le_of_ble_eq_true rfl) (Nat.le_of_ble_eq_true rfl) (Nat.le_of_ble_eq_true rfl) (Nat.le_of_ble_eq_true rfl) dX0_fade_41 ?_
    refine m_iast hx hb hK hM hL h dX0_fade_44 (fun t24 H locs h hM hL => ?_)
    subst hQ
    cases h
    exact m_vret hx hb hr hM hL dX0_fade_45 hlocks
abbrev rm_X0_passHours : Room := { frames := 4, cells := 0, slots := 0, locals := 104 }
set_option maxHeartbeats 4000000 in
set_option maxRecDepth 100000 in
theorem c_X0_passHours (l : Launch) (G : mG) {h0 : Nat} {x1 : Int32} {σ : mS} {z : Int32 × mS} (h : f_X0_passHours h0 x1 σ = some z) : Met l yX0_passHours wsX0_passHours rm_X0_passHours (va_Pc [.ref h0, .int x1] (mB G σ)) (mQ G (.returned (some (.int z.1))) z.2) 0 0 (mF G) := by
  refine m_start (cc := cX0_passHours) (maxL := 7) (ret := (some .int)) (by decide) rfl [.ref h0, .int x1] (Nat.le_of_ble_eq_true rfl) ?_
  intro p e s m args below meth c ls hx hb hr hml hown hts hlocks hnm hK hM hl
  have hown : s.vm.findClass RX0 = some m.cls := hown
  have hnm : meth.name = "passHours" := hnm
  obtain ⟨locs, hlocs⟩ : ∃ l : List Loc, l = [] := ⟨_, rfl⟩
  have hL : mL G locs := by rw [hlocs]; exact mL_nil G
  rw [← hlocs]
  generalize s.heap = H at hM ⊢
  have hl : lv_has ls 7 [(0, .ref h0), (1, .int x1)] := hl
  obtain ⟨Q, hQ⟩ : ∃ Q, Q = MQ below (mQ G (.returned (some (.int z.1))) z.2) args s 0 0 (mF G) := ⟨_, rfl⟩
  rw [← hQ]
  have hU0 : ∀ w ∈ wsX00, w.before args s = true := fun w h => hts w (List.mem_cons_of_mem _ (List.mem_append_left _ (List.mem_append_right _ h)))
  have w1 := (hts (.fieldLink RX0 65 "HandkerchiefsDropped$Assize" "hour" "I") (List.mem_of_getElem? (i := 1) rfl))
  have w2 := (hts (.fieldLink RX0 33 "HandkerchiefsDropped$Assize" "owner" "[I") (List.mem_of_getElem? (i := 2) rfl))
  have w3 := (hts (.fieldLink RX0 15 "HandkerchiefsDropped$Assize" "keen" "[I") (List.mem_of_getElem? (i := 3) rfl))
  have w4 := (hts (.fieldLink RX0 36 "HandkerchiefsDropped$Assize" "fact" "[I") (List.mem_of_getElem? (i := 4) rfl))
  have w5 := (hts (.fieldLink RX0 61 "HandkerchiefsDropped$Assize" "admitted" "I") (List.mem_of_getElem? (i := 5) rfl))
  have hN105 : ∀ (k21 : Nat → Int32 → Int32 → Int32 → Int32 → Int32 → mS → Option (Int32 × mS)) (hk21 : ∀ (h0 : Nat) (x1 : Int32) (x2 : Int32) (x3 : Int32) (x4 : Int32) (x5 : Int32) (σ : mS), k21 h0 x1 x2 x3 x4 x5 σ = some z → ∀ (H : Heap) (locs : List Loc) (ls : Array Slot), mP G σ H → mL G locs → lv_has ls 7 [(0, .ref h0), (1, .int x1), (2, .int x2), (3, .int x3), (4, .int x4), (5, .int x5)] → W p l e rm_X0_passHours s m args below meth c H locs 0 0 Q (F0 m 21 ls [])) (h0 : Nat) (x1 : Int32) (x2 : Int32) (x3 : Int32) (x4 : Int32) (x5 : Int32) (x6 : Int32) (σ : mS), f_X0_passHours_105 k21 h0 x1 x2 x3 x4 x5 x6 σ = some z → ∀ (H : Heap) (locs : List Loc) (ls : Array Slot), mP G σ H → mL G locs → lv_has ls 7 [(0, .ref h0), (1, .int x1), (2, .int x2), (3, .int x3), (4, .int x4), (5, .int x5), (6, .int x6)] → W p l e rm_X0_passHours s m args below meth c H locs 0 0 Q (F0 m 105 ls []) := by
    intro k21 hk21 h0 x1 x2 x3 x4 x5 x6 σ h H locs ls hM hL hl
    rw [f_X0_passHours_105.eq_1] at h
    refine lv_iload hx hb dX0_passHours_105 (lv_at hl 6 rfl) ?_
    refine lv_iconst hx hb dX0_passHours_107 kI_m1 ?_
    refine lv_icmp_eq (tgt := 119) hx hb dX0_passHours_108 (by decide) (fun c31 => ?_) (fun c31 => ?_)
    · have h := (if_pos c31).symm.trans h
      obtain ⟨v32, ev32⟩ : ∃ y : Int32, y = x5 + (1 : Int32) := ⟨_, rfl⟩
      have h := vl_at ev32 h
      refine lv_iinc (v := v32) (lv' := [(5, .int v32), (0, .ref h0), (1, .int x1), (2, .int x2), (3, .int x3), (4, .int x4), (6, .int x6)]) hx hb dX0_passHours_119 hl (k := 5) rfl (by rw [ev32, kI_1]) (by decide) rfl (fun ls hl => ?_)
      refine lv_goto (tgt := 21) hx hb dX0_passHours_122 (by decide) ?_
      exact hk21 _ _ _ _ _ _ _ h _ _ _ hM hL (lv_sub hl [1, 2, 3, 4, 5, 0] rfl)
    · have h := (if_neg c31).symm.trans h
      refine lv_aload_n hx hb dX0_passHours_111 rfl (lv_at hl 0 rfl) ?_
      refine lv_iload hx hb dX0_passHours_112 (lv_at hl 5 rfl) ?_
      refine lv_iload hx hb dX0_passHours_114 (lv_at hl 6 rfl) ?_
      obtain ⟨o33, h⟩ := oi_some h
      obtain ⟨q34, hq34, h⟩ := ob_some h
      refine m_callv (va_runV (As := [.int x5, .int x6]) (rest := []) ⟨hx, hb, hml, hown, hts⟩ (c_X0_fade l G hq34) (cwV 2 hts gX0_passHours_X0_fade rfl rfl rfl hd_X0_fadev ⟨Nat.le_of_ble_eq_true rfl, Nat.le_of_ble_eq_true rfl⟩) (m_preV (ci := 0) hK hM rfl o33) rfl rfl hl.1 rfl (lv_room (Nat.le_of_ble_eq_true rfl)) dX0_passHours_116 ⟨Nat.le_of_ble_eq_true rfl, Nat.le_of_ble_eq_true rfl⟩) hL (fun H locs hM hL => ?_)
      obtain ⟨v35, ev35⟩ : ∃ y : Int32, y = x5 + (1 : Int32) := ⟨_, rfl⟩
      have h := vl_at ev35 h
      refine lv_iinc (v := v35) (lv' := [(5, .int v35), (0, .ref h0), (1, .int x1), (2, .int x2), (3, .int x3), (4, .int x4), (6, .int x6)]) hx hb dX0_passHours_119 hl (k := 5) rfl (by rw [ev35, kI_1]) (by decide) rfl (fun ls hl => ?_)
      refine lv_goto (tgt := 21) hx hb dX0_passHours_122 (by decide) ?_
      exact hk21 _ _ _ _ _ _ _ h _ _ _ hM hL (lv_sub hl [1, 2, 3, 4, 5, 0] rfl)
  have hN21 : ∀ (k4 : Nat → Int32 → Int32 → Int32 → mS → Option (Int32 × mS)) (hk4 : ∀ (h0 : Nat) (x1 : Int32) (x2 : Int32) (x3 : Int32) (σ : mS), k4 h0 x1 x2 x3 σ = some z → ∀ (H : Heap) (locs : List Loc) (ls : Array Slot), mP G σ H → mL G locs → lv_has ls 7 [(0, .ref h0), (1, .int x1), (2, .int x2), (3, .int x3)] → W p l e rm_X0_passHours s m args below meth c H locs 0 0 Q (F0 m 4 ls [])) (n : Nat) (h0 : Nat) (x1 : Int32) (x2 : Int32) (x3 : Int32) (x4 : Int32) (x5 : Int32) (σ : mS), f_X0_passHours_21 k4 n h0 x1 x2 x3 x4 x5 σ = some z → ∀ (H : Heap) (locs : List Loc) (ls : Array Slot), mP G σ H → mL G locs → lv_has ls 7 [(0, .ref h0), (1, .int x1), (2, .int x2), (3, .int x3), (4, .int x4), (5, .int x5)] → W p l e rm_X0_passHours s m args below meth c H locs 0 0 Q (F0 m 21 ls []) := by
    intro k4 hk4 n
    induction n with
    | zero =>
      intro h0 x1 x2 x3 x4 x5 σ h
      exact nomatch (show (none : Option (Int32 × mS)) = some z from h)
    | succ n ih =>
      intro h0 x1 x2 x3 x4 x5 σ h H locs ls hM hL hl
      rw [f_X0_passHours_21.eq_2] at h
      refine lv_iload hx hb dX0_passHours_21 (lv_at hl 5 rfl) ?_
      refine lv_bipush hx hb dX0_passHours_23 kB_8 ?_
      refine lv_icmp_ge (tgt := 125) hx hb dX0_passHours_25 (by decide) (fun c36 => ?_) (fun c36 => ?_)
      · have h := (if_pos c36).symm.trans h
        refine lv_aload_n hx hb dX0_passHours_125 rfl (lv_at hl 0 rfl) ?_
        refine lv_dup hx hb dX0_passHours_126 rfl ?_
        refine m_getI (ci := 0) hx hb hU0 hown hK hM rfl 12 (by decide) w1 h dX0_passHours_127 (fun v37 gv37 h => ?_)
        refine lv_iconst hx hb dX0_passHours_130 kI_1 ?_
        refine lv_iadd hx hb dX0_passHours_131 ?_
        refine m_put (ci := 0) hx hb hU0 tyX0 tyX0_ok nmX0 hown hK hM hL rfl 12 (by decide) w1 rfl rfl rfl h dX0_passHours_132 (fun t38 H locs h hM hL => ?_)
        obtain ⟨v39, ev39⟩ : ∃ y : Int32, y = x3 + (1 : Int32) := ⟨_, rfl⟩
        have h := vl_at ev39 h
        refine lv_iinc (v := v39) (lv' := [(3, .int v39), (0, .ref h0), (1, .int x1), (2, .int x2), (4, .int x4), (5, .int x5)]) hx hb dX0_passHours_135 hl (k := 3) rfl (by rw [ev39, kI_1]) (by decide) rfl (fun ls hl => ?_)
        refine lv_goto (tgt := 4) hx hb dX0_passHours_138 (by decide) ?_
        exact hk4 _ _ _ _ _ h _ _ _ hM hL (lv_sub hl [1, 2, 3, 0] rfl)
      · have h := (if_neg c36).symm.trans h
        refine lv_aload_n hx hb dX0_passHours_28 rfl (lv_at hl 0 rfl) ?_
        refine m_getR (ci := 0) hx hb hU0 hown hK hM rfl 7 (by decide) w2 h dX0_passHours_29 (fun r40 gr40 h => ?_)
        refine lv_iload hx hb dX0_passHours_32 (lv_at hl 5 rfl) ?_
        refine m_iald hx hb hK hM h dX0_passHours_34 (fun v41 gv41 h => ?_)
        refine lv_istore (lv' := [(6, .int v41), (0, .ref h0), (1, .int x1), (2, .int x2), (3, .int x3), (4, .int x4), (5, .int x5)]) hx hb dX0_passHours_35 hl (by decide) rfl (fun ls hl => ?_)
        refine lv_iload hx hb dX0_passHours_37 (lv_at hl 0 rfl) ?_
        refine lv_iconst hx hb dX0_passHours_39 kI_m1 ?_
        refine lv_icmp_eq (tgt := 105) hx hb dX0_passHours_40 (by decide) (fun c42 => ?_) (fun c42 => ?_)
        · have h := (if_pos c42).symm.trans h
          refine hN105 _ (fun _ _ _ _ _ _ _ h H locs ls hM hL hl => ih _ _ _ _ _ _ _ h H locs ls hM hL hl) _ _ _ _ _ _ _ _ h _ _ _ hM hL (lv_sub hl [1, 2, 3, 4, 5, 6, 0] rfl)
        · have h := (if_neg c42).symm.trans h
          refine lv_aload_n hx hb dX0_passHours_43 rfl (lv_at hl 1 rfl) ?_
          refine m_getR (ci := 0) hx hb hU0 hown hK hM rfl 1 (by decide) w3 h dX0_passHours_44 (fun r43 gr43 h => ?_)
          refine lv_iload hx hb dX0_passHours_47 (lv_at hl 5 rfl) ?_
          refine m_iald hx hb hK hM h dX0_passHours_49 (fun v44 gv44 h => ?_)
          refine lv_aload_n hx hb dX0_passHours_50 rfl (lv_at hl 1 rfl) ?_
          refine lv_iload hx hb dX0_passHours_51 (lv_at hl 0 rfl) ?_
          refine lv_iload hx hb dX0_passHours_53 (lv_at hl 5 rfl) ?_
          obtain ⟨o45, h⟩ := oi_some h
          obtain ⟨q46, hq46, h⟩ := ob_some h
          refine m_calli (va_runV (As := [.int v41, .int x4]) (rest := [.int v44]) ⟨hx, hb, hml, hown, hts⟩ (c_X0_looks l G hq46) (cwV 2 hts gX0_passHours_X0_looks rfl rfl rfl hd_X0_looksv ⟨Nat.le_of_ble_eq_true rfl, Nat.le_of_ble_eq_true rfl⟩) (m_preV (ci := 0) hK hM rfl o45) rfl rfl hl.1 rfl (lv_room (Nat.le_of_ble_eq_true rfl)) dX0_passHours_55 ⟨Nat.le_of_ble_eq_true rfl, Nat.le_of_ble_eq_true rfl⟩) hL (fun H locs hM hL => ?_)
          refine lv_iadd hx hb dX0_passHours_58 ?_
          refine lv_bipush hx hb dX0_passHours_59 kB_100 ?_
          refine lv_icmp_lt (tgt := 105) hx hb dX0_passHours_61 (by decide) (fun c47 => ?_) (fun c47 => ?_)
          · have h := (if_pos c47).symm.trans h
            refine hN105 _ (fun _ _ _ _ _ _ _ h H locs ls hM hL hl => ih _ _ _ _ _ _ _ h H locs ls hM hL hl) _ _ _ _ _ _ _ _ h _ _ _ hM hL (lv_sub hl [1, 2, 3, 4, 5, 6, 0] rfl)
          · have h := (if_neg c47).symm.trans h
            refine lv_iload_n hx hb dX0_passHours_64 rfl (lv_at hl 3 rfl) ?_
            refine lv_iconst hx hb dX0_passHours_65 kI_1 ?_
            refine lv_aload_n hx hb dX0_passHours_66 rfl (lv_at hl 1 rfl) ?_
            refine m_getR (ci := 0) hx hb hU0 hown hK hM rfl 8 (by decide) w4 h dX0_passHours_67 (fun r48 gr48 h => ?_)
            refine lv_iload hx hb dX0_passHours_70 (lv_at hl 6 rfl) ?_
            refine m_iald hx hb hK hM h dX0_passHours_72 (fun v49 gv49 h => ?_)
            refine lv_ishl hx hb dX0_passHours_73 ?_
            refine lv_ior hx hb dX0_passHours_74 ?_
            refine lv_topi (fun v50 ev50 => ?_)
            have h := vl_at ev50 h
            refine lv_istore_n (lv' := [(2, .int v50), (6, .int v41), (0, .ref h0), (1, .int x1), (3, .int x3), (4, .int x4), (5, .int x5)]) hx hb dX0_passHours_75 rfl hl (by decide) rfl (fun ls hl => ?_)
            refine lv_aload_n hx hb dX0_passHours_76 rfl (lv_at hl 2 rfl) ?_
            refine lv_dup hx hb dX0_passHours_77 rfl ?_
            refine m_getI (ci := 0) hx hb hU0 hown hK hM rfl 11 (by decide) w5 h dX0_passHours_78 (fun v51 gv51 h => ?_)
            refine lv_iconst hx hb dX0_passHours_81 kI_1 ?_
            refine lv_aload_n hx hb dX0_passHours_82 rfl (lv_at hl 2 rfl) ?_
            refine m_getR (ci := 0) hx hb hU0 hown hK hM rfl 8 (by decide) w4 h dX0_passHours_83 (fun r52 gr52 h => ?_)
            refine lv_iload hx hb dX0_passHours_86 (lv_at hl 6 rfl) ?_
            refine m_iald hx hb hK hM h dX0_passHours_88 (fun v53 gv53 h => ?_)
            refine lv_ishl hx hb dX0_passHours_89 ?_
            refine lv_ior hx hb dX0_passHours_90 ?_
            refine m_put (ci := 0) hx hb hU0 tyX0 tyX0_ok nmX0 hown hK hM hL rfl 11 (by decide) w5 rfl rfl rfl h dX0_passHours_91 (fun t54 H locs h hM hL => ?_)
            refine lv_aload_n hx hb dX0_passHours_94 rfl (lv_at hl 2 rfl) ?_
            refine m_getR (ci := 0) hx hb hU0 hown hK hM rfl 7 (by decide) w2 h dX0_passHours_95 (fun r55 gr55 h => ?_)
            refine lv_iload hx hb dX0_passHours_98 (lv_at hl 6 rfl) ?_
            refine lv_iconst hx hb dX0_passHours_100 kI_m1 ?_
            refine m_iast hx hb hK hM hL h dX0_passHours_101 (fun t56 H locs h hM hL => ?_)
            refine lv_goto (tgt := 119) hx hb dX0_passHours_102 (by decide) ?_
            obtain ⟨v57, ev57⟩ : ∃ y : Int32, y = x5 + (1 : Int32) := ⟨_, rfl⟩
            have h := vl_at ev57 h
            refine lv_iinc (v := v57) (lv' := [(5, .int v57), (2, .int v50), (6, .int v41), (0, .ref h0), (1, .int x1), (3, .int x3), (4, .int x4)]) hx hb dX0_passHours_119 hl (k := 6) rfl (by rw [ev57, kI_1]) (by decide) rfl (fun ls hl => ?_)
            refine lv_goto (tgt := 21) hx hb dX0_passHours_122 (by decide) ?_
            exact ih _ _ _ _ _ _ _ h _ _ _ hM hL (lv_sub hl [3, 4, 1, 5, 6, 0] rfl)
  have hN4 : ∀ (n : Nat) (h0 : Nat) (x1 : Int32) (x2 : Int32) (x3 : Int32) (σ : mS), f_X0_passHours_4 n h0 x1 x2 x3 σ = some z → ∀ (H : Heap) (locs : List Loc) (ls : Array Slot), mP G σ H → mL G locs → lv_has ls 7 [(0, .ref h0), (1, .int x1), (2, .int x2), (3, .int x3)] → W p l e rm_X0_passHours s m args below meth c H locs 0 0 Q (F0 m 4 ls []) := by
    intro n
    induction n with
    | zero =>
      intro h0 x1 x2 x3 σ h
      exact nomatch (show (none : Option (Int32 × mS)) = some z from h)
    | succ n ih =>
      intro h0 x1 x2 x3 σ h H locs ls hM hL hl
      rw [f_X0_passHours_4.eq_2] at h
      refine lv_iload_n hx hb dX0_passHours_4 rfl (lv_at hl 3 rfl) ?_
      refine lv_iload_n hx hb dX0_passHours_5 rfl (lv_at hl 1 rfl) ?_
      refine lv_icmp_ge (tgt := 141) hx hb dX0_passHours_6 (by decide) (fun c58 => ?_) (fun c58 => ?_)
      · have h := (if_pos c58).symm.trans h
        refine lv_iload_n hx hb dX0_passHours_141 rfl (lv_at hl 2 rfl) ?_
        subst hQ
        cases h
        exact m_iret hx hb hr hM hL dX0_passHours_142 hlocks
      · have h := (if_neg c58).symm.trans h
        refine lv_aload_n hx hb dX0_passHours_9 rfl (lv_at hl 0 rfl) ?_
        refine m_getI (ci := 0) hx hb hU0 hown hK hM rfl 12 (by decide) w1 h dX0_passHours_10 (fun v59 gv59 h => ?_)
        refine lv_bipush hx hb dX0_passHours_13 kB_6 ?_
        refine lv_irem hx hb dX0_passHours_15 (by decide) ?_
        refine lv_topi (fun v60 ev60 => ?_)
        have h := vl_at ev60 h
        refine lv_istore (lv' := [(4, .int v60), (0, .ref h0), (1, .int x1), (2, .int x2), (3, .int x3)]) hx hb dX0_passHours_16 hl (by decide) rfl (fun ls hl => ?_)
        refine lv_iconst hx hb dX0_passHours_18 kI_0 ?_
        refine lv_istore (lv' := [(5, .int (0 : Int32)), (4, .int v60), (0, .ref h0), (1, .int x1), (2, .int x2), (3, .int x3)]) hx hb dX0_passHours_19 hl (by decide) rfl (fun ls hl => ?_)
        refine hN21 _ (fun _ _ _ _ _ h H locs ls hM hL hl => ih _ _ _ _ _ h H locs ls hM hL hl) _ _ _ _ _ _ _ _ h _ _ _ hM hL (lv_sub hl [2, 3, 4, 5, 1, 0] rfl)
  rw [f_X0_passHours.eq_1] at h
  refine lv_iconst hx hb dX0_passHours_0 kI_0 ?_
  refine lv_istore_n (lv' := [(2, .int (0 : Int32)), (0, .ref h0), (1, .int x1)]) hx hb dX0_passHours_1 rfl hl (by decide) rfl (fun ls hl => ?_)
  refine lv_iconst hx hb dX0_passHours_2 kI_0 ?_
  refine lv_istore_n (lv' := [(3, .int (0 : Int32)), (2, .int (0 : Int32)), (0, .ref h0), (1, .int x1)]) hx hb dX0_passHours_3 rfl hl (by decide) rfl (fun ls hl => ?_)
  refine hN4 _ _ _ _ _ _ h _ _ _ hM hL (lv_sub hl [2, 3, 1, 0] rfl)
abbrev rm_X1_isOne : Room := { frames := 0, cells := 0, slots := 0, locals := 0 }
theorem z_X1_isOne (x0 x1 : Int32) : narrow .boolean (.int (f_X1_isOne x0 x1)) = .int (f_X1_isOne x0 x1) := by
  rw [f_X1_isOne.eq_1]
  try dsimp only [vl]
  (repeat' split) <;> first | rfl | apply z_X5_isBelow
set_option maxHeartbeats 4000000 in
set_option maxRecDepth 100000 in
theorem c_X1_isOne (l : Launch) (G : mG) (x0 : Int32) (x1 : Int32) {σ : mS} : Met l yX1_isOne wsX1_isOne rm_X1_isOne (va_Pc [.int x0, .int x1] (mB G σ)) (mQ G (.returned (some (.int (f_X1_isOne x0 x1)))) (σ)) 0 0 (mF G) := by
  obtain ⟨z, h⟩ : ∃ z, f_X1_isOne x0 x1 = z := ⟨_, rfl⟩
  rw [h]
  refine m_start (cc := cX1_isOne) (maxL := 3) (ret := (some .boolean)) (by decide) rfl [.int x0, .int x1] (Nat.le_of_ble_eq_true rfl) ?_
  intro p e s m args below meth c ls hx hb hr hml hown hts hlocks hnm hK hM hl
  have hown : s.vm.findClass RX1 = some m.cls := hown
  have hnm : meth.name = "isOne" := hnm
  obtain ⟨locs, hlocs⟩ : ∃ l : List Loc, l = [] := ⟨_, rfl⟩
  have hL : mL G locs := by rw [hlocs]; exact mL_nil G
  rw [← hlocs]
  generalize s.heap = H at hM ⊢
  have hl : lv_has ls 3 [(0, .int x0), (1, .int x1)] := hl
  obtain ⟨Q, hQ⟩ : ∃ Q, Q = MQ below (mQ G (.returned (some (.int z))) (σ)) args s 0 0 (mF G) := ⟨_, rfl⟩
  rw [← hQ]
  rw [f_X1_isOne.eq_1] at h
  refine lv_iload_n hx hb dX1_isOne_0 rfl (lv_at hl 0 rfl) ?_
  refine lv_iconst hx hb dX1_isOne_1 kI_3 ?_
  suffices hJ : ∀ (v9 : Int32) (ls : Array Slot), v9 = (if x0 = (3 : Int32) then (1 : Int32) else if x0 = (4 : Int32) then (2 : Int32) else (0 : Int32)) → lv_has ls 3 [(0, .int x0), (1, .int x1)] → W p l e rm_X1_isOne s m args below meth c H locs 0 0 Q (F0 m 19 ls [.int v9]) by
    refine lv_icmp_ne (tgt := 9) hx hb dX1_isOne_2 (by decide) (fun c7 => ?_) (fun c7 => ?_)
    · refine lv_iload_n hx hb dX1_isOne_9 rfl (lv_at hl 0 rfl) ?_
      refine lv_iconst hx hb dX1_isOne_10 kI_4 ?_
      refine lv_icmp_ne (tgt := 18) hx hb dX1_isOne_11 (by decide) (fun c8 => ?_) (fun c8 => ?_)
      · refine lv_iconst hx hb dX1_isOne_18 kI_0 ?_
        exact hJ _ _ (((if_neg c7).trans ((if_neg c8).trans rfl)).symm) (lv_sub hl [0, 1] rfl)
      · refine lv_iconst hx hb dX1_isOne_14 kI_2 ?_
        refine lv_goto (tgt := 19) hx hb dX1_isOne_15 (by decide) ?_
        exact hJ _ _ (((if_neg c7).trans ((if_pos c8).trans rfl)).symm) (lv_sub hl [0, 1] rfl)
    · refine lv_iconst hx hb dX1_isOne_5 kI_1 ?_
      refine lv_goto (tgt := 19) hx hb dX1_isOne_6 (by decide) ?_
      exact hJ _ _ (((if_pos c7).trans rfl).symm) (lv_sub hl [0, 1] rfl)
  intro v9 ls ev9 hl
  have h := vl_at ev9 h
  refine lv_istore_n (lv' := [(2, .int v9), (0, .int x0), (1, .int x1)]) hx hb dX1_isOne_19 rfl hl (by decide) rfl (fun ls hl => ?_)
  refine lv_iload_n hx hb dX1_isOne_20 rfl (lv_at hl 1 rfl) ?_
  refine lv_iload_n hx hb dX1_isOne_21 rfl (lv_at hl 2 rfl) ?_
  refine lv_icmp_eq (tgt := 34) hx hb dX1_isOne_22 (by decide) (fun c10 => ?_) (fun c10 => ?_)
  · have h := (if_pos c10).symm.trans h
    refine lv_iconst hx hb dX1_isOne_34 kI_1 ?_
    refine lv_goto (tgt := 39) hx hb dX1_isOne_35 (by decide) ?_
    subst hQ
    subst h
    exact m_zret (x := (1 : Int32)) hx hb hr rfl hM hL dX1_isOne_39 hlocks
  · have h := (if_neg c10).symm.trans h
    refine lv_iload_n hx hb dX1_isOne_25 rfl (lv_at hl 0 rfl) ?_
    refine lv_iload_n hx hb dX1_isOne_26 rfl (lv_at hl 2 rfl) ?_
    refine lv_icmp_eq (tgt := 34) hx hb dX1_isOne_27 (by decide) (fun c11 => ?_) (fun c11 => ?_)
    · have h := (if_pos c11).symm.trans h
      refine lv_iconst hx hb dX1_isOne_34 kI_1 ?_
      refine lv_goto (tgt := 39) hx hb dX1_isOne_35 (by decide) ?_
      subst hQ
      subst h
      exact m_zret (x := (1 : Int32)) hx hb hr rfl hM hL dX1_isOne_39 hlocks
    · have h := (if_neg c11).symm.trans h
      refine lv_iload_n hx hb dX1_isOne_30 rfl (lv_at hl 2 rfl) ?_
      refine lv_if_ne (tgt := 38) hx hb dX1_isOne_31 (by decide) (fun c12 => ?_) (fun c12 => ?_)
      · have h := (if_neg c12).symm.trans h
        refine lv_iconst hx hb dX1_isOne_38 kI_0 ?_
        subst hQ
        subst h
        exact m_zret (x := (0 : Int32)) hx hb hr rfl hM hL dX1_isOne_39 hlocks
      · have h := (if_pos c12).symm.trans h
        refine lv_iconst hx hb dX1_isOne_34 kI_1 ?_
        refine lv_goto (tgt := 39) hx hb dX1_isOne_35 (by decide) ?_
        subst hQ
        subst h
        exact m_zret (x := (1 : Int32)) hx hb hr rfl hM hL dX1_isOne_39 hlocks
abbrev rm_X2_init : Room := { frames := 1, cells := 0, slots := 0, locals := 30 }
set_option maxHeartbeats 4000000 in
set_option maxRecDepth 100000 in
theorem c_X2_init (l : Launch) (G : mG) {h0 : Nat} {x1 : Int32} {h2 : Nat} {x3 : Int32} {x4 : Int32} {σ : mS} {z : mS} (h : f_X2_init h0 x1 h2 x3 x4 σ = some z) : Met l yX2_init wsX2_init rm_X2_init (va_Pc [.ref h0, .int x1, .ref h2, .int x3, .int x4] (mB G σ)) (mQ G (.returned none) z) 0 0 (mF G) := by
  refine m_start (cc := cX2_init) (maxL := 5) (ret := none) (by decide) rfl [.ref h0, .int x1, .ref h2, .int x3, .int x4] (Nat.le_of_ble_eq_true rfl) ?_
  intro p e s m args below meth c ls hx hb hr hml hown hts hlocks hnm hK hM hl
  have hown : s.vm.findClass RX2 = some m.cls := hown
  have hnm : meth.name = "<init>" := hnm
  obtain ⟨locs, hlocs⟩ : ∃ l : List Loc, l = [] := ⟨_, rfl⟩
  have hL : mL G locs := by rw [hlocs]; exact mL_nil G
  rw [← hlocs]
  generalize s.heap = H at hM ⊢
  have hl : lv_has ls 5 [(0, .ref h0), (1, .int x1), (2, .ref h2), (3, .int x3), (4, .int x4)] := hl
  obtain ⟨Q, hQ⟩ : ∃ Q, Q = MQ below (mQ G (.returned none) z) args s 0 0 (mF G) := ⟨_, rfl⟩
  rw [← hQ]
  have w0 := (hts (.methodLink RX2 3 objectInit) (List.mem_of_getElem? (i := 1) rfl))
  have w1 := (hts (.instanceMethod objectInit) (List.mem_of_getElem? (i := 2) rfl))
  have w2 := (hts (.code objectInit ⟨#[0xb1]⟩ 1 none) (List.mem_of_getElem? (i := 3) rfl))
  have hU2 : ∀ w ∈ wsX20, w.before args s = true := fun w h => hts w (List.mem_cons_of_mem _ (List.mem_append_right _ h))
  have w4 := (hts (.fieldLink RX2 9 "HandkerchiefsDropped$Law" "number" "I") (List.mem_of_getElem? (i := 4) rfl))
  have w5 := (hts (.fieldLink RX2 15 "HandkerchiefsDropped$Law" "code" "[I") (List.mem_of_getElem? (i := 5) rfl))
  have w6 := (hts (.fieldLink RX2 19 "HandkerchiefsDropped$Law" "waitsAt" "I") (List.mem_of_getElem? (i := 6) rfl))
  have w7 := (hts (.fieldLink RX2 22 "HandkerchiefsDropped$Law" "dropsAt" "I") (List.mem_of_getElem? (i := 7) rfl))
  rw [f_X2_init.eq_1] at h
  refine lv_aload_n hx hb dX2_init_0 rfl (lv_at hl 0 rfl) ?_
  refine W.objInit hx hb hown w0 w1 w2 rfl (by rw [hml]; exact hl.1) rfl dX2_init_1 (Nat.le_of_ble_eq_true rfl) (Nat.le_of_ble_eq_true rfl) ?_
  refine W.eq (g2 := F0 m 4 ls []) rfl ?_
  refine lv_aload_n hx hb dX2_init_4 rfl (lv_at hl 0 rfl) ?_
  refine lv_iload_n hx hb dX2_init_5 rfl (lv_at hl 1 rfl) ?_
  refine m_putF (ci := 1) hx hb hU2 tyX2 tyX2_ok nmX2 hown hK hM hL rfl 0 (by decide) w4 rfl hnm rfl rfl rfl h dX2_init_6 (fun t5 H locs h hM hL => ?_)
  refine lv_aload_n hx hb dX2_init_9 rfl (lv_at hl 0 rfl) ?_
  refine lv_aload_n hx hb dX2_init_10 rfl (lv_at hl 2 rfl) ?_
  refine m_putF (ci := 1) hx hb hU2 tyX2 tyX2_ok nmX2 hown hK hM hL rfl 1 (by decide) w5 rfl hnm rfl rfl rfl h dX2_init_11 (fun t6 H locs h hM hL => ?_)
  refine lv_aload_n hx hb dX2_init_14 rfl (lv_at hl 0 rfl) ?_
  refine lv_iload_n hx hb dX2_init_15 rfl (lv_at hl 3 rfl) ?_
  refine m_putF (ci := 1) hx hb hU2 tyX2 tyX2_ok nmX2 hown hK hM hL rfl 2 (by decide) w6 rfl hnm rfl rfl rfl h dX2_init_16 (fun t7 H locs h hM hL => ?_)
  refine lv_aload_n hx hb dX2_init_19 rfl (lv_at hl 0 rfl) ?_
  refine lv_iload hx hb dX2_init_20 (lv_at hl 4 rfl) ?_
  refine m_putF (ci := 1) hx hb hU2 tyX2 tyX2_ok nmX2 hown hK hM hL rfl 3 (by decide) w7 rfl hnm rfl rfl rfl h dX2_init_22 (fun t8 H locs h hM hL => ?_)
  subst hQ
  cases h
  exact m_vret hx hb hr hM hL dX2_init_25 hlocks
abbrev rm_X3_init : Room := { frames := 1, cells := 1, slots := 40, locals := 30 }
set_option maxHeartbeats 4000000 in
set_option maxRecDepth 100000 in
theorem c_X3_init (l : Launch) (G : mG) {h0 : Nat} {σ : mS} {z : mS} (h : f_X3_init h0 σ = some z) : Met l yX3_init wsX3_init rm_X3_init (va_Pc [.ref h0] (mB G σ)) (mQ G (.returned none) z) 1 40 (mF G) := by
  refine m_start (cc := cX3_init) (maxL := 1) (ret := none) (by decide) rfl [.ref h0] (Nat.le_of_ble_eq_true rfl) ?_
  intro p e s m args below meth c ls hx hb hr hml hown hts hlocks hnm hK hM hl
  have hown : s.vm.findClass RX3 = some m.cls := hown
  have hnm : meth.name = "<init>" := hnm
  obtain ⟨locs, hlocs⟩ : ∃ l : List Loc, l = [] := ⟨_, rfl⟩
  have hL : mL G locs := by rw [hlocs]; exact mL_nil G
  rw [← hlocs]
  generalize s.heap = H at hM ⊢
  have hl : lv_has ls 1 [(0, .ref h0)] := hl
  obtain ⟨Q, hQ⟩ : ∃ Q, Q = MQ below (mQ G (.returned none) z) args s 1 40 (mF G) := ⟨_, rfl⟩
  rw [← hQ]
  have w0 := (hts (.methodLink RX3 3 objectInit) (List.mem_of_getElem? (i := 1) rfl))
  have w1 := (hts (.instanceMethod objectInit) (List.mem_of_getElem? (i := 2) rfl))
  have w2 := (hts (.code objectInit ⟨#[0xb1]⟩ 1 none) (List.mem_of_getElem? (i := 3) rfl))
  have w3 := (hts (.arrayClass .int) (List.mem_of_getElem? (i := 4) rfl))
  have hU3 : ∀ w ∈ wsX30, w.before args s = true := fun w h => hts w (List.mem_cons_of_mem _ (List.mem_append_right _ h))
  have w5 := (hts (.fieldLink RX3 9 "HandkerchiefsDropped$Sheet" "cells" "[I") (List.mem_of_getElem? (i := 5) rfl))
  have w6 := (hts (.fieldLink RX3 15 "HandkerchiefsDropped$Sheet" "sort" "I") (List.mem_of_getElem? (i := 6) rfl))
  rw [f_X3_init.eq_1] at h
  refine lv_aload_n hx hb dX3_init_0 rfl (lv_at hl 0 rfl) ?_
  refine W.objInit hx hb hown w0 w1 w2 rfl (by rw [hml]; exact hl.1) rfl dX3_init_1 (Nat.le_of_ble_eq_true rfl) (Nat.le_of_ble_eq_true rfl) ?_
  refine W.eq (g2 := F0 m 4 ls []) rfl ?_
  refine lv_aload_n hx hb dX3_init_4 rfl (lv_at hl 0 rfl) ?_
  refine lv_bipush hx hb dX3_init_5 kB_40 ?_
  refine m_newa (N' := 40) hx hb w3 hK hM (by decide) (by decide) (by decide) (Nat.le_of_ble_eq_true rfl) (Nat.le_of_ble_eq_true rfl) dX3_init_7 (fun H hM => ?_)
  obtain ⟨t5, et5⟩ : ∃ t, t = nI_ (σ) 40 := ⟨_, rfl⟩
  have h := vl_at et5 h
  have hM : mP G t5 H := by rw [et5]; exact hM
  obtain ⟨r6, er6⟩ : ∃ r : Nat, r = (σ).1 := ⟨_, rfl⟩
  have h := vl_at er6 h
  rw [← er6]
  refine m_putF (ci := 2) hx hb hU3 tyX3 tyX3_ok nmX3 hown hK hM hL rfl 0 (by decide) w5 rfl hnm rfl rfl rfl h dX3_init_9 (fun t7 H locs h hM hL => ?_)
  refine lv_aload_n hx hb dX3_init_12 rfl (lv_at hl 0 rfl) ?_
  refine lv_iconst hx hb dX3_init_13 kI_m1 ?_
  refine m_put (ci := 2) hx hb hU3 tyX3 tyX3_ok nmX3 hown hK hM hL rfl 1 (by decide) w6 rfl rfl rfl h dX3_init_14 (fun t8 H locs h hM hL => ?_)
  subst hQ
  cases h
  exact m_vret hx hb hr hM hL dX3_init_17 hlocks
abbrev rm_X3_isMissing : Room := { frames := 0, cells := 0, slots := 0, locals := 0 }
set_option maxHeartbeats 4000000 in
set_option maxRecDepth 100000 in
theorem c_X3_isMissing (l : Launch) (G : mG) {h0 : Nat} {σ : mS} {z : Int32} (h : f_X3_isMissing h0 σ = some z) : Met l yX3_isMissing wsX3_isMissing rm_X3_isMissing (va_Pc [.ref h0] (mB G σ)) (mQ G (.returned (some (.int z))) (σ)) 0 0 (mF G) := by
  refine m_start (cc := cX3_isMissing) (maxL := 1) (ret := (some .boolean)) (by decide) rfl [.ref h0] (Nat.le_of_ble_eq_true rfl) ?_
  intro p e s m args below meth c ls hx hb hr hml hown hts hlocks hnm hK hM hl
  have hown : s.vm.findClass RX3 = some m.cls := hown
  have hnm : meth.name = "isMissing" := hnm
  obtain ⟨locs, hlocs⟩ : ∃ l : List Loc, l = [] := ⟨_, rfl⟩
  have hL : mL G locs := by rw [hlocs]; exact mL_nil G
  rw [← hlocs]
  generalize s.heap = H at hM ⊢
  have hl : lv_has ls 1 [(0, .ref h0)] := hl
  obtain ⟨Q, hQ⟩ : ∃ Q, Q = MQ below (mQ G (.returned (some (.int z))) (σ)) args s 0 0 (mF G) := ⟨_, rfl⟩
  rw [← hQ]
  have hU3 : ∀ w ∈ wsX30, w.before args s = true := fun w h => hts w (List.mem_cons_of_mem _ (List.mem_append_right _ h))
  have w1 := (hts (.fieldLink RX3 15 "HandkerchiefsDropped$Sheet" "sort" "I") (List.mem_of_getElem? (i := 1) rfl))
  rw [f_X3_isMissing.eq_1] at h
  refine lv_aload_n hx hb dX3_isMissing_0 rfl (lv_at hl 0 rfl) ?_
  refine m_getI (ci := 2) hx hb hU3 hown hK hM rfl 1 (by decide) w1 h dX3_isMissing_1 (fun v3 gv3 h => ?_)
  refine lv_iconst hx hb dX3_isMissing_4 kI_m1 ?_
  refine lv_icmp_ne (tgt := 12) hx hb dX3_isMissing_5 (by decide) (fun c4 => ?_) (fun c4 => ?_)
  · have h := (if_neg c4).symm.trans h
    refine lv_iconst hx hb dX3_isMissing_12 kI_0 ?_
    subst hQ
    cases h
    exact m_zret (x := (0 : Int32)) hx hb hr rfl hM hL dX3_isMissing_13 hlocks
  · have h := (if_pos c4).symm.trans h
    refine lv_iconst hx hb dX3_isMissing_8 kI_1 ?_
    refine lv_goto (tgt := 13) hx hb dX3_isMissing_9 (by decide) ?_
    subst hQ
    cases h
    exact m_zret (x := (1 : Int32)) hx hb hr rfl hM hL dX3_isMissing_13 hlocks
abbrev rm_X3_begin : Room := { frames := 1, cells := 0, slots := 0, locals := 23 }
set_option maxHeartbeats 4000000 in
set_option maxRecDepth 100000 in
theorem c_X3_begin (l : Launch) (G : mG) {h0 : Nat} {x1 : Int32} {x2 : Int32} {σ : mS} {z : mS} (h : f_X3_begin h0 x1 x2 σ = some z) : Met l yX3_begin wsX3_begin rm_X3_begin (va_Pc [.ref h0, .int x1, .int x2] (mB G σ)) (mQ G (.returned none) z) 0 0 (mF G) := by
  refine m_start (cc := cX3_begin) (maxL := 3) (ret := none) (by decide) rfl [.ref h0, .int x1, .int x2] (Nat.le_of_ble_eq_true rfl) ?_
  intro p e s m args below meth c ls hx hb hr hml hown hts hlocks hnm hK hM hl
  have hown : s.vm.findClass RX3 = some m.cls := hown
  have hnm : meth.name = "begin" := hnm
  obtain ⟨locs, hlocs⟩ : ∃ l : List Loc, l = [] := ⟨_, rfl⟩
  have hL : mL G locs := by rw [hlocs]; exact mL_nil G
  rw [← hlocs]
  generalize s.heap = H at hM ⊢
  have hl : lv_has ls 3 [(0, .ref h0), (1, .int x1), (2, .int x2)] := hl
  obtain ⟨Q, hQ⟩ : ∃ Q, Q = MQ below (mQ G (.returned none) z) args s 0 0 (mF G) := ⟨_, rfl⟩
  rw [← hQ]
  have hU3 : ∀ w ∈ wsX30, w.before args s = true := fun w h => hts w (List.mem_cons_of_mem _ (List.mem_append_right _ h))
  have w1 := (hts (.fieldLink RX3 15 "HandkerchiefsDropped$Sheet" "sort" "I") (List.mem_of_getElem? (i := 1) rfl))
  have w2 := (hts (.fieldLink RX3 19 "HandkerchiefsDropped$Sheet" "size" "I") (List.mem_of_getElem? (i := 2) rfl))
  have w3 := (hts (.fieldLink RX3 9 "HandkerchiefsDropped$Sheet" "cells" "[I") (List.mem_of_getElem? (i := 3) rfl))
  rw [f_X3_begin.eq_1] at h
  refine lv_aload_n hx hb dX3_begin_0 rfl (lv_at hl 0 rfl) ?_
  refine lv_iload_n hx hb dX3_begin_1 rfl (lv_at hl 1 rfl) ?_
  refine m_put (ci := 2) hx hb hU3 tyX3 tyX3_ok nmX3 hown hK hM hL rfl 1 (by decide) w1 rfl rfl rfl h dX3_begin_2 (fun t5 H locs h hM hL => ?_)
  refine lv_aload_n hx hb dX3_begin_5 rfl (lv_at hl 0 rfl) ?_
  refine lv_iload_n hx hb dX3_begin_6 rfl (lv_at hl 2 rfl) ?_
  refine m_put (ci := 2) hx hb hU3 tyX3 tyX3_ok nmX3 hown hK hM hL rfl 2 (by decide) w2 rfl rfl rfl h dX3_begin_7 (fun t6 H locs h hM hL => ?_)
  refine lv_aload_n hx hb dX3_begin_10 rfl (lv_at hl 0 rfl) ?_
  refine m_getR (ci := 2) hx hb hU3 hown hK hM rfl 0 (by decide) w3 h dX3_begin_11 (fun r7 gr7 h => ?_)
  refine lv_iconst hx hb dX3_begin_14 kI_0 ?_
  obtain ⟨q8, hq8, h⟩ := ob_some h
  refine m_callv (va_runS (As := [.ref r7, .int (0 : Int32)]) (rest := []) ⟨hx, hb, hml, hown, hts⟩ (c_J7_fill l G hq8) (va_cwS 2 hts gX3_begin_J7_fill_53178 rfl rfl rfl hd_J7_fill ⟨Nat.le_of_ble_eq_true rfl, Nat.le_of_ble_eq_true rfl⟩) (m_preS hK hM) rfl rfl hl.1 rfl (lv_room (Nat.le_of_ble_eq_true rfl)) dX3_begin_15 ⟨Nat.le_of_ble_eq_true rfl, Nat.le_of_ble_eq_true rfl⟩) hL (fun H locs hM hL => ?_)
  subst hQ
  cases h
  exact m_vret hx hb hr hM hL dX3_begin_18 hlocks
abbrev rm_X3_become : Room := { frames := 0, cells := 0, slots := 0, locals := 0 }
set_option maxHeartbeats 4000000 in
set_option maxRecDepth 100000 in
theorem c_X3_become (l : Launch) (G : mG) {h0 : Nat} {x1 : Int32} {x2 : Int32} {σ : mS} {z : mS} (h : f_X3_become h0 x1 x2 σ = some z) : Met l yX3_become wsX3_become rm_X3_become (va_Pc [.ref h0, .int x1, .int x2] (mB G σ)) (mQ G (.returned none) z) 0 0 (mF G) := by
  refine m_start (cc := cX3_become) (maxL := 3) (ret := none) (by decide) rfl [.ref h0, .int x1, .int x2] (Nat.le_of_ble_eq_true rfl) ?_
  intro p e s m args below meth c ls hx hb hr hml hown hts hlocks hnm hK hM hl
  have hown : s.vm.findClass RX3 = some m.cls := hown
  have hnm : meth.name = "become" := hnm
  obtain ⟨locs, hlocs⟩ : ∃ l : List Loc, l = [] := ⟨_, rfl⟩
  have hL : mL G locs := by rw [hlocs]; exact mL_nil G
  rw [← hlocs]
  generalize s.heap = H at hM ⊢
  have hl : lv_has ls 3 [(0, .ref h0), (1, .int x1), (2, .int x2)] := hl
  obtain ⟨Q, hQ⟩ : ∃ Q, Q = MQ below (mQ G (.returned none) z) args s 0 0 (mF G) := ⟨_, rfl⟩
  rw [← hQ]
  have hU3 : ∀ w ∈ wsX30, w.before args s = true := fun w h => hts w (List.mem_cons_of_mem _ (List.mem_append_right _ h))
  have w1 := (hts (.fieldLink RX3 9 "HandkerchiefsDropped$Sheet" "cells" "[I") (List.mem_of_getElem? (i := 1) rfl))
  have w2 := (hts (.fieldLink RX3 15 "HandkerchiefsDropped$Sheet" "sort" "I") (List.mem_of_getElem? (i := 2) rfl))
  have hN31 : ∀ (s0 : Nat) (s1 : Int32) (s2 : Int32) (σ : mS), f_X3_become_31 s0 s1 s2 σ = some z → ∀ (H : Heap) (locs : List Loc) (ls : Array Slot), mP G σ H → mL G locs → lv_has ls 3 [] → W p l e rm_X3_become s m args below meth c H locs 0 0 Q (F0 m 31 ls [.int s2, .int s1, .ref s0]) := by
    intro s0 s1 s2 σ h H locs ls hM hL hl
    rw [f_X3_become_31.eq_1] at h
    refine m_iast hx hb hK hM hL h dX3_become_31 (fun t8 H locs h hM hL => ?_)
    subst hQ
    cases h
    exact m_vret hx hb hr hM hL dX3_become_32 hlocks
  rw [f_X3_become.eq_1] at h
  refine lv_aload_n hx hb dX3_become_0 rfl (lv_at hl 0 rfl) ?_
  refine m_getR (ci := 2) hx hb hU3 hown hK hM rfl 0 (by decide) w1 h dX3_become_1 (fun r9 gr9 h => ?_)
  refine lv_iload_n hx hb dX3_become_4 rfl (lv_at hl 1 rfl) ?_
  refine lv_aload_n hx hb dX3_become_5 rfl (lv_at hl 0 rfl) ?_
  refine m_getI (ci := 2) hx hb hU3 hown hK hM rfl 1 (by decide) w2 h dX3_become_6 (fun v10 gv10 h => ?_)
  refine lv_if_ne (tgt := 17) hx hb dX3_become_9 (by decide) (fun c11 => ?_) (fun c11 => ?_)
  · have h := (if_neg c11).symm.trans h
    refine lv_aload_n hx hb dX3_become_17 rfl (lv_at hl 0 rfl) ?_
    refine m_getI (ci := 2) hx hb hU3 hown hK hM rfl 1 (by decide) w2 h dX3_become_18 (fun v12 gv12 h => ?_)
    refine lv_iconst hx hb dX3_become_21 kI_1 ?_
    suffices hJ : ∀ (v14 : Int32) (ls : Array Slot), v14 = (if v12 = (1 : Int32) then x2.toInt16.toInt32 else x2) → lv_has ls 3 [] → W p l e rm_X3_become s m args below meth c H locs 0 0 Q (F0 m 31 ls [.int v14, .int x1, .ref r9]) by
      refine lv_icmp_ne (tgt := 30) hx hb dX3_become_22 (by decide) (fun c13 => ?_) (fun c13 => ?_)
      · refine lv_iload_n hx hb dX3_become_30 rfl (lv_at hl 2 rfl) ?_
        exact hJ _ _ (((if_neg c13).trans rfl).symm) (lv_sub hl [] rfl)
      · refine lv_iload_n hx hb dX3_become_25 rfl (lv_at hl 2 rfl) ?_
        refine lv_i2s hx hb dX3_become_26 rfl ?_
        refine lv_goto (tgt := 31) hx hb dX3_become_27 (by decide) ?_
        exact hJ _ _ (((if_pos c13).trans rfl).symm) (lv_sub hl [] rfl)
    intro v14 ls ev14 hl
    have h := vl_at ev14 h
    refine hN31 _ _ _ _ h _ _ _ hM hL (lv_sub hl [] rfl)
  · have h := (if_pos c11).symm.trans h
    refine lv_iload_n hx hb dX3_become_12 rfl (lv_at hl 2 rfl) ?_
    refine lv_i2b hx hb dX3_become_13 rfl ?_
    refine lv_goto (tgt := 31) hx hb dX3_become_14 (by decide) ?_
    refine hN31 _ _ _ _ h _ _ _ hM hL (lv_sub hl [] rfl)
abbrev rm_X3_has : Room := { frames := 0, cells := 0, slots := 0, locals := 0 }
set_option maxHeartbeats 4000000 in
set_option maxRecDepth 100000 in
theorem c_X3_has (l : Launch) (G : mG) {h0 : Nat} {x1 : Int32} {x2 : Int32} {σ : mS} {z : Int32} (h : f_X3_has h0 x1 x2 σ = some z) : Met l yX3_has wsX3_has rm_X3_has (va_Pc [.ref h0, .int x1, .int x2] (mB G σ)) (mQ G (.returned (some (.int z))) (σ)) 0 0 (mF G) := by
  refine m_start (cc := cX3_has) (maxL := 3) (ret := (some .boolean)) (by decide) rfl [.ref h0, .int x1, .int x2] (Nat.le_of_ble_eq_true rfl) ?_
  intro p e s m args below meth c ls hx hb hr hml hown hts hlocks hnm hK hM hl
  have hown : s.vm.findClass RX3 = some m.cls := hown
  have hnm : meth.name = "has" := hnm
  obtain ⟨locs, hlocs⟩ : ∃ l : List Loc, l = [] := ⟨_, rfl⟩
  have hL : mL G locs := by rw [hlocs]; exact mL_nil G
  rw [← hlocs]
  generalize s.heap = H at hM ⊢
  have hl : lv_has ls 3 [(0, .ref h0), (1, .int x1), (2, .int x2)] := hl
  obtain ⟨Q, hQ⟩ : ∃ Q, Q = MQ below (mQ G (.returned (some (.int z))) (σ)) args s 0 0 (mF G) := ⟨_, rfl⟩
  rw [← hQ]
  have hU3 : ∀ w ∈ wsX30, w.before args s = true := fun w h => hts w (List.mem_cons_of_mem _ (List.mem_append_right _ h))
  have w1 := (hts (.fieldLink RX3 19 "HandkerchiefsDropped$Sheet" "size" "I") (List.mem_of_getElem? (i := 1) rfl))
  rw [f_X3_has.eq_1] at h
  refine lv_iload_n hx hb dX3_has_0 rfl (lv_at hl 1 rfl) ?_
  refine lv_if_lt (tgt := 22) hx hb dX3_has_1 (by decide) (fun c5 => ?_) (fun c5 => ?_)
  · have h := (if_pos c5).symm.trans h
    refine lv_iconst hx hb dX3_has_22 kI_0 ?_
    subst hQ
    cases h
    exact m_zret (x := (0 : Int32)) hx hb hr rfl hM hL dX3_has_23 hlocks
  · have h := (if_neg c5).symm.trans h
    refine lv_iload_n hx hb dX3_has_4 rfl (lv_at hl 2 rfl) ?_
    refine lv_if_lt (tgt := 22) hx hb dX3_has_5 (by decide) (fun c6 => ?_) (fun c6 => ?_)
    · have h := (if_pos c6).symm.trans h
      refine lv_iconst hx hb dX3_has_22 kI_0 ?_
      subst hQ
      cases h
      exact m_zret (x := (0 : Int32)) hx hb hr rfl hM hL dX3_has_23 hlocks
    · have h := (if_neg c6).symm.trans h
      refine lv_iload_n hx hb dX3_has_8 rfl (lv_at hl 1 rfl) ?_
      refine lv_aload_n hx hb dX3_has_9 rfl (lv_at hl 0 rfl) ?_
      refine m_getI (ci := 2) hx hb hU3 hown hK hM rfl 2 (by decide) w1 h dX3_has_10 (fun v7 gv7 h => ?_)
      refine lv_iload_n hx hb dX3_has_13 rfl (lv_at hl 2 rfl) ?_
      refine lv_isub hx hb dX3_has_14 ?_
      refine lv_icmp_gt (tgt := 22) hx hb dX3_has_15 (by decide) (fun c8 => ?_) (fun c8 => ?_)
      · have h := (if_pos c8).symm.trans h
        refine lv_iconst hx hb dX3_has_22 kI_0 ?_
        subst hQ
        cases h
        exact m_zret (x := (0 : Int32)) hx hb hr rfl hM hL dX3_has_23 hlocks
      · have h := (if_neg c8).symm.trans h
        refine lv_iconst hx hb dX3_has_18 kI_1 ?_
        refine lv_goto (tgt := 23) hx hb dX3_has_19 (by decide) ?_
        subst hQ
        cases h
        exact m_zret (x := (1 : Int32)) hx hb hr rfl hM hL dX3_has_23 hlocks
