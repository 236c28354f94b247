abbrev rm_X4_init : Room := { frames := 1, cells := 3, slots := 323, locals := 30 }
set_option maxHeartbeats 4000000 in
set_option maxRecDepth 100000 in
theorem c_X4_init (l : Launch) (G : mG) {h0 : Nat} {σ : mS} {z : mS} (h : f_X4_init h0 σ = some z) : Met l yX4_init wsX4_init rm_X4_init (va_Pc [.ref h0] (mB G σ)) (mQ G (.returned none) z) 3 323 (mF G) := by
  refine m_start (cc := cX4_init) (maxL := 1) (ret := none) (by decide) rfl [.ref h0] (Nat.le_of_ble_eq_true rfl) ?_
  intro p e s m args below meth c ls hx hb hr hml hown hts hlocks hnm hK hM hl
  have hown : s.vm.findClass RX4 = some m.cls := hown
  have hnm : meth.name = "<init>" := hnm
  obtain ⟨locs, hlocs⟩ : ∃ l : List Loc, l = [] := ⟨_, rfl⟩
  have hL : mL G locs := by rw [hlocs]; exact mL_nil G
  rw [← hlocs]
  generalize s.heap = H at hM ⊢
  have hl : lv_has ls 1 [(0, .ref h0)] := hl
  obtain ⟨Q, hQ⟩ : ∃ Q, Q = MQ below (mQ G (.returned none) z) args s 3 323 (mF G) := ⟨_, rfl⟩
  rw [← hQ]
  have w0 := (hts (.methodLink RX4 3 objectInit) (List.mem_of_getElem? (i := 1) rfl))
  have w1 := (hts (.instanceMethod objectInit) (List.mem_of_getElem? (i := 2) rfl))
  have w2 := (hts (.code objectInit ⟨#[0xb1]⟩ 1 none) (List.mem_of_getElem? (i := 3) rfl))
  have w3 := (hts (.arrayClass .int) (List.mem_of_getElem? (i := 4) rfl))
  have hU4 : ∀ w ∈ wsX40, w.before args s = true := fun w h => hts w (List.mem_cons_of_mem _ (List.mem_append_right _ h))
  have w5 := (hts (.fieldLink RX4 9 "HandkerchiefsDropped$Tape" "bytes" "[I") (List.mem_of_getElem? (i := 5) rfl))
  have w6 := (hts (.fieldLink RX4 15 "HandkerchiefsDropped$Tape" "code" "[I") (List.mem_of_getElem? (i := 6) rfl))
  have w7 := (hts (.fieldLink RX4 18 "HandkerchiefsDropped$Tape" "starts" "[I") (List.mem_of_getElem? (i := 7) rfl))
  rw [f_X4_init.eq_1] at h
  refine lv_aload_n hx hb dX4_init_0 rfl (lv_at hl 0 rfl) ?_
  refine W.objInit hx hb hown w0 w1 w2 rfl (by rw [hml]; exact hl.1) rfl dX4_init_1 (Nat.le_of_ble_eq_true rfl) (Nat.le_of_ble_eq_true rfl) ?_
  refine W.eq (g2 := F0 m 4 ls []) rfl ?_
  refine lv_aload_n hx hb dX4_init_4 rfl (lv_at hl 0 rfl) ?_
  refine lv_sipush hx hb dX4_init_5 kS_160 ?_
  refine m_newa (N' := 160) hx hb w3 hK hM (by decide) (by decide) (by decide) (Nat.le_of_ble_eq_true rfl) (Nat.le_of_ble_eq_true rfl) dX4_init_8 (fun H hM => ?_)
  obtain ⟨t10, et10⟩ : ∃ t, t = nI_ (σ) 160 := ⟨_, rfl⟩
  have h := vl_at et10 h
  have hM : mP G t10 H := by rw [et10]; exact hM
  obtain ⟨r11, er11⟩ : ∃ r : Nat, r = (σ).1 := ⟨_, rfl⟩
  have h := vl_at er11 h
  rw [← er11]
  refine m_putF (ci := 3) hx hb hU4 tyX4 tyX4_ok nmX4 hown hK hM hL rfl 0 (by decide) w5 rfl hnm rfl rfl rfl h dX4_init_10 (fun t12 H locs h hM hL => ?_)
  refine lv_aload_n hx hb dX4_init_13 rfl (lv_at hl 0 rfl) ?_
  refine lv_sipush hx hb dX4_init_14 kS_160 ?_
  refine m_newa (N' := 160) hx hb w3 hK hM (by decide) (by decide) (by decide) (Nat.le_of_ble_eq_true rfl) (Nat.le_of_ble_eq_true rfl) dX4_init_17 (fun H hM => ?_)
  obtain ⟨t13, et13⟩ : ∃ t, t = nI_ t12 160 := ⟨_, rfl⟩
  have h := vl_at et13 h
  have hM : mP G t13 H := by rw [et13]; exact hM
  obtain ⟨r14, er14⟩ : ∃ r : Nat, r = t12.1 := ⟨_, rfl⟩
  have h := vl_at er14 h
  rw [← er14]
  refine m_putF (ci := 3) hx hb hU4 tyX4 tyX4_ok nmX4 hown hK hM hL rfl 1 (by decide) w6 rfl hnm rfl rfl rfl h dX4_init_19 (fun t15 H locs h hM hL => ?_)
  refine lv_aload_n hx hb dX4_init_22 rfl (lv_at hl 0 rfl) ?_
  refine lv_iconst hx hb dX4_init_23 kI_3 ?_
  refine m_newa (N' := 3) hx hb w3 hK hM (by decide) (by decide) (by decide) (Nat.le_of_ble_eq_true rfl) (Nat.le_of_ble_eq_true rfl) dX4_init_24 (fun H hM => ?_)
  obtain ⟨t16, et16⟩ : ∃ t, t = nI_ t15 3 := ⟨_, rfl⟩
  have h := vl_at et16 h
  have hM : mP G t16 H := by rw [et16]; exact hM
  obtain ⟨r17, er17⟩ : ∃ r : Nat, r = t15.1 := ⟨_, rfl⟩
  have h := vl_at er17 h
  rw [← er17]
  refine m_putF (ci := 3) hx hb hU4 tyX4 tyX4_ok nmX4 hown hK hM hL rfl 2 (by decide) w7 rfl hnm rfl rfl rfl h dX4_init_26 (fun t18 H locs h hM hL => ?_)
  subst hQ
  cases h
  exact m_vret hx hb hr hM hL dX4_init_29 hlocks
abbrev rm_X4_append : Room := { frames := 0, cells := 0, slots := 0, locals := 0 }
set_option maxHeartbeats 4000000 in
set_option maxRecDepth 100000 in
theorem c_X4_append (l : Launch) (G : mG) {h0 : Nat} {x1 : Int32} {σ : mS} {z : mS} (h : f_X4_append h0 x1 σ = some z) : Met l yX4_append wsX4_append rm_X4_append (va_Pc [.ref h0, .int x1] (mB G σ)) (mQ G (.returned none) z) 0 0 (mF G) := by
  refine m_start (cc := cX4_append) (maxL := 2) (ret := none) (by decide) rfl [.ref h0, .int x1] (Nat.le_of_ble_eq_true rfl) ?_
  intro p e s m args below meth c ls hx hb hr hml hown hts hlocks hnm hK hM hl
  have hown : s.vm.findClass RX4 = some m.cls := hown
  have hnm : meth.name = "append" := hnm
  obtain ⟨locs, hlocs⟩ : ∃ l : List Loc, l = [] := ⟨_, rfl⟩
  have hL : mL G locs := by rw [hlocs]; exact mL_nil G
  rw [← hlocs]
  generalize s.heap = H at hM ⊢
  have hl : lv_has ls 2 [(0, .ref h0), (1, .int x1)] := hl
  obtain ⟨Q, hQ⟩ : ∃ Q, Q = MQ below (mQ G (.returned none) z) args s 0 0 (mF G) := ⟨_, rfl⟩
  rw [← hQ]
  have hU4 : ∀ w ∈ wsX40, w.before args s = true := fun w h => hts w (List.mem_cons_of_mem _ (List.mem_append_right _ h))
  have w1 := (hts (.fieldLink RX4 21 "HandkerchiefsDropped$Tape" "size" "I") (List.mem_of_getElem? (i := 1) rfl))
  have w2 := (hts (.fieldLink RX4 9 "HandkerchiefsDropped$Tape" "bytes" "[I") (List.mem_of_getElem? (i := 2) rfl))
  rw [f_X4_append.eq_1] at h
  refine lv_aload_n hx hb dX4_append_0 rfl (lv_at hl 0 rfl) ?_
  refine m_getI (ci := 3) hx hb hU4 hown hK hM rfl 3 (by decide) w1 h dX4_append_1 (fun v10 gv10 h => ?_)
  refine lv_aload_n hx hb dX4_append_4 rfl (lv_at hl 0 rfl) ?_
  refine m_getR (ci := 3) hx hb hU4 hown hK hM rfl 0 (by decide) w2 h dX4_append_5 (fun r11 gr11 h => ?_)
  refine m_alen hx hb hK hM h dX4_append_8 (fun v12 gv12 h => ?_)
  refine lv_icmp_ge (tgt := 32) hx hb dX4_append_9 (by decide) (fun c13 => ?_) (fun c13 => ?_)
  · have h := (if_pos c13).symm.trans h
    subst hQ
    cases h
    exact m_vret hx hb hr hM hL dX4_append_32 hlocks
  · have h := (if_neg c13).symm.trans h
    refine lv_aload_n hx hb dX4_append_12 rfl (lv_at hl 0 rfl) ?_
    refine m_getR (ci := 3) hx hb hU4 hown hK hM rfl 0 (by decide) w2 h dX4_append_13 (fun r14 gr14 h => ?_)
    refine lv_aload_n hx hb dX4_append_16 rfl (lv_at hl 0 rfl) ?_
    refine m_getI (ci := 3) hx hb hU4 hown hK hM rfl 3 (by decide) w1 h dX4_append_17 (fun v15 gv15 h => ?_)
    refine lv_iload_n hx hb dX4_append_20 rfl (lv_at hl 1 rfl) ?_
    refine m_iast hx hb hK hM hL h dX4_append_21 (fun t16 H locs h hM hL => ?_)
    refine lv_aload_n hx hb dX4_append_22 rfl (lv_at hl 0 rfl) ?_
    refine lv_dup hx hb dX4_append_23 rfl ?_
    refine m_getI (ci := 3) hx hb hU4 hown hK hM rfl 3 (by decide) w1 h dX4_append_24 (fun v17 gv17 h => ?_)
    refine lv_iconst hx hb dX4_append_27 kI_1 ?_
    refine lv_iadd hx hb dX4_append_28 ?_
    refine m_put (ci := 3) hx hb hU4 tyX4 tyX4_ok nmX4 hown hK hM hL rfl 3 (by decide) w1 rfl rfl rfl h dX4_append_29 (fun t18 H locs h hM hL => ?_)
    subst hQ
    cases h
    exact m_vret hx hb hr hM hL dX4_append_32 hlocks
abbrev rm_X4_isLetter : Room := { frames := 0, cells := 0, slots := 0, locals := 0 }
theorem z_X4_isLetter (x0 : Int32) : narrow .boolean (.int (f_X4_isLetter x0)) = .int (f_X4_isLetter x0) := by
  rw [f_X4_isLetter.eq_1]
  try dsimp only [vl]
  (repeat' split) <;> first | rfl | apply z_X5_isBelow
set_option maxHeartbeats 4000000 in
set_option maxRecDepth 100000 in
theorem c_X4_isLetter (l : Launch) (G : mG) (x0 : Int32) {σ : mS} : Met l yX4_isLetter wsX4_isLetter rm_X4_isLetter (va_Pc [.int x0] (mB G σ)) (mQ G (.returned (some (.int (f_X4_isLetter x0)))) (σ)) 0 0 (mF G) := by
  obtain ⟨z, h⟩ : ∃ z, f_X4_isLetter x0 = z := ⟨_, rfl⟩
  rw [h]
  refine m_start (cc := cX4_isLetter) (maxL := 1) (ret := (some .boolean)) (by decide) rfl [.int x0] (Nat.le_of_ble_eq_true rfl) ?_
  intro p e s m args below meth c ls hx hb hr hml hown hts hlocks hnm hK hM hl
  have hown : s.vm.findClass RX4 = some m.cls := hown
  have hnm : meth.name = "isLetter" := hnm
  obtain ⟨locs, hlocs⟩ : ∃ l : List Loc, l = [] := ⟨_, rfl⟩
  have hL : mL G locs := by rw [hlocs]; exact mL_nil G
  rw [← hlocs]
  generalize s.heap = H at hM ⊢
  have hl : lv_has ls 1 [(0, .int x0)] := hl
  obtain ⟨Q, hQ⟩ : ∃ Q, Q = MQ below (mQ G (.returned (some (.int z))) (σ)) args s 0 0 (mF G) := ⟨_, rfl⟩
  rw [← hQ]
  rw [f_X4_isLetter.eq_1] at h
  refine lv_iload_n hx hb dX4_isLetter_0 rfl (lv_at hl 0 rfl) ?_
  refine lv_bipush hx hb dX4_isLetter_1 kB_97 ?_
  refine lv_icmp_lt (tgt := 16) hx hb dX4_isLetter_3 (by decide) (fun c3 => ?_) (fun c3 => ?_)
  · have h := (if_pos c3).symm.trans h
    refine lv_iconst hx hb dX4_isLetter_16 kI_0 ?_
    subst hQ
    subst h
    exact m_zret (x := (0 : Int32)) hx hb hr rfl hM hL dX4_isLetter_17 hlocks
  · have h := (if_neg c3).symm.trans h
    refine lv_iload_n hx hb dX4_isLetter_6 rfl (lv_at hl 0 rfl) ?_
    refine lv_bipush hx hb dX4_isLetter_7 kB_122 ?_
    refine lv_icmp_gt (tgt := 16) hx hb dX4_isLetter_9 (by decide) (fun c4 => ?_) (fun c4 => ?_)
    · have h := (if_pos c4).symm.trans h
      refine lv_iconst hx hb dX4_isLetter_16 kI_0 ?_
      subst hQ
      subst h
      exact m_zret (x := (0 : Int32)) hx hb hr rfl hM hL dX4_isLetter_17 hlocks
    · have h := (if_neg c4).symm.trans h
      refine lv_iconst hx hb dX4_isLetter_12 kI_1 ?_
      refine lv_goto (tgt := 17) hx hb dX4_isLetter_13 (by decide) ?_
      subst hQ
      subst h
      exact m_zret (x := (1 : Int32)) hx hb hr rfl hM hL dX4_isLetter_17 hlocks
abbrev rm_X4_wordNumber : Room := { frames := 4, cells := 0, slots := 0, locals := 85 }
set_option maxHeartbeats 4000000 in
set_option maxRecDepth 100000 in
theorem c_X4_wordNumber (l : Launch) (G : mG) {h0 : Nat} {x1 : Int32} {x2 : Int32} {σ : mS} {z : Int32} (h : f_X4_wordNumber h0 x1 x2 σ = some z) : Met l yX4_wordNumber wsX4_wordNumber rm_X4_wordNumber (va_Pc [.ref h0, .int x1, .int x2] (mB G σ)) (mQ G (.returned (some (.int z))) (σ)) 0 0 (mF G) := by
  refine m_start (cc := cX4_wordNumber) (maxL := 8) (ret := (some .int)) (by decide) rfl [.ref h0, .int x1, .int x2] (Nat.le_of_ble_eq_true rfl) ?_
  intro p e s m args below meth c ls hx hb hr hml hown hts hlocks hnm hK hM hl
  have hown : s.vm.findClass RX4 = some m.cls := hown
  have hnm : meth.name = "wordNumber" := hnm
  obtain ⟨locs, hlocs⟩ : ∃ l : List Loc, l = [] := ⟨_, rfl⟩
  have hL : mL G locs := by rw [hlocs]; exact mL_nil G
  rw [← hlocs]
  generalize s.heap = H at hM ⊢
  have hl : lv_has ls 8 [(0, .ref h0), (1, .int x1), (2, .int x2)] := hl
  obtain ⟨Q, hQ⟩ : ∃ Q, Q = MQ below (mQ G (.returned (some (.int z))) (σ)) args s 0 0 (mF G) := ⟨_, rfl⟩
  rw [← hQ]
  have hU4 : ∀ w ∈ wsX40, w.before args s = true := fun w h => hts w (List.mem_cons_of_mem _ (List.mem_append_right _ h))
  have w1 := (hts (.fieldLink RX4 9 "HandkerchiefsDropped$Tape" "bytes" "[I") (List.mem_of_getElem? (i := 1) rfl))
  have hN51 : ∀ (k11 : Nat → Int32 → Int32 → Int32 → Int32 → Int32 → Int32 → Option Int32) (hk11 : ∀ (h0 : Nat) (x1 : Int32) (x2 : Int32) (x3 : Int32) (x4 : Int32) (x5 : Int32) (x6 : Int32), k11 h0 x1 x2 x3 x4 x5 x6 = some z → ∀ (H : Heap) (locs : List Loc) (ls : Array Slot), mP G σ H → mL G locs → lv_has ls 8 [(0, .ref h0), (1, .int x1), (2, .int x2), (3, .int x3), (4, .int x4), (5, .int x5), (6, .int x6)] → W p l e rm_X4_wordNumber s m args below meth c H locs 0 0 Q (F0 m 11 ls [])) (h0 : Nat) (x1 : Int32) (x2 : Int32) (x3 : Int32) (x6 : Int32), f_X4_wordNumber_51 σ k11 h0 x1 x2 x3 x6 = some z → ∀ (H : Heap) (locs : List Loc) (ls : Array Slot), mP G σ H → mL G locs → lv_has ls 8 [(0, .ref h0), (1, .int x1), (2, .int x2), (3, .int x3), (6, .int x6)] → W p l e rm_X4_wordNumber s m args below meth c H locs 0 0 Q (F0 m 51 ls []) := by
    intro k11 hk11 h0 x1 x2 x3 x6 h H locs ls hM hL hl
    rw [f_X4_wordNumber_51.eq_1] at h
    obtain ⟨v19, ev19⟩ : ∃ y : Int32, y = x3 + (1 : Int32) := ⟨_, rfl⟩
    have h := vl_at ev19 h
    refine lv_iinc (v := v19) (lv' := [(3, .int v19), (0, .ref h0), (1, .int x1), (2, .int x2), (6, .int x6)]) hx hb dX4_wordNumber_51 hl (k := 3) rfl (by rw [ev19, kI_1]) (by decide) rfl (fun ls hl => ?_)
    refine lv_iconst hx hb dX4_wordNumber_54 kI_0 ?_
    refine lv_istore (lv' := [(4, .int (0 : Int32)), (3, .int v19), (0, .ref h0), (1, .int x1), (2, .int x2), (6, .int x6)]) hx hb dX4_wordNumber_55 hl (by decide) rfl (fun ls hl => ?_)
    refine lv_iconst hx hb dX4_wordNumber_57 kI_0 ?_
    refine lv_istore (lv' := [(5, .int (0 : Int32)), (4, .int (0 : Int32)), (3, .int v19), (0, .ref h0), (1, .int x1), (2, .int x2), (6, .int x6)]) hx hb dX4_wordNumber_58 hl (by decide) rfl (fun ls hl => ?_)
    refine lv_goto (tgt := 96) hx hb dX4_wordNumber_60 (by decide) ?_
    obtain ⟨v20, ev20⟩ : ∃ y : Int32, y = x6 + (1 : Int32) := ⟨_, rfl⟩
    have h := vl_at ev20 h
    refine lv_iinc (v := v20) (lv' := [(6, .int v20), (5, .int (0 : Int32)), (4, .int (0 : Int32)), (3, .int v19), (0, .ref h0), (1, .int x1), (2, .int x2)]) hx hb dX4_wordNumber_96 hl (k := 6) rfl (by rw [ev20, kI_1]) (by decide) rfl (fun ls hl => ?_)
    refine lv_goto (tgt := 11) hx hb dX4_wordNumber_99 (by decide) ?_
    exact hk11 _ _ _ _ _ _ _ h _ _ _ hM hL (lv_sub hl [4, 5, 6, 3, 2, 1, 0] rfl)
  have hN11 : ∀ (n : Nat) (h0 : Nat) (x1 : Int32) (x2 : Int32) (x3 : Int32) (x4 : Int32) (x5 : Int32) (x6 : Int32), f_X4_wordNumber_11 σ n h0 x1 x2 x3 x4 x5 x6 = some z → ∀ (H : Heap) (locs : List Loc) (ls : Array Slot), mP G σ H → mL G locs → lv_has ls 8 [(0, .ref h0), (1, .int x1), (2, .int x2), (3, .int x3), (4, .int x4), (5, .int x5), (6, .int x6)] → W p l e rm_X4_wordNumber s m args below meth c H locs 0 0 Q (F0 m 11 ls []) := by
    intro n
    induction n with
    | zero =>
      intro h0 x1 x2 x3 x4 x5 x6 h
      exact nomatch (show (none : Option Int32) = some z from h)
    | succ n ih =>
      intro h0 x1 x2 x3 x4 x5 x6 h H locs ls hM hL hl
      rw [f_X4_wordNumber_11.eq_2] at h
      refine lv_iload hx hb dX4_wordNumber_11 (lv_at hl 6 rfl) ?_
      refine va_ldcS hx hb hown hK.2.2.2.2.2.1 dX4_wordNumber_13 ?_
      refine m_calli (va_runV (As := []) (rest := [.int x6]) ⟨hx, hb, hml, hown, hts⟩ (c_J0_length_k1 l G) (cwV 0 hts gX4_wordNumber_J0_length_8abf5 rfl rfl rfl hd_J0_lengthv ⟨Nat.le_of_ble_eq_true rfl, Nat.le_of_ble_eq_true rfl⟩) (m_preK hK hM 1 (by decide)) rfl rfl hl.1 rfl (lv_room (Nat.le_of_ble_eq_true rfl)) dX4_wordNumber_15 ⟨Nat.le_of_ble_eq_true rfl, Nat.le_of_ble_eq_true rfl⟩) hL (fun H locs hM hL => ?_)
      rw [e_f_J0_length_k1]
      refine lv_icmp_ge (tgt := 102) hx hb dX4_wordNumber_18 (by decide) (fun c21 => ?_) (fun c21 => ?_)
      · have h := (if_pos c21).symm.trans h
        refine lv_iconst hx hb dX4_wordNumber_102 kI_m1 ?_
        subst hQ
        have h := Option.some.inj h
        subst h
        exact m_iret hx hb hr hM hL dX4_wordNumber_103 hlocks
      · have h := (if_neg c21).symm.trans h
        refine va_ldcS hx hb hown hK.2.2.2.2.2.1 dX4_wordNumber_21 ?_
        refine lv_iload hx hb dX4_wordNumber_23 (lv_at hl 6 rfl) ?_
        obtain ⟨q22, hq22, h⟩ := ob_some h
        refine m_calli (va_runV (As := [.int x6]) (rest := []) ⟨hx, hb, hml, hown, hts⟩ (c_J0_charAt_k1 l G hq22) (cwV 1 hts gX4_wordNumber_J0_charAt_5068e rfl rfl rfl hd_J0_charAtv ⟨Nat.le_of_ble_eq_true rfl, Nat.le_of_ble_eq_true rfl⟩) (m_preK hK hM 1 (by decide)) rfl rfl hl.1 rfl (lv_room (Nat.le_of_ble_eq_true rfl)) dX4_wordNumber_25 ⟨Nat.le_of_ble_eq_true rfl, Nat.le_of_ble_eq_true rfl⟩) hL (fun H locs hM hL => ?_)
        refine lv_istore (lv' := [(7, .int q22), (0, .ref h0), (1, .int x1), (2, .int x2), (3, .int x3), (4, .int x4), (5, .int x5), (6, .int x6)]) hx hb dX4_wordNumber_28 hl (by decide) rfl (fun ls hl => ?_)
        refine lv_iload hx hb dX4_wordNumber_30 (lv_at hl 0 rfl) ?_
        refine lv_bipush hx hb dX4_wordNumber_32 kB_32 ?_
        refine lv_icmp_ne (tgt := 63) hx hb dX4_wordNumber_34 (by decide) (fun c23 => ?_) (fun c23 => ?_)
        · have h := (if_neg c23).symm.trans h
          refine lv_iload hx hb dX4_wordNumber_63 (lv_at hl 5 rfl) ?_
          refine lv_iload hx hb dX4_wordNumber_65 (lv_at hl 6 rfl) ?_
          refine lv_iload_n hx hb dX4_wordNumber_67 rfl (lv_at hl 3 rfl) ?_
          refine lv_icmp_ge (tgt := 89) hx hb dX4_wordNumber_68 (by decide) (fun c24 => ?_) (fun c24 => ?_)
          · have h := (if_pos c24).symm.trans h
            refine lv_iconst hx hb dX4_wordNumber_89 kI_0 ?_
            refine lv_iadd hx hb dX4_wordNumber_90 ?_
            refine lv_topi (fun v25 ev25 => ?_)
            have h := vl_at ev25 h
            refine lv_istore (lv' := [(4, .int v25), (7, .int q22), (0, .ref h0), (1, .int x1), (2, .int x2), (3, .int x3), (5, .int x5), (6, .int x6)]) hx hb dX4_wordNumber_91 hl (by decide) rfl (fun ls hl => ?_)
            obtain ⟨v26, ev26⟩ : ∃ y : Int32, y = x5 + (1 : Int32) := ⟨_, rfl⟩
            have h := vl_at ev26 h
            refine lv_iinc (v := v26) (lv' := [(5, .int v26), (4, .int v25), (7, .int q22), (0, .ref h0), (1, .int x1), (2, .int x2), (3, .int x3), (6, .int x6)]) hx hb dX4_wordNumber_93 hl (k := 6) rfl (by rw [ev26, kI_1]) (by decide) rfl (fun ls hl => ?_)
            obtain ⟨v27, ev27⟩ : ∃ y : Int32, y = x6 + (1 : Int32) := ⟨_, rfl⟩
            have h := vl_at ev27 h
            refine lv_iinc (v := v27) (lv' := [(6, .int v27), (5, .int v26), (4, .int v25), (7, .int q22), (0, .ref h0), (1, .int x1), (2, .int x2), (3, .int x3)]) hx hb dX4_wordNumber_96 hl (k := 7) rfl (by rw [ev27, kI_1]) (by decide) rfl (fun ls hl => ?_)
            refine lv_goto (tgt := 11) hx hb dX4_wordNumber_99 (by decide) ?_
            exact ih _ _ _ _ _ _ _ h _ _ _ hM hL (lv_sub hl [4, 5, 6, 7, 2, 1, 0] rfl)
          · have h := (if_neg c24).symm.trans h
            refine lv_aload_n hx hb dX4_wordNumber_71 rfl (lv_at hl 1 rfl) ?_
            refine m_getR (ci := 3) hx hb hU4 hown hK hM rfl 0 (by decide) w1 h dX4_wordNumber_72 (fun r28 gr28 h => ?_)
            refine lv_iload_n hx hb dX4_wordNumber_75 rfl (lv_at hl 2 rfl) ?_
            refine lv_iload hx hb dX4_wordNumber_76 (lv_at hl 6 rfl) ?_
            refine lv_iadd hx hb dX4_wordNumber_78 ?_
            refine m_iald hx hb hK hM h dX4_wordNumber_79 (fun v29 gv29 h => ?_)
            refine lv_iload hx hb dX4_wordNumber_80 (lv_at hl 0 rfl) ?_
            suffices hJ : ∀ (v31 : Int32) (ls : Array Slot), v31 = (if v29 = q22 then (1 : Int32) else (0 : Int32)) → lv_has ls 8 [(0, .ref h0), (1, .int x1), (2, .int x2), (3, .int x3), (5, .int x5), (6, .int x6)] → W p l e rm_X4_wordNumber s m args below meth c H locs 0 0 Q (F0 m 90 ls [.int v31, .int x4]) by
              refine lv_icmp_ne (tgt := 89) hx hb dX4_wordNumber_82 (by decide) (fun c30 => ?_) (fun c30 => ?_)
              · refine lv_iconst hx hb dX4_wordNumber_89 kI_0 ?_
                exact hJ _ _ (((if_neg c30).trans rfl).symm) (lv_sub hl [1, 2, 3, 4, 6, 7] rfl)
              · refine lv_iconst hx hb dX4_wordNumber_85 kI_1 ?_
                refine lv_goto (tgt := 90) hx hb dX4_wordNumber_86 (by decide) ?_
                exact hJ _ _ (((if_pos c30).trans rfl).symm) (lv_sub hl [1, 2, 3, 4, 6, 7] rfl)
            intro v31 ls ev31 hl
            have h := vl_at ev31 h
            refine lv_iadd hx hb dX4_wordNumber_90 ?_
            refine lv_topi (fun v32 ev32 => ?_)
            have h := vl_at ev32 h
            refine lv_istore (lv' := [(4, .int v32), (0, .ref h0), (1, .int x1), (2, .int x2), (3, .int x3), (5, .int x5), (6, .int x6)]) hx hb dX4_wordNumber_91 hl (by decide) rfl (fun ls hl => ?_)
            obtain ⟨v33, ev33⟩ : ∃ y : Int32, y = x5 + (1 : Int32) := ⟨_, rfl⟩
            have h := vl_at ev33 h
            refine lv_iinc (v := v33) (lv' := [(5, .int v33), (4, .int v32), (0, .ref h0), (1, .int x1), (2, .int x2), (3, .int x3), (6, .int x6)]) hx hb dX4_wordNumber_93 hl (k := 5) rfl (by rw [ev33, kI_1]) (by decide) rfl (fun ls hl => ?_)
            obtain ⟨v34, ev34⟩ : ∃ y : Int32, y = x6 + (1 : Int32) := ⟨_, rfl⟩
            have h := vl_at ev34 h
            refine lv_iinc (v := v34) (lv' := [(6, .int v34), (5, .int v33), (4, .int v32), (0, .ref h0), (1, .int x1), (2, .int x2), (3, .int x3)]) hx hb dX4_wordNumber_96 hl (k := 6) rfl (by rw [ev34, kI_1]) (by decide) rfl (fun ls hl => ?_)
            refine lv_goto (tgt := 11) hx hb dX4_wordNumber_99 (by decide) ?_
            exact ih _ _ _ _ _ _ _ h _ _ _ hM hL (lv_sub hl [3, 4, 5, 6, 2, 1, 0] rfl)
        · have h := (if_pos c23).symm.trans h
          refine lv_iload hx hb dX4_wordNumber_37 (lv_at hl 5 rfl) ?_
          refine lv_iload_n hx hb dX4_wordNumber_39 rfl (lv_at hl 3 rfl) ?_
          refine lv_icmp_ne (tgt := 51) hx hb dX4_wordNumber_40 (by decide) (fun c35 => ?_) (fun c35 => ?_)
          · have h := (if_neg c35).symm.trans h
            refine hN51 _ (fun _ _ _ _ _ _ _ h H locs ls hM hL hl => ih _ _ _ _ _ _ _ h H locs ls hM hL hl) _ _ _ _ _ h _ _ _ hM hL (lv_sub hl [1, 2, 3, 4, 7] rfl)
          · have h := (if_pos c35).symm.trans h
            refine lv_iload hx hb dX4_wordNumber_43 (lv_at hl 6 rfl) ?_
            refine lv_iload_n hx hb dX4_wordNumber_45 rfl (lv_at hl 3 rfl) ?_
            refine lv_icmp_ne (tgt := 51) hx hb dX4_wordNumber_46 (by decide) (fun c36 => ?_) (fun c36 => ?_)
            · have h := (if_neg c36).symm.trans h
              refine hN51 _ (fun _ _ _ _ _ _ _ h H locs ls hM hL hl => ih _ _ _ _ _ _ _ h H locs ls hM hL hl) _ _ _ _ _ h _ _ _ hM hL (lv_sub hl [1, 2, 3, 4, 7] rfl)
            · have h := (if_pos c36).symm.trans h
              refine lv_iload_n hx hb dX4_wordNumber_49 rfl (lv_at hl 4 rfl) ?_
              subst hQ
              have h := Option.some.inj h
              subst h
              exact m_iret hx hb hr hM hL dX4_wordNumber_50 hlocks
  rw [f_X4_wordNumber.eq_1] at h
  refine lv_iconst hx hb dX4_wordNumber_0 kI_0 ?_
  refine lv_istore_n (lv' := [(3, .int (0 : Int32)), (0, .ref h0), (1, .int x1), (2, .int x2)]) hx hb dX4_wordNumber_1 rfl hl (by decide) rfl (fun ls hl => ?_)
  refine lv_iconst hx hb dX4_wordNumber_2 kI_0 ?_
  refine lv_istore (lv' := [(4, .int (0 : Int32)), (3, .int (0 : Int32)), (0, .ref h0), (1, .int x1), (2, .int x2)]) hx hb dX4_wordNumber_3 hl (by decide) rfl (fun ls hl => ?_)
  refine lv_iconst hx hb dX4_wordNumber_5 kI_0 ?_
  refine lv_istore (lv' := [(5, .int (0 : Int32)), (4, .int (0 : Int32)), (3, .int (0 : Int32)), (0, .ref h0), (1, .int x1), (2, .int x2)]) hx hb dX4_wordNumber_6 hl (by decide) rfl (fun ls hl => ?_)
  refine lv_iconst hx hb dX4_wordNumber_8 kI_0 ?_
  refine lv_istore (lv' := [(6, .int (0 : Int32)), (5, .int (0 : Int32)), (4, .int (0 : Int32)), (3, .int (0 : Int32)), (0, .ref h0), (1, .int x1), (2, .int x2)]) hx hb dX4_wordNumber_9 hl (by decide) rfl (fun ls hl => ?_)
  refine hN11 _ _ _ _ _ _ _ _ h _ _ _ hM hL (lv_sub hl [4, 5, 6, 3, 2, 1, 0] rfl)
abbrev rm_X4_readWord : Room := { frames := 5, cells := 0, slots := 0, locals := 112 }
set_option maxHeartbeats 4000000 in
set_option maxRecDepth 100000 in
theorem c_X4_readWord (l : Launch) (G : mG) {h0 : Nat} {σ : mS} {z : mS} (h : f_X4_readWord h0 σ = some z) : Met l yX4_readWord wsX4_readWord rm_X4_readWord (va_Pc [.ref h0] (mB G σ)) (mQ G (.returned none) z) 0 0 (mF G) := by
  refine m_start (cc := cX4_readWord) (maxL := 2) (ret := none) (by decide) rfl [.ref h0] (Nat.le_of_ble_eq_true rfl) ?_
  intro p e s m args below meth c ls hx hb hr hml hown hts hlocks hnm hK hM hl
  have hown : s.vm.findClass RX4 = some m.cls := hown
  have hnm : meth.name = "readWord" := hnm
  obtain ⟨locs, hlocs⟩ : ∃ l : List Loc, l = [] := ⟨_, rfl⟩
  have hL : mL G locs := by rw [hlocs]; exact mL_nil G
  rw [← hlocs]
  generalize s.heap = H at hM ⊢
  have hl : lv_has ls 2 [(0, .ref h0)] := hl
  obtain ⟨Q, hQ⟩ : ∃ Q, Q = MQ below (mQ G (.returned none) z) args s 0 0 (mF G) := ⟨_, rfl⟩
  rw [← hQ]
  have hU4 : ∀ w ∈ wsX40, w.before args s = true := fun w h => hts w (List.mem_cons_of_mem _ (List.mem_append_right _ h))
  have w1 := (hts (.fieldLink RX4 25 "HandkerchiefsDropped$Tape" "at" "I") (List.mem_of_getElem? (i := 1) rfl))
  have w2 := (hts (.fieldLink RX4 21 "HandkerchiefsDropped$Tape" "size" "I") (List.mem_of_getElem? (i := 2) rfl))
  have w3 := (hts (.fieldLink RX4 9 "HandkerchiefsDropped$Tape" "bytes" "[I") (List.mem_of_getElem? (i := 3) rfl))
  have w4 := (hts (.fieldLink RX4 44 "HandkerchiefsDropped$Tape" "place" "I") (List.mem_of_getElem? (i := 4) rfl))
  have w5 := (hts (.fieldLink RX4 41 "HandkerchiefsDropped$Tape" "token" "I") (List.mem_of_getElem? (i := 5) rfl))
  have w6 := (hts (.fieldLink RX4 83 "HandkerchiefsDropped$Tape" "value" "I") (List.mem_of_getElem? (i := 6) rfl))
  have hN0 : ∀ (k39 : Nat → mS → Option mS) (hk39 : ∀ (h0 : Nat) (σ : mS), k39 h0 σ = some z → ∀ (H : Heap) (locs : List Loc) (ls : Array Slot), mP G σ H → mL G locs → lv_has ls 2 [(0, .ref h0)] → W p l e rm_X4_readWord s m args below meth c H locs 0 0 Q (F0 m 39 ls [])) (n : Nat) (h0 : Nat) (σ : mS), f_X4_readWord_0 k39 n h0 σ = some z → ∀ (H : Heap) (locs : List Loc) (ls : Array Slot), mP G σ H → mL G locs → lv_has ls 2 [(0, .ref h0)] → W p l e rm_X4_readWord s m args below meth c H locs 0 0 Q (F0 m 0 ls []) := by
    intro k39 hk39 n
    induction n with
    | zero =>
      intro h0 σ h
      exact nomatch (show (none : Option mS) = some z from h)
    | succ n ih =>
      intro h0 σ h H locs ls hM hL hl
      rw [f_X4_readWord_0.eq_2] at h
      refine lv_aload_n hx hb dX4_readWord_0 rfl (lv_at hl 0 rfl) ?_
      refine m_getI (ci := 3) hx hb hU4 hown hK hM rfl 4 (by decide) w1 h dX4_readWord_1 (fun v21 gv21 h => ?_)
      refine lv_aload_n hx hb dX4_readWord_4 rfl (lv_at hl 0 rfl) ?_
      refine m_getI (ci := 3) hx hb hU4 hown hK hM rfl 3 (by decide) w2 h dX4_readWord_5 (fun v22 gv22 h => ?_)
      refine lv_icmp_ge (tgt := 39) hx hb dX4_readWord_8 (by decide) (fun c23 => ?_) (fun c23 => ?_)
      · have h := (if_pos c23).symm.trans h
        exact hk39 _ _ h _ _ _ hM hL (lv_sub hl [0] rfl)
      · have h := (if_neg c23).symm.trans h
        refine lv_aload_n hx hb dX4_readWord_11 rfl (lv_at hl 0 rfl) ?_
        refine m_getR (ci := 3) hx hb hU4 hown hK hM rfl 0 (by decide) w3 h dX4_readWord_12 (fun r24 gr24 h => ?_)
        refine lv_aload_n hx hb dX4_readWord_15 rfl (lv_at hl 0 rfl) ?_
        refine m_getI (ci := 3) hx hb hU4 hown hK hM rfl 4 (by decide) w1 h dX4_readWord_16 (fun v25 gv25 h => ?_)
        refine m_iald hx hb hK hM h dX4_readWord_19 (fun v26 gv26 h => ?_)
        refine m_calli (va_runS (As := [.int v26]) (rest := []) ⟨hx, hb, hml, hown, hts⟩ (c_X4_isLetter l G v26) (va_cwS 1 hts gX4_readWord_X4_isLetter rfl rfl rfl hd_X4_isLetter ⟨Nat.le_of_ble_eq_true rfl, Nat.le_of_ble_eq_true rfl⟩) (m_preS hK hM) rfl rfl hl.1 rfl (lv_room (Nat.le_of_ble_eq_true rfl)) dX4_readWord_20 ⟨Nat.le_of_ble_eq_true rfl, Nat.le_of_ble_eq_true rfl⟩) hL (fun H locs hM hL => ?_)
        refine lv_if_eq (tgt := 39) hx hb dX4_readWord_23 (by decide) (fun c27 => ?_) (fun c27 => ?_)
        · have h := (if_pos c27).symm.trans h
          exact hk39 _ _ h _ _ _ hM hL (lv_sub hl [0] rfl)
        · have h := (if_neg c27).symm.trans h
          refine lv_aload_n hx hb dX4_readWord_26 rfl (lv_at hl 0 rfl) ?_
          refine lv_dup hx hb dX4_readWord_27 rfl ?_
          refine m_getI (ci := 3) hx hb hU4 hown hK hM rfl 4 (by decide) w1 h dX4_readWord_28 (fun v28 gv28 h => ?_)
          refine lv_iconst hx hb dX4_readWord_31 kI_1 ?_
          refine lv_iadd hx hb dX4_readWord_32 ?_
          refine m_put (ci := 3) hx hb hU4 tyX4 tyX4_ok nmX4 hown hK hM hL rfl 4 (by decide) w1 rfl rfl rfl h dX4_readWord_33 (fun t29 H locs h hM hL => ?_)
          refine lv_goto (tgt := 0) hx hb dX4_readWord_36 (by decide) ?_
          exact ih _ _ h _ _ _ hM hL (lv_sub hl [0] rfl)
  rw [f_X4_readWord.eq_1] at h
  refine hN0 _ ?_ _ _ _ h _ _ _ hM hL (lv_sub hl [0] rfl)
  · intro h0 σ h H locs ls hM hL hl
    refine lv_aload_n hx hb dX4_readWord_39 rfl (lv_at hl 0 rfl) ?_
    refine lv_aload_n hx hb dX4_readWord_40 rfl (lv_at hl 0 rfl) ?_
    refine m_getI (ci := 3) hx hb hU4 hown hK hM rfl 6 (by decide) w4 h dX4_readWord_41 (fun v30 gv30 h => ?_)
    refine lv_aload_n hx hb dX4_readWord_44 rfl (lv_at hl 0 rfl) ?_
    refine m_getI (ci := 3) hx hb hU4 hown hK hM rfl 4 (by decide) w1 h dX4_readWord_45 (fun v31 gv31 h => ?_)
    refine lv_aload_n hx hb dX4_readWord_48 rfl (lv_at hl 0 rfl) ?_
    refine m_getI (ci := 3) hx hb hU4 hown hK hM rfl 6 (by decide) w4 h dX4_readWord_49 (fun v32 gv32 h => ?_)
    refine lv_isub hx hb dX4_readWord_52 ?_
    obtain ⟨o33, h⟩ := oi_some h
    obtain ⟨q34, hq34, h⟩ := ob_some h
    refine m_calli (va_runV (As := [.int v30, .int (v31 - v32)]) (rest := []) ⟨hx, hb, hml, hown, hts⟩ (c_X4_wordNumber l G hq34) (cwV 2 hts gX4_readWord_X4_wordNumber rfl rfl rfl hd_X4_wordNumberv ⟨Nat.le_of_ble_eq_true rfl, Nat.le_of_ble_eq_true rfl⟩) (m_preV (ci := 3) hK hM rfl o33) rfl rfl hl.1 rfl (lv_room (Nat.le_of_ble_eq_true rfl)) dX4_readWord_53 ⟨Nat.le_of_ble_eq_true rfl, Nat.le_of_ble_eq_true rfl⟩) hL (fun H locs hM hL => ?_)
    refine lv_istore_n (lv' := [(1, .int q34), (0, .ref h0)]) hx hb dX4_readWord_56 rfl hl (by decide) rfl (fun ls hl => ?_)
    refine lv_iload_n hx hb dX4_readWord_57 rfl (lv_at hl 0 rfl) ?_
    refine lv_iconst hx hb dX4_readWord_58 kI_m1 ?_
    refine lv_icmp_ne (tgt := 70) hx hb dX4_readWord_59 (by decide) (fun c35 => ?_) (fun c35 => ?_)
    · have h := (if_neg c35).symm.trans h
      refine lv_iload_n hx hb dX4_readWord_70 rfl (lv_at hl 0 rfl) ?_
      refine lv_bipush hx hb dX4_readWord_71 kB_6 ?_
      refine lv_icmp_ge (tgt := 86) hx hb dX4_readWord_73 (by decide) (fun c36 => ?_) (fun c36 => ?_)
      · have h := (if_pos c36).symm.trans h
        refine lv_aload_n hx hb dX4_readWord_86 rfl (lv_at hl 1 rfl) ?_
        refine lv_iconst hx hb dX4_readWord_87 kI_3 ?_
        refine m_put (ci := 3) hx hb hU4 tyX4 tyX4_ok nmX4 hown hK hM hL rfl 5 (by decide) w5 rfl rfl rfl h dX4_readWord_88 (fun t37 H locs h hM hL => ?_)
        refine lv_aload_n hx hb dX4_readWord_91 rfl (lv_at hl 1 rfl) ?_
        refine lv_iconst hx hb dX4_readWord_92 kI_m1 ?_
        refine lv_iload_n hx hb dX4_readWord_93 rfl (lv_at hl 0 rfl) ?_
        refine lv_bipush hx hb dX4_readWord_94 kB_6 ?_
        refine lv_isub hx hb dX4_readWord_96 ?_
        refine lv_isub hx hb dX4_readWord_97 ?_
        refine m_put (ci := 3) hx hb hU4 tyX4 tyX4_ok nmX4 hown hK hM hL rfl 7 (by decide) w6 rfl rfl rfl h dX4_readWord_98 (fun t38 H locs h hM hL => ?_)
        subst hQ
        cases h
        exact m_vret hx hb hr hM hL dX4_readWord_101 hlocks
      · have h := (if_neg c36).symm.trans h
        refine lv_aload_n hx hb dX4_readWord_76 rfl (lv_at hl 1 rfl) ?_
        refine lv_iconst hx hb dX4_readWord_77 kI_4 ?_
        refine lv_iload_n hx hb dX4_readWord_78 rfl (lv_at hl 0 rfl) ?_
        refine lv_iadd hx hb dX4_readWord_79 ?_
        refine m_put (ci := 3) hx hb hU4 tyX4 tyX4_ok nmX4 hown hK hM hL rfl 5 (by decide) w5 rfl rfl rfl h dX4_readWord_80 (fun t39 H locs h hM hL => ?_)
        refine lv_goto (tgt := 101) hx hb dX4_readWord_83 (by decide) ?_
        subst hQ
        cases h
        exact m_vret hx hb hr hM hL dX4_readWord_101 hlocks
    · have h := (if_pos c35).symm.trans h
      refine lv_aload_n hx hb dX4_readWord_62 rfl (lv_at hl 1 rfl) ?_
      refine lv_iconst hx hb dX4_readWord_63 kI_1 ?_
      refine m_put (ci := 3) hx hb hU4 tyX4 tyX4_ok nmX4 hown hK hM hL rfl 5 (by decide) w5 rfl rfl rfl h dX4_readWord_64 (fun t40 H locs h hM hL => ?_)
      refine lv_goto (tgt := 101) hx hb dX4_readWord_67 (by decide) ?_
      subst hQ
      cases h
      exact m_vret hx hb hr hM hL dX4_readWord_101 hlocks
abbrev rm_X4_isDigit : Room := { frames := 0, cells := 0, slots := 0, locals := 0 }
theorem z_X4_isDigit (x0 : Int32) : narrow .boolean (.int (f_X4_isDigit x0)) = .int (f_X4_isDigit x0) := by
  rw [f_X4_isDigit.eq_1]
  try dsimp only [vl]
  (repeat' split) <;> first | rfl | apply z_X5_isBelow
set_option maxHeartbeats 4000000 in
set_option maxRecDepth 100000 in
theorem c_X4_isDigit (l : Launch) (G : mG) (x0 : Int32) {σ : mS} : Met l yX4_isDigit wsX4_isDigit rm_X4_isDigit (va_Pc [.int x0] (mB G σ)) (mQ G (.returned (some (.int (f_X4_isDigit x0)))) (σ)) 0 0 (mF G) := by
  obtain ⟨z, h⟩ : ∃ z, f_X4_isDigit x0 = z := ⟨_, rfl⟩
  rw [h]
  refine m_start (cc := cX4_isDigit) (maxL := 1) (ret := (some .boolean)) (by decide) rfl [.int x0] (Nat.le_of_ble_eq_true rfl) ?_
  intro p e s m args below meth c ls hx hb hr hml hown hts hlocks hnm hK hM hl
  have hown : s.vm.findClass RX4 = some m.cls := hown
  have hnm : meth.name = "isDigit" := hnm
  obtain ⟨locs, hlocs⟩ : ∃ l : List Loc, l = [] := ⟨_, rfl⟩
  have hL : mL G locs := by rw [hlocs]; exact mL_nil G
  rw [← hlocs]
  generalize s.heap = H at hM ⊢
  have hl : lv_has ls 1 [(0, .int x0)] := hl
  obtain ⟨Q, hQ⟩ : ∃ Q, Q = MQ below (mQ G (.returned (some (.int z))) (σ)) args s 0 0 (mF G) := ⟨_, rfl⟩
  rw [← hQ]
  rw [f_X4_isDigit.eq_1] at h
  refine lv_iload_n hx hb dX4_isDigit_0 rfl (lv_at hl 0 rfl) ?_
  refine lv_bipush hx hb dX4_isDigit_1 kB_48 ?_
  refine lv_icmp_lt (tgt := 16) hx hb dX4_isDigit_3 (by decide) (fun c3 => ?_) (fun c3 => ?_)
  · have h := (if_pos c3).symm.trans h
    refine lv_iconst hx hb dX4_isDigit_16 kI_0 ?_
    subst hQ
    subst h
    exact m_zret (x := (0 : Int32)) hx hb hr rfl hM hL dX4_isDigit_17 hlocks
  · have h := (if_neg c3).symm.trans h
    refine lv_iload_n hx hb dX4_isDigit_6 rfl (lv_at hl 0 rfl) ?_
    refine lv_bipush hx hb dX4_isDigit_7 kB_57 ?_
    refine lv_icmp_gt (tgt := 16) hx hb dX4_isDigit_9 (by decide) (fun c4 => ?_) (fun c4 => ?_)
    · have h := (if_pos c4).symm.trans h
      refine lv_iconst hx hb dX4_isDigit_16 kI_0 ?_
      subst hQ
      subst h
      exact m_zret (x := (0 : Int32)) hx hb hr rfl hM hL dX4_isDigit_17 hlocks
    · have h := (if_neg c4).symm.trans h
      refine lv_iconst hx hb dX4_isDigit_12 kI_1 ?_
      refine lv_goto (tgt := 17) hx hb dX4_isDigit_13 (by decide) ?_
      subst hQ
      subst h
      exact m_zret (x := (1 : Int32)) hx hb hr rfl hM hL dX4_isDigit_17 hlocks
abbrev rm_X4_readNumber : Room := { frames := 1, cells := 0, slots := 0, locals := 20 }
set_option maxHeartbeats 4000000 in
set_option maxRecDepth 100000 in
theorem c_X4_readNumber (l : Launch) (G : mG) {h0 : Nat} {σ : mS} {z : mS} (h : f_X4_readNumber h0 σ = some z) : Met l yX4_readNumber wsX4_readNumber rm_X4_readNumber (va_Pc [.ref h0] (mB G σ)) (mQ G (.returned none) z) 0 0 (mF G) := by
  refine m_start (cc := cX4_readNumber) (maxL := 2) (ret := none) (by decide) rfl [.ref h0] (Nat.le_of_ble_eq_true rfl) ?_
  intro p e s m args below meth c ls hx hb hr hml hown hts hlocks hnm hK hM hl
  have hown : s.vm.findClass RX4 = some m.cls := hown
  have hnm : meth.name = "readNumber" := hnm
  obtain ⟨locs, hlocs⟩ : ∃ l : List Loc, l = [] := ⟨_, rfl⟩
  have hL : mL G locs := by rw [hlocs]; exact mL_nil G
  rw [← hlocs]
  generalize s.heap = H at hM ⊢
  have hl : lv_has ls 2 [(0, .ref h0)] := hl
  obtain ⟨Q, hQ⟩ : ∃ Q, Q = MQ below (mQ G (.returned none) z) args s 0 0 (mF G) := ⟨_, rfl⟩
  rw [← hQ]
  have hU4 : ∀ w ∈ wsX40, w.before args s = true := fun w h => hts w (List.mem_cons_of_mem _ (List.mem_append_right _ h))
  have w1 := (hts (.fieldLink RX4 83 "HandkerchiefsDropped$Tape" "value" "I") (List.mem_of_getElem? (i := 1) rfl))
  have w2 := (hts (.fieldLink RX4 25 "HandkerchiefsDropped$Tape" "at" "I") (List.mem_of_getElem? (i := 2) rfl))
  have w3 := (hts (.fieldLink RX4 21 "HandkerchiefsDropped$Tape" "size" "I") (List.mem_of_getElem? (i := 3) rfl))
  have w4 := (hts (.fieldLink RX4 9 "HandkerchiefsDropped$Tape" "bytes" "[I") (List.mem_of_getElem? (i := 4) rfl))
  have w5 := (hts (.fieldLink RX4 41 "HandkerchiefsDropped$Tape" "token" "I") (List.mem_of_getElem? (i := 5) rfl))
  have hN66 : ∀ (k7 : Nat → Int32 → mS → Option mS) (hk7 : ∀ (h0 : Nat) (x1 : Int32) (σ : mS), k7 h0 x1 σ = some z → ∀ (H : Heap) (locs : List Loc) (ls : Array Slot), mP G σ H → mL G locs → lv_has ls 2 [(0, .ref h0), (1, .int x1)] → W p l e rm_X4_readNumber s m args below meth c H locs 0 0 Q (F0 m 7 ls [])) (h0 : Nat) (x1 : Int32) (s0 : Nat) (s1 : Int32) (σ : mS), f_X4_readNumber_66 k7 h0 x1 s0 s1 σ = some z → ∀ (H : Heap) (locs : List Loc) (ls : Array Slot), mP G σ H → mL G locs → lv_has ls 2 [(0, .ref h0), (1, .int x1)] → W p l e rm_X4_readNumber s m args below meth c H locs 0 0 Q (F0 m 66 ls [.int s1, .ref s0]) := by
    intro k7 hk7 h0 x1 s0 s1 σ h H locs ls hM hL hl
    rw [f_X4_readNumber_66.eq_1] at h
    refine m_put (ci := 3) hx hb hU4 tyX4 tyX4_ok nmX4 hown hK hM hL rfl 7 (by decide) w1 rfl rfl rfl h dX4_readNumber_66 (fun t22 H locs h hM hL => ?_)
    obtain ⟨v23, ev23⟩ : ∃ y : Int32, y = x1 + (1 : Int32) := ⟨_, rfl⟩
    have h := vl_at ev23 h
    refine lv_iinc (v := v23) (lv' := [(1, .int v23), (0, .ref h0)]) hx hb dX4_readNumber_69 hl (k := 1) rfl (by rw [ev23, kI_1]) (by decide) rfl (fun ls hl => ?_)
    refine lv_aload_n hx hb dX4_readNumber_72 rfl (lv_at hl 1 rfl) ?_
    refine lv_dup hx hb dX4_readNumber_73 rfl ?_
    refine m_getI (ci := 3) hx hb hU4 hown hK hM rfl 4 (by decide) w2 h dX4_readNumber_74 (fun v24 gv24 h => ?_)
    refine lv_iconst hx hb dX4_readNumber_77 kI_1 ?_
    refine lv_iadd hx hb dX4_readNumber_78 ?_
    refine m_put (ci := 3) hx hb hU4 tyX4 tyX4_ok nmX4 hown hK hM hL rfl 4 (by decide) w2 rfl rfl rfl h dX4_readNumber_79 (fun t25 H locs h hM hL => ?_)
    refine lv_goto (tgt := 7) hx hb dX4_readNumber_82 (by decide) ?_
    exact hk7 _ _ _ h _ _ _ hM hL (lv_sub hl [1, 0] rfl)
  have hN7 : ∀ (k85 : Nat → Int32 → mS → Option mS) (hk85 : ∀ (h0 : Nat) (x1 : Int32) (σ : mS), k85 h0 x1 σ = some z → ∀ (H : Heap) (locs : List Loc) (ls : Array Slot), mP G σ H → mL G locs → lv_has ls 2 [(0, .ref h0), (1, .int x1)] → W p l e rm_X4_readNumber s m args below meth c H locs 0 0 Q (F0 m 85 ls [])) (n : Nat) (h0 : Nat) (x1 : Int32) (σ : mS), f_X4_readNumber_7 k85 n h0 x1 σ = some z → ∀ (H : Heap) (locs : List Loc) (ls : Array Slot), mP G σ H → mL G locs → lv_has ls 2 [(0, .ref h0), (1, .int x1)] → W p l e rm_X4_readNumber s m args below meth c H locs 0 0 Q (F0 m 7 ls []) := by
    intro k85 hk85 n
    induction n with
    | zero =>
      intro h0 x1 σ h
      exact nomatch (show (none : Option mS) = some z from h)
    | succ n ih =>
      intro h0 x1 σ h H locs ls hM hL hl
      rw [f_X4_readNumber_7.eq_2] at h
      refine lv_aload_n hx hb dX4_readNumber_7 rfl (lv_at hl 0 rfl) ?_
      refine m_getI (ci := 3) hx hb hU4 hown hK hM rfl 4 (by decide) w2 h dX4_readNumber_8 (fun v26 gv26 h => ?_)
      refine lv_aload_n hx hb dX4_readNumber_11 rfl (lv_at hl 0 rfl) ?_
      refine m_getI (ci := 3) hx hb hU4 hown hK hM rfl 3 (by decide) w3 h dX4_readNumber_12 (fun v27 gv27 h => ?_)
      refine lv_icmp_ge (tgt := 85) hx hb dX4_readNumber_15 (by decide) (fun c28 => ?_) (fun c28 => ?_)
      · have h := (if_pos c28).symm.trans h
        exact hk85 _ _ _ h _ _ _ hM hL (lv_sub hl [0, 1] rfl)
      · have h := (if_neg c28).symm.trans h
        refine lv_aload_n hx hb dX4_readNumber_18 rfl (lv_at hl 0 rfl) ?_
        refine m_getR (ci := 3) hx hb hU4 hown hK hM rfl 0 (by decide) w4 h dX4_readNumber_19 (fun r29 gr29 h => ?_)
        refine lv_aload_n hx hb dX4_readNumber_22 rfl (lv_at hl 0 rfl) ?_
        refine m_getI (ci := 3) hx hb hU4 hown hK hM rfl 4 (by decide) w2 h dX4_readNumber_23 (fun v30 gv30 h => ?_)
        refine m_iald hx hb hK hM h dX4_readNumber_26 (fun v31 gv31 h => ?_)
        refine m_calli (va_runS (As := [.int v31]) (rest := []) ⟨hx, hb, hml, hown, hts⟩ (c_X4_isDigit l G v31) (va_cwS 1 hts gX4_readNumber_X4_isDigit rfl rfl rfl hd_X4_isDigit ⟨Nat.le_of_ble_eq_true rfl, Nat.le_of_ble_eq_true rfl⟩) (m_preS hK hM) rfl rfl hl.1 rfl (lv_room (Nat.le_of_ble_eq_true rfl)) dX4_readNumber_27 ⟨Nat.le_of_ble_eq_true rfl, Nat.le_of_ble_eq_true rfl⟩) hL (fun H locs hM hL => ?_)
        refine lv_if_eq (tgt := 85) hx hb dX4_readNumber_30 (by decide) (fun c32 => ?_) (fun c32 => ?_)
        · have h := (if_pos c32).symm.trans h
          exact hk85 _ _ _ h _ _ _ hM hL (lv_sub hl [0, 1] rfl)
        · have h := (if_neg c32).symm.trans h
          refine lv_aload_n hx hb dX4_readNumber_33 rfl (lv_at hl 0 rfl) ?_
          refine lv_iload_n hx hb dX4_readNumber_34 rfl (lv_at hl 1 rfl) ?_
          refine lv_iconst hx hb dX4_readNumber_35 kI_4 ?_
          refine lv_icmp_ge (tgt := 62) hx hb dX4_readNumber_36 (by decide) (fun c33 => ?_) (fun c33 => ?_)
          · have h := (if_pos c33).symm.trans h
            refine lv_aload_n hx hb dX4_readNumber_62 rfl (lv_at hl 0 rfl) ?_
            refine m_getI (ci := 3) hx hb hU4 hown hK hM rfl 7 (by decide) w1 h dX4_readNumber_63 (fun v34 gv34 h => ?_)
            refine hN66 _ (fun _ _ _ h H locs ls hM hL hl => ih _ _ _ h H locs ls hM hL hl) _ _ _ _ _ h _ _ _ hM hL (lv_sub hl [0, 1] rfl)
          · have h := (if_neg c33).symm.trans h
            refine lv_aload_n hx hb dX4_readNumber_39 rfl (lv_at hl 0 rfl) ?_
            refine m_getI (ci := 3) hx hb hU4 hown hK hM rfl 7 (by decide) w1 h dX4_readNumber_40 (fun v35 gv35 h => ?_)
            refine lv_bipush hx hb dX4_readNumber_43 kB_10 ?_
            refine lv_imul hx hb dX4_readNumber_45 ?_
            refine lv_aload_n hx hb dX4_readNumber_46 rfl (lv_at hl 0 rfl) ?_
            refine m_getR (ci := 3) hx hb hU4 hown hK hM rfl 0 (by decide) w4 h dX4_readNumber_47 (fun r36 gr36 h => ?_)
            refine lv_aload_n hx hb dX4_readNumber_50 rfl (lv_at hl 0 rfl) ?_
            refine m_getI (ci := 3) hx hb hU4 hown hK hM rfl 4 (by decide) w2 h dX4_readNumber_51 (fun v37 gv37 h => ?_)
            refine m_iald hx hb hK hM h dX4_readNumber_54 (fun v38 gv38 h => ?_)
            refine lv_iadd hx hb dX4_readNumber_55 ?_
            refine lv_bipush hx hb dX4_readNumber_56 kB_48 ?_
            refine lv_isub hx hb dX4_readNumber_58 ?_
            refine lv_goto (tgt := 66) hx hb dX4_readNumber_59 (by decide) ?_
            refine hN66 _ (fun _ _ _ h H locs ls hM hL hl => ih _ _ _ h H locs ls hM hL hl) _ _ _ _ _ h _ _ _ hM hL (lv_sub hl [0, 1] rfl)
  rw [f_X4_readNumber.eq_1] at h
  refine lv_iconst hx hb dX4_readNumber_0 kI_0 ?_
  refine lv_istore_n (lv' := [(1, .int (0 : Int32)), (0, .ref h0)]) hx hb dX4_readNumber_1 rfl hl (by decide) rfl (fun ls hl => ?_)
  refine lv_aload_n hx hb dX4_readNumber_2 rfl (lv_at hl 1 rfl) ?_
  refine lv_iconst hx hb dX4_readNumber_3 kI_0 ?_
  refine m_put (ci := 3) hx hb hU4 tyX4 tyX4_ok nmX4 hown hK hM hL rfl 7 (by decide) w1 rfl rfl rfl h dX4_readNumber_4 (fun t39 H locs h hM hL => ?_)
  refine hN7 _ ?_ _ _ _ _ h _ _ _ hM hL (lv_sub hl [1, 0] rfl)
  · intro h0 x1 σ h H locs ls hM hL hl
    refine lv_aload_n hx hb dX4_readNumber_85 rfl (lv_at hl 0 rfl) ?_
    refine lv_iload_n hx hb dX4_readNumber_86 rfl (lv_at hl 1 rfl) ?_
    refine lv_iconst hx hb dX4_readNumber_87 kI_4 ?_
    suffices hJ : ∀ (v41 : Int32) (ls : Array Slot), v41 = (if x1 ≤ (4 : Int32) then (2 : Int32) else (1 : Int32)) → lv_has ls 2 [] → W p l e rm_X4_readNumber s m args below meth c H locs 0 0 Q (F0 m 96 ls [.int v41, .ref h0]) by
      refine lv_icmp_le (tgt := 95) hx hb dX4_readNumber_88 (by decide) (fun c40 => ?_) (fun c40 => ?_)
      · refine lv_iconst hx hb dX4_readNumber_95 kI_2 ?_
        exact hJ _ _ (((if_pos c40).trans rfl).symm) (lv_sub hl [] rfl)
      · refine lv_iconst hx hb dX4_readNumber_91 kI_1 ?_
        refine lv_goto (tgt := 96) hx hb dX4_readNumber_92 (by decide) ?_
        exact hJ _ _ (((if_neg c40).trans rfl).symm) (lv_sub hl [] rfl)
    intro v41 ls ev41 hl
    have h := vl_at ev41 h
    refine m_put (ci := 3) hx hb hU4 tyX4 tyX4_ok nmX4 hown hK hM hL rfl 5 (by decide) w5 rfl rfl rfl h dX4_readNumber_96 (fun t42 H locs h hM hL => ?_)
    subst hQ
    cases h
    exact m_vret hx hb hr hM hL dX4_readNumber_99 hlocks
abbrev rm_X4_advance : Room := { frames := 6, cells := 0, slots := 0, locals := 133 }
set_option maxHeartbeats 4000000 in
set_option maxRecDepth 100000 in
theorem c_X4_advance (l : Launch) (G : mG) {h0 : Nat} {σ : mS} {z : mS} (h : f_X4_advance h0 σ = some z) : Met l yX4_advance wsX4_advance rm_X4_advance (va_Pc [.ref h0] (mB G σ)) (mQ G (.returned none) z) 0 0 (mF G) := by
  refine m_start (cc := cX4_advance) (maxL := 1) (ret := none) (by decide) rfl [.ref h0] (Nat.le_of_ble_eq_true rfl) ?_
  intro p e s m args below meth c ls hx hb hr hml hown hts hlocks hnm hK hM hl
  have hown : s.vm.findClass RX4 = some m.cls := hown
  have hnm : meth.name = "advance" := hnm
  obtain ⟨locs, hlocs⟩ : ∃ l : List Loc, l = [] := ⟨_, rfl⟩
  have hL : mL G locs := by rw [hlocs]; exact mL_nil G
  rw [← hlocs]
  generalize s.heap = H at hM ⊢
  have hl : lv_has ls 1 [(0, .ref h0)] := hl
  obtain ⟨Q, hQ⟩ : ∃ Q, Q = MQ below (mQ G (.returned none) z) args s 0 0 (mF G) := ⟨_, rfl⟩
  rw [← hQ]
  have hU4 : ∀ w ∈ wsX40, w.before args s = true := fun w h => hts w (List.mem_cons_of_mem _ (List.mem_append_right _ h))
  have w1 := (hts (.fieldLink RX4 25 "HandkerchiefsDropped$Tape" "at" "I") (List.mem_of_getElem? (i := 1) rfl))
  have w2 := (hts (.fieldLink RX4 21 "HandkerchiefsDropped$Tape" "size" "I") (List.mem_of_getElem? (i := 2) rfl))
  have w3 := (hts (.fieldLink RX4 9 "HandkerchiefsDropped$Tape" "bytes" "[I") (List.mem_of_getElem? (i := 3) rfl))
  have w4 := (hts (.fieldLink RX4 44 "HandkerchiefsDropped$Tape" "place" "I") (List.mem_of_getElem? (i := 4) rfl))
  have w5 := (hts (.fieldLink RX4 41 "HandkerchiefsDropped$Tape" "token" "I") (List.mem_of_getElem? (i := 5) rfl))
  have hN39 : ∀ (k0 : Nat → mS → Option mS) (hk0 : ∀ (h0 : Nat) (σ : mS), k0 h0 σ = some z → ∀ (H : Heap) (locs : List Loc) (ls : Array Slot), mP G σ H → mL G locs → lv_has ls 1 [(0, .ref h0)] → W p l e rm_X4_advance s m args below meth c H locs 0 0 Q (F0 m 0 ls [])) (h0 : Nat) (σ : mS), f_X4_advance_39 k0 h0 σ = some z → ∀ (H : Heap) (locs : List Loc) (ls : Array Slot), mP G σ H → mL G locs → lv_has ls 1 [(0, .ref h0)] → W p l e rm_X4_advance s m args below meth c H locs 0 0 Q (F0 m 39 ls []) := by
    intro k0 hk0 h0 σ h H locs ls hM hL hl
    rw [f_X4_advance_39.eq_1] at h
    refine lv_aload_n hx hb dX4_advance_39 rfl (lv_at hl 0 rfl) ?_
    refine lv_dup hx hb dX4_advance_40 rfl ?_
    refine m_getI (ci := 3) hx hb hU4 hown hK hM rfl 4 (by decide) w1 h dX4_advance_41 (fun v43 gv43 h => ?_)
    refine lv_iconst hx hb dX4_advance_44 kI_1 ?_
    refine lv_iadd hx hb dX4_advance_45 ?_
    refine m_put (ci := 3) hx hb hU4 tyX4 tyX4_ok nmX4 hown hK hM hL rfl 4 (by decide) w1 rfl rfl rfl h dX4_advance_46 (fun t44 H locs h hM hL => ?_)
    refine lv_goto (tgt := 0) hx hb dX4_advance_49 (by decide) ?_
    exact hk0 _ _ h _ _ _ hM hL (lv_sub hl [0] rfl)
  have hN0 : ∀ (k52 : Nat → mS → Option mS) (hk52 : ∀ (h0 : Nat) (σ : mS), k52 h0 σ = some z → ∀ (H : Heap) (locs : List Loc) (ls : Array Slot), mP G σ H → mL G locs → lv_has ls 1 [(0, .ref h0)] → W p l e rm_X4_advance s m args below meth c H locs 0 0 Q (F0 m 52 ls [])) (n : Nat) (h0 : Nat) (σ : mS), f_X4_advance_0 k52 n h0 σ = some z → ∀ (H : Heap) (locs : List Loc) (ls : Array Slot), mP G σ H → mL G locs → lv_has ls 1 [(0, .ref h0)] → W p l e rm_X4_advance s m args below meth c H locs 0 0 Q (F0 m 0 ls []) := by
    intro k52 hk52 n
    induction n with
    | zero =>
      intro h0 σ h
      exact nomatch (show (none : Option mS) = some z from h)
    | succ n ih =>
      intro h0 σ h H locs ls hM hL hl
      rw [f_X4_advance_0.eq_2] at h
      refine lv_aload_n hx hb dX4_advance_0 rfl (lv_at hl 0 rfl) ?_
      refine m_getI (ci := 3) hx hb hU4 hown hK hM rfl 4 (by decide) w1 h dX4_advance_1 (fun v45 gv45 h => ?_)
      refine lv_aload_n hx hb dX4_advance_4 rfl (lv_at hl 0 rfl) ?_
      refine m_getI (ci := 3) hx hb hU4 hown hK hM rfl 3 (by decide) w2 h dX4_advance_5 (fun v46 gv46 h => ?_)
      refine lv_icmp_ge (tgt := 52) hx hb dX4_advance_8 (by decide) (fun c47 => ?_) (fun c47 => ?_)
      · have h := (if_pos c47).symm.trans h
        exact hk52 _ _ h _ _ _ hM hL (lv_sub hl [0] rfl)
      · have h := (if_neg c47).symm.trans h
        refine lv_aload_n hx hb dX4_advance_11 rfl (lv_at hl 0 rfl) ?_
        refine m_getR (ci := 3) hx hb hU4 hown hK hM rfl 0 (by decide) w3 h dX4_advance_12 (fun r48 gr48 h => ?_)
        refine lv_aload_n hx hb dX4_advance_15 rfl (lv_at hl 0 rfl) ?_
        refine m_getI (ci := 3) hx hb hU4 hown hK hM rfl 4 (by decide) w1 h dX4_advance_16 (fun v49 gv49 h => ?_)
        refine m_iald hx hb hK hM h dX4_advance_19 (fun v50 gv50 h => ?_)
        refine lv_bipush hx hb dX4_advance_20 kB_32 ?_
        refine lv_icmp_eq (tgt := 39) hx hb dX4_advance_22 (by decide) (fun c51 => ?_) (fun c51 => ?_)
        · have h := (if_pos c51).symm.trans h
          refine hN39 _ (fun _ _ h H locs ls hM hL hl => ih _ _ h H locs ls hM hL hl) _ _ h _ _ _ hM hL (lv_sub hl [0] rfl)
        · have h := (if_neg c51).symm.trans h
          refine lv_aload_n hx hb dX4_advance_25 rfl (lv_at hl 0 rfl) ?_
          refine m_getR (ci := 3) hx hb hU4 hown hK hM rfl 0 (by decide) w3 h dX4_advance_26 (fun r52 gr52 h => ?_)
          refine lv_aload_n hx hb dX4_advance_29 rfl (lv_at hl 0 rfl) ?_
          refine m_getI (ci := 3) hx hb hU4 hown hK hM rfl 4 (by decide) w1 h dX4_advance_30 (fun v53 gv53 h => ?_)
          refine m_iald hx hb hK hM h dX4_advance_33 (fun v54 gv54 h => ?_)
          refine lv_bipush hx hb dX4_advance_34 kB_10 ?_
          refine lv_icmp_ne (tgt := 52) hx hb dX4_advance_36 (by decide) (fun c55 => ?_) (fun c55 => ?_)
          · have h := (if_neg c55).symm.trans h
            exact hk52 _ _ h _ _ _ hM hL (lv_sub hl [0] rfl)
          · have h := (if_pos c55).symm.trans h
            refine hN39 _ (fun _ _ h H locs ls hM hL hl => ih _ _ h H locs ls hM hL hl) _ _ h _ _ _ hM hL (lv_sub hl [0] rfl)
  have hN155 : ∀ (h0 : Nat) (s0 : Nat) (s1 : Int32) (σ : mS), f_X4_advance_155 h0 s0 s1 σ = some z → ∀ (H : Heap) (locs : List Loc) (ls : Array Slot), mP G σ H → mL G locs → lv_has ls 1 [(0, .ref h0)] → W p l e rm_X4_advance s m args below meth c H locs 0 0 Q (F0 m 155 ls [.int s1, .ref s0]) := by
    intro h0 s0 s1 σ h H locs ls hM hL hl
    rw [f_X4_advance_155.eq_1] at h
    refine m_put (ci := 3) hx hb hU4 tyX4 tyX4_ok nmX4 hown hK hM hL rfl 5 (by decide) w5 rfl rfl rfl h dX4_advance_155 (fun t56 H locs h hM hL => ?_)
    refine lv_aload_n hx hb dX4_advance_158 rfl (lv_at hl 0 rfl) ?_
    refine lv_dup hx hb dX4_advance_159 rfl ?_
    refine m_getI (ci := 3) hx hb hU4 hown hK hM rfl 4 (by decide) w1 h dX4_advance_160 (fun v57 gv57 h => ?_)
    refine lv_iconst hx hb dX4_advance_163 kI_1 ?_
    refine lv_iadd hx hb dX4_advance_164 ?_
    refine m_put (ci := 3) hx hb hU4 tyX4 tyX4_ok nmX4 hown hK hM hL rfl 4 (by decide) w1 rfl rfl rfl h dX4_advance_165 (fun t58 H locs h hM hL => ?_)
    subst hQ
    cases h
    exact m_vret hx hb hr hM hL dX4_advance_168 hlocks
  rw [f_X4_advance.eq_1] at h
  refine hN0 _ ?_ _ _ _ h _ _ _ hM hL (lv_sub hl [0] rfl)
  · intro h0 σ h H locs ls hM hL hl
    refine lv_aload_n hx hb dX4_advance_52 rfl (lv_at hl 0 rfl) ?_
    refine lv_aload_n hx hb dX4_advance_53 rfl (lv_at hl 0 rfl) ?_
    refine m_getI (ci := 3) hx hb hU4 hown hK hM rfl 4 (by decide) w1 h dX4_advance_54 (fun v59 gv59 h => ?_)
    refine m_put (ci := 3) hx hb hU4 tyX4 tyX4_ok nmX4 hown hK hM hL rfl 6 (by decide) w4 rfl rfl rfl h dX4_advance_57 (fun t60 H locs h hM hL => ?_)
    refine lv_aload_n hx hb dX4_advance_60 rfl (lv_at hl 0 rfl) ?_
    refine m_getI (ci := 3) hx hb hU4 hown hK hM rfl 4 (by decide) w1 h dX4_advance_61 (fun v61 gv61 h => ?_)
    refine lv_aload_n hx hb dX4_advance_64 rfl (lv_at hl 0 rfl) ?_
    refine m_getI (ci := 3) hx hb hU4 hown hK hM rfl 3 (by decide) w2 h dX4_advance_65 (fun v62 gv62 h => ?_)
    refine lv_icmp_lt (tgt := 79) hx hb dX4_advance_68 (by decide) (fun c63 => ?_) (fun c63 => ?_)
    · have h := (if_pos c63).symm.trans h
      refine lv_aload_n hx hb dX4_advance_79 rfl (lv_at hl 0 rfl) ?_
      refine m_getR (ci := 3) hx hb hU4 hown hK hM rfl 0 (by decide) w3 h dX4_advance_80 (fun r64 gr64 h => ?_)
      refine lv_aload_n hx hb dX4_advance_83 rfl (lv_at hl 0 rfl) ?_
      refine m_getI (ci := 3) hx hb hU4 hown hK hM rfl 4 (by decide) w1 h dX4_advance_84 (fun v65 gv65 h => ?_)
      refine m_iald hx hb hK hM h dX4_advance_87 (fun v66 gv66 h => ?_)
      refine m_calli (va_runS (As := [.int v66]) (rest := []) ⟨hx, hb, hml, hown, hts⟩ (c_X4_isLetter l G v66) (va_cwS 1 hts gX4_advance_X4_isLetter rfl rfl rfl hd_X4_isLetter ⟨Nat.le_of_ble_eq_true rfl, Nat.le_of_ble_eq_true rfl⟩) (m_preS hK hM) rfl rfl hl.1 rfl (lv_room (Nat.le_of_ble_eq_true rfl)) dX4_advance_88 ⟨Nat.le_of_ble_eq_true rfl, Nat.le_of_ble_eq_true rfl⟩) hL (fun H locs hM hL => ?_)
      refine lv_if_eq (tgt := 101) hx hb dX4_advance_91 (by decide) (fun c67 => ?_) (fun c67 => ?_)
      · have h := (if_pos c67).symm.trans h
        refine lv_aload_n hx hb dX4_advance_101 rfl (lv_at hl 0 rfl) ?_
        refine m_getR (ci := 3) hx hb hU4 hown hK hM rfl 0 (by decide) w3 h dX4_advance_102 (fun r68 gr68 h => ?_)
        refine lv_aload_n hx hb dX4_advance_105 rfl (lv_at hl 0 rfl) ?_
        refine m_getI (ci := 3) hx hb hU4 hown hK hM rfl 4 (by decide) w1 h dX4_advance_106 (fun v69 gv69 h => ?_)
        refine m_iald hx hb hK hM h dX4_advance_109 (fun v70 gv70 h => ?_)
        refine m_calli (va_runS (As := [.int v70]) (rest := []) ⟨hx, hb, hml, hown, hts⟩ (c_X4_isDigit l G v70) (va_cwS 1 hts gX4_advance_X4_isDigit rfl rfl rfl hd_X4_isDigit ⟨Nat.le_of_ble_eq_true rfl, Nat.le_of_ble_eq_true rfl⟩) (m_preS hK hM) rfl rfl hl.1 rfl (lv_room (Nat.le_of_ble_eq_true rfl)) dX4_advance_110 ⟨Nat.le_of_ble_eq_true rfl, Nat.le_of_ble_eq_true rfl⟩) hL (fun H locs hM hL => ?_)
        refine lv_if_eq (tgt := 123) hx hb dX4_advance_113 (by decide) (fun c71 => ?_) (fun c71 => ?_)
        · have h := (if_pos c71).symm.trans h
          refine lv_aload_n hx hb dX4_advance_123 rfl (lv_at hl 0 rfl) ?_
          refine va_ldcS hx hb hown hK.2.2.2.2.1 dX4_advance_124 ?_
          refine lv_aload_n hx hb dX4_advance_126 rfl (lv_at hl 0 rfl) ?_
          refine m_getR (ci := 3) hx hb hU4 hown hK hM rfl 0 (by decide) w3 h dX4_advance_127 (fun r72 gr72 h => ?_)
          refine lv_aload_n hx hb dX4_advance_130 rfl (lv_at hl 0 rfl) ?_
          refine m_getI (ci := 3) hx hb hU4 hown hK hM rfl 4 (by decide) w1 h dX4_advance_131 (fun v73 gv73 h => ?_)
          refine m_iald hx hb hK hM h dX4_advance_134 (fun v74 gv74 h => ?_)
          refine lv_i2c hx hb dX4_advance_135 rfl ?_
          obtain ⟨q75, hq75, h⟩ := ob_some h
          refine m_calli (va_runV (As := [.int (v74.toUInt32 % 65536).toInt32]) (rest := [.ref h0]) ⟨hx, hb, hml, hown, hts⟩ (c_J0_indexOf_k0 l G hq75) (cwV 1 hts gX4_advance_J0_indexOf_0f7a4 rfl rfl rfl hd_J0_indexOfv ⟨Nat.le_of_ble_eq_true rfl, Nat.le_of_ble_eq_true rfl⟩) (m_preK hK hM 0 (by decide)) rfl rfl hl.1 rfl (lv_room (Nat.le_of_ble_eq_true rfl)) dX4_advance_136 ⟨Nat.le_of_ble_eq_true rfl, Nat.le_of_ble_eq_true rfl⟩) hL (fun H locs hM hL => ?_)
          refine lv_if_lt (tgt := 154) hx hb dX4_advance_139 (by decide) (fun c76 => ?_) (fun c76 => ?_)
          · have h := (if_pos c76).symm.trans h
            refine lv_iconst hx hb dX4_advance_154 kI_1 ?_
            refine hN155 _ _ _ _ h _ _ _ hM hL (lv_sub hl [0] rfl)
          · have h := (if_neg c76).symm.trans h
            refine lv_aload_n hx hb dX4_advance_142 rfl (lv_at hl 0 rfl) ?_
            refine m_getR (ci := 3) hx hb hU4 hown hK hM rfl 0 (by decide) w3 h dX4_advance_143 (fun r77 gr77 h => ?_)
            refine lv_aload_n hx hb dX4_advance_146 rfl (lv_at hl 0 rfl) ?_
            refine m_getI (ci := 3) hx hb hU4 hown hK hM rfl 4 (by decide) w1 h dX4_advance_147 (fun v78 gv78 h => ?_)
            refine m_iald hx hb hK hM h dX4_advance_150 (fun v79 gv79 h => ?_)
            refine lv_goto (tgt := 155) hx hb dX4_advance_151 (by decide) ?_
            refine hN155 _ _ _ _ h _ _ _ hM hL (lv_sub hl [0] rfl)
        · have h := (if_neg c71).symm.trans h
          refine lv_aload_n hx hb dX4_advance_116 rfl (lv_at hl 0 rfl) ?_
          obtain ⟨o80, h⟩ := oi_some h
          obtain ⟨q81, hq81, h⟩ := ob_some h
          refine m_callv (va_runV (As := []) (rest := []) ⟨hx, hb, hml, hown, hts⟩ (c_X4_readNumber l G hq81) (cwV 0 hts gX4_advance_X4_readNumber rfl rfl rfl hd_X4_readNumberv ⟨Nat.le_of_ble_eq_true rfl, Nat.le_of_ble_eq_true rfl⟩) (m_preV (ci := 3) hK hM rfl o80) rfl rfl hl.1 rfl (lv_room (Nat.le_of_ble_eq_true rfl)) dX4_advance_117 ⟨Nat.le_of_ble_eq_true rfl, Nat.le_of_ble_eq_true rfl⟩) hL (fun H locs hM hL => ?_)
          refine lv_goto (tgt := 168) hx hb dX4_advance_120 (by decide) ?_
          subst hQ
          cases h
          exact m_vret hx hb hr hM hL dX4_advance_168 hlocks
      · have h := (if_neg c67).symm.trans h
        refine lv_aload_n hx hb dX4_advance_94 rfl (lv_at hl 0 rfl) ?_
        obtain ⟨o82, h⟩ := oi_some h
        obtain ⟨q83, hq83, h⟩ := ob_some h
        refine m_callv (va_runV (As := []) (rest := []) ⟨hx, hb, hml, hown, hts⟩ (c_X4_readWord l G hq83) (cwV 0 hts gX4_advance_X4_readWord rfl rfl rfl hd_X4_readWordv ⟨Nat.le_of_ble_eq_true rfl, Nat.le_of_ble_eq_true rfl⟩) (m_preV (ci := 3) hK hM rfl o82) rfl rfl hl.1 rfl (lv_room (Nat.le_of_ble_eq_true rfl)) dX4_advance_95 ⟨Nat.le_of_ble_eq_true rfl, Nat.le_of_ble_eq_true rfl⟩) hL (fun H locs hM hL => ?_)
        refine lv_goto (tgt := 168) hx hb dX4_advance_98 (by decide) ?_
        subst hQ
        cases h
        exact m_vret hx hb hr hM hL dX4_advance_168 hlocks
    · have h := (if_neg c63).symm.trans h
      refine lv_aload_n hx hb dX4_advance_71 rfl (lv_at hl 0 rfl) ?_
      refine lv_iconst hx hb dX4_advance_72 kI_0 ?_
      refine m_put (ci := 3) hx hb hU4 tyX4 tyX4_ok nmX4 hown hK hM hL rfl 5 (by decide) w5 rfl rfl rfl h dX4_advance_73 (fun t84 H locs h hM hL => ?_)
      refine lv_goto (tgt := 168) hx hb dX4_advance_76 (by decide) ?_
      subst hQ
      cases h
      exact m_vret hx hb hr hM hL dX4_advance_168 hlocks
abbrev rm_X4_isTaken : Room := { frames := 7, cells := 0, slots := 0, locals := 153 }
set_option maxHeartbeats 4000000 in
set_option maxRecDepth 100000 in
theorem c_X4_isTaken (l : Launch) (G : mG) {h0 : Nat} {x1 : Int32} {σ : mS} {z : Int32 × mS} (h : f_X4_isTaken h0 x1 σ = some z) : Met l yX4_isTaken wsX4_isTaken rm_X4_isTaken (va_Pc [.ref h0, .int x1] (mB G σ)) (mQ G (.returned (some (.int z.1))) z.2) 0 0 (mF G) := by
  refine m_start (cc := cX4_isTaken) (maxL := 2) (ret := (some .boolean)) (by decide) rfl [.ref h0, .int x1] (Nat.le_of_ble_eq_true rfl) ?_
  intro p e s m args below meth c ls hx hb hr hml hown hts hlocks hnm hK hM hl
  have hown : s.vm.findClass RX4 = some m.cls := hown
  have hnm : meth.name = "isTaken" := hnm
  obtain ⟨locs, hlocs⟩ : ∃ l : List Loc, l = [] := ⟨_, rfl⟩
  have hL : mL G locs := by rw [hlocs]; exact mL_nil G
  rw [← hlocs]
  generalize s.heap = H at hM ⊢
  have hl : lv_has ls 2 [(0, .ref h0), (1, .int x1)] := hl
  obtain ⟨Q, hQ⟩ : ∃ Q, Q = MQ below (mQ G (.returned (some (.int z.1))) z.2) args s 0 0 (mF G) := ⟨_, rfl⟩
  rw [← hQ]
  have hU4 : ∀ w ∈ wsX40, w.before args s = true := fun w h => hts w (List.mem_cons_of_mem _ (List.mem_append_right _ h))
  have w1 := (hts (.fieldLink RX4 41 "HandkerchiefsDropped$Tape" "token" "I") (List.mem_of_getElem? (i := 1) rfl))
  rw [f_X4_isTaken.eq_1] at h
  refine lv_aload_n hx hb dX4_isTaken_0 rfl (lv_at hl 0 rfl) ?_
  refine m_getI (ci := 3) hx hb hU4 hown hK hM rfl 5 (by decide) w1 h dX4_isTaken_1 (fun v5 gv5 h => ?_)
  refine lv_iload_n hx hb dX4_isTaken_4 rfl (lv_at hl 1 rfl) ?_
  refine lv_icmp_eq (tgt := 10) hx hb dX4_isTaken_5 (by decide) (fun c6 => ?_) (fun c6 => ?_)
  · have h := (if_pos c6).symm.trans h
    refine lv_aload_n hx hb dX4_isTaken_10 rfl (lv_at hl 0 rfl) ?_
    obtain ⟨o7, h⟩ := oi_some h
    obtain ⟨q8, hq8, h⟩ := ob_some h
    refine m_callv (va_runV (As := []) (rest := []) ⟨hx, hb, hml, hown, hts⟩ (c_X4_advance l G hq8) (cwV 0 hts gX4_isTaken_X4_advance rfl rfl rfl hd_X4_advancev ⟨Nat.le_of_ble_eq_true rfl, Nat.le_of_ble_eq_true rfl⟩) (m_preV (ci := 3) hK hM rfl o7) rfl rfl hl.1 rfl (lv_room (Nat.le_of_ble_eq_true rfl)) dX4_isTaken_11 ⟨Nat.le_of_ble_eq_true rfl, Nat.le_of_ble_eq_true rfl⟩) hL (fun H locs hM hL => ?_)
    refine lv_iconst hx hb dX4_isTaken_14 kI_1 ?_
    subst hQ
    have h := Option.some.inj h
    subst h
    exact m_zret (x := (1 : Int32)) hx hb hr rfl hM hL dX4_isTaken_15 hlocks
  · have h := (if_neg c6).symm.trans h
    refine lv_iconst hx hb dX4_isTaken_8 kI_0 ?_
    subst hQ
    have h := Option.some.inj h
    subst h
    exact m_zret (x := (0 : Int32)) hx hb hr rfl hM hL dX4_isTaken_9 hlocks
abbrev rm_X4_isNoted : Room := { frames := 0, cells := 0, slots := 0, locals := 0 }
set_option maxHeartbeats 4000000 in
set_option maxRecDepth 100000 in
theorem c_X4_isNoted (l : Launch) (G : mG) {h0 : Nat} {x1 : Int32} {x2 : Int32} {σ : mS} {z : Int32 × mS} (h : f_X4_isNoted h0 x1 x2 σ = some z) : Met l yX4_isNoted wsX4_isNoted rm_X4_isNoted (va_Pc [.ref h0, .int x1, .int x2] (mB G σ)) (mQ G (.returned (some (.int z.1))) z.2) 0 0 (mF G) := by
  refine m_start (cc := cX4_isNoted) (maxL := 4) (ret := (some .boolean)) (by decide) rfl [.ref h0, .int x1, .int x2] (Nat.le_of_ble_eq_true rfl) ?_
  intro p e s m args below meth c ls hx hb hr hml hown hts hlocks hnm hK hM hl
  have hown : s.vm.findClass RX4 = some m.cls := hown
  have hnm : meth.name = "isNoted" := hnm
  obtain ⟨locs, hlocs⟩ : ∃ l : List Loc, l = [] := ⟨_, rfl⟩
  have hL : mL G locs := by rw [hlocs]; exact mL_nil G
  rw [← hlocs]
  generalize s.heap = H at hM ⊢
  have hl : lv_has ls 4 [(0, .ref h0), (1, .int x1), (2, .int x2)] := hl
  obtain ⟨Q, hQ⟩ : ∃ Q, Q = MQ below (mQ G (.returned (some (.int z.1))) z.2) args s 0 0 (mF G) := ⟨_, rfl⟩
  rw [← hQ]
  have hU4 : ∀ w ∈ wsX40, w.before args s = true := fun w h => hts w (List.mem_cons_of_mem _ (List.mem_append_right _ h))
  have w1 := (hts (.fieldLink RX4 28 "HandkerchiefsDropped$Tape" "used" "I") (List.mem_of_getElem? (i := 1) rfl))
  have w2 := (hts (.fieldLink RX4 15 "HandkerchiefsDropped$Tape" "code" "[I") (List.mem_of_getElem? (i := 2) rfl))
  have hN2 : ∀ (n : Nat) (h0 : Nat) (x1 : Int32) (x2 : Int32) (x3 : Int32) (σ : mS), f_X4_isNoted_2 n h0 x1 x2 x3 σ = some z → ∀ (H : Heap) (locs : List Loc) (ls : Array Slot), mP G σ H → mL G locs → lv_has ls 4 [(0, .ref h0), (1, .int x1), (2, .int x2), (3, .int x3)] → W p l e rm_X4_isNoted s m args below meth c H locs 0 0 Q (F0 m 2 ls []) := by
    intro n
    induction n with
    | zero =>
      intro h0 x1 x2 x3 σ h
      exact nomatch (show (none : Option (Int32 × mS)) = some z from h)
    | succ n ih =>
      intro h0 x1 x2 x3 σ h H locs ls hM hL hl
      rw [f_X4_isNoted_2.eq_2] at h
      refine lv_iload_n hx hb dX4_isNoted_2 rfl (lv_at hl 3 rfl) ?_
      refine lv_iload_n hx hb dX4_isNoted_3 rfl (lv_at hl 2 rfl) ?_
      refine lv_icmp_ge (tgt := 47) hx hb dX4_isNoted_4 (by decide) (fun c12 => ?_) (fun c12 => ?_)
      · have h := (if_pos c12).symm.trans h
        refine lv_iconst hx hb dX4_isNoted_47 kI_1 ?_
        subst hQ
        have h := Option.some.inj h
        subst h
        exact m_zret (x := (1 : Int32)) hx hb hr rfl hM hL dX4_isNoted_48 hlocks
      · have h := (if_neg c12).symm.trans h
        refine lv_aload_n hx hb dX4_isNoted_7 rfl (lv_at hl 0 rfl) ?_
        refine m_getI (ci := 3) hx hb hU4 hown hK hM rfl 8 (by decide) w1 h dX4_isNoted_8 (fun v13 gv13 h => ?_)
        refine lv_aload_n hx hb dX4_isNoted_11 rfl (lv_at hl 0 rfl) ?_
        refine m_getR (ci := 3) hx hb hU4 hown hK hM rfl 1 (by decide) w2 h dX4_isNoted_12 (fun r14 gr14 h => ?_)
        refine m_alen hx hb hK hM h dX4_isNoted_15 (fun v15 gv15 h => ?_)
        refine lv_icmp_lt (tgt := 21) hx hb dX4_isNoted_16 (by decide) (fun c16 => ?_) (fun c16 => ?_)
        · have h := (if_pos c16).symm.trans h
          refine lv_aload_n hx hb dX4_isNoted_21 rfl (lv_at hl 0 rfl) ?_
          refine m_getR (ci := 3) hx hb hU4 hown hK hM rfl 1 (by decide) w2 h dX4_isNoted_22 (fun r17 gr17 h => ?_)
          refine lv_aload_n hx hb dX4_isNoted_25 rfl (lv_at hl 0 rfl) ?_
          refine m_getI (ci := 3) hx hb hU4 hown hK hM rfl 8 (by decide) w1 h dX4_isNoted_26 (fun v18 gv18 h => ?_)
          refine lv_iload_n hx hb dX4_isNoted_29 rfl (lv_at hl 1 rfl) ?_
          refine m_iast hx hb hK hM hL h dX4_isNoted_30 (fun t19 H locs h hM hL => ?_)
          refine lv_aload_n hx hb dX4_isNoted_31 rfl (lv_at hl 0 rfl) ?_
          refine lv_dup hx hb dX4_isNoted_32 rfl ?_
          refine m_getI (ci := 3) hx hb hU4 hown hK hM rfl 8 (by decide) w1 h dX4_isNoted_33 (fun v20 gv20 h => ?_)
          refine lv_iconst hx hb dX4_isNoted_36 kI_1 ?_
          refine lv_iadd hx hb dX4_isNoted_37 ?_
          refine m_put (ci := 3) hx hb hU4 tyX4 tyX4_ok nmX4 hown hK hM hL rfl 8 (by decide) w1 rfl rfl rfl h dX4_isNoted_38 (fun t21 H locs h hM hL => ?_)
          obtain ⟨v22, ev22⟩ : ∃ y : Int32, y = x3 + (1 : Int32) := ⟨_, rfl⟩
          have h := vl_at ev22 h
          refine lv_iinc (v := v22) (lv' := [(3, .int v22), (0, .ref h0), (1, .int x1), (2, .int x2)]) hx hb dX4_isNoted_41 hl (k := 3) rfl (by rw [ev22, kI_1]) (by decide) rfl (fun ls hl => ?_)
          refine lv_goto (tgt := 2) hx hb dX4_isNoted_44 (by decide) ?_
          exact ih _ _ _ _ _ h _ _ _ hM hL (lv_sub hl [1, 2, 3, 0] rfl)
        · have h := (if_neg c16).symm.trans h
          refine lv_iconst hx hb dX4_isNoted_19 kI_0 ?_
          subst hQ
          have h := Option.some.inj h
          subst h
          exact m_zret (x := (0 : Int32)) hx hb hr rfl hM hL dX4_isNoted_20 hlocks
  rw [f_X4_isNoted.eq_1] at h
  refine lv_iconst hx hb dX4_isNoted_0 kI_0 ?_
  refine lv_istore_n (lv' := [(3, .int (0 : Int32)), (0, .ref h0), (1, .int x1), (2, .int x2)]) hx hb dX4_isNoted_1 rfl hl (by decide) rfl (fun ls hl => ?_)
  refine hN2 _ _ _ _ _ _ h _ _ _ hM hL (lv_sub hl [1, 2, 3, 0] rfl)
abbrev rm_X4_isUnsigned (fE lE : Nat) : Room := { frames := fE + 8, cells := 0, slots := 0, locals := lE + 174 }
set_option maxHeartbeats 4000000 in
set_option maxRecDepth 100000 in
theorem c_X4_isUnsigned (l : Launch) (G : mG) {E : Nat → Int32 → mS → Option (Int32 × mS)} (fE lE : Nat) (hE : ∀ (a0 : Nat) (a1 : Int32) (τ : mS) (q : Int32 × mS), E a0 a1 τ = some q → Met l yX4_isEither wsX4_isEither { frames := fE, cells := 0, slots := 0, locals := lE } (va_Pc [.ref a0, .int a1] (mB G τ)) (mQ G (.returned (some (.int q.1))) q.2) 0 0 (mF G)) {h0 : Nat} {x1 : Int32} {σ : mS} {z : Int32 × mS} (h : f_X4_isUnsigned E h0 x1 σ = some z) : Met l yX4_isUnsigned wsX4_isUnsigned (rm_X4_isUnsigned fE lE) (va_Pc [.ref h0, .int x1] (mB G σ)) (mQ G (.returned (some (.int z.1))) z.2) 0 0 (mF G) := by
  refine m_start (cc := cX4_isUnsigned) (maxL := 2) (ret := (some .boolean)) (by decide) rfl [.ref h0, .int x1] (Nat.le_of_ble_eq_true rfl) ?_
  intro p e s m args below meth c ls hx hb hr hml hown hts hlocks hnm hK hM hl
  have hown : s.vm.findClass RX4 = some m.cls := hown
  have hnm : meth.name = "isUnsigned" := hnm
  obtain ⟨locs, hlocs⟩ : ∃ l : List Loc, l = [] := ⟨_, rfl⟩
  have hL : mL G locs := by rw [hlocs]; exact mL_nil G
  rw [← hlocs]
  generalize s.heap = H at hM ⊢
  have hl : lv_has ls 2 [(0, .ref h0), (1, .int x1)] := hl
  obtain ⟨Q, hQ⟩ : ∃ Q, Q = MQ below (mQ G (.returned (some (.int z.1))) z.2) args s 0 0 (mF G) := ⟨_, rfl⟩
  rw [← hQ]
  have hU4 : ∀ w ∈ wsX40, w.before args s = true := fun w h => hts w (List.mem_cons_of_mem _ (List.mem_append_right _ h))
  have w1 := (hts (.fieldLink RX4 41 "HandkerchiefsDropped$Tape" "token" "I") (List.mem_of_getElem? (i := 1) rfl))
  have w2 := (hts (.fieldLink RX4 83 "HandkerchiefsDropped$Tape" "value" "I") (List.mem_of_getElem? (i := 2) rfl))
  have hN40 : ∀ (h0 : Nat) (σ : mS), f_X4_isUnsigned_40 E h0 σ = some z → ∀ (H : Heap) (locs : List Loc) (ls : Array Slot), mP G σ H → mL G locs → lv_has ls 2 [(0, .ref h0)] → W p l e (rm_X4_isUnsigned fE lE) s m args below meth c H locs 0 0 Q (F0 m 40 ls []) := by
    intro h0 σ h H locs ls hM hL hl
    rw [f_X4_isUnsigned_40.eq_1] at h
    refine lv_aload_n hx hb dX4_isUnsigned_40 rfl (lv_at hl 0 rfl) ?_
    refine lv_aload_n hx hb dX4_isUnsigned_41 rfl (lv_at hl 0 rfl) ?_
    refine m_getI (ci := 3) hx hb hU4 hown hK hM rfl 7 (by decide) w2 h dX4_isUnsigned_42 (fun v23 gv23 h => ?_)
    refine lv_iconst hx hb dX4_isUnsigned_45 kI_1 ?_
    obtain ⟨o24, h⟩ := oi_some h
    obtain ⟨q25, hq25, h⟩ := ob_some h
    refine m_calli (va_runV (As := [.int v23, .int (1 : Int32)]) (rest := []) ⟨hx, hb, hml, hown, hts⟩ (c_X4_isNoted l G hq25) (cwV 2 hts gX4_isUnsigned_X4_isNoted rfl rfl rfl hd_X4_isNotedv ⟨Nat.le_trans (Nat.le_of_ble_eq_true rfl) (Nat.le_add_left _ _), Nat.le_trans (Nat.le_of_ble_eq_true rfl) (Nat.le_add_left _ _)⟩) (m_preV (ci := 3) hK hM rfl o24) rfl rfl hl.1 rfl (lv_room (Nat.le_of_ble_eq_true rfl)) dX4_isUnsigned_46 ⟨Nat.le_of_ble_eq_true rfl, Nat.le_of_ble_eq_true rfl⟩) hL (fun H locs hM hL => ?_)
    refine lv_if_eq (tgt := 67) hx hb dX4_isUnsigned_49 (by decide) (fun c26 => ?_) (fun c26 => ?_)
    · have h := (if_pos c26).symm.trans h
      refine lv_iconst hx hb dX4_isUnsigned_67 kI_0 ?_
      subst hQ
      have h := Option.some.inj h
      subst h
      exact m_zret (x := (0 : Int32)) hx hb hr rfl hM hL dX4_isUnsigned_68 hlocks
    · have h := (if_neg c26).symm.trans h
      refine lv_aload_n hx hb dX4_isUnsigned_52 rfl (lv_at hl 0 rfl) ?_
      refine lv_aload_n hx hb dX4_isUnsigned_53 rfl (lv_at hl 0 rfl) ?_
      refine m_getI (ci := 3) hx hb hU4 hown hK hM rfl 5 (by decide) w1 h dX4_isUnsigned_54 (fun v27 gv27 h => ?_)
      obtain ⟨o28, h⟩ := oi_some h
      obtain ⟨q29, hq29, h⟩ := ob_some h
      refine m_calli (va_runV (As := [.int v27]) (rest := []) ⟨hx, hb, hml, hown, hts⟩ (c_X4_isTaken l G hq29) (cwV 1 hts gX4_isUnsigned_X4_isTaken rfl rfl rfl hd_X4_isTakenv ⟨Nat.le_trans (Nat.le_of_ble_eq_true rfl) (Nat.le_add_left _ _), Nat.le_trans (Nat.le_of_ble_eq_true rfl) (Nat.le_add_left _ _)⟩) (m_preV (ci := 3) hK hM rfl o28) rfl rfl hl.1 rfl (lv_room (Nat.le_of_ble_eq_true rfl)) dX4_isUnsigned_57 ⟨Nat.le_of_ble_eq_true rfl, Nat.le_of_ble_eq_true rfl⟩) hL (fun H locs hM hL => ?_)
      refine lv_if_eq (tgt := 67) hx hb dX4_isUnsigned_60 (by decide) (fun c30 => ?_) (fun c30 => ?_)
      · have h := (if_pos c30).symm.trans h
        refine lv_iconst hx hb dX4_isUnsigned_67 kI_0 ?_
        subst hQ
        have h := Option.some.inj h
        subst h
        exact m_zret (x := (0 : Int32)) hx hb hr rfl hM hL dX4_isUnsigned_68 hlocks
      · have h := (if_neg c30).symm.trans h
        refine lv_iconst hx hb dX4_isUnsigned_63 kI_1 ?_
        refine lv_goto (tgt := 68) hx hb dX4_isUnsigned_64 (by decide) ?_
        subst hQ
        have h := Option.some.inj h
        subst h
        exact m_zret (x := (1 : Int32)) hx hb hr rfl hM hL dX4_isUnsigned_68 hlocks
  rw [f_X4_isUnsigned.eq_1] at h
  refine lv_aload_n hx hb dX4_isUnsigned_0 rfl (lv_at hl 0 rfl) ?_
  refine m_getI (ci := 3) hx hb hU4 hown hK hM rfl 5 (by decide) w1 h dX4_isUnsigned_1 (fun v31 gv31 h => ?_)
  by_cases c32 : v31 = (2 : Int32)
  · have h := (if_pos c32).symm.trans h
    refine m_lin (tgt := 40) (off := 36) hx hb c32 dX4_isUnsigned_4 (by decide) (by decide) (by decide) ?_
    refine hN40 _ _ h _ _ _ hM hL (lv_sub hl [0] rfl)
  have h := (if_neg c32).symm.trans h
  by_cases c33 : v31 = (3 : Int32)
  · have h := (if_pos c33).symm.trans h
    refine m_lin (tgt := 40) (off := 36) hx hb c33 dX4_isUnsigned_4 (by decide) (by decide) (by decide) ?_
    refine hN40 _ _ h _ _ _ hM hL (lv_sub hl [0] rfl)
  have h := (if_neg c33).symm.trans h
  by_cases c34 : v31 = (40 : Int32)
  · have h := (if_pos c34).symm.trans h
    refine m_lin (tgt := 69) (off := 65) hx hb c34 dX4_isUnsigned_4 (by decide) (by decide) (by decide) ?_
    refine lv_iload_n hx hb dX4_isUnsigned_69 rfl (lv_at hl 1 rfl) ?_
    refine lv_iconst hx hb dX4_isUnsigned_70 kI_5 ?_
    refine lv_icmp_ge (tgt := 106) hx hb dX4_isUnsigned_71 (by decide) (fun c35 => ?_) (fun c35 => ?_)
    · have h := (if_pos c35).symm.trans h
      refine lv_iconst hx hb dX4_isUnsigned_106 kI_0 ?_
      subst hQ
      have h := Option.some.inj h
      subst h
      exact m_zret (x := (0 : Int32)) hx hb hr rfl hM hL dX4_isUnsigned_107 hlocks
    · have h := (if_neg c35).symm.trans h
      refine lv_aload_n hx hb dX4_isUnsigned_74 rfl (lv_at hl 0 rfl) ?_
      refine lv_bipush hx hb dX4_isUnsigned_75 kB_40 ?_
      obtain ⟨o36, h⟩ := oi_some h
      obtain ⟨q37, hq37, h⟩ := ob_some h
      refine m_calli (va_runV (As := [.int (40 : Int32)]) (rest := []) ⟨hx, hb, hml, hown, hts⟩ (c_X4_isTaken l G hq37) (cwV 1 hts gX4_isUnsigned_X4_isTaken rfl rfl rfl hd_X4_isTakenv ⟨Nat.le_trans (Nat.le_of_ble_eq_true rfl) (Nat.le_add_left _ _), Nat.le_trans (Nat.le_of_ble_eq_true rfl) (Nat.le_add_left _ _)⟩) (m_preV (ci := 3) hK hM rfl o36) rfl rfl hl.1 rfl (lv_room (Nat.le_of_ble_eq_true rfl)) dX4_isUnsigned_77 ⟨Nat.le_of_ble_eq_true rfl, Nat.le_of_ble_eq_true rfl⟩) hL (fun H locs hM hL => ?_)
      refine lv_if_eq (tgt := 106) hx hb dX4_isUnsigned_80 (by decide) (fun c38 => ?_) (fun c38 => ?_)
      · have h := (if_pos c38).symm.trans h
        refine lv_iconst hx hb dX4_isUnsigned_106 kI_0 ?_
        subst hQ
        have h := Option.some.inj h
        subst h
        exact m_zret (x := (0 : Int32)) hx hb hr rfl hM hL dX4_isUnsigned_107 hlocks
      · have h := (if_neg c38).symm.trans h
        refine lv_aload_n hx hb dX4_isUnsigned_83 rfl (lv_at hl 0 rfl) ?_
        refine lv_iload_n hx hb dX4_isUnsigned_84 rfl (lv_at hl 1 rfl) ?_
        refine lv_iconst hx hb dX4_isUnsigned_85 kI_1 ?_
        refine lv_iadd hx hb dX4_isUnsigned_86 ?_
        obtain ⟨o39, h⟩ := oi_some h
        obtain ⟨q40, hq40, h⟩ := ob_some h
        refine m_calli (va_runV (As := [.int (x1 + (1 : Int32))]) (rest := []) ⟨hx, hb, hml, hown, hts⟩ (hE _ _ _ _ hq40) (cwV 1 hts gX4_isUnsigned_X4_isEither rfl rfl rfl hd_X4_isEitherv (by constructor <;> (simp only [rm_X4_isUnsigned]; omega))) (m_preV (ci := 3) hK hM rfl o39) rfl rfl hl.1 rfl (lv_room (Nat.le_of_ble_eq_true rfl)) dX4_isUnsigned_87 ⟨Nat.le_of_ble_eq_true rfl, Nat.le_of_ble_eq_true rfl⟩) hL (fun H locs hM hL => ?_)
        refine lv_if_eq (tgt := 106) hx hb dX4_isUnsigned_90 (by decide) (fun c41 => ?_) (fun c41 => ?_)
        · have h := (if_pos c41).symm.trans h
          refine lv_iconst hx hb dX4_isUnsigned_106 kI_0 ?_
          subst hQ
          have h := Option.some.inj h
          subst h
          exact m_zret (x := (0 : Int32)) hx hb hr rfl hM hL dX4_isUnsigned_107 hlocks
        · have h := (if_neg c41).symm.trans h
          refine lv_aload_n hx hb dX4_isUnsigned_93 rfl (lv_at hl 0 rfl) ?_
          refine lv_bipush hx hb dX4_isUnsigned_94 kB_41 ?_
          obtain ⟨o42, h⟩ := oi_some h
          obtain ⟨q43, hq43, h⟩ := ob_some h
          refine m_calli (va_runV (As := [.int (41 : Int32)]) (rest := []) ⟨hx, hb, hml, hown, hts⟩ (c_X4_isTaken l G hq43) (cwV 1 hts gX4_isUnsigned_X4_isTaken rfl rfl rfl hd_X4_isTakenv ⟨Nat.le_trans (Nat.le_of_ble_eq_true rfl) (Nat.le_add_left _ _), Nat.le_trans (Nat.le_of_ble_eq_true rfl) (Nat.le_add_left _ _)⟩) (m_preV (ci := 3) hK hM rfl o42) rfl rfl hl.1 rfl (lv_room (Nat.le_of_ble_eq_true rfl)) dX4_isUnsigned_96 ⟨Nat.le_of_ble_eq_true rfl, Nat.le_of_ble_eq_true rfl⟩) hL (fun H locs hM hL => ?_)
          refine lv_if_eq (tgt := 106) hx hb dX4_isUnsigned_99 (by decide) (fun c44 => ?_) (fun c44 => ?_)
          · have h := (if_pos c44).symm.trans h
            refine lv_iconst hx hb dX4_isUnsigned_106 kI_0 ?_
            subst hQ
            have h := Option.some.inj h
            subst h
            exact m_zret (x := (0 : Int32)) hx hb hr rfl hM hL dX4_isUnsigned_107 hlocks
          · have h := (if_neg c44).symm.trans h
            refine lv_iconst hx hb dX4_isUnsigned_102 kI_1 ?_
            refine lv_goto (tgt := 107) hx hb dX4_isUnsigned_103 (by decide) ?_
            subst hQ
            have h := Option.some.inj h
            subst h
            exact m_zret (x := (1 : Int32)) hx hb hr rfl hM hL dX4_isUnsigned_107 hlocks
  have h := (if_neg c34).symm.trans h
  refine lv_lookup (tgt := 108) (off := 104) hx hb dX4_isUnsigned_4 (by decide) (by show Op.lookupswitch.offset [(2, 36), (3, 36), (40, 65)] 104 _ = _; rw [lv_osw c32 (by decide), lv_osw c33 (by decide), lv_osw c34 (by decide)]; rfl) (by decide) ?_
  refine lv_iconst hx hb dX4_isUnsigned_108 kI_0 ?_
  subst hQ
  have h := Option.some.inj h
  subst h
  exact m_zret (x := (0 : Int32)) hx hb hr rfl hM hL dX4_isUnsigned_109 hlocks
abbrev rm_X4_isOne (fE lE : Nat) : Room := { frames := fE + 9, cells := 0, slots := 0, locals := lE + 195 }
set_option maxHeartbeats 4000000 in
set_option maxRecDepth 100000 in
theorem c_X4_isOne (l : Launch) (G : mG) {E : Nat → Int32 → mS → Option (Int32 × mS)} (fE lE : Nat) (hE : ∀ (a0 : Nat) (a1 : Int32) (τ : mS) (q : Int32 × mS), E a0 a1 τ = some q → Met l yX4_isEither wsX4_isEither { frames := fE, cells := 0, slots := 0, locals := lE } (va_Pc [.ref a0, .int a1] (mB G τ)) (mQ G (.returned (some (.int q.1))) q.2) 0 0 (mF G)) {h0 : Nat} {x1 : Int32} {σ : mS} {z : Int32 × mS} (h : f_X4_isOne E h0 x1 σ = some z) : Met l yX4_isOne wsX4_isOne (rm_X4_isOne fE lE) (va_Pc [.ref h0, .int x1] (mB G σ)) (mQ G (.returned (some (.int z.1))) z.2) 0 0 (mF G) := by
  refine m_start (cc := cX4_isOne) (maxL := 3) (ret := (some .boolean)) (by decide) rfl [.ref h0, .int x1] (Nat.le_of_ble_eq_true rfl) ?_
  intro p e s m args below meth c ls hx hb hr hml hown hts hlocks hnm hK hM hl
  have hown : s.vm.findClass RX4 = some m.cls := hown
  have hnm : meth.name = "isOne" := hnm
  obtain ⟨locs, hlocs⟩ : ∃ l : List Loc, l = [] := ⟨_, rfl⟩
  have hL : mL G locs := by rw [hlocs]; exact mL_nil G
  rw [← hlocs]
  generalize s.heap = H at hM ⊢
  have hl : lv_has ls 3 [(0, .ref h0), (1, .int x1)] := hl
  obtain ⟨Q, hQ⟩ : ∃ Q, Q = MQ below (mQ G (.returned (some (.int z.1))) z.2) args s 0 0 (mF G) := ⟨_, rfl⟩
  rw [← hQ]
  have hU4 : ∀ w ∈ wsX40, w.before args s = true := fun w h => hts w (List.mem_cons_of_mem _ (List.mem_append_right _ h))
  have w1 := (hts (.fieldLink RX4 41 "HandkerchiefsDropped$Tape" "token" "I") (List.mem_of_getElem? (i := 1) rfl))
  have hN2 : ∀ (k26 : Nat → Int32 → Int32 → mS → Option (Int32 × mS)) (hk26 : ∀ (h0 : Nat) (x1 : Int32) (x2 : Int32) (σ : mS), k26 h0 x1 x2 σ = some z → ∀ (H : Heap) (locs : List Loc) (ls : Array Slot), mP G σ H → mL G locs → lv_has ls 3 [(0, .ref h0), (1, .int x1), (2, .int x2)] → W p l e (rm_X4_isOne fE lE) s m args below meth c H locs 0 0 Q (F0 m 26 ls [])) (n : Nat) (h0 : Nat) (x1 : Int32) (x2 : Int32) (σ : mS), f_X4_isOne_2 E k26 n h0 x1 x2 σ = some z → ∀ (H : Heap) (locs : List Loc) (ls : Array Slot), mP G σ H → mL G locs → lv_has ls 3 [(0, .ref h0), (1, .int x1), (2, .int x2)] → W p l e (rm_X4_isOne fE lE) s m args below meth c H locs 0 0 Q (F0 m 2 ls []) := by
    intro k26 hk26 n
    induction n with
    | zero =>
      intro h0 x1 x2 σ h
      exact nomatch (show (none : Option (Int32 × mS)) = some z from h)
    | succ n ih =>
      intro h0 x1 x2 σ h H locs ls hM hL hl
      rw [f_X4_isOne_2.eq_2] at h
      refine lv_iload_n hx hb dX4_isOne_2 rfl (lv_at hl 2 rfl) ?_
      refine lv_iconst hx hb dX4_isOne_3 kI_5 ?_
      refine lv_icmp_ge (tgt := 26) hx hb dX4_isOne_4 (by decide) (fun c13 => ?_) (fun c13 => ?_)
      · have h := (if_pos c13).symm.trans h
        exact hk26 _ _ _ _ h _ _ _ hM hL (lv_sub hl [0, 1, 2] rfl)
      · have h := (if_neg c13).symm.trans h
        refine lv_aload_n hx hb dX4_isOne_7 rfl (lv_at hl 0 rfl) ?_
        refine m_getI (ci := 3) hx hb hU4 hown hK hM rfl 5 (by decide) w1 h dX4_isOne_8 (fun v14 gv14 h => ?_)
        refine lv_bipush hx hb dX4_isOne_11 kB_45 ?_
        refine lv_icmp_ne (tgt := 26) hx hb dX4_isOne_13 (by decide) (fun c15 => ?_) (fun c15 => ?_)
        · have h := (if_neg c15).symm.trans h
          exact hk26 _ _ _ _ h _ _ _ hM hL (lv_sub hl [0, 1, 2] rfl)
        · have h := (if_pos c15).symm.trans h
          refine lv_aload_n hx hb dX4_isOne_16 rfl (lv_at hl 0 rfl) ?_
          obtain ⟨o16, h⟩ := oi_some h
          obtain ⟨q17, hq17, h⟩ := ob_some h
          refine m_callv (va_runV (As := []) (rest := []) ⟨hx, hb, hml, hown, hts⟩ (c_X4_advance l G hq17) (cwV 0 hts gX4_isOne_X4_advance rfl rfl rfl hd_X4_advancev ⟨Nat.le_trans (Nat.le_of_ble_eq_true rfl) (Nat.le_add_left _ _), Nat.le_trans (Nat.le_of_ble_eq_true rfl) (Nat.le_add_left _ _)⟩) (m_preV (ci := 3) hK hM rfl o16) rfl rfl hl.1 rfl (lv_room (Nat.le_of_ble_eq_true rfl)) dX4_isOne_17 ⟨Nat.le_of_ble_eq_true rfl, Nat.le_of_ble_eq_true rfl⟩) hL (fun H locs hM hL => ?_)
          obtain ⟨v18, ev18⟩ : ∃ y : Int32, y = x2 + (1 : Int32) := ⟨_, rfl⟩
          have h := vl_at ev18 h
          refine lv_iinc (v := v18) (lv' := [(2, .int v18), (0, .ref h0), (1, .int x1)]) hx hb dX4_isOne_20 hl (k := 2) rfl (by rw [ev18, kI_1]) (by decide) rfl (fun ls hl => ?_)
          refine lv_goto (tgt := 2) hx hb dX4_isOne_23 (by decide) ?_
          exact ih _ _ _ _ h _ _ _ hM hL (lv_sub hl [1, 2, 0] rfl)
  rw [f_X4_isOne.eq_1] at h
  refine lv_iload_n hx hb dX4_isOne_0 rfl (lv_at hl 1 rfl) ?_
  refine lv_istore_n (lv' := [(2, .int x1), (0, .ref h0), (1, .int x1)]) hx hb dX4_isOne_1 rfl hl (by decide) rfl (fun ls hl => ?_)
  refine hN2 _ ?_ _ _ _ _ _ h _ _ _ hM hL (lv_sub hl [1, 2, 0] rfl)
  · intro h0 x1 x2 σ h H locs ls hM hL hl
    refine lv_aload_n hx hb dX4_isOne_26 rfl (lv_at hl 0 rfl) ?_
    refine lv_iload_n hx hb dX4_isOne_27 rfl (lv_at hl 2 rfl) ?_
    obtain ⟨o19, h⟩ := oi_some h
    obtain ⟨q20, hq20, h⟩ := ob_some h
    refine m_calli (va_runV (As := [.int x2]) (rest := []) ⟨hx, hb, hml, hown, hts⟩ (c_X4_isUnsigned l G fE lE hE hq20) (cwV 1 hts gX4_isOne_X4_isUnsigned rfl rfl rfl hd_X4_isUnsignedv (by constructor <;> (simp only [rm_X4_isOne, rm_X4_isUnsigned]; omega))) (m_preV (ci := 3) hK hM rfl o19) rfl rfl hl.1 rfl (lv_room (Nat.le_of_ble_eq_true rfl)) dX4_isOne_28 ⟨Nat.le_of_ble_eq_true rfl, Nat.le_of_ble_eq_true rfl⟩) hL (fun H locs hM hL => ?_)
    refine lv_if_eq (tgt := 50) hx hb dX4_isOne_31 (by decide) (fun c21 => ?_) (fun c21 => ?_)
    · have h := (if_pos c21).symm.trans h
      refine lv_iconst hx hb dX4_isOne_50 kI_0 ?_
      subst hQ
      have h := Option.some.inj h
      subst h
      exact m_zret (x := (0 : Int32)) hx hb hr rfl hM hL dX4_isOne_51 hlocks
    · have h := (if_neg c21).symm.trans h
      refine lv_aload_n hx hb dX4_isOne_34 rfl (lv_at hl 0 rfl) ?_
      refine lv_bipush hx hb dX4_isOne_35 kB_m7 ?_
      refine lv_iload_n hx hb dX4_isOne_37 rfl (lv_at hl 2 rfl) ?_
      refine lv_iload_n hx hb dX4_isOne_38 rfl (lv_at hl 1 rfl) ?_
      refine lv_isub hx hb dX4_isOne_39 ?_
      obtain ⟨o22, h⟩ := oi_some h
      obtain ⟨q23, hq23, h⟩ := ob_some h
      refine m_calli (va_runV (As := [.int (-7 : Int32), .int (x2 - x1)]) (rest := []) ⟨hx, hb, hml, hown, hts⟩ (c_X4_isNoted l G hq23) (cwV 2 hts gX4_isOne_X4_isNoted rfl rfl rfl hd_X4_isNotedv ⟨Nat.le_trans (Nat.le_of_ble_eq_true rfl) (Nat.le_add_left _ _), Nat.le_trans (Nat.le_of_ble_eq_true rfl) (Nat.le_add_left _ _)⟩) (m_preV (ci := 3) hK hM rfl o22) rfl rfl hl.1 rfl (lv_room (Nat.le_of_ble_eq_true rfl)) dX4_isOne_40 ⟨Nat.le_of_ble_eq_true rfl, Nat.le_of_ble_eq_true rfl⟩) hL (fun H locs hM hL => ?_)
      refine lv_if_eq (tgt := 50) hx hb dX4_isOne_43 (by decide) (fun c24 => ?_) (fun c24 => ?_)
      · have h := (if_pos c24).symm.trans h
        refine lv_iconst hx hb dX4_isOne_50 kI_0 ?_
        subst hQ
        have h := Option.some.inj h
        subst h
        exact m_zret (x := (0 : Int32)) hx hb hr rfl hM hL dX4_isOne_51 hlocks
      · have h := (if_neg c24).symm.trans h
        refine lv_iconst hx hb dX4_isOne_46 kI_1 ?_
        refine lv_goto (tgt := 51) hx hb dX4_isOne_47 (by decide) ?_
        subst hQ
        have h := Option.some.inj h
        subst h
        exact m_zret (x := (1 : Int32)) hx hb hr rfl hM hL dX4_isOne_51 hlocks
abbrev rm_X4_isTerm (fE lE : Nat) : Room := { frames := fE + 10, cells := 0, slots := 0, locals := lE + 217 }
set_option maxHeartbeats 4000000 in
set_option maxRecDepth 100000 in
theorem c_X4_isTerm (l : Launch) (G : mG) {E : Nat → Int32 → mS → Option (Int32 × mS)} (fE lE : Nat) (hE : ∀ (a0 : Nat) (a1 : Int32) (τ : mS) (q : Int32 × mS), E a0 a1 τ = some q → Met l yX4_isEither wsX4_isEither { frames := fE, cells := 0, slots := 0, locals := lE } (va_Pc [.ref a0, .int a1] (mB G τ)) (mQ G (.returned (some (.int q.1))) q.2) 0 0 (mF G)) {h0 : Nat} {x1 : Int32} {σ : mS} {z : Int32 × mS} (h : f_X4_isTerm E h0 x1 σ = some z) : Met l yX4_isTerm wsX4_isTerm (rm_X4_isTerm fE lE) (va_Pc [.ref h0, .int x1] (mB G σ)) (mQ G (.returned (some (.int z.1))) z.2) 0 0 (mF G) := by
  refine m_start (cc := cX4_isTerm) (maxL := 4) (ret := (some .boolean)) (by decide) rfl [.ref h0, .int x1] (Nat.le_of_ble_eq_true rfl) ?_
  intro p e s m args below meth c ls hx hb hr hml hown hts hlocks hnm hK hM hl
  have hown : s.vm.findClass RX4 = some m.cls := hown
  have hnm : meth.name = "isTerm" := hnm
  obtain ⟨locs, hlocs⟩ : ∃ l : List Loc, l = [] := ⟨_, rfl⟩
  have hL : mL G locs := by rw [hlocs]; exact mL_nil G
  rw [← hlocs]
  generalize s.heap = H at hM ⊢
  have hl : lv_has ls 4 [(0, .ref h0), (1, .int x1)] := hl
  obtain ⟨Q, hQ⟩ : ∃ Q, Q = MQ below (mQ G (.returned (some (.int z.1))) z.2) args s 0 0 (mF G) := ⟨_, rfl⟩
  rw [← hQ]
  have hU4 : ∀ w ∈ wsX40, w.before args s = true := fun w h => hts w (List.mem_cons_of_mem _ (List.mem_append_right _ h))
  have w1 := (hts (.fieldLink RX4 41 "HandkerchiefsDropped$Tape" "token" "I") (List.mem_of_getElem? (i := 1) rfl))
  have hN8 : ∀ (n : Nat) (h0 : Nat) (x1 : Int32) (x2 : Int32) (x3 : Int32) (σ : mS), f_X4_isTerm_8 E n h0 x1 x2 x3 σ = some z → ∀ (H : Heap) (locs : List Loc) (ls : Array Slot), mP G σ H → mL G locs → lv_has ls 4 [(0, .ref h0), (1, .int x1), (2, .int x2), (3, .int x3)] → W p l e (rm_X4_isTerm fE lE) s m args below meth c H locs 0 0 Q (F0 m 8 ls []) := by
    intro n
    induction n with
    | zero =>
      intro h0 x1 x2 x3 σ h
      exact nomatch (show (none : Option (Int32 × mS)) = some z from h)
    | succ n ih =>
      intro h0 x1 x2 x3 σ h H locs ls hM hL hl
      rw [f_X4_isTerm_8.eq_2] at h
      refine lv_iload_n hx hb dX4_isTerm_8 rfl (lv_at hl 3 rfl) ?_
      refine lv_sipush hx hb dX4_isTerm_9 kS_160 ?_
      refine lv_icmp_ge (tgt := 62) hx hb dX4_isTerm_12 (by decide) (fun c21 => ?_) (fun c21 => ?_)
      · have h := (if_pos c21).symm.trans h
        refine lv_iload_n hx hb dX4_isTerm_62 rfl (lv_at hl 2 rfl) ?_
        obtain ⟨n22, h⟩ := oi_some h
        subst hQ
        have h := Option.some.inj h
        subst h
        exact m_zret (x := x2) hx hb hr (zn_of n22) hM hL dX4_isTerm_63 hlocks
      · have h := (if_neg c21).symm.trans h
        refine lv_iload_n hx hb dX4_isTerm_15 rfl (lv_at hl 2 rfl) ?_
        refine lv_if_eq (tgt := 62) hx hb dX4_isTerm_16 (by decide) (fun c23 => ?_) (fun c23 => ?_)
        · have h := (if_pos c23).symm.trans h
          refine lv_iload_n hx hb dX4_isTerm_62 rfl (lv_at hl 2 rfl) ?_
          obtain ⟨n24, h⟩ := oi_some h
          subst hQ
          have h := Option.some.inj h
          subst h
          exact m_zret (x := x2) hx hb hr (zn_of n24) hM hL dX4_isTerm_63 hlocks
        · have h := (if_neg c23).symm.trans h
          refine lv_aload_n hx hb dX4_isTerm_19 rfl (lv_at hl 0 rfl) ?_
          refine m_getI (ci := 3) hx hb hU4 hown hK hM rfl 5 (by decide) w1 h dX4_isTerm_20 (fun v25 gv25 h => ?_)
          refine lv_bipush hx hb dX4_isTerm_23 kB_42 ?_
          refine lv_icmp_ne (tgt := 62) hx hb dX4_isTerm_25 (by decide) (fun c26 => ?_) (fun c26 => ?_)
          · have h := (if_neg c26).symm.trans h
            refine lv_iload_n hx hb dX4_isTerm_62 rfl (lv_at hl 2 rfl) ?_
            obtain ⟨n27, h⟩ := oi_some h
            subst hQ
            have h := Option.some.inj h
            subst h
            exact m_zret (x := x2) hx hb hr (zn_of n27) hM hL dX4_isTerm_63 hlocks
          · have h := (if_pos c26).symm.trans h
            refine lv_aload_n hx hb dX4_isTerm_28 rfl (lv_at hl 0 rfl) ?_
            obtain ⟨o28, h⟩ := oi_some h
            obtain ⟨q29, hq29, h⟩ := ob_some h
            refine m_callv (va_runV (As := []) (rest := []) ⟨hx, hb, hml, hown, hts⟩ (c_X4_advance l G hq29) (cwV 0 hts gX4_isTerm_X4_advance rfl rfl rfl hd_X4_advancev ⟨Nat.le_trans (Nat.le_of_ble_eq_true rfl) (Nat.le_add_left _ _), Nat.le_trans (Nat.le_of_ble_eq_true rfl) (Nat.le_add_left _ _)⟩) (m_preV (ci := 3) hK hM rfl o28) rfl rfl hl.1 rfl (lv_room (Nat.le_of_ble_eq_true rfl)) dX4_isTerm_29 ⟨Nat.le_of_ble_eq_true rfl, Nat.le_of_ble_eq_true rfl⟩) hL (fun H locs hM hL => ?_)
            refine lv_aload_n hx hb dX4_isTerm_32 rfl (lv_at hl 0 rfl) ?_
            refine lv_iload_n hx hb dX4_isTerm_33 rfl (lv_at hl 1 rfl) ?_
            obtain ⟨o30, h⟩ := oi_some h
            obtain ⟨q31, hq31, h⟩ := ob_some h
            refine m_calli (va_runV (As := [.int x1]) (rest := []) ⟨hx, hb, hml, hown, hts⟩ (c_X4_isOne l G fE lE hE hq31) (cwV 1 hts gX4_isTerm_X4_isOne rfl rfl rfl hd_X4_isOnev (by constructor <;> (simp only [rm_X4_isTerm, rm_X4_isOne]; omega))) (m_preV (ci := 3) hK hM rfl o30) rfl rfl hl.1 rfl (lv_room (Nat.le_of_ble_eq_true rfl)) dX4_isTerm_34 ⟨Nat.le_of_ble_eq_true rfl, Nat.le_of_ble_eq_true rfl⟩) hL (fun H locs hM hL => ?_)
            refine lv_if_eq (tgt := 54) hx hb dX4_isTerm_37 (by decide) (fun c32 => ?_) (fun c32 => ?_)
            · have h := (if_pos c32).symm.trans h
              refine lv_iconst hx hb dX4_isTerm_54 kI_0 ?_
              refine lv_istore_n (lv' := [(2, .int (0 : Int32)), (0, .ref h0), (1, .int x1), (3, .int x3)]) hx hb dX4_isTerm_55 rfl hl (by decide) rfl (fun ls hl => ?_)
              obtain ⟨v33, ev33⟩ : ∃ y : Int32, y = x3 + (1 : Int32) := ⟨_, rfl⟩
              have h := vl_at ev33 h
              refine lv_iinc (v := v33) (lv' := [(3, .int v33), (2, .int (0 : Int32)), (0, .ref h0), (1, .int x1)]) hx hb dX4_isTerm_56 hl (k := 3) rfl (by rw [ev33, kI_1]) (by decide) rfl (fun ls hl => ?_)
              refine lv_goto (tgt := 8) hx hb dX4_isTerm_59 (by decide) ?_
              exact ih _ _ _ _ _ h _ _ _ hM hL (lv_sub hl [2, 3, 1, 0] rfl)
            · have h := (if_neg c32).symm.trans h
              refine lv_aload_n hx hb dX4_isTerm_40 rfl (lv_at hl 0 rfl) ?_
              refine lv_bipush hx hb dX4_isTerm_41 kB_m11 ?_
              refine lv_iconst hx hb dX4_isTerm_43 kI_1 ?_
              obtain ⟨o34, h⟩ := oi_some h
              obtain ⟨q35, hq35, h⟩ := ob_some h
              refine m_calli (va_runV (As := [.int (-11 : Int32), .int (1 : Int32)]) (rest := []) ⟨hx, hb, hml, hown, hts⟩ (c_X4_isNoted l G hq35) (cwV 2 hts gX4_isTerm_X4_isNoted rfl rfl rfl hd_X4_isNotedv ⟨Nat.le_trans (Nat.le_of_ble_eq_true rfl) (Nat.le_add_left _ _), Nat.le_trans (Nat.le_of_ble_eq_true rfl) (Nat.le_add_left _ _)⟩) (m_preV (ci := 3) hK hM rfl o34) rfl rfl hl.1 rfl (lv_room (Nat.le_of_ble_eq_true rfl)) dX4_isTerm_44 ⟨Nat.le_of_ble_eq_true rfl, Nat.le_of_ble_eq_true rfl⟩) hL (fun H locs hM hL => ?_)
              suffices hJ : ∀ (v37 : Int32) (ls : Array Slot), v37 = (if q35.1 = 0 then (0 : Int32) else (1 : Int32)) → lv_has ls 4 [(0, .ref h0), (1, .int x1), (3, .int x3)] → W p l e (rm_X4_isTerm fE lE) s m args below meth c H locs 0 0 Q (F0 m 55 ls [.int v37]) by
                refine lv_if_eq (tgt := 54) hx hb dX4_isTerm_47 (by decide) (fun c36 => ?_) (fun c36 => ?_)
                · refine lv_iconst hx hb dX4_isTerm_54 kI_0 ?_
                  exact hJ _ _ (((if_pos c36).trans rfl).symm) (lv_sub hl [0, 1, 3] rfl)
                · refine lv_iconst hx hb dX4_isTerm_50 kI_1 ?_
                  refine lv_goto (tgt := 55) hx hb dX4_isTerm_51 (by decide) ?_
                  exact hJ _ _ (((if_neg c36).trans rfl).symm) (lv_sub hl [0, 1, 3] rfl)
              intro v37 ls ev37 hl
              have h := vl_at ev37 h
              refine lv_istore_n (lv' := [(2, .int v37), (0, .ref h0), (1, .int x1), (3, .int x3)]) hx hb dX4_isTerm_55 rfl hl (by decide) rfl (fun ls hl => ?_)
              obtain ⟨v38, ev38⟩ : ∃ y : Int32, y = x3 + (1 : Int32) := ⟨_, rfl⟩
              have h := vl_at ev38 h
              refine lv_iinc (v := v38) (lv' := [(3, .int v38), (2, .int v37), (0, .ref h0), (1, .int x1)]) hx hb dX4_isTerm_56 hl (k := 3) rfl (by rw [ev38, kI_1]) (by decide) rfl (fun ls hl => ?_)
              refine lv_goto (tgt := 8) hx hb dX4_isTerm_59 (by decide) ?_
              exact ih _ _ _ _ _ h _ _ _ hM hL (lv_sub hl [2, 3, 1, 0] rfl)
  rw [f_X4_isTerm.eq_1] at h
  refine lv_aload_n hx hb dX4_isTerm_0 rfl (lv_at hl 0 rfl) ?_
  refine lv_iload_n hx hb dX4_isTerm_1 rfl (lv_at hl 1 rfl) ?_
  obtain ⟨o39, h⟩ := oi_some h
  obtain ⟨q40, hq40, h⟩ := ob_some h
  refine m_calli (va_runV (As := [.int x1]) (rest := []) ⟨hx, hb, hml, hown, hts⟩ (c_X4_isOne l G fE lE hE hq40) (cwV 1 hts gX4_isTerm_X4_isOne rfl rfl rfl hd_X4_isOnev (by constructor <;> (simp only [rm_X4_isTerm, rm_X4_isOne]; omega))) (m_preV (ci := 3) hK hM rfl o39) rfl rfl hl.1 rfl (lv_room (Nat.le_of_ble_eq_true rfl)) dX4_isTerm_2 ⟨Nat.le_of_ble_eq_true rfl, Nat.le_of_ble_eq_true rfl⟩) hL (fun H locs hM hL => ?_)
  refine lv_istore_n (lv' := [(2, .int q40.1), (0, .ref h0), (1, .int x1)]) hx hb dX4_isTerm_5 rfl hl (by decide) rfl (fun ls hl => ?_)
  refine lv_iconst hx hb dX4_isTerm_6 kI_0 ?_
  refine lv_istore_n (lv' := [(3, .int (0 : Int32)), (2, .int q40.1), (0, .ref h0), (1, .int x1)]) hx hb dX4_isTerm_7 rfl hl (by decide) rfl (fun ls hl => ?_)
  refine hN8 _ _ _ _ _ _ h _ _ _ hM hL (lv_sub hl [2, 3, 1, 0] rfl)
abbrev rm_X4_isSum (fE lE : Nat) : Room := { frames := fE + 11, cells := 0, slots := 0, locals := lE + 240 }
set_option maxHeartbeats 4000000 in
set_option maxRecDepth 100000 in
theorem c_X4_isSum (l : Launch) (G : mG) {E : Nat → Int32 → mS → Option (Int32 × mS)} (fE lE : Nat) (hE : ∀ (a0 : Nat) (a1 : Int32) (τ : mS) (q : Int32 × mS), E a0 a1 τ = some q → Met l yX4_isEither wsX4_isEither { frames := fE, cells := 0, slots := 0, locals := lE } (va_Pc [.ref a0, .int a1] (mB G τ)) (mQ G (.returned (some (.int q.1))) q.2) 0 0 (mF G)) {h0 : Nat} {x1 : Int32} {σ : mS} {z : Int32 × mS} (h : f_X4_isSum E h0 x1 σ = some z) : Met l yX4_isSum wsX4_isSum (rm_X4_isSum fE lE) (va_Pc [.ref h0, .int x1] (mB G σ)) (mQ G (.returned (some (.int z.1))) z.2) 0 0 (mF G) := by
  refine m_start (cc := cX4_isSum) (maxL := 5) (ret := (some .boolean)) (by decide) rfl [.ref h0, .int x1] (Nat.le_of_ble_eq_true rfl) ?_
  intro p e s m args below meth c ls hx hb hr hml hown hts hlocks hnm hK hM hl
  have hown : s.vm.findClass RX4 = some m.cls := hown
  have hnm : meth.name = "isSum" := hnm
  obtain ⟨locs, hlocs⟩ : ∃ l : List Loc, l = [] := ⟨_, rfl⟩
  have hL : mL G locs := by rw [hlocs]; exact mL_nil G
  rw [← hlocs]
  generalize s.heap = H at hM ⊢
  have hl : lv_has ls 5 [(0, .ref h0), (1, .int x1)] := hl
  obtain ⟨Q, hQ⟩ : ∃ Q, Q = MQ below (mQ G (.returned (some (.int z.1))) z.2) args s 0 0 (mF G) := ⟨_, rfl⟩
  rw [← hQ]
  have hU4 : ∀ w ∈ wsX40, w.before args s = true := fun w h => hts w (List.mem_cons_of_mem _ (List.mem_append_right _ h))
  have w1 := (hts (.fieldLink RX4 41 "HandkerchiefsDropped$Tape" "token" "I") (List.mem_of_getElem? (i := 1) rfl))
  have hN37 : ∀ (k8 : Nat → Int32 → Int32 → Int32 → mS → Option (Int32 × mS)) (hk8 : ∀ (h0 : Nat) (x1 : Int32) (x2 : Int32) (x3 : Int32) (σ : mS), k8 h0 x1 x2 x3 σ = some z → ∀ (H : Heap) (locs : List Loc) (ls : Array Slot), mP G σ H → mL G locs → lv_has ls 5 [(0, .ref h0), (1, .int x1), (2, .int x2), (3, .int x3)] → W p l e (rm_X4_isSum fE lE) s m args below meth c H locs 0 0 Q (F0 m 8 ls [])) (h0 : Nat) (x1 : Int32) (x3 : Int32) (σ : mS), f_X4_isSum_37 E k8 h0 x1 x3 σ = some z → ∀ (H : Heap) (locs : List Loc) (ls : Array Slot), mP G σ H → mL G locs → lv_has ls 5 [(0, .ref h0), (1, .int x1), (3, .int x3)] → W p l e (rm_X4_isSum fE lE) s m args below meth c H locs 0 0 Q (F0 m 37 ls []) := by
    intro k8 hk8 h0 x1 x3 σ h H locs ls hM hL hl
    rw [f_X4_isSum_37.eq_1] at h
    refine lv_aload_n hx hb dX4_isSum_37 rfl (lv_at hl 0 rfl) ?_
    refine m_getI (ci := 3) hx hb hU4 hown hK hM rfl 5 (by decide) w1 h dX4_isSum_38 (fun v26 gv26 h => ?_)
    refine lv_bipush hx hb dX4_isSum_41 kB_43 ?_
    suffices hJ : ∀ (v28 : Int32) (ls : Array Slot), v28 = (if v26 = (43 : Int32) then (-9 : Int32) else (-10 : Int32)) → lv_has ls 5 [(0, .ref h0), (1, .int x1), (3, .int x3)] → W p l e (rm_X4_isSum fE lE) s m args below meth c H locs 0 0 Q (F0 m 53 ls [.int v28]) by
      refine lv_icmp_ne (tgt := 51) hx hb dX4_isSum_43 (by decide) (fun c27 => ?_) (fun c27 => ?_)
      · refine lv_bipush hx hb dX4_isSum_51 kB_m10 ?_
        exact hJ _ _ (((if_neg c27).trans rfl).symm) (lv_sub hl [0, 1, 2] rfl)
      · refine lv_bipush hx hb dX4_isSum_46 kB_m9 ?_
        refine lv_goto (tgt := 53) hx hb dX4_isSum_48 (by decide) ?_
        exact hJ _ _ (((if_pos c27).trans rfl).symm) (lv_sub hl [0, 1, 2] rfl)
    intro v28 ls ev28 hl
    have h := vl_at ev28 h
    refine lv_istore (lv' := [(4, .int v28), (0, .ref h0), (1, .int x1), (3, .int x3)]) hx hb dX4_isSum_53 hl (by decide) rfl (fun ls hl => ?_)
    refine lv_aload_n hx hb dX4_isSum_55 rfl (lv_at hl 1 rfl) ?_
    obtain ⟨o29, h⟩ := oi_some h
    obtain ⟨q30, hq30, h⟩ := ob_some h
    refine m_callv (va_runV (As := []) (rest := []) ⟨hx, hb, hml, hown, hts⟩ (c_X4_advance l G hq30) (cwV 0 hts gX4_isSum_X4_advance rfl rfl rfl hd_X4_advancev ⟨Nat.le_trans (Nat.le_of_ble_eq_true rfl) (Nat.le_add_left _ _), Nat.le_trans (Nat.le_of_ble_eq_true rfl) (Nat.le_add_left _ _)⟩) (m_preV (ci := 3) hK hM rfl o29) rfl rfl hl.1 rfl (lv_room (Nat.le_of_ble_eq_true rfl)) dX4_isSum_56 ⟨Nat.le_of_ble_eq_true rfl, Nat.le_of_ble_eq_true rfl⟩) hL (fun H locs hM hL => ?_)
    refine lv_aload_n hx hb dX4_isSum_59 rfl (lv_at hl 1 rfl) ?_
    refine lv_iload_n hx hb dX4_isSum_60 rfl (lv_at hl 2 rfl) ?_
    obtain ⟨o31, h⟩ := oi_some h
    obtain ⟨q32, hq32, h⟩ := ob_some h
    refine m_calli (va_runV (As := [.int x1]) (rest := []) ⟨hx, hb, hml, hown, hts⟩ (c_X4_isTerm l G fE lE hE hq32) (cwV 1 hts gX4_isSum_X4_isTerm rfl rfl rfl hd_X4_isTermv (by constructor <;> (simp only [rm_X4_isSum, rm_X4_isTerm]; omega))) (m_preV (ci := 3) hK hM rfl o31) rfl rfl hl.1 rfl (lv_room (Nat.le_of_ble_eq_true rfl)) dX4_isSum_61 ⟨Nat.le_of_ble_eq_true rfl, Nat.le_of_ble_eq_true rfl⟩) hL (fun H locs hM hL => ?_)
    refine lv_if_eq (tgt := 81) hx hb dX4_isSum_64 (by decide) (fun c33 => ?_) (fun c33 => ?_)
    · have h := (if_pos c33).symm.trans h
      refine lv_iconst hx hb dX4_isSum_81 kI_0 ?_
      refine lv_istore_n (lv' := [(2, .int (0 : Int32)), (4, .int v28), (0, .ref h0), (1, .int x1), (3, .int x3)]) hx hb dX4_isSum_82 rfl hl (by decide) rfl (fun ls hl => ?_)
      obtain ⟨v34, ev34⟩ : ∃ y : Int32, y = x3 + (1 : Int32) := ⟨_, rfl⟩
      have h := vl_at ev34 h
      refine lv_iinc (v := v34) (lv' := [(3, .int v34), (2, .int (0 : Int32)), (4, .int v28), (0, .ref h0), (1, .int x1)]) hx hb dX4_isSum_83 hl (k := 4) rfl (by rw [ev34, kI_1]) (by decide) rfl (fun ls hl => ?_)
      refine lv_goto (tgt := 8) hx hb dX4_isSum_86 (by decide) ?_
      exact hk8 _ _ _ _ _ h _ _ _ hM hL (lv_sub hl [3, 4, 1, 0] rfl)
    · have h := (if_neg c33).symm.trans h
      refine lv_aload_n hx hb dX4_isSum_67 rfl (lv_at hl 1 rfl) ?_
      refine lv_iload hx hb dX4_isSum_68 (lv_at hl 0 rfl) ?_
      refine lv_iconst hx hb dX4_isSum_70 kI_1 ?_
      obtain ⟨o35, h⟩ := oi_some h
      obtain ⟨q36, hq36, h⟩ := ob_some h
      refine m_calli (va_runV (As := [.int v28, .int (1 : Int32)]) (rest := []) ⟨hx, hb, hml, hown, hts⟩ (c_X4_isNoted l G hq36) (cwV 2 hts gX4_isSum_X4_isNoted rfl rfl rfl hd_X4_isNotedv ⟨Nat.le_trans (Nat.le_of_ble_eq_true rfl) (Nat.le_add_left _ _), Nat.le_trans (Nat.le_of_ble_eq_true rfl) (Nat.le_add_left _ _)⟩) (m_preV (ci := 3) hK hM rfl o35) rfl rfl hl.1 rfl (lv_room (Nat.le_of_ble_eq_true rfl)) dX4_isSum_71 ⟨Nat.le_of_ble_eq_true rfl, Nat.le_of_ble_eq_true rfl⟩) hL (fun H locs hM hL => ?_)
      suffices hJ : ∀ (v38 : Int32) (ls : Array Slot), v38 = (if q36.1 = 0 then (0 : Int32) else (1 : Int32)) → lv_has ls 5 [(0, .ref h0), (1, .int x1), (3, .int x3)] → W p l e (rm_X4_isSum fE lE) s m args below meth c H locs 0 0 Q (F0 m 82 ls [.int v38]) by
        refine lv_if_eq (tgt := 81) hx hb dX4_isSum_74 (by decide) (fun c37 => ?_) (fun c37 => ?_)
        · refine lv_iconst hx hb dX4_isSum_81 kI_0 ?_
          exact hJ _ _ (((if_pos c37).trans rfl).symm) (lv_sub hl [1, 2, 3] rfl)
        · refine lv_iconst hx hb dX4_isSum_77 kI_1 ?_
          refine lv_goto (tgt := 82) hx hb dX4_isSum_78 (by decide) ?_
          exact hJ _ _ (((if_neg c37).trans rfl).symm) (lv_sub hl [1, 2, 3] rfl)
      intro v38 ls ev38 hl
      have h := vl_at ev38 h
      refine lv_istore_n (lv' := [(2, .int v38), (0, .ref h0), (1, .int x1), (3, .int x3)]) hx hb dX4_isSum_82 rfl hl (by decide) rfl (fun ls hl => ?_)
      obtain ⟨v39, ev39⟩ : ∃ y : Int32, y = x3 + (1 : Int32) := ⟨_, rfl⟩
      have h := vl_at ev39 h
      refine lv_iinc (v := v39) (lv' := [(3, .int v39), (2, .int v38), (0, .ref h0), (1, .int x1)]) hx hb dX4_isSum_83 hl (k := 3) rfl (by rw [ev39, kI_1]) (by decide) rfl (fun ls hl => ?_)
      refine lv_goto (tgt := 8) hx hb dX4_isSum_86 (by decide) ?_
      exact hk8 _ _ _ _ _ h _ _ _ hM hL (lv_sub hl [2, 3, 1, 0] rfl)
  have hN8 : ∀ (n : Nat) (h0 : Nat) (x1 : Int32) (x2 : Int32) (x3 : Int32) (σ : mS), f_X4_isSum_8 E n h0 x1 x2 x3 σ = some z → ∀ (H : Heap) (locs : List Loc) (ls : Array Slot), mP G σ H → mL G locs → lv_has ls 5 [(0, .ref h0), (1, .int x1), (2, .int x2), (3, .int x3)] → W p l e (rm_X4_isSum fE lE) s m args below meth c H locs 0 0 Q (F0 m 8 ls []) := by
    intro n
    induction n with
    | zero =>
      intro h0 x1 x2 x3 σ h
      exact nomatch (show (none : Option (Int32 × mS)) = some z from h)
    | succ n ih =>
      intro h0 x1 x2 x3 σ h H locs ls hM hL hl
      rw [f_X4_isSum_8.eq_2] at h
      refine lv_iload_n hx hb dX4_isSum_8 rfl (lv_at hl 3 rfl) ?_
      refine lv_sipush hx hb dX4_isSum_9 kS_160 ?_
      refine lv_icmp_ge (tgt := 89) hx hb dX4_isSum_12 (by decide) (fun c40 => ?_) (fun c40 => ?_)
      · have h := (if_pos c40).symm.trans h
        refine lv_iload_n hx hb dX4_isSum_89 rfl (lv_at hl 2 rfl) ?_
        obtain ⟨n41, h⟩ := oi_some h
        subst hQ
        have h := Option.some.inj h
        subst h
        exact m_zret (x := x2) hx hb hr (zn_of n41) hM hL dX4_isSum_90 hlocks
      · have h := (if_neg c40).symm.trans h
        refine lv_iload_n hx hb dX4_isSum_15 rfl (lv_at hl 2 rfl) ?_
        refine lv_if_eq (tgt := 89) hx hb dX4_isSum_16 (by decide) (fun c42 => ?_) (fun c42 => ?_)
        · have h := (if_pos c42).symm.trans h
          refine lv_iload_n hx hb dX4_isSum_89 rfl (lv_at hl 2 rfl) ?_
          obtain ⟨n43, h⟩ := oi_some h
          subst hQ
          have h := Option.some.inj h
          subst h
          exact m_zret (x := x2) hx hb hr (zn_of n43) hM hL dX4_isSum_90 hlocks
        · have h := (if_neg c42).symm.trans h
          refine lv_aload_n hx hb dX4_isSum_19 rfl (lv_at hl 0 rfl) ?_
          refine m_getI (ci := 3) hx hb hU4 hown hK hM rfl 5 (by decide) w1 h dX4_isSum_20 (fun v44 gv44 h => ?_)
          refine lv_bipush hx hb dX4_isSum_23 kB_43 ?_
          refine lv_icmp_eq (tgt := 37) hx hb dX4_isSum_25 (by decide) (fun c45 => ?_) (fun c45 => ?_)
          · have h := (if_pos c45).symm.trans h
            refine hN37 _ (fun _ _ _ _ _ h H locs ls hM hL hl => ih _ _ _ _ _ h H locs ls hM hL hl) _ _ _ _ h _ _ _ hM hL (lv_sub hl [0, 1, 3] rfl)
          · have h := (if_neg c45).symm.trans h
            refine lv_aload_n hx hb dX4_isSum_28 rfl (lv_at hl 0 rfl) ?_
            refine m_getI (ci := 3) hx hb hU4 hown hK hM rfl 5 (by decide) w1 h dX4_isSum_29 (fun v46 gv46 h => ?_)
            refine lv_bipush hx hb dX4_isSum_32 kB_45 ?_
            refine lv_icmp_ne (tgt := 89) hx hb dX4_isSum_34 (by decide) (fun c47 => ?_) (fun c47 => ?_)
            · have h := (if_neg c47).symm.trans h
              refine lv_iload_n hx hb dX4_isSum_89 rfl (lv_at hl 2 rfl) ?_
              obtain ⟨n48, h⟩ := oi_some h
              subst hQ
              have h := Option.some.inj h
              subst h
              exact m_zret (x := x2) hx hb hr (zn_of n48) hM hL dX4_isSum_90 hlocks
            · have h := (if_pos c47).symm.trans h
              refine hN37 _ (fun _ _ _ _ _ h H locs ls hM hL hl => ih _ _ _ _ _ h H locs ls hM hL hl) _ _ _ _ h _ _ _ hM hL (lv_sub hl [0, 1, 3] rfl)
  rw [f_X4_isSum.eq_1] at h
  refine lv_aload_n hx hb dX4_isSum_0 rfl (lv_at hl 0 rfl) ?_
  refine lv_iload_n hx hb dX4_isSum_1 rfl (lv_at hl 1 rfl) ?_
  obtain ⟨o49, h⟩ := oi_some h
  obtain ⟨q50, hq50, h⟩ := ob_some h
  refine m_calli (va_runV (As := [.int x1]) (rest := []) ⟨hx, hb, hml, hown, hts⟩ (c_X4_isTerm l G fE lE hE hq50) (cwV 1 hts gX4_isSum_X4_isTerm rfl rfl rfl hd_X4_isTermv (by constructor <;> (simp only [rm_X4_isSum, rm_X4_isTerm]; omega))) (m_preV (ci := 3) hK hM rfl o49) rfl rfl hl.1 rfl (lv_room (Nat.le_of_ble_eq_true rfl)) dX4_isSum_2 ⟨Nat.le_of_ble_eq_true rfl, Nat.le_of_ble_eq_true rfl⟩) hL (fun H locs hM hL => ?_)
  refine lv_istore_n (lv' := [(2, .int q50.1), (0, .ref h0), (1, .int x1)]) hx hb dX4_isSum_5 rfl hl (by decide) rfl (fun ls hl => ?_)
  refine lv_iconst hx hb dX4_isSum_6 kI_0 ?_
  refine lv_istore_n (lv' := [(3, .int (0 : Int32)), (2, .int q50.1), (0, .ref h0), (1, .int x1)]) hx hb dX4_isSum_7 rfl hl (by decide) rfl (fun ls hl => ?_)
  refine hN8 _ _ _ _ _ _ h _ _ _ hM hL (lv_sub hl [2, 3, 1, 0] rfl)
abbrev rm_X4_isComparison (fE lE : Nat) : Room := { frames := fE + 12, cells := 0, slots := 0, locals := lE + 264 }
set_option maxHeartbeats 4000000 in
set_option maxRecDepth 100000 in
theorem c_X4_isComparison (l : Launch) (G : mG) {E : Nat → Int32 → mS → Option (Int32 × mS)} (fE lE : Nat) (hE : ∀ (a0 : Nat) (a1 : Int32) (τ : mS) (q : Int32 × mS), E a0 a1 τ = some q → Met l yX4_isEither wsX4_isEither { frames := fE, cells := 0, slots := 0, locals := lE } (va_Pc [.ref a0, .int a1] (mB G τ)) (mQ G (.returned (some (.int q.1))) q.2) 0 0 (mF G)) {h0 : Nat} {x1 : Int32} {σ : mS} {z : Int32 × mS} (h : f_X4_isComparison E h0 x1 σ = some z) : Met l yX4_isComparison wsX4_isComparison (rm_X4_isComparison fE lE) (va_Pc [.ref h0, .int x1] (mB G σ)) (mQ G (.returned (some (.int z.1))) z.2) 0 0 (mF G) := by
  refine m_start (cc := cX4_isComparison) (maxL := 4) (ret := (some .boolean)) (by decide) rfl [.ref h0, .int x1] (Nat.le_of_ble_eq_true rfl) ?_
  intro p e s m args below meth c ls hx hb hr hml hown hts hlocks hnm hK hM hl
  have hown : s.vm.findClass RX4 = some m.cls := hown
  have hnm : meth.name = "isComparison" := hnm
  obtain ⟨locs, hlocs⟩ : ∃ l : List Loc, l = [] := ⟨_, rfl⟩
  have hL : mL G locs := by rw [hlocs]; exact mL_nil G
  rw [← hlocs]
  generalize s.heap = H at hM ⊢
  have hl : lv_has ls 4 [(0, .ref h0), (1, .int x1)] := hl
  obtain ⟨Q, hQ⟩ : ∃ Q, Q = MQ below (mQ G (.returned (some (.int z.1))) z.2) args s 0 0 (mF G) := ⟨_, rfl⟩
  rw [← hQ]
  have hU4 : ∀ w ∈ wsX40, w.before args s = true := fun w h => hts w (List.mem_cons_of_mem _ (List.mem_append_right _ h))
  have w1 := (hts (.fieldLink RX4 41 "HandkerchiefsDropped$Tape" "token" "I") (List.mem_of_getElem? (i := 1) rfl))
  have hN28 : ∀ (h0 : Nat) (x1 : Int32) (σ : mS), f_X4_isComparison_28 E h0 x1 σ = some z → ∀ (H : Heap) (locs : List Loc) (ls : Array Slot), mP G σ H → mL G locs → lv_has ls 4 [(0, .ref h0), (1, .int x1)] → W p l e (rm_X4_isComparison fE lE) s m args below meth c H locs 0 0 Q (F0 m 28 ls []) := by
    intro h0 x1 σ h H locs ls hM hL hl
    rw [f_X4_isComparison_28.eq_1] at h
    refine lv_aload_n hx hb dX4_isComparison_28 rfl (lv_at hl 0 rfl) ?_
    refine m_getI (ci := 3) hx hb hU4 hown hK hM rfl 5 (by decide) w1 h dX4_isComparison_29 (fun v23 gv23 h => ?_)
    refine lv_bipush hx hb dX4_isComparison_32 kB_60 ?_
    suffices hJ : ∀ (v25 : Int32) (ls : Array Slot), v25 = (if v23 = (60 : Int32) then (-12 : Int32) else (-13 : Int32)) → lv_has ls 4 [(0, .ref h0), (1, .int x1)] → W p l e (rm_X4_isComparison fE lE) s m args below meth c H locs 0 0 Q (F0 m 44 ls [.int v25]) by
      refine lv_icmp_ne (tgt := 42) hx hb dX4_isComparison_34 (by decide) (fun c24 => ?_) (fun c24 => ?_)
      · refine lv_bipush hx hb dX4_isComparison_42 kB_m13 ?_
        exact hJ _ _ (((if_neg c24).trans rfl).symm) (lv_sub hl [0, 1] rfl)
      · refine lv_bipush hx hb dX4_isComparison_37 kB_m12 ?_
        refine lv_goto (tgt := 44) hx hb dX4_isComparison_39 (by decide) ?_
        exact hJ _ _ (((if_pos c24).trans rfl).symm) (lv_sub hl [0, 1] rfl)
    intro v25 ls ev25 hl
    have h := vl_at ev25 h
    refine lv_istore_n (lv' := [(3, .int v25), (0, .ref h0), (1, .int x1)]) hx hb dX4_isComparison_44 rfl hl (by decide) rfl (fun ls hl => ?_)
    refine lv_aload_n hx hb dX4_isComparison_45 rfl (lv_at hl 1 rfl) ?_
    obtain ⟨o26, h⟩ := oi_some h
    obtain ⟨q27, hq27, h⟩ := ob_some h
    refine m_callv (va_runV (As := []) (rest := []) ⟨hx, hb, hml, hown, hts⟩ (c_X4_advance l G hq27) (cwV 0 hts gX4_isComparison_X4_advance rfl rfl rfl hd_X4_advancev ⟨Nat.le_trans (Nat.le_of_ble_eq_true rfl) (Nat.le_add_left _ _), Nat.le_trans (Nat.le_of_ble_eq_true rfl) (Nat.le_add_left _ _)⟩) (m_preV (ci := 3) hK hM rfl o26) rfl rfl hl.1 rfl (lv_room (Nat.le_of_ble_eq_true rfl)) dX4_isComparison_46 ⟨Nat.le_of_ble_eq_true rfl, Nat.le_of_ble_eq_true rfl⟩) hL (fun H locs hM hL => ?_)
    refine lv_aload_n hx hb dX4_isComparison_49 rfl (lv_at hl 1 rfl) ?_
    refine lv_iload_n hx hb dX4_isComparison_50 rfl (lv_at hl 2 rfl) ?_
    obtain ⟨o28, h⟩ := oi_some h
    obtain ⟨q29, hq29, h⟩ := ob_some h
    refine m_calli (va_runV (As := [.int x1]) (rest := []) ⟨hx, hb, hml, hown, hts⟩ (c_X4_isSum l G fE lE hE hq29) (cwV 1 hts gX4_isComparison_X4_isSum rfl rfl rfl hd_X4_isSumv (by constructor <;> (simp only [rm_X4_isComparison, rm_X4_isSum]; omega))) (m_preV (ci := 3) hK hM rfl o28) rfl rfl hl.1 rfl (lv_room (Nat.le_of_ble_eq_true rfl)) dX4_isComparison_51 ⟨Nat.le_of_ble_eq_true rfl, Nat.le_of_ble_eq_true rfl⟩) hL (fun H locs hM hL => ?_)
    refine lv_if_eq (tgt := 70) hx hb dX4_isComparison_54 (by decide) (fun c30 => ?_) (fun c30 => ?_)
    · have h := (if_pos c30).symm.trans h
      refine lv_iconst hx hb dX4_isComparison_70 kI_0 ?_
      refine lv_istore_n (lv' := [(2, .int (0 : Int32)), (3, .int v25), (0, .ref h0), (1, .int x1)]) hx hb dX4_isComparison_71 rfl hl (by decide) rfl (fun ls hl => ?_)
      refine lv_iload_n hx hb dX4_isComparison_72 rfl (lv_at hl 0 rfl) ?_
      subst hQ
      have h := Option.some.inj h
      subst h
      exact m_zret (x := (0 : Int32)) hx hb hr rfl hM hL dX4_isComparison_73 hlocks
    · have h := (if_neg c30).symm.trans h
      refine lv_aload_n hx hb dX4_isComparison_57 rfl (lv_at hl 1 rfl) ?_
      refine lv_iload_n hx hb dX4_isComparison_58 rfl (lv_at hl 0 rfl) ?_
      refine lv_iconst hx hb dX4_isComparison_59 kI_1 ?_
      obtain ⟨o31, h⟩ := oi_some h
      obtain ⟨q32, hq32, h⟩ := ob_some h
      refine m_calli (va_runV (As := [.int v25, .int (1 : Int32)]) (rest := []) ⟨hx, hb, hml, hown, hts⟩ (c_X4_isNoted l G hq32) (cwV 2 hts gX4_isComparison_X4_isNoted rfl rfl rfl hd_X4_isNotedv ⟨Nat.le_trans (Nat.le_of_ble_eq_true rfl) (Nat.le_add_left _ _), Nat.le_trans (Nat.le_of_ble_eq_true rfl) (Nat.le_add_left _ _)⟩) (m_preV (ci := 3) hK hM rfl o31) rfl rfl hl.1 rfl (lv_room (Nat.le_of_ble_eq_true rfl)) dX4_isComparison_60 ⟨Nat.le_of_ble_eq_true rfl, Nat.le_of_ble_eq_true rfl⟩) hL (fun H locs hM hL => ?_)
      suffices hJ : ∀ (v34 : Int32) (ls : Array Slot), v34 = (if q32.1 = 0 then (0 : Int32) else (1 : Int32)) → lv_has ls 4 [] → W p l e (rm_X4_isComparison fE lE) s m args below meth c H locs 0 0 Q (F0 m 71 ls [.int v34]) by
        refine lv_if_eq (tgt := 70) hx hb dX4_isComparison_63 (by decide) (fun c33 => ?_) (fun c33 => ?_)
        · refine lv_iconst hx hb dX4_isComparison_70 kI_0 ?_
          exact hJ _ _ (((if_pos c33).trans rfl).symm) (lv_sub hl [] rfl)
        · refine lv_iconst hx hb dX4_isComparison_66 kI_1 ?_
          refine lv_goto (tgt := 71) hx hb dX4_isComparison_67 (by decide) ?_
          exact hJ _ _ (((if_neg c33).trans rfl).symm) (lv_sub hl [] rfl)
      intro v34 ls ev34 hl
      have h := vl_at ev34 h
      refine lv_istore_n (lv' := [(2, .int v34)]) hx hb dX4_isComparison_71 rfl hl (by decide) rfl (fun ls hl => ?_)
      refine lv_iload_n hx hb dX4_isComparison_72 rfl (lv_at hl 0 rfl) ?_
      obtain ⟨n35, h⟩ := oi_some h
      subst hQ
      have h := Option.some.inj h
      subst h
      exact m_zret (x := v34) hx hb hr (zn_of n35) hM hL dX4_isComparison_73 hlocks
  rw [f_X4_isComparison.eq_1] at h
  refine lv_aload_n hx hb dX4_isComparison_0 rfl (lv_at hl 0 rfl) ?_
  refine lv_iload_n hx hb dX4_isComparison_1 rfl (lv_at hl 1 rfl) ?_
  obtain ⟨o36, h⟩ := oi_some h
  obtain ⟨q37, hq37, h⟩ := ob_some h
  refine m_calli (va_runV (As := [.int x1]) (rest := []) ⟨hx, hb, hml, hown, hts⟩ (c_X4_isSum l G fE lE hE hq37) (cwV 1 hts gX4_isComparison_X4_isSum rfl rfl rfl hd_X4_isSumv (by constructor <;> (simp only [rm_X4_isComparison, rm_X4_isSum]; omega))) (m_preV (ci := 3) hK hM rfl o36) rfl rfl hl.1 rfl (lv_room (Nat.le_of_ble_eq_true rfl)) dX4_isComparison_2 ⟨Nat.le_of_ble_eq_true rfl, Nat.le_of_ble_eq_true rfl⟩) hL (fun H locs hM hL => ?_)
  refine lv_istore_n (lv' := [(2, .int q37.1), (0, .ref h0), (1, .int x1)]) hx hb dX4_isComparison_5 rfl hl (by decide) rfl (fun ls hl => ?_)
  refine lv_iload_n hx hb dX4_isComparison_6 rfl (lv_at hl 0 rfl) ?_
  refine lv_if_eq (tgt := 72) hx hb dX4_isComparison_7 (by decide) (fun c38 => ?_) (fun c38 => ?_)
  · have h := (if_pos c38).symm.trans h
    refine lv_iload_n hx hb dX4_isComparison_72 rfl (lv_at hl 0 rfl) ?_
    obtain ⟨n39, h⟩ := oi_some h
    subst hQ
    have h := Option.some.inj h
    subst h
    exact m_zret (x := q37.1) hx hb hr (zn_of n39) hM hL dX4_isComparison_73 hlocks
  · have h := (if_neg c38).symm.trans h
    refine lv_aload_n hx hb dX4_isComparison_10 rfl (lv_at hl 1 rfl) ?_
    refine m_getI (ci := 3) hx hb hU4 hown hK hM rfl 5 (by decide) w1 h dX4_isComparison_11 (fun v40 gv40 h => ?_)
    refine lv_bipush hx hb dX4_isComparison_14 kB_60 ?_
    refine lv_icmp_eq (tgt := 28) hx hb dX4_isComparison_16 (by decide) (fun c41 => ?_) (fun c41 => ?_)
    · have h := (if_pos c41).symm.trans h
      refine hN28 _ _ _ h _ _ _ hM hL (lv_sub hl [1, 2] rfl)
    · have h := (if_neg c41).symm.trans h
      refine lv_aload_n hx hb dX4_isComparison_19 rfl (lv_at hl 1 rfl) ?_
      refine m_getI (ci := 3) hx hb hU4 hown hK hM rfl 5 (by decide) w1 h dX4_isComparison_20 (fun v42 gv42 h => ?_)
      refine lv_bipush hx hb dX4_isComparison_23 kB_61 ?_
      refine lv_icmp_ne (tgt := 72) hx hb dX4_isComparison_25 (by decide) (fun c43 => ?_) (fun c43 => ?_)
      · have h := (if_neg c43).symm.trans h
        refine lv_iload_n hx hb dX4_isComparison_72 rfl (lv_at hl 0 rfl) ?_
        obtain ⟨n44, h⟩ := oi_some h
        subst hQ
        have h := Option.some.inj h
        subst h
        exact m_zret (x := q37.1) hx hb hr (zn_of n44) hM hL dX4_isComparison_73 hlocks
      · have h := (if_pos c43).symm.trans h
        refine hN28 _ _ _ h _ _ _ hM hL (lv_sub hl [1, 2] rfl)
abbrev rm_X4_isNot (fE lE : Nat) : Room := { frames := fE + 13, cells := 0, slots := 0, locals := lE + 287 }
set_option maxHeartbeats 4000000 in
set_option maxRecDepth 100000 in
theorem c_X4_isNot (l : Launch) (G : mG) {E : Nat → Int32 → mS → Option (Int32 × mS)} (fE lE : Nat) (hE : ∀ (a0 : Nat) (a1 : Int32) (τ : mS) (q : Int32 × mS), E a0 a1 τ = some q → Met l yX4_isEither wsX4_isEither { frames := fE, cells := 0, slots := 0, locals := lE } (va_Pc [.ref a0, .int a1] (mB G τ)) (mQ G (.returned (some (.int q.1))) q.2) 0 0 (mF G)) {h0 : Nat} {x1 : Int32} {σ : mS} {z : Int32 × mS} (h : f_X4_isNot E h0 x1 σ = some z) : Met l yX4_isNot wsX4_isNot (rm_X4_isNot fE lE) (va_Pc [.ref h0, .int x1] (mB G σ)) (mQ G (.returned (some (.int z.1))) z.2) 0 0 (mF G) := by
  refine m_start (cc := cX4_isNot) (maxL := 3) (ret := (some .boolean)) (by decide) rfl [.ref h0, .int x1] (Nat.le_of_ble_eq_true rfl) ?_
  intro p e s m args below meth c ls hx hb hr hml hown hts hlocks hnm hK hM hl
  have hown : s.vm.findClass RX4 = some m.cls := hown
  have hnm : meth.name = "isNot" := hnm
  obtain ⟨locs, hlocs⟩ : ∃ l : List Loc, l = [] := ⟨_, rfl⟩
  have hL : mL G locs := by rw [hlocs]; exact mL_nil G
  rw [← hlocs]
  generalize s.heap = H at hM ⊢
  have hl : lv_has ls 3 [(0, .ref h0), (1, .int x1)] := hl
  obtain ⟨Q, hQ⟩ : ∃ Q, Q = MQ below (mQ G (.returned (some (.int z.1))) z.2) args s 0 0 (mF G) := ⟨_, rfl⟩
  rw [← hQ]
  have hU4 : ∀ w ∈ wsX40, w.before args s = true := fun w h => hts w (List.mem_cons_of_mem _ (List.mem_append_right _ h))
  have w1 := (hts (.fieldLink RX4 41 "HandkerchiefsDropped$Tape" "token" "I") (List.mem_of_getElem? (i := 1) rfl))
  have hN2 : ∀ (k26 : Nat → Int32 → Int32 → mS → Option (Int32 × mS)) (hk26 : ∀ (h0 : Nat) (x1 : Int32) (x2 : Int32) (σ : mS), k26 h0 x1 x2 σ = some z → ∀ (H : Heap) (locs : List Loc) (ls : Array Slot), mP G σ H → mL G locs → lv_has ls 3 [(0, .ref h0), (1, .int x1), (2, .int x2)] → W p l e (rm_X4_isNot fE lE) s m args below meth c H locs 0 0 Q (F0 m 26 ls [])) (n : Nat) (h0 : Nat) (x1 : Int32) (x2 : Int32) (σ : mS), f_X4_isNot_2 E k26 n h0 x1 x2 σ = some z → ∀ (H : Heap) (locs : List Loc) (ls : Array Slot), mP G σ H → mL G locs → lv_has ls 3 [(0, .ref h0), (1, .int x1), (2, .int x2)] → W p l e (rm_X4_isNot fE lE) s m args below meth c H locs 0 0 Q (F0 m 2 ls []) := by
    intro k26 hk26 n
    induction n with
    | zero =>
      intro h0 x1 x2 σ h
      exact nomatch (show (none : Option (Int32 × mS)) = some z from h)
    | succ n ih =>
      intro h0 x1 x2 σ h H locs ls hM hL hl
      rw [f_X4_isNot_2.eq_2] at h
      refine lv_iload_n hx hb dX4_isNot_2 rfl (lv_at hl 2 rfl) ?_
      refine lv_iconst hx hb dX4_isNot_3 kI_5 ?_
      refine lv_icmp_ge (tgt := 26) hx hb dX4_isNot_4 (by decide) (fun c13 => ?_) (fun c13 => ?_)
      · have h := (if_pos c13).symm.trans h
        exact hk26 _ _ _ _ h _ _ _ hM hL (lv_sub hl [0, 1, 2] rfl)
      · have h := (if_neg c13).symm.trans h
        refine lv_aload_n hx hb dX4_isNot_7 rfl (lv_at hl 0 rfl) ?_
        refine m_getI (ci := 3) hx hb hU4 hown hK hM rfl 5 (by decide) w1 h dX4_isNot_8 (fun v14 gv14 h => ?_)
        refine lv_bipush hx hb dX4_isNot_11 kB_9 ?_
        refine lv_icmp_ne (tgt := 26) hx hb dX4_isNot_13 (by decide) (fun c15 => ?_) (fun c15 => ?_)
        · have h := (if_neg c15).symm.trans h
          exact hk26 _ _ _ _ h _ _ _ hM hL (lv_sub hl [0, 1, 2] rfl)
        · have h := (if_pos c15).symm.trans h
          refine lv_aload_n hx hb dX4_isNot_16 rfl (lv_at hl 0 rfl) ?_
          obtain ⟨o16, h⟩ := oi_some h
          obtain ⟨q17, hq17, h⟩ := ob_some h
          refine m_callv (va_runV (As := []) (rest := []) ⟨hx, hb, hml, hown, hts⟩ (c_X4_advance l G hq17) (cwV 0 hts gX4_isNot_X4_advance rfl rfl rfl hd_X4_advancev ⟨Nat.le_trans (Nat.le_of_ble_eq_true rfl) (Nat.le_add_left _ _), Nat.le_trans (Nat.le_of_ble_eq_true rfl) (Nat.le_add_left _ _)⟩) (m_preV (ci := 3) hK hM rfl o16) rfl rfl hl.1 rfl (lv_room (Nat.le_of_ble_eq_true rfl)) dX4_isNot_17 ⟨Nat.le_of_ble_eq_true rfl, Nat.le_of_ble_eq_true rfl⟩) hL (fun H locs hM hL => ?_)
          obtain ⟨v18, ev18⟩ : ∃ y : Int32, y = x2 + (1 : Int32) := ⟨_, rfl⟩
          have h := vl_at ev18 h
          refine lv_iinc (v := v18) (lv' := [(2, .int v18), (0, .ref h0), (1, .int x1)]) hx hb dX4_isNot_20 hl (k := 2) rfl (by rw [ev18, kI_1]) (by decide) rfl (fun ls hl => ?_)
          refine lv_goto (tgt := 2) hx hb dX4_isNot_23 (by decide) ?_
          exact ih _ _ _ _ h _ _ _ hM hL (lv_sub hl [1, 2, 0] rfl)
  rw [f_X4_isNot.eq_1] at h
  refine lv_iload_n hx hb dX4_isNot_0 rfl (lv_at hl 1 rfl) ?_
  refine lv_istore_n (lv' := [(2, .int x1), (0, .ref h0), (1, .int x1)]) hx hb dX4_isNot_1 rfl hl (by decide) rfl (fun ls hl => ?_)
  refine hN2 _ ?_ _ _ _ _ _ h _ _ _ hM hL (lv_sub hl [1, 2, 0] rfl)
  · intro h0 x1 x2 σ h H locs ls hM hL hl
    refine lv_aload_n hx hb dX4_isNot_26 rfl (lv_at hl 0 rfl) ?_
    refine lv_iload_n hx hb dX4_isNot_27 rfl (lv_at hl 2 rfl) ?_
    obtain ⟨o19, h⟩ := oi_some h
    obtain ⟨q20, hq20, h⟩ := ob_some h
    refine m_calli (va_runV (As := [.int x2]) (rest := []) ⟨hx, hb, hml, hown, hts⟩ (c_X4_isComparison l G fE lE hE hq20) (cwV 1 hts gX4_isNot_X4_isComparison rfl rfl rfl hd_X4_isComparisonv (by constructor <;> (simp only [rm_X4_isNot, rm_X4_isComparison]; omega))) (m_preV (ci := 3) hK hM rfl o19) rfl rfl hl.1 rfl (lv_room (Nat.le_of_ble_eq_true rfl)) dX4_isNot_28 ⟨Nat.le_of_ble_eq_true rfl, Nat.le_of_ble_eq_true rfl⟩) hL (fun H locs hM hL => ?_)
    refine lv_if_eq (tgt := 50) hx hb dX4_isNot_31 (by decide) (fun c21 => ?_) (fun c21 => ?_)
    · have h := (if_pos c21).symm.trans h
      refine lv_iconst hx hb dX4_isNot_50 kI_0 ?_
      subst hQ
      have h := Option.some.inj h
      subst h
      exact m_zret (x := (0 : Int32)) hx hb hr rfl hM hL dX4_isNot_51 hlocks
    · have h := (if_neg c21).symm.trans h
      refine lv_aload_n hx hb dX4_isNot_34 rfl (lv_at hl 0 rfl) ?_
      refine lv_bipush hx hb dX4_isNot_35 kB_m8 ?_
      refine lv_iload_n hx hb dX4_isNot_37 rfl (lv_at hl 2 rfl) ?_
      refine lv_iload_n hx hb dX4_isNot_38 rfl (lv_at hl 1 rfl) ?_
      refine lv_isub hx hb dX4_isNot_39 ?_
      obtain ⟨o22, h⟩ := oi_some h
      obtain ⟨q23, hq23, h⟩ := ob_some h
      refine m_calli (va_runV (As := [.int (-8 : Int32), .int (x2 - x1)]) (rest := []) ⟨hx, hb, hml, hown, hts⟩ (c_X4_isNoted l G hq23) (cwV 2 hts gX4_isNot_X4_isNoted rfl rfl rfl hd_X4_isNotedv ⟨Nat.le_trans (Nat.le_of_ble_eq_true rfl) (Nat.le_add_left _ _), Nat.le_trans (Nat.le_of_ble_eq_true rfl) (Nat.le_add_left _ _)⟩) (m_preV (ci := 3) hK hM rfl o22) rfl rfl hl.1 rfl (lv_room (Nat.le_of_ble_eq_true rfl)) dX4_isNot_40 ⟨Nat.le_of_ble_eq_true rfl, Nat.le_of_ble_eq_true rfl⟩) hL (fun H locs hM hL => ?_)
      refine lv_if_eq (tgt := 50) hx hb dX4_isNot_43 (by decide) (fun c24 => ?_) (fun c24 => ?_)
      · have h := (if_pos c24).symm.trans h
        refine lv_iconst hx hb dX4_isNot_50 kI_0 ?_
        subst hQ
        have h := Option.some.inj h
        subst h
        exact m_zret (x := (0 : Int32)) hx hb hr rfl hM hL dX4_isNot_51 hlocks
      · have h := (if_neg c24).symm.trans h
        refine lv_iconst hx hb dX4_isNot_46 kI_1 ?_
        refine lv_goto (tgt := 51) hx hb dX4_isNot_47 (by decide) ?_
        subst hQ
        have h := Option.some.inj h
        subst h
        exact m_zret (x := (1 : Int32)) hx hb hr rfl hM hL dX4_isNot_51 hlocks
abbrev rm_X4_isBoth (fE lE : Nat) : Room := { frames := fE + 14, cells := 0, slots := 0, locals := lE + 309 }
set_option maxHeartbeats 4000000 in
set_option maxRecDepth 100000 in
theorem c_X4_isBoth (l : Launch) (G : mG) {E : Nat → Int32 → mS → Option (Int32 × mS)} (fE lE : Nat) (hE : ∀ (a0 : Nat) (a1 : Int32) (τ : mS) (q : Int32 × mS), E a0 a1 τ = some q → Met l yX4_isEither wsX4_isEither { frames := fE, cells := 0, slots := 0, locals := lE } (va_Pc [.ref a0, .int a1] (mB G τ)) (mQ G (.returned (some (.int q.1))) q.2) 0 0 (mF G)) {h0 : Nat} {x1 : Int32} {σ : mS} {z : Int32 × mS} (h : f_X4_isBoth E h0 x1 σ = some z) : Met l yX4_isBoth wsX4_isBoth (rm_X4_isBoth fE lE) (va_Pc [.ref h0, .int x1] (mB G σ)) (mQ G (.returned (some (.int z.1))) z.2) 0 0 (mF G) := by
  refine m_start (cc := cX4_isBoth) (maxL := 4) (ret := (some .boolean)) (by decide) rfl [.ref h0, .int x1] (Nat.le_of_ble_eq_true rfl) ?_
  intro p e s m args below meth c ls hx hb hr hml hown hts hlocks hnm hK hM hl
  have hown : s.vm.findClass RX4 = some m.cls := hown
  have hnm : meth.name = "isBoth" := hnm
  obtain ⟨locs, hlocs⟩ : ∃ l : List Loc, l = [] := ⟨_, rfl⟩
  have hL : mL G locs := by rw [hlocs]; exact mL_nil G
  rw [← hlocs]
  generalize s.heap = H at hM ⊢
  have hl : lv_has ls 4 [(0, .ref h0), (1, .int x1)] := hl
  obtain ⟨Q, hQ⟩ : ∃ Q, Q = MQ below (mQ G (.returned (some (.int z.1))) z.2) args s 0 0 (mF G) := ⟨_, rfl⟩
  rw [← hQ]
  have hU4 : ∀ w ∈ wsX40, w.before args s = true := fun w h => hts w (List.mem_cons_of_mem _ (List.mem_append_right _ h))
  have w1 := (hts (.fieldLink RX4 41 "HandkerchiefsDropped$Tape" "token" "I") (List.mem_of_getElem? (i := 1) rfl))
  have hN8 : ∀ (n : Nat) (h0 : Nat) (x1 : Int32) (x2 : Int32) (x3 : Int32) (σ : mS), f_X4_isBoth_8 E n h0 x1 x2 x3 σ = some z → ∀ (H : Heap) (locs : List Loc) (ls : Array Slot), mP G σ H → mL G locs → lv_has ls 4 [(0, .ref h0), (1, .int x1), (2, .int x2), (3, .int x3)] → W p l e (rm_X4_isBoth fE lE) s m args below meth c H locs 0 0 Q (F0 m 8 ls []) := by
    intro n
    induction n with
    | zero =>
      intro h0 x1 x2 x3 σ h
      exact nomatch (show (none : Option (Int32 × mS)) = some z from h)
    | succ n ih =>
      intro h0 x1 x2 x3 σ h H locs ls hM hL hl
      rw [f_X4_isBoth_8.eq_2] at h
      refine lv_iload_n hx hb dX4_isBoth_8 rfl (lv_at hl 3 rfl) ?_
      refine lv_sipush hx hb dX4_isBoth_9 kS_160 ?_
      refine lv_icmp_ge (tgt := 62) hx hb dX4_isBoth_12 (by decide) (fun c21 => ?_) (fun c21 => ?_)
      · have h := (if_pos c21).symm.trans h
        refine lv_iload_n hx hb dX4_isBoth_62 rfl (lv_at hl 2 rfl) ?_
        obtain ⟨n22, h⟩ := oi_some h
        subst hQ
        have h := Option.some.inj h
        subst h
        exact m_zret (x := x2) hx hb hr (zn_of n22) hM hL dX4_isBoth_63 hlocks
      · have h := (if_neg c21).symm.trans h
        refine lv_iload_n hx hb dX4_isBoth_15 rfl (lv_at hl 2 rfl) ?_
        refine lv_if_eq (tgt := 62) hx hb dX4_isBoth_16 (by decide) (fun c23 => ?_) (fun c23 => ?_)
        · have h := (if_pos c23).symm.trans h
          refine lv_iload_n hx hb dX4_isBoth_62 rfl (lv_at hl 2 rfl) ?_
          obtain ⟨n24, h⟩ := oi_some h
          subst hQ
          have h := Option.some.inj h
          subst h
          exact m_zret (x := x2) hx hb hr (zn_of n24) hM hL dX4_isBoth_63 hlocks
        · have h := (if_neg c23).symm.trans h
          refine lv_aload_n hx hb dX4_isBoth_19 rfl (lv_at hl 0 rfl) ?_
          refine m_getI (ci := 3) hx hb hU4 hown hK hM rfl 5 (by decide) w1 h dX4_isBoth_20 (fun v25 gv25 h => ?_)
          refine lv_bipush hx hb dX4_isBoth_23 kB_7 ?_
          refine lv_icmp_ne (tgt := 62) hx hb dX4_isBoth_25 (by decide) (fun c26 => ?_) (fun c26 => ?_)
          · have h := (if_neg c26).symm.trans h
            refine lv_iload_n hx hb dX4_isBoth_62 rfl (lv_at hl 2 rfl) ?_
            obtain ⟨n27, h⟩ := oi_some h
            subst hQ
            have h := Option.some.inj h
            subst h
            exact m_zret (x := x2) hx hb hr (zn_of n27) hM hL dX4_isBoth_63 hlocks
          · have h := (if_pos c26).symm.trans h
            refine lv_aload_n hx hb dX4_isBoth_28 rfl (lv_at hl 0 rfl) ?_
            obtain ⟨o28, h⟩ := oi_some h
            obtain ⟨q29, hq29, h⟩ := ob_some h
            refine m_callv (va_runV (As := []) (rest := []) ⟨hx, hb, hml, hown, hts⟩ (c_X4_advance l G hq29) (cwV 0 hts gX4_isBoth_X4_advance rfl rfl rfl hd_X4_advancev ⟨Nat.le_trans (Nat.le_of_ble_eq_true rfl) (Nat.le_add_left _ _), Nat.le_trans (Nat.le_of_ble_eq_true rfl) (Nat.le_add_left _ _)⟩) (m_preV (ci := 3) hK hM rfl o28) rfl rfl hl.1 rfl (lv_room (Nat.le_of_ble_eq_true rfl)) dX4_isBoth_29 ⟨Nat.le_of_ble_eq_true rfl, Nat.le_of_ble_eq_true rfl⟩) hL (fun H locs hM hL => ?_)
            refine lv_aload_n hx hb dX4_isBoth_32 rfl (lv_at hl 0 rfl) ?_
            refine lv_iload_n hx hb dX4_isBoth_33 rfl (lv_at hl 1 rfl) ?_
            obtain ⟨o30, h⟩ := oi_some h
            obtain ⟨q31, hq31, h⟩ := ob_some h
            refine m_calli (va_runV (As := [.int x1]) (rest := []) ⟨hx, hb, hml, hown, hts⟩ (c_X4_isNot l G fE lE hE hq31) (cwV 1 hts gX4_isBoth_X4_isNot rfl rfl rfl hd_X4_isNotv (by constructor <;> (simp only [rm_X4_isBoth, rm_X4_isNot]; omega))) (m_preV (ci := 3) hK hM rfl o30) rfl rfl hl.1 rfl (lv_room (Nat.le_of_ble_eq_true rfl)) dX4_isBoth_34 ⟨Nat.le_of_ble_eq_true rfl, Nat.le_of_ble_eq_true rfl⟩) hL (fun H locs hM hL => ?_)
            refine lv_if_eq (tgt := 54) hx hb dX4_isBoth_37 (by decide) (fun c32 => ?_) (fun c32 => ?_)
            · have h := (if_pos c32).symm.trans h
              refine lv_iconst hx hb dX4_isBoth_54 kI_0 ?_
              refine lv_istore_n (lv' := [(2, .int (0 : Int32)), (0, .ref h0), (1, .int x1), (3, .int x3)]) hx hb dX4_isBoth_55 rfl hl (by decide) rfl (fun ls hl => ?_)
              obtain ⟨v33, ev33⟩ : ∃ y : Int32, y = x3 + (1 : Int32) := ⟨_, rfl⟩
              have h := vl_at ev33 h
              refine lv_iinc (v := v33) (lv' := [(3, .int v33), (2, .int (0 : Int32)), (0, .ref h0), (1, .int x1)]) hx hb dX4_isBoth_56 hl (k := 3) rfl (by rw [ev33, kI_1]) (by decide) rfl (fun ls hl => ?_)
              refine lv_goto (tgt := 8) hx hb dX4_isBoth_59 (by decide) ?_
              exact ih _ _ _ _ _ h _ _ _ hM hL (lv_sub hl [2, 3, 1, 0] rfl)
            · have h := (if_neg c32).symm.trans h
              refine lv_aload_n hx hb dX4_isBoth_40 rfl (lv_at hl 0 rfl) ?_
              refine lv_bipush hx hb dX4_isBoth_41 kB_m14 ?_
              refine lv_iconst hx hb dX4_isBoth_43 kI_1 ?_
              obtain ⟨o34, h⟩ := oi_some h
              obtain ⟨q35, hq35, h⟩ := ob_some h
              refine m_calli (va_runV (As := [.int (-14 : Int32), .int (1 : Int32)]) (rest := []) ⟨hx, hb, hml, hown, hts⟩ (c_X4_isNoted l G hq35) (cwV 2 hts gX4_isBoth_X4_isNoted rfl rfl rfl hd_X4_isNotedv ⟨Nat.le_trans (Nat.le_of_ble_eq_true rfl) (Nat.le_add_left _ _), Nat.le_trans (Nat.le_of_ble_eq_true rfl) (Nat.le_add_left _ _)⟩) (m_preV (ci := 3) hK hM rfl o34) rfl rfl hl.1 rfl (lv_room (Nat.le_of_ble_eq_true rfl)) dX4_isBoth_44 ⟨Nat.le_of_ble_eq_true rfl, Nat.le_of_ble_eq_true rfl⟩) hL (fun H locs hM hL => ?_)
              suffices hJ : ∀ (v37 : Int32) (ls : Array Slot), v37 = (if q35.1 = 0 then (0 : Int32) else (1 : Int32)) → lv_has ls 4 [(0, .ref h0), (1, .int x1), (3, .int x3)] → W p l e (rm_X4_isBoth fE lE) s m args below meth c H locs 0 0 Q (F0 m 55 ls [.int v37]) by
                refine lv_if_eq (tgt := 54) hx hb dX4_isBoth_47 (by decide) (fun c36 => ?_) (fun c36 => ?_)
                · refine lv_iconst hx hb dX4_isBoth_54 kI_0 ?_
                  exact hJ _ _ (((if_pos c36).trans rfl).symm) (lv_sub hl [0, 1, 3] rfl)
                · refine lv_iconst hx hb dX4_isBoth_50 kI_1 ?_
                  refine lv_goto (tgt := 55) hx hb dX4_isBoth_51 (by decide) ?_
                  exact hJ _ _ (((if_neg c36).trans rfl).symm) (lv_sub hl [0, 1, 3] rfl)
              intro v37 ls ev37 hl
              have h := vl_at ev37 h
              refine lv_istore_n (lv' := [(2, .int v37), (0, .ref h0), (1, .int x1), (3, .int x3)]) hx hb dX4_isBoth_55 rfl hl (by decide) rfl (fun ls hl => ?_)
              obtain ⟨v38, ev38⟩ : ∃ y : Int32, y = x3 + (1 : Int32) := ⟨_, rfl⟩
              have h := vl_at ev38 h
              refine lv_iinc (v := v38) (lv' := [(3, .int v38), (2, .int v37), (0, .ref h0), (1, .int x1)]) hx hb dX4_isBoth_56 hl (k := 3) rfl (by rw [ev38, kI_1]) (by decide) rfl (fun ls hl => ?_)
              refine lv_goto (tgt := 8) hx hb dX4_isBoth_59 (by decide) ?_
              exact ih _ _ _ _ _ h _ _ _ hM hL (lv_sub hl [2, 3, 1, 0] rfl)
  rw [f_X4_isBoth.eq_1] at h
  refine lv_aload_n hx hb dX4_isBoth_0 rfl (lv_at hl 0 rfl) ?_
  refine lv_iload_n hx hb dX4_isBoth_1 rfl (lv_at hl 1 rfl) ?_
  obtain ⟨o39, h⟩ := oi_some h
  obtain ⟨q40, hq40, h⟩ := ob_some h
  refine m_calli (va_runV (As := [.int x1]) (rest := []) ⟨hx, hb, hml, hown, hts⟩ (c_X4_isNot l G fE lE hE hq40) (cwV 1 hts gX4_isBoth_X4_isNot rfl rfl rfl hd_X4_isNotv (by constructor <;> (simp only [rm_X4_isBoth, rm_X4_isNot]; omega))) (m_preV (ci := 3) hK hM rfl o39) rfl rfl hl.1 rfl (lv_room (Nat.le_of_ble_eq_true rfl)) dX4_isBoth_2 ⟨Nat.le_of_ble_eq_true rfl, Nat.le_of_ble_eq_true rfl⟩) hL (fun H locs hM hL => ?_)
  refine lv_istore_n (lv' := [(2, .int q40.1), (0, .ref h0), (1, .int x1)]) hx hb dX4_isBoth_5 rfl hl (by decide) rfl (fun ls hl => ?_)
  refine lv_iconst hx hb dX4_isBoth_6 kI_0 ?_
  refine lv_istore_n (lv' := [(3, .int (0 : Int32)), (2, .int q40.1), (0, .ref h0), (1, .int x1)]) hx hb dX4_isBoth_7 rfl hl (by decide) rfl (fun ls hl => ?_)
  refine hN8 _ _ _ _ _ _ h _ _ _ hM hL (lv_sub hl [2, 3, 1, 0] rfl)
abbrev rm_X4_isEither (fE lE : Nat) : Room := { frames := fE + 15, cells := 0, slots := 0, locals := lE + 332 }
set_option maxHeartbeats 4000000 in
set_option maxRecDepth 100000 in
theorem c_X4_isEitherB (l : Launch) (G : mG) {E : Nat → Int32 → mS → Option (Int32 × mS)} (fE lE : Nat) (hE : ∀ (a0 : Nat) (a1 : Int32) (τ : mS) (q : Int32 × mS), E a0 a1 τ = some q → Met l yX4_isEither wsX4_isEither { frames := fE, cells := 0, slots := 0, locals := lE } (va_Pc [.ref a0, .int a1] (mB G τ)) (mQ G (.returned (some (.int q.1))) q.2) 0 0 (mF G)) {h0 : Nat} {x1 : Int32} {σ : mS} {z : Int32 × mS} (h : f_X4_isEitherB E h0 x1 σ = some z) : Met l yX4_isEither wsX4_isEither (rm_X4_isEither fE lE) (va_Pc [.ref h0, .int x1] (mB G σ)) (mQ G (.returned (some (.int z.1))) z.2) 0 0 (mF G) := by
  refine m_start (cc := cX4_isEither) (maxL := 4) (ret := (some .boolean)) (by decide) rfl [.ref h0, .int x1] (Nat.le_of_ble_eq_true rfl) ?_
  intro p e s m args below meth c ls hx hb hr hml hown hts hlocks hnm hK hM hl
  have hown : s.vm.findClass RX4 = some m.cls := hown
  have hnm : meth.name = "isEither" := hnm
  obtain ⟨locs, hlocs⟩ : ∃ l : List Loc, l = [] := ⟨_, rfl⟩
  have hL : mL G locs := by rw [hlocs]; exact mL_nil G
  rw [← hlocs]
  generalize s.heap = H at hM ⊢
  have hl : lv_has ls 4 [(0, .ref h0), (1, .int x1)] := hl
  obtain ⟨Q, hQ⟩ : ∃ Q, Q = MQ below (mQ G (.returned (some (.int z.1))) z.2) args s 0 0 (mF G) := ⟨_, rfl⟩
  rw [← hQ]
  have hU4 : ∀ w ∈ wsX40, w.before args s = true := fun w h => hts w (List.mem_cons_of_mem _ (List.mem_append_right _ h))
  have w1 := (hts (.fieldLink RX4 41 "HandkerchiefsDropped$Tape" "token" "I") (List.mem_of_getElem? (i := 1) rfl))
  have hN8 : ∀ (n : Nat) (h0 : Nat) (x1 : Int32) (x2 : Int32) (x3 : Int32) (σ : mS), f_X4_isEither_8 E n h0 x1 x2 x3 σ = some z → ∀ (H : Heap) (locs : List Loc) (ls : Array Slot), mP G σ H → mL G locs → lv_has ls 4 [(0, .ref h0), (1, .int x1), (2, .int x2), (3, .int x3)] → W p l e (rm_X4_isEither fE lE) s m args below meth c H locs 0 0 Q (F0 m 8 ls []) := by
    intro n
    induction n with
    | zero =>
      intro h0 x1 x2 x3 σ h
      exact nomatch (show (none : Option (Int32 × mS)) = some z from h)
    | succ n ih =>
      intro h0 x1 x2 x3 σ h H locs ls hM hL hl
      rw [f_X4_isEither_8.eq_2] at h
      refine lv_iload_n hx hb dX4_isEither_8 rfl (lv_at hl 3 rfl) ?_
      refine lv_sipush hx hb dX4_isEither_9 kS_160 ?_
      refine lv_icmp_ge (tgt := 62) hx hb dX4_isEither_12 (by decide) (fun c21 => ?_) (fun c21 => ?_)
      · have h := (if_pos c21).symm.trans h
        refine lv_iload_n hx hb dX4_isEither_62 rfl (lv_at hl 2 rfl) ?_
        obtain ⟨n22, h⟩ := oi_some h
        subst hQ
        have h := Option.some.inj h
        subst h
        exact m_zret (x := x2) hx hb hr (zn_of n22) hM hL dX4_isEither_63 hlocks
      · have h := (if_neg c21).symm.trans h
        refine lv_iload_n hx hb dX4_isEither_15 rfl (lv_at hl 2 rfl) ?_
        refine lv_if_eq (tgt := 62) hx hb dX4_isEither_16 (by decide) (fun c23 => ?_) (fun c23 => ?_)
        · have h := (if_pos c23).symm.trans h
          refine lv_iload_n hx hb dX4_isEither_62 rfl (lv_at hl 2 rfl) ?_
          obtain ⟨n24, h⟩ := oi_some h
          subst hQ
          have h := Option.some.inj h
          subst h
          exact m_zret (x := x2) hx hb hr (zn_of n24) hM hL dX4_isEither_63 hlocks
        · have h := (if_neg c23).symm.trans h
          refine lv_aload_n hx hb dX4_isEither_19 rfl (lv_at hl 0 rfl) ?_
          refine m_getI (ci := 3) hx hb hU4 hown hK hM rfl 5 (by decide) w1 h dX4_isEither_20 (fun v25 gv25 h => ?_)
          refine lv_bipush hx hb dX4_isEither_23 kB_8 ?_
          refine lv_icmp_ne (tgt := 62) hx hb dX4_isEither_25 (by decide) (fun c26 => ?_) (fun c26 => ?_)
          · have h := (if_neg c26).symm.trans h
            refine lv_iload_n hx hb dX4_isEither_62 rfl (lv_at hl 2 rfl) ?_
            obtain ⟨n27, h⟩ := oi_some h
            subst hQ
            have h := Option.some.inj h
            subst h
            exact m_zret (x := x2) hx hb hr (zn_of n27) hM hL dX4_isEither_63 hlocks
          · have h := (if_pos c26).symm.trans h
            refine lv_aload_n hx hb dX4_isEither_28 rfl (lv_at hl 0 rfl) ?_
            obtain ⟨o28, h⟩ := oi_some h
            obtain ⟨q29, hq29, h⟩ := ob_some h
            refine m_callv (va_runV (As := []) (rest := []) ⟨hx, hb, hml, hown, hts⟩ (c_X4_advance l G hq29) (cwV 0 hts gX4_isEither_X4_advance rfl rfl rfl hd_X4_advancev ⟨Nat.le_trans (Nat.le_of_ble_eq_true rfl) (Nat.le_add_left _ _), Nat.le_trans (Nat.le_of_ble_eq_true rfl) (Nat.le_add_left _ _)⟩) (m_preV (ci := 3) hK hM rfl o28) rfl rfl hl.1 rfl (lv_room (Nat.le_of_ble_eq_true rfl)) dX4_isEither_29 ⟨Nat.le_of_ble_eq_true rfl, Nat.le_of_ble_eq_true rfl⟩) hL (fun H locs hM hL => ?_)
            refine lv_aload_n hx hb dX4_isEither_32 rfl (lv_at hl 0 rfl) ?_
            refine lv_iload_n hx hb dX4_isEither_33 rfl (lv_at hl 1 rfl) ?_
            obtain ⟨o30, h⟩ := oi_some h
            obtain ⟨q31, hq31, h⟩ := ob_some h
            refine m_calli (va_runV (As := [.int x1]) (rest := []) ⟨hx, hb, hml, hown, hts⟩ (c_X4_isBoth l G fE lE hE hq31) (cwV 1 hts gX4_isEither_X4_isBoth rfl rfl rfl hd_X4_isBothv (by constructor <;> (simp only [rm_X4_isEither, rm_X4_isBoth]; omega))) (m_preV (ci := 3) hK hM rfl o30) rfl rfl hl.1 rfl (lv_room (Nat.le_of_ble_eq_true rfl)) dX4_isEither_34 ⟨Nat.le_of_ble_eq_true rfl, Nat.le_of_ble_eq_true rfl⟩) hL (fun H locs hM hL => ?_)
            refine lv_if_eq (tgt := 54) hx hb dX4_isEither_37 (by decide) (fun c32 => ?_) (fun c32 => ?_)
            · have h := (if_pos c32).symm.trans h
              refine lv_iconst hx hb dX4_isEither_54 kI_0 ?_
              refine lv_istore_n (lv' := [(2, .int (0 : Int32)), (0, .ref h0), (1, .int x1), (3, .int x3)]) hx hb dX4_isEither_55 rfl hl (by decide) rfl (fun ls hl => ?_)
              obtain ⟨v33, ev33⟩ : ∃ y : Int32, y = x3 + (1 : Int32) := ⟨_, rfl⟩
              have h := vl_at ev33 h
              refine lv_iinc (v := v33) (lv' := [(3, .int v33), (2, .int (0 : Int32)), (0, .ref h0), (1, .int x1)]) hx hb dX4_isEither_56 hl (k := 3) rfl (by rw [ev33, kI_1]) (by decide) rfl (fun ls hl => ?_)
              refine lv_goto (tgt := 8) hx hb dX4_isEither_59 (by decide) ?_
              exact ih _ _ _ _ _ h _ _ _ hM hL (lv_sub hl [2, 3, 1, 0] rfl)
            · have h := (if_neg c32).symm.trans h
              refine lv_aload_n hx hb dX4_isEither_40 rfl (lv_at hl 0 rfl) ?_
              refine lv_bipush hx hb dX4_isEither_41 kB_m15 ?_
              refine lv_iconst hx hb dX4_isEither_43 kI_1 ?_
              obtain ⟨o34, h⟩ := oi_some h
              obtain ⟨q35, hq35, h⟩ := ob_some h
              refine m_calli (va_runV (As := [.int (-15 : Int32), .int (1 : Int32)]) (rest := []) ⟨hx, hb, hml, hown, hts⟩ (c_X4_isNoted l G hq35) (cwV 2 hts gX4_isEither_X4_isNoted rfl rfl rfl hd_X4_isNotedv ⟨Nat.le_trans (Nat.le_of_ble_eq_true rfl) (Nat.le_add_left _ _), Nat.le_trans (Nat.le_of_ble_eq_true rfl) (Nat.le_add_left _ _)⟩) (m_preV (ci := 3) hK hM rfl o34) rfl rfl hl.1 rfl (lv_room (Nat.le_of_ble_eq_true rfl)) dX4_isEither_44 ⟨Nat.le_of_ble_eq_true rfl, Nat.le_of_ble_eq_true rfl⟩) hL (fun H locs hM hL => ?_)
              suffices hJ : ∀ (v37 : Int32) (ls : Array Slot), v37 = (if q35.1 = 0 then (0 : Int32) else (1 : Int32)) → lv_has ls 4 [(0, .ref h0), (1, .int x1), (3, .int x3)] → W p l e (rm_X4_isEither fE lE) s m args below meth c H locs 0 0 Q (F0 m 55 ls [.int v37]) by
                refine lv_if_eq (tgt := 54) hx hb dX4_isEither_47 (by decide) (fun c36 => ?_) (fun c36 => ?_)
                · refine lv_iconst hx hb dX4_isEither_54 kI_0 ?_
                  exact hJ _ _ (((if_pos c36).trans rfl).symm) (lv_sub hl [0, 1, 3] rfl)
                · refine lv_iconst hx hb dX4_isEither_50 kI_1 ?_
                  refine lv_goto (tgt := 55) hx hb dX4_isEither_51 (by decide) ?_
                  exact hJ _ _ (((if_neg c36).trans rfl).symm) (lv_sub hl [0, 1, 3] rfl)
              intro v37 ls ev37 hl
              have h := vl_at ev37 h
              refine lv_istore_n (lv' := [(2, .int v37), (0, .ref h0), (1, .int x1), (3, .int x3)]) hx hb dX4_isEither_55 rfl hl (by decide) rfl (fun ls hl => ?_)
              obtain ⟨v38, ev38⟩ : ∃ y : Int32, y = x3 + (1 : Int32) := ⟨_, rfl⟩
              have h := vl_at ev38 h
              refine lv_iinc (v := v38) (lv' := [(3, .int v38), (2, .int v37), (0, .ref h0), (1, .int x1)]) hx hb dX4_isEither_56 hl (k := 3) rfl (by rw [ev38, kI_1]) (by decide) rfl (fun ls hl => ?_)
              refine lv_goto (tgt := 8) hx hb dX4_isEither_59 (by decide) ?_
              exact ih _ _ _ _ _ h _ _ _ hM hL (lv_sub hl [2, 3, 1, 0] rfl)
  rw [f_X4_isEitherB.eq_1] at h
  refine lv_aload_n hx hb dX4_isEither_0 rfl (lv_at hl 0 rfl) ?_
  refine lv_iload_n hx hb dX4_isEither_1 rfl (lv_at hl 1 rfl) ?_
  obtain ⟨o39, h⟩ := oi_some h
  obtain ⟨q40, hq40, h⟩ := ob_some h
  refine m_calli (va_runV (As := [.int x1]) (rest := []) ⟨hx, hb, hml, hown, hts⟩ (c_X4_isBoth l G fE lE hE hq40) (cwV 1 hts gX4_isEither_X4_isBoth rfl rfl rfl hd_X4_isBothv (by constructor <;> (simp only [rm_X4_isEither, rm_X4_isBoth]; omega))) (m_preV (ci := 3) hK hM rfl o39) rfl rfl hl.1 rfl (lv_room (Nat.le_of_ble_eq_true rfl)) dX4_isEither_2 ⟨Nat.le_of_ble_eq_true rfl, Nat.le_of_ble_eq_true rfl⟩) hL (fun H locs hM hL => ?_)
  refine lv_istore_n (lv' := [(2, .int q40.1), (0, .ref h0), (1, .int x1)]) hx hb dX4_isEither_5 rfl hl (by decide) rfl (fun ls hl => ?_)
  refine lv_iconst hx hb dX4_isEither_6 kI_0 ?_
  refine lv_istore_n (lv' := [(3, .int (0 : Int32)), (2, .int q40.1), (0, .ref h0), (1, .int x1)]) hx hb dX4_isEither_7 rfl hl (by decide) rfl (fun ls hl => ?_)
  refine hN8 _ _ _ _ _ _ h _ _ _ hM hL (lv_sub hl [2, 3, 1, 0] rfl)
theorem c_X4_isEither (l : Launch) (G : mG) (d : Nat) : ∀ {h0 : Nat} {x1 : Int32} {σ : mS} {z : Int32 × mS}, f_X4_isEither d h0 x1 σ = some z → Met l yX4_isEither wsX4_isEither { frames := 15 * d, cells := 0, slots := 0, locals := 332 * d } (va_Pc [.ref h0, .int x1] (mB G σ)) (mQ G (.returned (some (.int z.1))) (z.2)) 0 0 (mF G) := by
  induction d with
  | zero =>
    intro h0 x1 σ z h
    exact nomatch (show (none : Option (Int32 × mS)) = some z from h)
  | succ d ih =>
    intro h0 x1 σ z h
    exact c_X4_isEitherB l G (15 * d) (332 * d) (fun _ _ _ q hq => ih hq) h

abbrev rm_X4_fault : Room := { frames := 121, cells := 0, slots := 0, locals := 2679 }
set_option maxHeartbeats 4000000 in
set_option maxRecDepth 100000 in
theorem c_X4_fault (l : Launch) (G : mG) {h0 : Nat} {σ : mS} {z : Int32 × mS} (h : f_X4_fault h0 σ = some z) : Met l yX4_fault wsX4_fault rm_X4_fault (va_Pc [.ref h0] (mB G σ)) (mQ G (.returned (some (.int z.1))) z.2) 0 0 (mF G) := by
  refine m_start (cc := cX4_fault) (maxL := 3) (ret := (some .int)) (by decide) rfl [.ref h0] (Nat.le_of_ble_eq_true rfl) ?_
  intro p e s m args below meth c ls hx hb hr hml hown hts hlocks hnm hK hM hl
  have hown : s.vm.findClass RX4 = some m.cls := hown
  have hnm : meth.name = "fault" := hnm
  obtain ⟨locs, hlocs⟩ : ∃ l : List Loc, l = [] := ⟨_, rfl⟩
  have hL : mL G locs := by rw [hlocs]; exact mL_nil G
  rw [← hlocs]
  generalize s.heap = H at hM ⊢
  have hl : lv_has ls 3 [(0, .ref h0)] := hl
  obtain ⟨Q, hQ⟩ : ∃ Q, Q = MQ below (mQ G (.returned (some (.int z.1))) z.2) args s 0 0 (mF G) := ⟨_, rfl⟩
  rw [← hQ]
  have hU4 : ∀ w ∈ wsX40, w.before args s = true := fun w h => hts w (List.mem_cons_of_mem _ (List.mem_append_right _ h))
  have w1 := (hts (.fieldLink RX4 25 "HandkerchiefsDropped$Tape" "at" "I") (List.mem_of_getElem? (i := 1) rfl))
  have w2 := (hts (.fieldLink RX4 28 "HandkerchiefsDropped$Tape" "used" "I") (List.mem_of_getElem? (i := 2) rfl))
  have w3 := (hts (.fieldLink RX4 18 "HandkerchiefsDropped$Tape" "starts" "[I") (List.mem_of_getElem? (i := 3) rfl))
  have w4 := (hts (.fieldLink RX4 41 "HandkerchiefsDropped$Tape" "token" "I") (List.mem_of_getElem? (i := 4) rfl))
  have w5 := (hts (.fieldLink RX4 44 "HandkerchiefsDropped$Tape" "place" "I") (List.mem_of_getElem? (i := 5) rfl))
  have hN18 : ∀ (k76 : Nat → Int32 → mS → Option (Int32 × mS)) (hk76 : ∀ (h0 : Nat) (x1 : Int32) (σ : mS), k76 h0 x1 σ = some z → ∀ (H : Heap) (locs : List Loc) (ls : Array Slot), mP G σ H → mL G locs → lv_has ls 3 [(0, .ref h0), (1, .int x1)] → W p l e rm_X4_fault s m args below meth c H locs 0 0 Q (F0 m 76 ls [])) (n : Nat) (h0 : Nat) (x1 : Int32) (x2 : Int32) (σ : mS), f_X4_fault_18 k76 n h0 x1 x2 σ = some z → ∀ (H : Heap) (locs : List Loc) (ls : Array Slot), mP G σ H → mL G locs → lv_has ls 3 [(0, .ref h0), (1, .int x1), (2, .int x2)] → W p l e rm_X4_fault s m args below meth c H locs 0 0 Q (F0 m 18 ls []) := by
    intro k76 hk76 n
    induction n with
    | zero =>
      intro h0 x1 x2 σ h
      exact nomatch (show (none : Option (Int32 × mS)) = some z from h)
    | succ n ih =>
      intro h0 x1 x2 σ h H locs ls hM hL hl
      rw [f_X4_fault_18.eq_2] at h
      refine lv_iload_n hx hb dX4_fault_18 rfl (lv_at hl 2 rfl) ?_
      refine lv_iconst hx hb dX4_fault_19 kI_3 ?_
      refine lv_icmp_ge (tgt := 76) hx hb dX4_fault_20 (by decide) (fun c27 => ?_) (fun c27 => ?_)
      · have h := (if_pos c27).symm.trans h
        exact hk76 _ _ _ h _ _ _ hM hL (lv_sub hl [0, 1] rfl)
      · have h := (if_neg c27).symm.trans h
        refine lv_iload_n hx hb dX4_fault_23 rfl (lv_at hl 1 rfl) ?_
        refine lv_if_eq (tgt := 76) hx hb dX4_fault_24 (by decide) (fun c28 => ?_) (fun c28 => ?_)
        · have h := (if_pos c28).symm.trans h
          exact hk76 _ _ _ h _ _ _ hM hL (lv_sub hl [0, 1] rfl)
        · have h := (if_neg c28).symm.trans h
          refine lv_aload_n hx hb dX4_fault_27 rfl (lv_at hl 0 rfl) ?_
          refine m_getR (ci := 3) hx hb hU4 hown hK hM rfl 2 (by decide) w3 h dX4_fault_28 (fun r29 gr29 h => ?_)
          refine lv_iload_n hx hb dX4_fault_31 rfl (lv_at hl 2 rfl) ?_
          refine lv_aload_n hx hb dX4_fault_32 rfl (lv_at hl 0 rfl) ?_
          refine m_getI (ci := 3) hx hb hU4 hown hK hM rfl 8 (by decide) w2 h dX4_fault_33 (fun v30 gv30 h => ?_)
          refine m_iast hx hb hK hM hL h dX4_fault_36 (fun t31 H locs h hM hL => ?_)
          refine lv_aload_n hx hb dX4_fault_37 rfl (lv_at hl 0 rfl) ?_
          refine lv_iconst hx hb dX4_fault_38 kI_4 ?_
          refine lv_iload_n hx hb dX4_fault_39 rfl (lv_at hl 2 rfl) ?_
          refine lv_iadd hx hb dX4_fault_40 ?_
          obtain ⟨o32, h⟩ := oi_some h
          obtain ⟨q33, hq33, h⟩ := ob_some h
          refine m_calli (va_runV (As := [.int ((4 : Int32) + x2)]) (rest := []) ⟨hx, hb, hml, hown, hts⟩ (c_X4_isTaken l G hq33) (cwV 1 hts gX4_fault_X4_isTaken rfl rfl rfl hd_X4_isTakenv ⟨Nat.le_of_ble_eq_true rfl, Nat.le_of_ble_eq_true rfl⟩) (m_preV (ci := 3) hK hM rfl o32) rfl rfl hl.1 rfl (lv_room (Nat.le_of_ble_eq_true rfl)) dX4_fault_41 ⟨Nat.le_of_ble_eq_true rfl, Nat.le_of_ble_eq_true rfl⟩) hL (fun H locs hM hL => ?_)
          refine lv_if_eq (tgt := 68) hx hb dX4_fault_44 (by decide) (fun c34 => ?_) (fun c34 => ?_)
          · have h := (if_pos c34).symm.trans h
            refine lv_iconst hx hb dX4_fault_68 kI_0 ?_
            refine lv_istore_n (lv' := [(1, .int (0 : Int32)), (0, .ref h0), (2, .int x2)]) hx hb dX4_fault_69 rfl hl (by decide) rfl (fun ls hl => ?_)
            obtain ⟨v35, ev35⟩ : ∃ y : Int32, y = x2 + (1 : Int32) := ⟨_, rfl⟩
            have h := vl_at ev35 h
            refine lv_iinc (v := v35) (lv' := [(2, .int v35), (1, .int (0 : Int32)), (0, .ref h0)]) hx hb dX4_fault_70 hl (k := 2) rfl (by rw [ev35, kI_1]) (by decide) rfl (fun ls hl => ?_)
            refine lv_goto (tgt := 18) hx hb dX4_fault_73 (by decide) ?_
            exact ih _ _ _ _ h _ _ _ hM hL (lv_sub hl [2, 1, 0] rfl)
          · have h := (if_neg c34).symm.trans h
            refine lv_aload_n hx hb dX4_fault_47 rfl (lv_at hl 0 rfl) ?_
            refine lv_iconst hx hb dX4_fault_48 kI_0 ?_
            obtain ⟨o36, h⟩ := oi_some h
            obtain ⟨q37, hq37, h⟩ := ob_some h
            refine m_calli (va_runV (As := [.int (0 : Int32)]) (rest := []) ⟨hx, hb, hml, hown, hts⟩ (c_X4_isEither l G 8 hq37) (cwV 1 hts gX4_fault_X4_isEither rfl rfl rfl hd_X4_isEitherv ⟨Nat.le_of_ble_eq_true rfl, Nat.le_of_ble_eq_true rfl⟩) (m_preV (ci := 3) hK hM rfl o36) rfl rfl hl.1 rfl (lv_room (Nat.le_of_ble_eq_true rfl)) dX4_fault_49 ⟨Nat.le_of_ble_eq_true rfl, Nat.le_of_ble_eq_true rfl⟩) hL (fun H locs hM hL => ?_)
            refine lv_if_eq (tgt := 68) hx hb dX4_fault_52 (by decide) (fun c38 => ?_) (fun c38 => ?_)
            · have h := (if_pos c38).symm.trans h
              refine lv_iconst hx hb dX4_fault_68 kI_0 ?_
              refine lv_istore_n (lv' := [(1, .int (0 : Int32)), (0, .ref h0), (2, .int x2)]) hx hb dX4_fault_69 rfl hl (by decide) rfl (fun ls hl => ?_)
              obtain ⟨v39, ev39⟩ : ∃ y : Int32, y = x2 + (1 : Int32) := ⟨_, rfl⟩
              have h := vl_at ev39 h
              refine lv_iinc (v := v39) (lv' := [(2, .int v39), (1, .int (0 : Int32)), (0, .ref h0)]) hx hb dX4_fault_70 hl (k := 2) rfl (by rw [ev39, kI_1]) (by decide) rfl (fun ls hl => ?_)
              refine lv_goto (tgt := 18) hx hb dX4_fault_73 (by decide) ?_
              exact ih _ _ _ _ h _ _ _ hM hL (lv_sub hl [2, 1, 0] rfl)
            · have h := (if_neg c38).symm.trans h
              refine lv_aload_n hx hb dX4_fault_55 rfl (lv_at hl 0 rfl) ?_
              refine lv_bipush hx hb dX4_fault_56 kB_59 ?_
              obtain ⟨o40, h⟩ := oi_some h
              obtain ⟨q41, hq41, h⟩ := ob_some h
              refine m_calli (va_runV (As := [.int (59 : Int32)]) (rest := []) ⟨hx, hb, hml, hown, hts⟩ (c_X4_isTaken l G hq41) (cwV 1 hts gX4_fault_X4_isTaken rfl rfl rfl hd_X4_isTakenv ⟨Nat.le_of_ble_eq_true rfl, Nat.le_of_ble_eq_true rfl⟩) (m_preV (ci := 3) hK hM rfl o40) rfl rfl hl.1 rfl (lv_room (Nat.le_of_ble_eq_true rfl)) dX4_fault_58 ⟨Nat.le_of_ble_eq_true rfl, Nat.le_of_ble_eq_true rfl⟩) hL (fun H locs hM hL => ?_)
              suffices hJ : ∀ (v43 : Int32) (ls : Array Slot), v43 = (if q41.1 = 0 then (0 : Int32) else (1 : Int32)) → lv_has ls 3 [(0, .ref h0), (2, .int x2)] → W p l e rm_X4_fault s m args below meth c H locs 0 0 Q (F0 m 69 ls [.int v43]) by
                refine lv_if_eq (tgt := 68) hx hb dX4_fault_61 (by decide) (fun c42 => ?_) (fun c42 => ?_)
                · refine lv_iconst hx hb dX4_fault_68 kI_0 ?_
                  exact hJ _ _ (((if_pos c42).trans rfl).symm) (lv_sub hl [0, 2] rfl)
                · refine lv_iconst hx hb dX4_fault_64 kI_1 ?_
                  refine lv_goto (tgt := 69) hx hb dX4_fault_65 (by decide) ?_
                  exact hJ _ _ (((if_neg c42).trans rfl).symm) (lv_sub hl [0, 2] rfl)
              intro v43 ls ev43 hl
              have h := vl_at ev43 h
              refine lv_istore_n (lv' := [(1, .int v43), (0, .ref h0), (2, .int x2)]) hx hb dX4_fault_69 rfl hl (by decide) rfl (fun ls hl => ?_)
              obtain ⟨v44, ev44⟩ : ∃ y : Int32, y = x2 + (1 : Int32) := ⟨_, rfl⟩
              have h := vl_at ev44 h
              refine lv_iinc (v := v44) (lv' := [(2, .int v44), (1, .int v43), (0, .ref h0)]) hx hb dX4_fault_70 hl (k := 2) rfl (by rw [ev44, kI_1]) (by decide) rfl (fun ls hl => ?_)
              refine lv_goto (tgt := 18) hx hb dX4_fault_73 (by decide) ?_
              exact ih _ _ _ _ h _ _ _ hM hL (lv_sub hl [2, 1, 0] rfl)
  have hN91 : ∀ (h0 : Nat) (σ : mS), f_X4_fault_91 h0 σ = some z → ∀ (H : Heap) (locs : List Loc) (ls : Array Slot), mP G σ H → mL G locs → lv_has ls 3 [(0, .ref h0)] → W p l e rm_X4_fault s m args below meth c H locs 0 0 Q (F0 m 91 ls []) := by
    intro h0 σ h H locs ls hM hL hl
    rw [f_X4_fault_91.eq_1] at h
    refine lv_aload_n hx hb dX4_fault_91 rfl (lv_at hl 0 rfl) ?_
    refine m_getI (ci := 3) hx hb hU4 hown hK hM rfl 6 (by decide) w5 h dX4_fault_92 (fun v45 gv45 h => ?_)
    subst hQ
    have h := Option.some.inj h
    subst h
    exact m_iret hx hb hr hM hL dX4_fault_95 hlocks
  rw [f_X4_fault.eq_1] at h
  refine lv_aload_n hx hb dX4_fault_0 rfl (lv_at hl 0 rfl) ?_
  refine lv_iconst hx hb dX4_fault_1 kI_0 ?_
  refine m_put (ci := 3) hx hb hU4 tyX4 tyX4_ok nmX4 hown hK hM hL rfl 4 (by decide) w1 rfl rfl rfl h dX4_fault_2 (fun t46 H locs h hM hL => ?_)
  refine lv_aload_n hx hb dX4_fault_5 rfl (lv_at hl 0 rfl) ?_
  refine lv_iconst hx hb dX4_fault_6 kI_0 ?_
  refine m_put (ci := 3) hx hb hU4 tyX4 tyX4_ok nmX4 hown hK hM hL rfl 8 (by decide) w2 rfl rfl rfl h dX4_fault_7 (fun t47 H locs h hM hL => ?_)
  refine lv_aload_n hx hb dX4_fault_10 rfl (lv_at hl 0 rfl) ?_
  obtain ⟨o48, h⟩ := oi_some h
  obtain ⟨q49, hq49, h⟩ := ob_some h
  refine m_callv (va_runV (As := []) (rest := []) ⟨hx, hb, hml, hown, hts⟩ (c_X4_advance l G hq49) (cwV 0 hts gX4_fault_X4_advance rfl rfl rfl hd_X4_advancev ⟨Nat.le_of_ble_eq_true rfl, Nat.le_of_ble_eq_true rfl⟩) (m_preV (ci := 3) hK hM rfl o48) rfl rfl hl.1 rfl (lv_room (Nat.le_of_ble_eq_true rfl)) dX4_fault_11 ⟨Nat.le_of_ble_eq_true rfl, Nat.le_of_ble_eq_true rfl⟩) hL (fun H locs hM hL => ?_)
  refine lv_iconst hx hb dX4_fault_14 kI_1 ?_
  refine lv_istore_n (lv' := [(1, .int (1 : Int32)), (0, .ref h0)]) hx hb dX4_fault_15 rfl hl (by decide) rfl (fun ls hl => ?_)
  refine lv_iconst hx hb dX4_fault_16 kI_0 ?_
  refine lv_istore_n (lv' := [(2, .int (0 : Int32)), (1, .int (1 : Int32)), (0, .ref h0)]) hx hb dX4_fault_17 rfl hl (by decide) rfl (fun ls hl => ?_)
  refine hN18 _ ?_ _ _ _ _ _ h _ _ _ hM hL (lv_sub hl [2, 1, 0] rfl)
  · intro h0 x1 σ h H locs ls hM hL hl
    refine lv_iload_n hx hb dX4_fault_76 rfl (lv_at hl 1 rfl) ?_
    refine lv_if_eq (tgt := 91) hx hb dX4_fault_77 (by decide) (fun c50 => ?_) (fun c50 => ?_)
    · have h := (if_pos c50).symm.trans h
      refine hN91 _ _ h _ _ _ hM hL (lv_sub hl [0] rfl)
    · have h := (if_neg c50).symm.trans h
      refine lv_aload_n hx hb dX4_fault_80 rfl (lv_at hl 0 rfl) ?_
      refine m_getI (ci := 3) hx hb hU4 hown hK hM rfl 5 (by decide) w4 h dX4_fault_81 (fun v51 gv51 h => ?_)
      refine lv_if_ne (tgt := 91) hx hb dX4_fault_84 (by decide) (fun c52 => ?_) (fun c52 => ?_)
      · have h := (if_neg c52).symm.trans h
        refine hN91 _ _ h _ _ _ hM hL (lv_sub hl [0] rfl)
      · have h := (if_pos c52).symm.trans h
        refine lv_iconst hx hb dX4_fault_87 kI_m1 ?_
        refine lv_goto (tgt := 95) hx hb dX4_fault_88 (by decide) ?_
        subst hQ
        have h := Option.some.inj h
        subst h
        exact m_iret hx hb hr hM hL dX4_fault_95 hlocks
