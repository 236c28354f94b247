abbrev rm_X5_burn : Room := { frames := 2, cells := 0, slots := 0, locals := 42 }
set_option maxHeartbeats 4000000 in
set_option maxRecDepth 100000 in
theorem c_X5_burn (l : Launch) (G : mG) {h0 : Nat} {x1 : Int32} {σ : mS} {z : Int32 × mS} (h : f_X5_burn h0 x1 σ = some z) : Met l yX5_burn wsX5_burn rm_X5_burn (va_Pc [.ref h0, .int x1] (mB G σ)) (mQ G (.returned (some (.int z.1))) z.2) 0 0 (mF G) := by
  refine m_start (cc := cX5_burn) (maxL := 2) (ret := (some .int)) (by decide) rfl [.ref h0, .int x1] (Nat.le_of_ble_eq_true rfl) ?_
  intro p e s m args below meth c ls hx hb hr hml hown hts hlocks hnm hK hM hl
  have hown : s.vm.findClass RX5 = some m.cls := hown
  have hnm : meth.name = "burn" := hnm
  obtain ⟨locs, hlocs⟩ : ∃ l : List Loc, l = [] := ⟨_, rfl⟩
  have hL : mL G locs := by rw [hlocs]; exact mL_nil G
  rw [← hlocs]
  generalize s.heap = H at hM ⊢
  have hl : lv_has ls 2 [(0, .ref h0), (1, .int x1)] := hl
  obtain ⟨Q, hQ⟩ : ∃ Q, Q = MQ below (mQ G (.returned (some (.int z.1))) z.2) args s 0 0 (mF G) := ⟨_, rfl⟩
  rw [← hQ]
  have hU5 : ∀ w ∈ wsX50, w.before args s = true := fun w h => hts w (List.mem_cons_of_mem _ (List.mem_append_left _ (List.mem_append_right _ h)))
  have w1 := (hts (.fieldLink RX5 44 "HandkerchiefsDropped" "now" "LHandkerchiefsDropped$Assize;") (List.mem_of_getElem? (i := 1) rfl))
  have hU0 : ∀ w ∈ wsX00, w.before args s = true := fun w h => hts w (List.mem_cons_of_mem _ (List.mem_append_right _ h))
  rw [f_X5_burn.eq_1] at h
  refine lv_aload_n hx hb dX5_burn_0 rfl (lv_at hl 0 rfl) ?_
  refine m_getR (ci := 4) hx hb hU5 hown hK hM rfl 3 (by decide) w1 h dX5_burn_1 (fun r11 gr11 h => ?_)
  refine lv_iload_n hx hb dX5_burn_4 rfl (lv_at hl 1 rfl) ?_
  obtain ⟨o12, h⟩ := oi_some h
  obtain ⟨q13, hq13, h⟩ := ob_some h
  refine m_calli (va_runV (As := [.int x1]) (rest := []) ⟨hx, hb, hml, hown, hts⟩ (c_X0_lies l G hq13) (cwV 1 hts gX5_burn_X0_lies rfl rfl rfl hd_X0_liesv ⟨Nat.le_of_ble_eq_true rfl, Nat.le_of_ble_eq_true rfl⟩) (m_preV (ci := 0) hK hM rfl o12) rfl rfl hl.1 rfl (lv_room (Nat.le_of_ble_eq_true rfl)) dX5_burn_5 ⟨Nat.le_of_ble_eq_true rfl, Nat.le_of_ble_eq_true rfl⟩) hL (fun H locs hM hL => ?_)
  refine lv_if_ne (tgt := 14) hx hb dX5_burn_8 (by decide) (fun c14 => ?_) (fun c14 => ?_)
  · have h := (if_neg c14).symm.trans h
    refine lv_aload_n hx hb dX5_burn_14 rfl (lv_at hl 0 rfl) ?_
    refine m_getR (ci := 4) hx hb hU5 hown hK hM rfl 3 (by decide) w1 h dX5_burn_15 (fun r15 gr15 h => ?_)
    refine m_getRN (ci := 0) (host := RX5) hx hb hU0 hown hK hM rfl 7 (by decide) (List.mem_of_getElem? (i := 10) rfl) h dX5_burn_18 (fun r16 gr16 h => ?_)
    refine lv_iload_n hx hb dX5_burn_21 rfl (lv_at hl 1 rfl) ?_
    refine lv_iconst hx hb dX5_burn_22 kI_m1 ?_
    refine m_iast hx hb hK hM hL h dX5_burn_23 (fun t17 H locs h hM hL => ?_)
    refine lv_aload_n hx hb dX5_burn_24 rfl (lv_at hl 0 rfl) ?_
    refine m_getR (ci := 4) hx hb hU5 hown hK hM rfl 3 (by decide) w1 h dX5_burn_25 (fun r18 gr18 h => ?_)
    refine m_getRN (ci := 0) (host := RX5) hx hb hU0 hown hK hM rfl 8 (by decide) (List.mem_of_getElem? (i := 11) rfl) h dX5_burn_28 (fun r19 gr19 h => ?_)
    refine lv_iload_n hx hb dX5_burn_31 rfl (lv_at hl 1 rfl) ?_
    refine m_iald hx hb hK hM h dX5_burn_32 (fun v20 gv20 h => ?_)
    subst hQ
    have h := Option.some.inj h
    subst h
    exact m_iret hx hb hr hM hL dX5_burn_33 hlocks
  · have h := (if_pos c14).symm.trans h
    refine lv_bipush hx hb dX5_burn_11 kB_m6 ?_
    subst hQ
    have h := Option.some.inj h
    subst h
    exact m_iret hx hb hr hM hL dX5_burn_13 hlocks
abbrev rm_X5_run : Room := { frames := 5, cells := 0, slots := 0, locals := 130 }
set_option maxHeartbeats 4000000 in
set_option maxRecDepth 100000 in
theorem c_X5_run (l : Launch) (G : mG) {h0 : Nat} {x1 : Int32} {x2 : Int32} {σ : mS} {z : Int32 × mS} (h : f_X5_run h0 x1 x2 σ = some z) : Met l yX5_run wsX5_run rm_X5_run (va_Pc [.ref h0, .int x1, .int x2] (mB G σ)) (mQ G (.returned (some (.int z.1))) z.2) 0 0 (mF G) := by
  refine m_start (cc := cX5_run) (maxL := 4) (ret := (some .int)) (by decide) rfl [.ref h0, .int x1, .int x2] (Nat.le_of_ble_eq_true rfl) ?_
  intro p e s m args below meth c ls hx hb hr hml hown hts hlocks hnm hK hM hl
  have hown : s.vm.findClass RX5 = some m.cls := hown
  have hnm : meth.name = "run" := hnm
  obtain ⟨locs, hlocs⟩ : ∃ l : List Loc, l = [] := ⟨_, rfl⟩
  have hL : mL G locs := by rw [hlocs]; exact mL_nil G
  rw [← hlocs]
  generalize s.heap = H at hM ⊢
  have hl : lv_has ls 4 [(0, .ref h0), (1, .int x1), (2, .int x2)] := hl
  obtain ⟨Q, hQ⟩ : ∃ Q, Q = MQ below (mQ G (.returned (some (.int z.1))) z.2) args s 0 0 (mF G) := ⟨_, rfl⟩
  rw [← hQ]
  have hU5 : ∀ w ∈ wsX50, w.before args s = true := fun w h => hts w (List.mem_cons_of_mem _ (List.mem_append_left _ (List.mem_append_left _ (List.mem_append_right _ h))))
  have w1 := (hts (.fieldLink RX5 44 "HandkerchiefsDropped" "now" "LHandkerchiefsDropped$Assize;") (List.mem_of_getElem? (i := 1) rfl))
  have w2 := (hts (.fieldLink RX5 51 "HandkerchiefsDropped" "thought" "LHandkerchiefsDropped$Assize;") (List.mem_of_getElem? (i := 2) rfl))
  have hU0 : ∀ w ∈ wsX00, w.before args s = true := fun w h => hts w (List.mem_cons_of_mem _ (List.mem_append_left _ (List.mem_append_right _ h)))
  have hN51 : ∀ (h0 : Nat) (x1 : Int32) (x2 : Int32) (x3 : Int32) (σ : mS), f_X5_run_51 h0 x1 x2 x3 σ = some z → ∀ (H : Heap) (locs : List Loc) (ls : Array Slot), mP G σ H → mL G locs → lv_has ls 4 [(0, .ref h0), (1, .int x1), (2, .int x2), (3, .int x3)] → W p l e rm_X5_run s m args below meth c H locs 0 0 Q (F0 m 51 ls []) := by
    intro h0 x1 x2 x3 σ h H locs ls hM hL hl
    rw [f_X5_run_51.eq_1] at h
    refine lv_aload_n hx hb dX5_run_51 rfl (lv_at hl 0 rfl) ?_
    refine m_getR (ci := 4) hx hb hU5 hown hK hM rfl 5 (by decide) w2 h dX5_run_52 (fun r32 gr32 h => ?_)
    refine lv_aload_n hx hb dX5_run_55 rfl (lv_at hl 0 rfl) ?_
    refine m_getR (ci := 4) hx hb hU5 hown hK hM rfl 3 (by decide) w1 h dX5_run_56 (fun r33 gr33 h => ?_)
    obtain ⟨o34, h⟩ := oi_some h
    obtain ⟨q35, hq35, h⟩ := ob_some h
    refine m_callv (va_runV (As := [.ref r33]) (rest := []) ⟨hx, hb, hml, hown, hts⟩ (c_X0_become l G hq35) (cwV 1 hts gX5_run_X0_become rfl rfl rfl hd_X0_becomev ⟨Nat.le_of_ble_eq_true rfl, Nat.le_of_ble_eq_true rfl⟩) (m_preV (ci := 0) hK hM rfl o34) rfl rfl hl.1 rfl (lv_room (Nat.le_of_ble_eq_true rfl)) dX5_run_59 ⟨Nat.le_of_ble_eq_true rfl, Nat.le_of_ble_eq_true rfl⟩) hL (fun H locs hM hL => ?_)
    refine lv_aload_n hx hb dX5_run_62 rfl (lv_at hl 0 rfl) ?_
    refine m_getR (ci := 4) hx hb hU5 hown hK hM rfl 5 (by decide) w2 h dX5_run_63 (fun r36 gr36 h => ?_)
    refine lv_iload_n hx hb dX5_run_66 rfl (lv_at hl 1 rfl) ?_
    obtain ⟨o37, h⟩ := oi_some h
    obtain ⟨q38, hq38, h⟩ := ob_some h
    refine m_calli (va_runV (As := [.int x1]) (rest := []) ⟨hx, hb, hml, hown, hts⟩ (c_X0_passHours l G hq38) (cwV 1 hts gX5_run_X0_passHours rfl rfl rfl hd_X0_passHoursv ⟨Nat.le_of_ble_eq_true rfl, Nat.le_of_ble_eq_true rfl⟩) (m_preV (ci := 0) hK hM rfl o37) rfl rfl hl.1 rfl (lv_room (Nat.le_of_ble_eq_true rfl)) dX5_run_67 ⟨Nat.le_of_ble_eq_true rfl, Nat.le_of_ble_eq_true rfl⟩) hL (fun H locs hM hL => ?_)
    refine lv_pop hx hb dX5_run_70 rfl ?_
    refine lv_iload_n hx hb dX5_run_71 rfl (lv_at hl 2 rfl) ?_
    by_cases c39 : x2 = (0 : Int32)
    · have h := (if_pos c39).symm.trans h
      refine m_tin (tgt := 100) (off := 28) hx hb c39 dX5_run_72 (by decide) (by decide) (by decide) (by decide) ?_
      refine lv_aload_n hx hb dX5_run_100 rfl (lv_at hl 0 rfl) ?_
      refine m_getR (ci := 4) hx hb hU5 hown hK hM rfl 5 (by decide) w2 h dX5_run_101 (fun r40 gr40 h => ?_)
      refine m_getIN (ci := 0) (host := RX5) hx hb hU0 hown hK hM rfl 11 (by decide) (List.mem_of_getElem? (i := 14) rfl) h dX5_run_104 (fun v41 gv41 h => ?_)
      subst hQ
      have h := Option.some.inj h
      subst h
      exact m_iret hx hb hr hM hL dX5_run_107 hlocks
    have h := (if_neg c39).symm.trans h
    by_cases c42 : x2 = (1 : Int32)
    · have h := (if_pos c42).symm.trans h
      refine m_tin (tgt := 108) (off := 36) hx hb c42 dX5_run_72 (by decide) (by decide) (by decide) (by decide) ?_
      refine lv_aload_n hx hb dX5_run_108 rfl (lv_at hl 0 rfl) ?_
      refine m_getR (ci := 4) hx hb hU5 hown hK hM rfl 5 (by decide) w2 h dX5_run_109 (fun r43 gr43 h => ?_)
      obtain ⟨o44, h⟩ := oi_some h
      obtain ⟨q45, hq45, h⟩ := ob_some h
      refine m_calli (va_runV (As := []) (rest := []) ⟨hx, hb, hml, hown, hts⟩ (c_X0_verdict l G hq45) (cwV 0 hts gX5_run_X0_verdict rfl rfl rfl hd_X0_verdictv ⟨Nat.le_of_ble_eq_true rfl, Nat.le_of_ble_eq_true rfl⟩) (m_preV (ci := 0) hK hM rfl o44) rfl rfl hl.1 rfl (lv_room (Nat.le_of_ble_eq_true rfl)) dX5_run_112 ⟨Nat.le_of_ble_eq_true rfl, Nat.le_of_ble_eq_true rfl⟩) hL (fun H locs hM hL => ?_)
      subst hQ
      have h := Option.some.inj h
      subst h
      exact m_iret hx hb hr hM hL dX5_run_115 hlocks
    have h := (if_neg c42).symm.trans h
    by_cases c46 : x2 = (2 : Int32)
    · have h := (if_pos c46).symm.trans h
      refine m_tin (tgt := 116) (off := 44) hx hb c46 dX5_run_72 (by decide) (by decide) (by decide) (by decide) ?_
      refine lv_aload_n hx hb dX5_run_116 rfl (lv_at hl 0 rfl) ?_
      refine m_getR (ci := 4) hx hb hU5 hown hK hM rfl 5 (by decide) w2 h dX5_run_117 (fun r47 gr47 h => ?_)
      obtain ⟨o48, h⟩ := oi_some h
      obtain ⟨q49, hq49, h⟩ := ob_some h
      refine m_calli (va_runV (As := []) (rest := []) ⟨hx, hb, hml, hown, hts⟩ (c_X0_lying l G hq49) (cwV 0 hts gX5_run_X0_lying rfl rfl rfl hd_X0_lyingv ⟨Nat.le_of_ble_eq_true rfl, Nat.le_of_ble_eq_true rfl⟩) (m_preV (ci := 0) hK hM rfl o48) rfl rfl hl.1 rfl (lv_room (Nat.le_of_ble_eq_true rfl)) dX5_run_120 ⟨Nat.le_of_ble_eq_true rfl, Nat.le_of_ble_eq_true rfl⟩) hL (fun H locs hM hL => ?_)
      subst hQ
      have h := Option.some.inj h
      subst h
      exact m_iret hx hb hr hM hL dX5_run_123 hlocks
    have h := (if_neg c46).symm.trans h
    refine lv_tableOut (tgt := 124) hx hb dX5_run_72 (by have q0 := lv_neT (a := 0) c39 (by decide); have q1 := lv_neT (a := 1) c42 (by decide); have q2 := lv_neT (a := 2) c46 (by decide); omega) (by decide) ?_
    refine lv_iload_n hx hb dX5_run_124 rfl (lv_at hl 3 rfl) ?_
    refine lv_if_eq (tgt := 143) hx hb dX5_run_125 (by decide) (fun c50 => ?_) (fun c50 => ?_)
    · have h := (if_pos c50).symm.trans h
      refine lv_sipush hx hb dX5_run_143 kS_m5000 ?_
      subst hQ
      have h := Option.some.inj h
      subst h
      exact m_iret hx hb hr hM hL dX5_run_146 hlocks
    · have h := (if_neg c50).symm.trans h
      refine lv_aload_n hx hb dX5_run_128 rfl (lv_at hl 0 rfl) ?_
      refine m_getR (ci := 4) hx hb hU5 hown hK hM rfl 5 (by decide) w2 h dX5_run_129 (fun r51 gr51 h => ?_)
      refine m_getRN (ci := 0) (host := RX5) hx hb hU0 hown hK hM rfl 6 (by decide) (List.mem_of_getElem? (i := 9) rfl) h dX5_run_132 (fun r52 gr52 h => ?_)
      refine lv_iload_n hx hb dX5_run_135 rfl (lv_at hl 2 rfl) ?_
      refine lv_bipush hx hb dX5_run_136 kB_10 ?_
      refine lv_isub hx hb dX5_run_138 ?_
      refine m_iald hx hb hK hM h dX5_run_139 (fun v53 gv53 h => ?_)
      refine lv_goto (tgt := 146) hx hb dX5_run_140 (by decide) ?_
      subst hQ
      have h := Option.some.inj h
      subst h
      exact m_iret hx hb hr hM hL dX5_run_146 hlocks
  have hN25 : ∀ (h0 : Nat) (x1 : Int32) (x2 : Int32) (s0 : Int32) (σ : mS), f_X5_run_25 h0 x1 x2 s0 σ = some z → ∀ (H : Heap) (locs : List Loc) (ls : Array Slot), mP G σ H → mL G locs → lv_has ls 4 [(0, .ref h0), (1, .int x1), (2, .int x2)] → W p l e rm_X5_run s m args below meth c H locs 0 0 Q (F0 m 25 ls [.int s0]) := by
    intro h0 x1 x2 s0 σ h H locs ls hM hL hl
    rw [f_X5_run_25.eq_1] at h
    refine lv_istore_n (lv' := [(3, .int s0), (0, .ref h0), (1, .int x1), (2, .int x2)]) hx hb dX5_run_25 rfl hl (by decide) rfl (fun ls hl => ?_)
    refine lv_iload_n hx hb dX5_run_26 rfl (lv_at hl 2 rfl) ?_
    refine lv_bipush hx hb dX5_run_27 kB_41 ?_
    refine m_calli (va_runS (As := [.int x1, .int (41 : Int32)]) (rest := []) ⟨hx, hb, hml, hown, hts⟩ (c_X5_isBelow l G x1 (41 : Int32)) (va_cwS 2 hts gX5_run_X5_isBelow rfl rfl rfl hd_X5_isBelow ⟨Nat.le_of_ble_eq_true rfl, Nat.le_of_ble_eq_true rfl⟩) (m_preS hK hM) rfl rfl hl.1 rfl (lv_room (Nat.le_of_ble_eq_true rfl)) dX5_run_29 ⟨Nat.le_of_ble_eq_true rfl, Nat.le_of_ble_eq_true rfl⟩) hL (fun H locs hM hL => ?_)
    refine lv_if_eq (tgt := 47) hx hb dX5_run_32 (by decide) (fun c54 => ?_) (fun c54 => ?_)
    · have h := (if_pos c54).symm.trans h
      refine lv_sipush hx hb dX5_run_47 kS_m5000 ?_
      subst hQ
      have h := Option.some.inj h
      subst h
      exact m_iret hx hb hr hM hL dX5_run_50 hlocks
    · have h := (if_neg c54).symm.trans h
      refine lv_iload_n hx hb dX5_run_35 rfl (lv_at hl 3 rfl) ?_
      refine lv_iconst hx hb dX5_run_36 kI_3 ?_
      refine m_calli (va_runS (As := [.int x2, .int (3 : Int32)]) (rest := []) ⟨hx, hb, hml, hown, hts⟩ (c_X5_isBelow l G x2 (3 : Int32)) (va_cwS 2 hts gX5_run_X5_isBelow rfl rfl rfl hd_X5_isBelow ⟨Nat.le_of_ble_eq_true rfl, Nat.le_of_ble_eq_true rfl⟩) (m_preS hK hM) rfl rfl hl.1 rfl (lv_room (Nat.le_of_ble_eq_true rfl)) dX5_run_37 ⟨Nat.le_of_ble_eq_true rfl, Nat.le_of_ble_eq_true rfl⟩) hL (fun H locs hM hL => ?_)
      refine lv_if_ne (tgt := 51) hx hb dX5_run_40 (by decide) (fun c55 => ?_) (fun c55 => ?_)
      · have h := (if_neg c55).symm.trans h
        refine hN51 _ _ _ _ _ h _ _ _ hM hL (lv_sub hl [1, 2, 3, 0] rfl)
      · have h := (if_pos c55).symm.trans h
        refine lv_iload_n hx hb dX5_run_43 rfl (lv_at hl 0 rfl) ?_
        refine lv_if_ne (tgt := 51) hx hb dX5_run_44 (by decide) (fun c56 => ?_) (fun c56 => ?_)
        · have h := (if_neg c56).symm.trans h
          refine hN51 _ _ _ _ _ h _ _ _ hM hL (lv_sub hl [1, 2, 3, 0] rfl)
        · have h := (if_pos c56).symm.trans h
          refine lv_sipush hx hb dX5_run_47 kS_m5000 ?_
          subst hQ
          have h := Option.some.inj h
          subst h
          exact m_iret hx hb hr hM hL dX5_run_50 hlocks
  rw [f_X5_run.eq_1] at h
  refine lv_iload_n hx hb dX5_run_0 rfl (lv_at hl 2 rfl) ?_
  refine lv_bipush hx hb dX5_run_1 kB_10 ?_
  refine lv_icmp_lt (tgt := 24) hx hb dX5_run_3 (by decide) (fun c57 => ?_) (fun c57 => ?_)
  · have h := (if_pos c57).symm.trans h
    refine lv_iconst hx hb dX5_run_24 kI_0 ?_
    refine hN25 _ _ _ _ _ h _ _ _ hM hL (lv_sub hl [0, 1, 2] rfl)
  · have h := (if_neg c57).symm.trans h
    refine lv_aload_n hx hb dX5_run_6 rfl (lv_at hl 0 rfl) ?_
    refine m_getR (ci := 4) hx hb hU5 hown hK hM rfl 3 (by decide) w1 h dX5_run_7 (fun r58 gr58 h => ?_)
    refine lv_iload_n hx hb dX5_run_10 rfl (lv_at hl 2 rfl) ?_
    refine lv_bipush hx hb dX5_run_11 kB_10 ?_
    refine lv_isub hx hb dX5_run_13 ?_
    obtain ⟨o59, h⟩ := oi_some h
    obtain ⟨q60, hq60, h⟩ := ob_some h
    refine m_calli (va_runV (As := [.int (x2 - (10 : Int32))]) (rest := []) ⟨hx, hb, hml, hown, hts⟩ (c_X0_hasWitness l G hq60) (cwV 1 hts gX5_run_X0_hasWitness rfl rfl rfl hd_X0_hasWitnessv ⟨Nat.le_of_ble_eq_true rfl, Nat.le_of_ble_eq_true rfl⟩) (m_preV (ci := 0) hK hM rfl o59) rfl rfl hl.1 rfl (lv_room (Nat.le_of_ble_eq_true rfl)) dX5_run_14 ⟨Nat.le_of_ble_eq_true rfl, Nat.le_of_ble_eq_true rfl⟩) hL (fun H locs hM hL => ?_)
    suffices hJ : ∀ (v62 : Int32) (ls : Array Slot), v62 = (if q60 = 0 then (0 : Int32) else (1 : Int32)) → lv_has ls 4 [(0, .ref h0), (1, .int x1), (2, .int x2)] → W p l e rm_X5_run s m args below meth c H locs 0 0 Q (F0 m 25 ls [.int v62]) by
      refine lv_if_eq (tgt := 24) hx hb dX5_run_17 (by decide) (fun c61 => ?_) (fun c61 => ?_)
      · refine lv_iconst hx hb dX5_run_24 kI_0 ?_
        exact hJ _ _ (((if_pos c61).trans rfl).symm) (lv_sub hl [0, 1, 2] rfl)
      · refine lv_iconst hx hb dX5_run_20 kI_1 ?_
        refine lv_goto (tgt := 25) hx hb dX5_run_21 (by decide) ?_
        exact hJ _ _ (((if_neg c61).trans rfl).symm) (lv_sub hl [0, 1, 2] rfl)
    intro v62 ls ev62 hl
    have h := vl_at ev62 h
    refine hN25 _ _ _ _ _ h _ _ _ hM hL (lv_sub hl [0, 1, 2] rfl)
abbrev rm_X5_when : Room := { frames := 5, cells := 0, slots := 0, locals := 130 }
set_option maxHeartbeats 4000000 in
set_option maxRecDepth 100000 in
theorem c_X5_when (l : Launch) (G : mG) {h0 : Nat} {x1 : Int32} {σ : mS} {z : Int32 × mS} (h : f_X5_when h0 x1 σ = some z) : Met l yX5_when wsX5_when rm_X5_when (va_Pc [.ref h0, .int x1] (mB G σ)) (mQ G (.returned (some (.int z.1))) z.2) 0 0 (mF G) := by
  refine m_start (cc := cX5_when) (maxL := 3) (ret := (some .int)) (by decide) rfl [.ref h0, .int x1] (Nat.le_of_ble_eq_true rfl) ?_
  intro p e s m args below meth c ls hx hb hr hml hown hts hlocks hnm hK hM hl
  have hown : s.vm.findClass RX5 = some m.cls := hown
  have hnm : meth.name = "when" := hnm
  obtain ⟨locs, hlocs⟩ : ∃ l : List Loc, l = [] := ⟨_, rfl⟩
  have hL : mL G locs := by rw [hlocs]; exact mL_nil G
  rw [← hlocs]
  generalize s.heap = H at hM ⊢
  have hl : lv_has ls 3 [(0, .ref h0), (1, .int x1)] := hl
  obtain ⟨Q, hQ⟩ : ∃ Q, Q = MQ below (mQ G (.returned (some (.int z.1))) z.2) args s 0 0 (mF G) := ⟨_, rfl⟩
  rw [← hQ]
  have hU5 : ∀ w ∈ wsX50, w.before args s = true := fun w h => hts w (List.mem_cons_of_mem _ (List.mem_append_left _ (List.mem_append_left _ (List.mem_append_right _ h))))
  have w1 := (hts (.fieldLink RX5 51 "HandkerchiefsDropped" "thought" "LHandkerchiefsDropped$Assize;") (List.mem_of_getElem? (i := 1) rfl))
  have w2 := (hts (.fieldLink RX5 44 "HandkerchiefsDropped" "now" "LHandkerchiefsDropped$Assize;") (List.mem_of_getElem? (i := 2) rfl))
  have hN67 : ∀ (k30 : Nat → Int32 → Int32 → mS → Option (Int32 × mS)) (hk30 : ∀ (h0 : Nat) (x1 : Int32) (x2 : Int32) (σ : mS), k30 h0 x1 x2 σ = some z → ∀ (H : Heap) (locs : List Loc) (ls : Array Slot), mP G σ H → mL G locs → lv_has ls 3 [(0, .ref h0), (1, .int x1), (2, .int x2)] → W p l e rm_X5_when s m args below meth c H locs 0 0 Q (F0 m 30 ls [])) (h0 : Nat) (x1 : Int32) (x2 : Int32) (σ : mS), f_X5_when_67 k30 h0 x1 x2 σ = some z → ∀ (H : Heap) (locs : List Loc) (ls : Array Slot), mP G σ H → mL G locs → lv_has ls 3 [(0, .ref h0), (1, .int x1), (2, .int x2)] → W p l e rm_X5_when s m args below meth c H locs 0 0 Q (F0 m 67 ls []) := by
    intro k30 hk30 h0 x1 x2 σ h H locs ls hM hL hl
    rw [f_X5_when_67.eq_1] at h
    refine lv_aload_n hx hb dX5_when_67 rfl (lv_at hl 0 rfl) ?_
    refine m_getR (ci := 4) hx hb hU5 hown hK hM rfl 5 (by decide) w1 h dX5_when_68 (fun r21 gr21 h => ?_)
    refine lv_iconst hx hb dX5_when_71 kI_1 ?_
    obtain ⟨o22, h⟩ := oi_some h
    obtain ⟨q23, hq23, h⟩ := ob_some h
    refine m_calli (va_runV (As := [.int (1 : Int32)]) (rest := []) ⟨hx, hb, hml, hown, hts⟩ (c_X0_passHours l G hq23) (cwV 1 hts gX5_when_X0_passHours rfl rfl rfl hd_X0_passHoursv ⟨Nat.le_of_ble_eq_true rfl, Nat.le_of_ble_eq_true rfl⟩) (m_preV (ci := 0) hK hM rfl o22) rfl rfl hl.1 rfl (lv_room (Nat.le_of_ble_eq_true rfl)) dX5_when_72 ⟨Nat.le_of_ble_eq_true rfl, Nat.le_of_ble_eq_true rfl⟩) hL (fun H locs hM hL => ?_)
    refine lv_pop hx hb dX5_when_75 rfl ?_
    obtain ⟨v24, ev24⟩ : ∃ y : Int32, y = x2 + (1 : Int32) := ⟨_, rfl⟩
    have h := vl_at ev24 h
    refine lv_iinc (v := v24) (lv' := [(2, .int v24), (0, .ref h0), (1, .int x1)]) hx hb dX5_when_76 hl (k := 2) rfl (by rw [ev24, kI_1]) (by decide) rfl (fun ls hl => ?_)
    refine lv_goto (tgt := 30) hx hb dX5_when_79 (by decide) ?_
    exact hk30 _ _ _ _ h _ _ _ hM hL (lv_sub hl [1, 2, 0] rfl)
  have hN30 : ∀ (n : Nat) (h0 : Nat) (x1 : Int32) (x2 : Int32) (σ : mS), f_X5_when_30 n h0 x1 x2 σ = some z → ∀ (H : Heap) (locs : List Loc) (ls : Array Slot), mP G σ H → mL G locs → lv_has ls 3 [(0, .ref h0), (1, .int x1), (2, .int x2)] → W p l e rm_X5_when s m args below meth c H locs 0 0 Q (F0 m 30 ls []) := by
    intro n
    induction n with
    | zero =>
      intro h0 x1 x2 σ h
      exact nomatch (show (none : Option (Int32 × mS)) = some z from h)
    | succ n ih =>
      intro h0 x1 x2 σ h H locs ls hM hL hl
      rw [f_X5_when_30.eq_2] at h
      refine lv_iload_n hx hb dX5_when_30 rfl (lv_at hl 2 rfl) ?_
      refine lv_bipush hx hb dX5_when_31 kB_60 ?_
      refine lv_icmp_gt (tgt := 82) hx hb dX5_when_33 (by decide) (fun c25 => ?_) (fun c25 => ?_)
      · have h := (if_pos c25).symm.trans h
        refine lv_iconst hx hb dX5_when_82 kI_m1 ?_
        subst hQ
        have h := Option.some.inj h
        subst h
        exact m_iret hx hb hr hM hL dX5_when_83 hlocks
      · have h := (if_neg c25).symm.trans h
        refine lv_iload_n hx hb dX5_when_36 rfl (lv_at hl 1 rfl) ?_
        refine lv_iconst hx hb dX5_when_37 kI_m1 ?_
        refine lv_icmp_ne (tgt := 54) hx hb dX5_when_38 (by decide) (fun c26 => ?_) (fun c26 => ?_)
        · have h := (if_neg c26).symm.trans h
          refine lv_aload_n hx hb dX5_when_54 rfl (lv_at hl 0 rfl) ?_
          refine m_getR (ci := 4) hx hb hU5 hown hK hM rfl 5 (by decide) w1 h dX5_when_55 (fun r27 gr27 h => ?_)
          refine lv_iload_n hx hb dX5_when_58 rfl (lv_at hl 1 rfl) ?_
          obtain ⟨o28, h⟩ := oi_some h
          obtain ⟨q29, hq29, h⟩ := ob_some h
          refine m_calli (va_runV (As := [.int x1]) (rest := []) ⟨hx, hb, hml, hown, hts⟩ (c_X0_isAdmitted l G hq29) (cwV 1 hts gX5_when_X0_isAdmitted rfl rfl rfl hd_X0_isAdmittedv ⟨Nat.le_of_ble_eq_true rfl, Nat.le_of_ble_eq_true rfl⟩) (m_preV (ci := 0) hK hM rfl o28) rfl rfl hl.1 rfl (lv_room (Nat.le_of_ble_eq_true rfl)) dX5_when_59 ⟨Nat.le_of_ble_eq_true rfl, Nat.le_of_ble_eq_true rfl⟩) hL (fun H locs hM hL => ?_)
          refine lv_if_eq (tgt := 67) hx hb dX5_when_62 (by decide) (fun c30 => ?_) (fun c30 => ?_)
          · have h := (if_pos c30).symm.trans h
            refine hN67 _ (fun _ _ _ _ h H locs ls hM hL hl => ih _ _ _ _ h H locs ls hM hL hl) _ _ _ _ h _ _ _ hM hL (lv_sub hl [0, 1, 2] rfl)
          · have h := (if_neg c30).symm.trans h
            refine lv_iload_n hx hb dX5_when_65 rfl (lv_at hl 2 rfl) ?_
            subst hQ
            have h := Option.some.inj h
            subst h
            exact m_iret hx hb hr hM hL dX5_when_66 hlocks
        · have h := (if_pos c26).symm.trans h
          refine lv_aload_n hx hb dX5_when_41 rfl (lv_at hl 0 rfl) ?_
          refine m_getR (ci := 4) hx hb hU5 hown hK hM rfl 5 (by decide) w1 h dX5_when_42 (fun r31 gr31 h => ?_)
          obtain ⟨o32, h⟩ := oi_some h
          obtain ⟨q33, hq33, h⟩ := ob_some h
          refine m_calli (va_runV (As := []) (rest := []) ⟨hx, hb, hml, hown, hts⟩ (c_X0_lying l G hq33) (cwV 0 hts gX5_when_X0_lying rfl rfl rfl hd_X0_lyingv ⟨Nat.le_of_ble_eq_true rfl, Nat.le_of_ble_eq_true rfl⟩) (m_preV (ci := 0) hK hM rfl o32) rfl rfl hl.1 rfl (lv_room (Nat.le_of_ble_eq_true rfl)) dX5_when_45 ⟨Nat.le_of_ble_eq_true rfl, Nat.le_of_ble_eq_true rfl⟩) hL (fun H locs hM hL => ?_)
          refine lv_if_ne (tgt := 67) hx hb dX5_when_48 (by decide) (fun c34 => ?_) (fun c34 => ?_)
          · have h := (if_neg c34).symm.trans h
            refine hN67 _ (fun _ _ _ _ h H locs ls hM hL hl => ih _ _ _ _ h H locs ls hM hL hl) _ _ _ _ h _ _ _ hM hL (lv_sub hl [0, 1, 2] rfl)
          · have h := (if_pos c34).symm.trans h
            refine lv_goto (tgt := 65) hx hb dX5_when_51 (by decide) ?_
            refine lv_iload_n hx hb dX5_when_65 rfl (lv_at hl 2 rfl) ?_
            subst hQ
            have h := Option.some.inj h
            subst h
            exact m_iret hx hb hr hM hL dX5_when_66 hlocks
  have hN17 : ∀ (h0 : Nat) (x1 : Int32) (σ : mS), f_X5_when_17 h0 x1 σ = some z → ∀ (H : Heap) (locs : List Loc) (ls : Array Slot), mP G σ H → mL G locs → lv_has ls 3 [(0, .ref h0), (1, .int x1)] → W p l e rm_X5_when s m args below meth c H locs 0 0 Q (F0 m 17 ls []) := by
    intro h0 x1 σ h H locs ls hM hL hl
    rw [f_X5_when_17.eq_1] at h
    refine lv_aload_n hx hb dX5_when_17 rfl (lv_at hl 0 rfl) ?_
    refine m_getR (ci := 4) hx hb hU5 hown hK hM rfl 5 (by decide) w1 h dX5_when_18 (fun r35 gr35 h => ?_)
    refine lv_aload_n hx hb dX5_when_21 rfl (lv_at hl 0 rfl) ?_
    refine m_getR (ci := 4) hx hb hU5 hown hK hM rfl 3 (by decide) w2 h dX5_when_22 (fun r36 gr36 h => ?_)
    obtain ⟨o37, h⟩ := oi_some h
    obtain ⟨q38, hq38, h⟩ := ob_some h
    refine m_callv (va_runV (As := [.ref r36]) (rest := []) ⟨hx, hb, hml, hown, hts⟩ (c_X0_become l G hq38) (cwV 1 hts gX5_when_X0_become rfl rfl rfl hd_X0_becomev ⟨Nat.le_of_ble_eq_true rfl, Nat.le_of_ble_eq_true rfl⟩) (m_preV (ci := 0) hK hM rfl o37) rfl rfl hl.1 rfl (lv_room (Nat.le_of_ble_eq_true rfl)) dX5_when_25 ⟨Nat.le_of_ble_eq_true rfl, Nat.le_of_ble_eq_true rfl⟩) hL (fun H locs hM hL => ?_)
    refine lv_iconst hx hb dX5_when_28 kI_0 ?_
    refine lv_istore_n (lv' := [(2, .int (0 : Int32)), (0, .ref h0), (1, .int x1)]) hx hb dX5_when_29 rfl hl (by decide) rfl (fun ls hl => ?_)
    refine hN30 _ _ _ _ _ h _ _ _ hM hL (lv_sub hl [1, 2, 0] rfl)
  rw [f_X5_when.eq_1] at h
  refine lv_iload_n hx hb dX5_when_0 rfl (lv_at hl 1 rfl) ?_
  refine lv_iconst hx hb dX5_when_1 kI_m1 ?_
  refine lv_icmp_eq (tgt := 17) hx hb dX5_when_2 (by decide) (fun c39 => ?_) (fun c39 => ?_)
  · have h := (if_pos c39).symm.trans h
    refine hN17 _ _ _ h _ _ _ hM hL (lv_sub hl [0, 1] rfl)
  · have h := (if_neg c39).symm.trans h
    refine lv_iload_n hx hb dX5_when_5 rfl (lv_at hl 1 rfl) ?_
    refine lv_bipush hx hb dX5_when_6 kB_10 ?_
    refine m_calli (va_runS (As := [.int x1, .int (10 : Int32)]) (rest := []) ⟨hx, hb, hml, hown, hts⟩ (c_X5_isBelow l G x1 (10 : Int32)) (va_cwS 2 hts gX5_when_X5_isBelow rfl rfl rfl hd_X5_isBelow ⟨Nat.le_of_ble_eq_true rfl, Nat.le_of_ble_eq_true rfl⟩) (m_preS hK hM) rfl rfl hl.1 rfl (lv_room (Nat.le_of_ble_eq_true rfl)) dX5_when_8 ⟨Nat.le_of_ble_eq_true rfl, Nat.le_of_ble_eq_true rfl⟩) hL (fun H locs hM hL => ?_)
    refine lv_if_ne (tgt := 17) hx hb dX5_when_11 (by decide) (fun c40 => ?_) (fun c40 => ?_)
    · have h := (if_neg c40).symm.trans h
      refine hN17 _ _ _ h _ _ _ hM hL (lv_sub hl [0, 1] rfl)
    · have h := (if_pos c40).symm.trans h
      refine lv_bipush hx hb dX5_when_14 kB_m7 ?_
      subst hQ
      have h := Option.some.inj h
      subst h
      exact m_iret hx hb hr hM hL dX5_when_16 hlocks
abbrev rm_X5_fate : Room := { frames := 5, cells := 0, slots := 0, locals := 130 }
set_option maxHeartbeats 4000000 in
set_option maxRecDepth 100000 in
theorem c_X5_fate (l : Launch) (G : mG) {h0 : Nat} {x1 : Int32} {x2 : Int32} {σ : mS} {z : Int32 × mS} (h : f_X5_fate h0 x1 x2 σ = some z) : Met l yX5_fate wsX5_fate rm_X5_fate (va_Pc [.ref h0, .int x1, .int x2] (mB G σ)) (mQ G (.returned (some (.int z.1))) z.2) 0 0 (mF G) := by
  refine m_start (cc := cX5_fate) (maxL := 4) (ret := (some .int)) (by decide) rfl [.ref h0, .int x1, .int x2] (Nat.le_of_ble_eq_true rfl) ?_
  intro p e s m args below meth c ls hx hb hr hml hown hts hlocks hnm hK hM hl
  have hown : s.vm.findClass RX5 = some m.cls := hown
  have hnm : meth.name = "fate" := hnm
  obtain ⟨locs, hlocs⟩ : ∃ l : List Loc, l = [] := ⟨_, rfl⟩
  have hL : mL G locs := by rw [hlocs]; exact mL_nil G
  rw [← hlocs]
  generalize s.heap = H at hM ⊢
  have hl : lv_has ls 4 [(0, .ref h0), (1, .int x1), (2, .int x2)] := hl
  obtain ⟨Q, hQ⟩ : ∃ Q, Q = MQ below (mQ G (.returned (some (.int z.1))) z.2) args s 0 0 (mF G) := ⟨_, rfl⟩
  rw [← hQ]
  have hU5 : ∀ w ∈ wsX50, w.before args s = true := fun w h => hts w (List.mem_cons_of_mem _ (List.mem_append_left _ (List.mem_append_left _ (List.mem_append_right _ h))))
  have w1 := (hts (.fieldLink RX5 44 "HandkerchiefsDropped" "now" "LHandkerchiefsDropped$Assize;") (List.mem_of_getElem? (i := 1) rfl))
  have w2 := (hts (.fieldLink RX5 51 "HandkerchiefsDropped" "thought" "LHandkerchiefsDropped$Assize;") (List.mem_of_getElem? (i := 2) rfl))
  have hU0 : ∀ w ∈ wsX00, w.before args s = true := fun w h => hts w (List.mem_cons_of_mem _ (List.mem_append_left _ (List.mem_append_right _ h)))
  have hN38 : ∀ (k70 : Nat → Int32 → Int32 → Int32 → mS → Option (Int32 × mS)) (hk70 : ∀ (h0 : Nat) (x1 : Int32) (x2 : Int32) (x3 : Int32) (σ : mS), k70 h0 x1 x2 x3 σ = some z → ∀ (H : Heap) (locs : List Loc) (ls : Array Slot), mP G σ H → mL G locs → lv_has ls 4 [(0, .ref h0), (1, .int x1), (2, .int x2), (3, .int x3)] → W p l e rm_X5_fate s m args below meth c H locs 0 0 Q (F0 m 70 ls [])) (n : Nat) (h0 : Nat) (x1 : Int32) (x2 : Int32) (x3 : Int32) (σ : mS), f_X5_fate_38 k70 n h0 x1 x2 x3 σ = some z → ∀ (H : Heap) (locs : List Loc) (ls : Array Slot), mP G σ H → mL G locs → lv_has ls 4 [(0, .ref h0), (1, .int x1), (2, .int x2), (3, .int x3)] → W p l e rm_X5_fate s m args below meth c H locs 0 0 Q (F0 m 38 ls []) := by
    intro k70 hk70 n
    induction n with
    | zero =>
      intro h0 x1 x2 x3 σ h
      exact nomatch (show (none : Option (Int32 × mS)) = some z from h)
    | succ n ih =>
      intro h0 x1 x2 x3 σ h H locs ls hM hL hl
      rw [f_X5_fate_38.eq_2] at h
      refine lv_iload_n hx hb dX5_fate_38 rfl (lv_at hl 3 rfl) ?_
      refine lv_bipush hx hb dX5_fate_39 kB_99 ?_
      refine lv_icmp_ge (tgt := 70) hx hb dX5_fate_41 (by decide) (fun c26 => ?_) (fun c26 => ?_)
      · have h := (if_pos c26).symm.trans h
        exact hk70 _ _ _ _ _ h _ _ _ hM hL (lv_sub hl [0, 1, 2, 3] rfl)
      · have h := (if_neg c26).symm.trans h
        refine lv_aload_n hx hb dX5_fate_44 rfl (lv_at hl 0 rfl) ?_
        refine m_getR (ci := 4) hx hb hU5 hown hK hM rfl 5 (by decide) w2 h dX5_fate_45 (fun r27 gr27 h => ?_)
        refine lv_iload_n hx hb dX5_fate_48 rfl (lv_at hl 1 rfl) ?_
        obtain ⟨o28, h⟩ := oi_some h
        obtain ⟨q29, hq29, h⟩ := ob_some h
        refine m_calli (va_runV (As := [.int x1]) (rest := []) ⟨hx, hb, hml, hown, hts⟩ (c_X0_lies l G hq29) (cwV 1 hts gX5_fate_X0_lies rfl rfl rfl hd_X0_liesv ⟨Nat.le_of_ble_eq_true rfl, Nat.le_of_ble_eq_true rfl⟩) (m_preV (ci := 0) hK hM rfl o28) rfl rfl hl.1 rfl (lv_room (Nat.le_of_ble_eq_true rfl)) dX5_fate_49 ⟨Nat.le_of_ble_eq_true rfl, Nat.le_of_ble_eq_true rfl⟩) hL (fun H locs hM hL => ?_)
        refine lv_if_eq (tgt := 70) hx hb dX5_fate_52 (by decide) (fun c30 => ?_) (fun c30 => ?_)
        · have h := (if_pos c30).symm.trans h
          exact hk70 _ _ _ _ _ h _ _ _ hM hL (lv_sub hl [0, 1, 2, 3] rfl)
        · have h := (if_neg c30).symm.trans h
          refine lv_aload_n hx hb dX5_fate_55 rfl (lv_at hl 0 rfl) ?_
          refine m_getR (ci := 4) hx hb hU5 hown hK hM rfl 5 (by decide) w2 h dX5_fate_56 (fun r31 gr31 h => ?_)
          refine lv_iconst hx hb dX5_fate_59 kI_1 ?_
          obtain ⟨o32, h⟩ := oi_some h
          obtain ⟨q33, hq33, h⟩ := ob_some h
          refine m_calli (va_runV (As := [.int (1 : Int32)]) (rest := []) ⟨hx, hb, hml, hown, hts⟩ (c_X0_passHours l G hq33) (cwV 1 hts gX5_fate_X0_passHours rfl rfl rfl hd_X0_passHoursv ⟨Nat.le_of_ble_eq_true rfl, Nat.le_of_ble_eq_true rfl⟩) (m_preV (ci := 0) hK hM rfl o32) rfl rfl hl.1 rfl (lv_room (Nat.le_of_ble_eq_true rfl)) dX5_fate_60 ⟨Nat.le_of_ble_eq_true rfl, Nat.le_of_ble_eq_true rfl⟩) hL (fun H locs hM hL => ?_)
          refine lv_pop hx hb dX5_fate_63 rfl ?_
          obtain ⟨v34, ev34⟩ : ∃ y : Int32, y = x3 + (1 : Int32) := ⟨_, rfl⟩
          have h := vl_at ev34 h
          refine lv_iinc (v := v34) (lv' := [(3, .int v34), (0, .ref h0), (1, .int x1), (2, .int x2)]) hx hb dX5_fate_64 hl (k := 3) rfl (by rw [ev34, kI_1]) (by decide) rfl (fun ls hl => ?_)
          refine lv_goto (tgt := 38) hx hb dX5_fate_67 (by decide) ?_
          exact ih _ _ _ _ _ h _ _ _ hM hL (lv_sub hl [1, 2, 3, 0] rfl)
  rw [f_X5_fate.eq_1] at h
  refine lv_aload_n hx hb dX5_fate_0 rfl (lv_at hl 0 rfl) ?_
  refine m_getR (ci := 4) hx hb hU5 hown hK hM rfl 3 (by decide) w1 h dX5_fate_1 (fun r35 gr35 h => ?_)
  refine lv_iload_n hx hb dX5_fate_4 rfl (lv_at hl 1 rfl) ?_
  obtain ⟨o36, h⟩ := oi_some h
  obtain ⟨q37, hq37, h⟩ := ob_some h
  refine m_calli (va_runV (As := [.int x1]) (rest := []) ⟨hx, hb, hml, hown, hts⟩ (c_X0_lies l G hq37) (cwV 1 hts gX5_fate_X0_lies rfl rfl rfl hd_X0_liesv ⟨Nat.le_of_ble_eq_true rfl, Nat.le_of_ble_eq_true rfl⟩) (m_preV (ci := 0) hK hM rfl o36) rfl rfl hl.1 rfl (lv_room (Nat.le_of_ble_eq_true rfl)) dX5_fate_5 ⟨Nat.le_of_ble_eq_true rfl, Nat.le_of_ble_eq_true rfl⟩) hL (fun H locs hM hL => ?_)
  refine lv_if_ne (tgt := 14) hx hb dX5_fate_8 (by decide) (fun c38 => ?_) (fun c38 => ?_)
  · have h := (if_neg c38).symm.trans h
    refine lv_iload_n hx hb dX5_fate_14 rfl (lv_at hl 2 rfl) ?_
    refine lv_iconst hx hb dX5_fate_15 kI_2 ?_
    refine m_calli (va_runS (As := [.int x2, .int (2 : Int32)]) (rest := []) ⟨hx, hb, hml, hown, hts⟩ (c_X5_isBelow l G x2 (2 : Int32)) (va_cwS 2 hts gX5_fate_X5_isBelow rfl rfl rfl hd_X5_isBelow ⟨Nat.le_of_ble_eq_true rfl, Nat.le_of_ble_eq_true rfl⟩) (m_preS hK hM) rfl rfl hl.1 rfl (lv_room (Nat.le_of_ble_eq_true rfl)) dX5_fate_16 ⟨Nat.le_of_ble_eq_true rfl, Nat.le_of_ble_eq_true rfl⟩) hL (fun H locs hM hL => ?_)
    refine lv_if_ne (tgt := 25) hx hb dX5_fate_19 (by decide) (fun c39 => ?_) (fun c39 => ?_)
    · have h := (if_neg c39).symm.trans h
      refine lv_aload_n hx hb dX5_fate_25 rfl (lv_at hl 0 rfl) ?_
      refine m_getR (ci := 4) hx hb hU5 hown hK hM rfl 5 (by decide) w2 h dX5_fate_26 (fun r40 gr40 h => ?_)
      refine lv_aload_n hx hb dX5_fate_29 rfl (lv_at hl 0 rfl) ?_
      refine m_getR (ci := 4) hx hb hU5 hown hK hM rfl 3 (by decide) w1 h dX5_fate_30 (fun r41 gr41 h => ?_)
      obtain ⟨o42, h⟩ := oi_some h
      obtain ⟨q43, hq43, h⟩ := ob_some h
      refine m_callv (va_runV (As := [.ref r41]) (rest := []) ⟨hx, hb, hml, hown, hts⟩ (c_X0_become l G hq43) (cwV 1 hts gX5_fate_X0_become rfl rfl rfl hd_X0_becomev ⟨Nat.le_of_ble_eq_true rfl, Nat.le_of_ble_eq_true rfl⟩) (m_preV (ci := 0) hK hM rfl o42) rfl rfl hl.1 rfl (lv_room (Nat.le_of_ble_eq_true rfl)) dX5_fate_33 ⟨Nat.le_of_ble_eq_true rfl, Nat.le_of_ble_eq_true rfl⟩) hL (fun H locs hM hL => ?_)
      refine lv_iconst hx hb dX5_fate_36 kI_0 ?_
      refine lv_istore_n (lv' := [(3, .int (0 : Int32)), (0, .ref h0), (1, .int x1), (2, .int x2)]) hx hb dX5_fate_37 rfl hl (by decide) rfl (fun ls hl => ?_)
      refine hN38 _ ?_ _ _ _ _ _ _ h _ _ _ hM hL (lv_sub hl [1, 2, 3, 0] rfl)
      · intro h0 x1 x2 x3 σ h H locs ls hM hL hl
        refine lv_iload_n hx hb dX5_fate_70 rfl (lv_at hl 2 rfl) ?_
        refine lv_iconst hx hb dX5_fate_71 kI_1 ?_
        refine lv_icmp_ne (tgt := 77) hx hb dX5_fate_72 (by decide) (fun c44 => ?_) (fun c44 => ?_)
        · have h := (if_neg c44).symm.trans h
          refine lv_aload_n hx hb dX5_fate_77 rfl (lv_at hl 0 rfl) ?_
          refine m_getR (ci := 4) hx hb hU5 hown hK hM rfl 5 (by decide) w2 h dX5_fate_78 (fun r45 gr45 h => ?_)
          refine m_getRN (ci := 0) (host := RX5) hx hb hU0 hown hK hM rfl 9 (by decide) (List.mem_of_getElem? (i := 12) rfl) h dX5_fate_81 (fun r46 gr46 h => ?_)
          refine lv_iload_n hx hb dX5_fate_84 rfl (lv_at hl 1 rfl) ?_
          refine m_iald hx hb hK hM h dX5_fate_85 (fun v47 gv47 h => ?_)
          refine lv_if_ne (tgt := 93) hx hb dX5_fate_86 (by decide) (fun c48 => ?_) (fun c48 => ?_)
          · have h := (if_neg c48).symm.trans h
            refine lv_aload_n hx hb dX5_fate_93 rfl (lv_at hl 0 rfl) ?_
            refine m_getR (ci := 4) hx hb hU5 hown hK hM rfl 5 (by decide) w2 h dX5_fate_94 (fun r49 gr49 h => ?_)
            refine m_getIN (ci := 0) (host := RX5) hx hb hU0 hown hK hM rfl 12 (by decide) (List.mem_of_getElem? (i := 15) rfl) h dX5_fate_97 (fun v50 gv50 h => ?_)
            refine lv_iconst hx hb dX5_fate_100 kI_1 ?_
            refine lv_isub hx hb dX5_fate_101 ?_
            refine lv_bipush hx hb dX5_fate_102 kB_6 ?_
            refine lv_irem hx hb dX5_fate_104 (by decide) ?_
            subst hQ
            have h := Option.some.inj h
            subst h
            exact m_iret hx hb hr hM hL dX5_fate_105 hlocks
          · have h := (if_pos c48).symm.trans h
            refine lv_iconst hx hb dX5_fate_89 kI_m1 ?_
            refine lv_goto (tgt := 105) hx hb dX5_fate_90 (by decide) ?_
            subst hQ
            have h := Option.some.inj h
            subst h
            exact m_iret hx hb hr hM hL dX5_fate_105 hlocks
        · have h := (if_pos c44).symm.trans h
          refine lv_iload_n hx hb dX5_fate_75 rfl (lv_at hl 3 rfl) ?_
          subst hQ
          have h := Option.some.inj h
          subst h
          exact m_iret hx hb hr hM hL dX5_fate_76 hlocks
    · have h := (if_pos c39).symm.trans h
      refine lv_bipush hx hb dX5_fate_22 kB_m7 ?_
      subst hQ
      have h := Option.some.inj h
      subst h
      exact m_iret hx hb hr hM hL dX5_fate_24 hlocks
  · have h := (if_pos c38).symm.trans h
    refine lv_bipush hx hb dX5_fate_11 kB_m6 ?_
    subst hQ
    have h := Option.some.inj h
    subst h
    exact m_iret hx hb hr hM hL dX5_fate_13 hlocks
abbrev rm_X5_advise : Room := { frames := 5, cells := 0, slots := 0, locals := 130 }
set_option maxHeartbeats 4000000 in
set_option maxRecDepth 100000 in
theorem c_X5_advise (l : Launch) (G : mG) {h0 : Nat} {x1 : Int32} {x2 : Int32} {σ : mS} {z : Int32 × mS} (h : f_X5_advise h0 x1 x2 σ = some z) : Met l yX5_advise wsX5_advise rm_X5_advise (va_Pc [.ref h0, .int x1, .int x2] (mB G σ)) (mQ G (.returned (some (.int z.1))) z.2) 0 0 (mF G) := by
  refine m_start (cc := cX5_advise) (maxL := 7) (ret := (some .int)) (by decide) rfl [.ref h0, .int x1, .int x2] (Nat.le_of_ble_eq_true rfl) ?_
  intro p e s m args below meth c ls hx hb hr hml hown hts hlocks hnm hK hM hl
  have hown : s.vm.findClass RX5 = some m.cls := hown
  have hnm : meth.name = "advise" := hnm
  obtain ⟨locs, hlocs⟩ : ∃ l : List Loc, l = [] := ⟨_, rfl⟩
  have hL : mL G locs := by rw [hlocs]; exact mL_nil G
  rw [← hlocs]
  generalize s.heap = H at hM ⊢
  have hl : lv_has ls 7 [(0, .ref h0), (1, .int x1), (2, .int x2)] := hl
  obtain ⟨Q, hQ⟩ : ∃ Q, Q = MQ below (mQ G (.returned (some (.int z.1))) z.2) args s 0 0 (mF G) := ⟨_, rfl⟩
  rw [← hQ]
  have hU5 : ∀ w ∈ wsX50, w.before args s = true := fun w h => hts w (List.mem_cons_of_mem _ (List.mem_append_left _ (List.mem_append_left _ (List.mem_append_right _ h))))
  have w1 := (hts (.fieldLink RX5 51 "HandkerchiefsDropped" "thought" "LHandkerchiefsDropped$Assize;") (List.mem_of_getElem? (i := 1) rfl))
  have w2 := (hts (.fieldLink RX5 44 "HandkerchiefsDropped" "now" "LHandkerchiefsDropped$Assize;") (List.mem_of_getElem? (i := 2) rfl))
  have hU0 : ∀ w ∈ wsX00, w.before args s = true := fun w h => hts w (List.mem_cons_of_mem _ (List.mem_append_left _ (List.mem_append_right _ h)))
  have w4 := (hts (.methodLink RX5 191 Lib.Math.max.name) (List.mem_of_getElem? (i := 3) rfl))
  have w5 := (hts (.static Lib.Math.max.name) (List.mem_of_getElem? (i := 4) rfl))
  have w6 := (hts (.initialized "java/lang/Math") (List.mem_of_getElem? (i := 5) rfl))
  have w7 := (hts (.code Lib.Math.max.name Lib.Math.max.code 2 (some .int)) (List.mem_of_getElem? (i := 6) rfl))
  have hN55 : ∀ (n : Nat) (h0 : Nat) (x1 : Int32) (x2 : Int32) (x3 : Int32) (x4 : Int32) (x5 : Int32) (σ : mS), f_X5_advise_55 n h0 x1 x2 x3 x4 x5 σ = some z → ∀ (H : Heap) (locs : List Loc) (ls : Array Slot), mP G σ H → mL G locs → lv_has ls 7 [(0, .ref h0), (1, .int x1), (2, .int x2), (3, .int x3), (4, .int x4), (5, .int x5)] → W p l e rm_X5_advise s m args below meth c H locs 0 0 Q (F0 m 55 ls []) := by
    intro n
    induction n with
    | zero =>
      intro h0 x1 x2 x3 x4 x5 σ h
      exact nomatch (show (none : Option (Int32 × mS)) = some z from h)
    | succ n ih =>
      intro h0 x1 x2 x3 x4 x5 σ h H locs ls hM hL hl
      rw [f_X5_advise_55.eq_2] at h
      refine lv_iload hx hb dX5_advise_55 (lv_at hl 5 rfl) ?_
      refine lv_aload_n hx hb dX5_advise_57 rfl (lv_at hl 0 rfl) ?_
      refine m_getR (ci := 4) hx hb hU5 hown hK hM rfl 3 (by decide) w2 h dX5_advise_58 (fun r39 gr39 h => ?_)
      refine m_getIN (ci := 0) (host := RX5) hx hb hU0 hown hK hM rfl 13 (by decide) (List.mem_of_getElem? (i := 16) rfl) h dX5_advise_61 (fun v40 gv40 h => ?_)
      refine lv_icmp_ge (tgt := 147) hx hb dX5_advise_64 (by decide) (fun c41 => ?_) (fun c41 => ?_)
      · have h := (if_pos c41).symm.trans h
        refine lv_iload_n hx hb dX5_advise_147 rfl (lv_at hl 2 rfl) ?_
        refine lv_if_ne (tgt := 155) hx hb dX5_advise_148 (by decide) (fun c42 => ?_) (fun c42 => ?_)
        · have h := (if_neg c42).symm.trans h
          refine lv_iload hx hb dX5_advise_155 (lv_at hl 4 rfl) ?_
          subst hQ
          have h := Option.some.inj h
          subst h
          exact m_iret hx hb hr hM hL dX5_advise_157 hlocks
        · have h := (if_pos c42).symm.trans h
          refine lv_iload_n hx hb dX5_advise_151 rfl (lv_at hl 3 rfl) ?_
          refine lv_goto (tgt := 157) hx hb dX5_advise_152 (by decide) ?_
          subst hQ
          have h := Option.some.inj h
          subst h
          exact m_iret hx hb hr hM hL dX5_advise_157 hlocks
      · have h := (if_neg c41).symm.trans h
        refine lv_aload_n hx hb dX5_advise_67 rfl (lv_at hl 0 rfl) ?_
        refine m_getR (ci := 4) hx hb hU5 hown hK hM rfl 3 (by decide) w2 h dX5_advise_68 (fun r43 gr43 h => ?_)
        refine lv_iload hx hb dX5_advise_71 (lv_at hl 5 rfl) ?_
        obtain ⟨o44, h⟩ := oi_some h
        obtain ⟨q45, hq45, h⟩ := ob_some h
        refine m_calli (va_runV (As := [.int x5]) (rest := []) ⟨hx, hb, hml, hown, hts⟩ (c_X0_canLetFall l G hq45) (cwV 1 hts gX5_advise_X0_canLetFall rfl rfl rfl hd_X0_canLetFallv ⟨Nat.le_of_ble_eq_true rfl, Nat.le_of_ble_eq_true rfl⟩) (m_preV (ci := 0) hK hM rfl o44) rfl rfl hl.1 rfl (lv_room (Nat.le_of_ble_eq_true rfl)) dX5_advise_73 ⟨Nat.le_of_ble_eq_true rfl, Nat.le_of_ble_eq_true rfl⟩) hL (fun H locs hM hL => ?_)
        refine lv_if_eq (tgt := 141) hx hb dX5_advise_76 (by decide) (fun c46 => ?_) (fun c46 => ?_)
        · have h := (if_pos c46).symm.trans h
          obtain ⟨v47, ev47⟩ : ∃ y : Int32, y = x5 + (1 : Int32) := ⟨_, rfl⟩
          have h := vl_at ev47 h
          refine lv_iinc (v := v47) (lv' := [(5, .int v47), (0, .ref h0), (1, .int x1), (2, .int x2), (3, .int x3), (4, .int x4)]) hx hb dX5_advise_141 hl (k := 5) rfl (by rw [ev47, kI_1]) (by decide) rfl (fun ls hl => ?_)
          refine lv_goto (tgt := 55) hx hb dX5_advise_144 (by decide) ?_
          exact ih _ _ _ _ _ _ _ h _ _ _ hM hL (lv_sub hl [1, 2, 3, 4, 5, 0] rfl)
        · have h := (if_neg c46).symm.trans h
          refine lv_aload_n hx hb dX5_advise_79 rfl (lv_at hl 0 rfl) ?_
          refine m_getR (ci := 4) hx hb hU5 hown hK hM rfl 5 (by decide) w1 h dX5_advise_80 (fun r48 gr48 h => ?_)
          refine lv_aload_n hx hb dX5_advise_83 rfl (lv_at hl 0 rfl) ?_
          refine m_getR (ci := 4) hx hb hU5 hown hK hM rfl 3 (by decide) w2 h dX5_advise_84 (fun r49 gr49 h => ?_)
          obtain ⟨o50, h⟩ := oi_some h
          obtain ⟨q51, hq51, h⟩ := ob_some h
          refine m_callv (va_runV (As := [.ref r49]) (rest := []) ⟨hx, hb, hml, hown, hts⟩ (c_X0_become l G hq51) (cwV 1 hts gX5_advise_X0_become rfl rfl rfl hd_X0_becomev ⟨Nat.le_of_ble_eq_true rfl, Nat.le_of_ble_eq_true rfl⟩) (m_preV (ci := 0) hK hM rfl o50) rfl rfl hl.1 rfl (lv_room (Nat.le_of_ble_eq_true rfl)) dX5_advise_87 ⟨Nat.le_of_ble_eq_true rfl, Nat.le_of_ble_eq_true rfl⟩) hL (fun H locs hM hL => ?_)
          refine lv_aload_n hx hb dX5_advise_90 rfl (lv_at hl 0 rfl) ?_
          refine m_getR (ci := 4) hx hb hU5 hown hK hM rfl 5 (by decide) w1 h dX5_advise_91 (fun r52 gr52 h => ?_)
          refine lv_iload hx hb dX5_advise_94 (lv_at hl 5 rfl) ?_
          obtain ⟨o53, h⟩ := oi_some h
          obtain ⟨q54, hq54, h⟩ := ob_some h
          refine m_calli (va_runV (As := [.int x5]) (rest := []) ⟨hx, hb, hml, hown, hts⟩ (c_X0_letFall l G hq54) (cwV 1 hts gX5_advise_X0_letFall rfl rfl rfl hd_X0_letFallv ⟨Nat.le_of_ble_eq_true rfl, Nat.le_of_ble_eq_true rfl⟩) (m_preV (ci := 0) hK hM rfl o53) rfl rfl hl.1 rfl (lv_room (Nat.le_of_ble_eq_true rfl)) dX5_advise_96 ⟨Nat.le_of_ble_eq_true rfl, Nat.le_of_ble_eq_true rfl⟩) hL (fun H locs hM hL => ?_)
          refine lv_pop hx hb dX5_advise_99 rfl ?_
          refine lv_aload_n hx hb dX5_advise_100 rfl (lv_at hl 0 rfl) ?_
          refine m_getR (ci := 4) hx hb hU5 hown hK hM rfl 5 (by decide) w1 h dX5_advise_101 (fun r55 gr55 h => ?_)
          refine lv_iload_n hx hb dX5_advise_104 rfl (lv_at hl 1 rfl) ?_
          obtain ⟨o56, h⟩ := oi_some h
          obtain ⟨q57, hq57, h⟩ := ob_some h
          refine m_calli (va_runV (As := [.int x1]) (rest := []) ⟨hx, hb, hml, hown, hts⟩ (c_X0_passHours l G hq57) (cwV 1 hts gX5_advise_X0_passHours rfl rfl rfl hd_X0_passHoursv ⟨Nat.le_of_ble_eq_true rfl, Nat.le_of_ble_eq_true rfl⟩) (m_preV (ci := 0) hK hM rfl o56) rfl rfl hl.1 rfl (lv_room (Nat.le_of_ble_eq_true rfl)) dX5_advise_105 ⟨Nat.le_of_ble_eq_true rfl, Nat.le_of_ble_eq_true rfl⟩) hL (fun H locs hM hL => ?_)
          refine lv_pop hx hb dX5_advise_108 rfl ?_
          refine lv_aload_n hx hb dX5_advise_109 rfl (lv_at hl 0 rfl) ?_
          refine m_getR (ci := 4) hx hb hU5 hown hK hM rfl 5 (by decide) w1 h dX5_advise_110 (fun r58 gr58 h => ?_)
          obtain ⟨o59, h⟩ := oi_some h
          obtain ⟨q60, hq60, h⟩ := ob_some h
          refine m_calli (va_runV (As := []) (rest := []) ⟨hx, hb, hml, hown, hts⟩ (c_X0_verdict l G hq60) (cwV 0 hts gX5_advise_X0_verdict rfl rfl rfl hd_X0_verdictv ⟨Nat.le_of_ble_eq_true rfl, Nat.le_of_ble_eq_true rfl⟩) (m_preV (ci := 0) hK hM rfl o59) rfl rfl hl.1 rfl (lv_room (Nat.le_of_ble_eq_true rfl)) dX5_advise_113 ⟨Nat.le_of_ble_eq_true rfl, Nat.le_of_ble_eq_true rfl⟩) hL (fun H locs hM hL => ?_)
          refine lv_istore (lv' := [(6, .int q60), (0, .ref h0), (1, .int x1), (2, .int x2), (3, .int x3), (4, .int x4), (5, .int x5)]) hx hb dX5_advise_116 hl (by decide) rfl (fun ls hl => ?_)
          refine lv_iload hx hb dX5_advise_118 (lv_at hl 0 rfl) ?_
          refine lv_iload hx hb dX5_advise_120 (lv_at hl 5 rfl) ?_
          suffices hJ : ∀ (v62 : Int32) (ls : Array Slot), v62 = (if q60 ≤ x4 then x3 else x5) → lv_has ls 7 [(0, .ref h0), (1, .int x1), (2, .int x2), (4, .int x4), (5, .int x5), (6, .int q60)] → W p l e rm_X5_advise s m args below meth c H locs 0 0 Q (F0 m 131 ls [.int v62]) by
            refine lv_icmp_le (tgt := 130) hx hb dX5_advise_122 (by decide) (fun c61 => ?_) (fun c61 => ?_)
            · refine lv_iload_n hx hb dX5_advise_130 rfl (lv_at hl 4 rfl) ?_
              exact hJ _ _ (((if_pos c61).trans rfl).symm) (lv_sub hl [1, 2, 3, 5, 6, 0] rfl)
            · refine lv_iload hx hb dX5_advise_125 (lv_at hl 6 rfl) ?_
              refine lv_goto (tgt := 131) hx hb dX5_advise_127 (by decide) ?_
              exact hJ _ _ (((if_neg c61).trans rfl).symm) (lv_sub hl [1, 2, 3, 5, 6, 0] rfl)
          intro v62 ls ev62 hl
          have h := vl_at ev62 h
          refine lv_istore_n (lv' := [(3, .int v62), (0, .ref h0), (1, .int x1), (2, .int x2), (4, .int x4), (5, .int x5), (6, .int q60)]) hx hb dX5_advise_131 rfl hl (by decide) rfl (fun ls hl => ?_)
          refine lv_iload hx hb dX5_advise_132 (lv_at hl 6 rfl) ?_
          refine lv_iload hx hb dX5_advise_134 (lv_at hl 4 rfl) ?_
          refine va_mmax hx hb (hml.trans hl.1.symm) hown w4 w5 w6 w7 (Nat.le_of_ble_eq_true rfl) (Nat.le_of_ble_eq_true rfl) (Nat.le_of_ble_eq_true rfl) (Nat.le_of_ble_eq_true rfl) dX5_advise_136 ?_
          refine lv_topi (fun v63 ev63 => ?_)
          have h := vl_at ev63 h
          refine lv_istore (lv' := [(4, .int v63), (3, .int v62), (0, .ref h0), (1, .int x1), (2, .int x2), (5, .int x5), (6, .int q60)]) hx hb dX5_advise_139 hl (by decide) rfl (fun ls hl => ?_)
          obtain ⟨v64, ev64⟩ : ∃ y : Int32, y = x5 + (1 : Int32) := ⟨_, rfl⟩
          have h := vl_at ev64 h
          refine lv_iinc (v := v64) (lv' := [(5, .int v64), (4, .int v63), (3, .int v62), (0, .ref h0), (1, .int x1), (2, .int x2), (6, .int q60)]) hx hb dX5_advise_141 hl (k := 5) rfl (by rw [ev64, kI_1]) (by decide) rfl (fun ls hl => ?_)
          refine lv_goto (tgt := 55) hx hb dX5_advise_144 (by decide) ?_
          exact ih _ _ _ _ _ _ _ h _ _ _ hM hL (lv_sub hl [3, 4, 5, 2, 1, 0] rfl)
  rw [f_X5_advise.eq_1] at h
  refine lv_iload_n hx hb dX5_advise_0 rfl (lv_at hl 1 rfl) ?_
  refine lv_bipush hx hb dX5_advise_1 kB_41 ?_
  refine m_calli (va_runS (As := [.int x1, .int (41 : Int32)]) (rest := []) ⟨hx, hb, hml, hown, hts⟩ (c_X5_isBelow l G x1 (41 : Int32)) (va_cwS 2 hts gX5_advise_X5_isBelow rfl rfl rfl hd_X5_isBelow ⟨Nat.le_of_ble_eq_true rfl, Nat.le_of_ble_eq_true rfl⟩) (m_preS hK hM) rfl rfl hl.1 rfl (lv_room (Nat.le_of_ble_eq_true rfl)) dX5_advise_3 ⟨Nat.le_of_ble_eq_true rfl, Nat.le_of_ble_eq_true rfl⟩) hL (fun H locs hM hL => ?_)
  refine lv_if_eq (tgt := 17) hx hb dX5_advise_6 (by decide) (fun c65 => ?_) (fun c65 => ?_)
  · have h := (if_pos c65).symm.trans h
    refine lv_sipush hx hb dX5_advise_17 kS_m5000 ?_
    subst hQ
    have h := Option.some.inj h
    subst h
    exact m_iret hx hb hr hM hL dX5_advise_20 hlocks
  · have h := (if_neg c65).symm.trans h
    refine lv_iload_n hx hb dX5_advise_9 rfl (lv_at hl 2 rfl) ?_
    refine lv_iconst hx hb dX5_advise_10 kI_2 ?_
    refine m_calli (va_runS (As := [.int x2, .int (2 : Int32)]) (rest := []) ⟨hx, hb, hml, hown, hts⟩ (c_X5_isBelow l G x2 (2 : Int32)) (va_cwS 2 hts gX5_advise_X5_isBelow rfl rfl rfl hd_X5_isBelow ⟨Nat.le_of_ble_eq_true rfl, Nat.le_of_ble_eq_true rfl⟩) (m_preS hK hM) rfl rfl hl.1 rfl (lv_room (Nat.le_of_ble_eq_true rfl)) dX5_advise_11 ⟨Nat.le_of_ble_eq_true rfl, Nat.le_of_ble_eq_true rfl⟩) hL (fun H locs hM hL => ?_)
    refine lv_if_ne (tgt := 21) hx hb dX5_advise_14 (by decide) (fun c66 => ?_) (fun c66 => ?_)
    · have h := (if_neg c66).symm.trans h
      refine lv_aload_n hx hb dX5_advise_21 rfl (lv_at hl 0 rfl) ?_
      refine m_getR (ci := 4) hx hb hU5 hown hK hM rfl 5 (by decide) w1 h dX5_advise_22 (fun r67 gr67 h => ?_)
      refine lv_aload_n hx hb dX5_advise_25 rfl (lv_at hl 0 rfl) ?_
      refine m_getR (ci := 4) hx hb hU5 hown hK hM rfl 3 (by decide) w2 h dX5_advise_26 (fun r68 gr68 h => ?_)
      obtain ⟨o69, h⟩ := oi_some h
      obtain ⟨q70, hq70, h⟩ := ob_some h
      refine m_callv (va_runV (As := [.ref r68]) (rest := []) ⟨hx, hb, hml, hown, hts⟩ (c_X0_become l G hq70) (cwV 1 hts gX5_advise_X0_become rfl rfl rfl hd_X0_becomev ⟨Nat.le_of_ble_eq_true rfl, Nat.le_of_ble_eq_true rfl⟩) (m_preV (ci := 0) hK hM rfl o69) rfl rfl hl.1 rfl (lv_room (Nat.le_of_ble_eq_true rfl)) dX5_advise_29 ⟨Nat.le_of_ble_eq_true rfl, Nat.le_of_ble_eq_true rfl⟩) hL (fun H locs hM hL => ?_)
      refine lv_aload_n hx hb dX5_advise_32 rfl (lv_at hl 0 rfl) ?_
      refine m_getR (ci := 4) hx hb hU5 hown hK hM rfl 5 (by decide) w1 h dX5_advise_33 (fun r71 gr71 h => ?_)
      refine lv_iload_n hx hb dX5_advise_36 rfl (lv_at hl 1 rfl) ?_
      obtain ⟨o72, h⟩ := oi_some h
      obtain ⟨q73, hq73, h⟩ := ob_some h
      refine m_calli (va_runV (As := [.int x1]) (rest := []) ⟨hx, hb, hml, hown, hts⟩ (c_X0_passHours l G hq73) (cwV 1 hts gX5_advise_X0_passHours rfl rfl rfl hd_X0_passHoursv ⟨Nat.le_of_ble_eq_true rfl, Nat.le_of_ble_eq_true rfl⟩) (m_preV (ci := 0) hK hM rfl o72) rfl rfl hl.1 rfl (lv_room (Nat.le_of_ble_eq_true rfl)) dX5_advise_37 ⟨Nat.le_of_ble_eq_true rfl, Nat.le_of_ble_eq_true rfl⟩) hL (fun H locs hM hL => ?_)
      refine lv_pop hx hb dX5_advise_40 rfl ?_
      refine lv_iconst hx hb dX5_advise_41 kI_m1 ?_
      refine lv_istore_n (lv' := [(3, .int (-1 : Int32)), (0, .ref h0), (1, .int x1), (2, .int x2)]) hx hb dX5_advise_42 rfl hl (by decide) rfl (fun ls hl => ?_)
      refine lv_aload_n hx hb dX5_advise_43 rfl (lv_at hl 1 rfl) ?_
      refine m_getR (ci := 4) hx hb hU5 hown hK hM rfl 5 (by decide) w1 h dX5_advise_44 (fun r74 gr74 h => ?_)
      obtain ⟨o75, h⟩ := oi_some h
      obtain ⟨q76, hq76, h⟩ := ob_some h
      refine m_calli (va_runV (As := []) (rest := []) ⟨hx, hb, hml, hown, hts⟩ (c_X0_verdict l G hq76) (cwV 0 hts gX5_advise_X0_verdict rfl rfl rfl hd_X0_verdictv ⟨Nat.le_of_ble_eq_true rfl, Nat.le_of_ble_eq_true rfl⟩) (m_preV (ci := 0) hK hM rfl o75) rfl rfl hl.1 rfl (lv_room (Nat.le_of_ble_eq_true rfl)) dX5_advise_47 ⟨Nat.le_of_ble_eq_true rfl, Nat.le_of_ble_eq_true rfl⟩) hL (fun H locs hM hL => ?_)
      refine lv_istore (lv' := [(4, .int q76), (3, .int (-1 : Int32)), (0, .ref h0), (1, .int x1), (2, .int x2)]) hx hb dX5_advise_50 hl (by decide) rfl (fun ls hl => ?_)
      refine lv_iconst hx hb dX5_advise_52 kI_0 ?_
      refine lv_istore (lv' := [(5, .int (0 : Int32)), (4, .int q76), (3, .int (-1 : Int32)), (0, .ref h0), (1, .int x1), (2, .int x2)]) hx hb dX5_advise_53 hl (by decide) rfl (fun ls hl => ?_)
      refine hN55 _ _ _ _ _ _ _ _ h _ _ _ hM hL (lv_sub hl [3, 4, 5, 2, 1, 0] rfl)
    · have h := (if_pos c66).symm.trans h
      refine lv_sipush hx hb dX5_advise_17 kS_m5000 ?_
      subst hQ
      have h := Option.some.inj h
      subst h
      exact m_iret hx hb hr hM hL dX5_advise_20 hlocks
abbrev rm_X5_turn : Room := { frames := 2, cells := 0, slots := 0, locals := 43 }
set_option maxHeartbeats 4000000 in
set_option maxRecDepth 100000 in
theorem c_X5_turn (l : Launch) (G : mG) {h0 : Nat} {x1 : Int32} {σ : mS} {z : Int32} (h : f_X5_turn h0 x1 σ = some z) : Met l yX5_turn wsX5_turn rm_X5_turn (va_Pc [.ref h0, .int x1] (mB G σ)) (mQ G (.returned (some (.int z))) (σ)) 0 0 (mF G) := by
  refine m_start (cc := cX5_turn) (maxL := 8) (ret := (some .int)) (by decide) rfl [.ref h0, .int x1] (Nat.le_of_ble_eq_true rfl) ?_
  intro p e s m args below meth c ls hx hb hr hml hown hts hlocks hnm hK hM hl
  have hown : s.vm.findClass RX5 = some m.cls := hown
  have hnm : meth.name = "turn" := hnm
  obtain ⟨locs, hlocs⟩ : ∃ l : List Loc, l = [] := ⟨_, rfl⟩
  have hL : mL G locs := by rw [hlocs]; exact mL_nil G
  rw [← hlocs]
  generalize s.heap = H at hM ⊢
  have hl : lv_has ls 8 [(0, .ref h0), (1, .int x1)] := hl
  obtain ⟨Q, hQ⟩ : ∃ Q, Q = MQ below (mQ G (.returned (some (.int z))) (σ)) args s 0 0 (mF G) := ⟨_, rfl⟩
  rw [← hQ]
  have hU5 : ∀ w ∈ wsX50, w.before args s = true := fun w h => hts w (List.mem_cons_of_mem _ (List.mem_append_left _ (List.mem_append_right _ h)))
  have w1 := (hts (.fieldLink RX5 44 "HandkerchiefsDropped" "now" "LHandkerchiefsDropped$Assize;") (List.mem_of_getElem? (i := 1) rfl))
  have hU0 : ∀ w ∈ wsX00, w.before args s = true := fun w h => hts w (List.mem_cons_of_mem _ (List.mem_append_right _ h))
  have hN35 : ∀ (n : Nat) (h0 : Nat) (x1 : Int32) (x2 : Int32) (x3 : Int32) (x4 : Int32) (x5 : Int32), f_X5_turn_35 σ n h0 x1 x2 x3 x4 x5 = some z → ∀ (H : Heap) (locs : List Loc) (ls : Array Slot), mP G σ H → mL G locs → lv_has ls 8 [(0, .ref h0), (1, .int x1), (2, .int x2), (3, .int x3), (4, .int x4), (5, .int x5)] → W p l e rm_X5_turn s m args below meth c H locs 0 0 Q (F0 m 35 ls []) := by
    intro n
    induction n with
    | zero =>
      intro h0 x1 x2 x3 x4 x5 h
      exact nomatch (show (none : Option Int32) = some z from h)
    | succ n ih =>
      intro h0 x1 x2 x3 x4 x5 h H locs ls hM hL hl
      rw [f_X5_turn_35.eq_2] at h
      refine lv_iload hx hb dX5_turn_35 (lv_at hl 5 rfl) ?_
      refine lv_sipush hx hb dX5_turn_37 kS_1023 ?_
      refine lv_icmp_gt (tgt := 130) hx hb dX5_turn_40 (by decide) (fun c29 => ?_) (fun c29 => ?_)
      · have h := (if_pos c29).symm.trans h
        refine lv_iload_n hx hb dX5_turn_130 rfl (lv_at hl 1 rfl) ?_
        refine lv_if_ne (tgt := 138) hx hb dX5_turn_131 (by decide) (fun c30 => ?_) (fun c30 => ?_)
        · have h := (if_neg c30).symm.trans h
          refine lv_iload hx hb dX5_turn_138 (lv_at hl 4 rfl) ?_
          subst hQ
          have h := Option.some.inj h
          subst h
          exact m_iret hx hb hr hM hL dX5_turn_140 hlocks
        · have h := (if_pos c30).symm.trans h
          refine lv_iload_n hx hb dX5_turn_134 rfl (lv_at hl 3 rfl) ?_
          refine lv_goto (tgt := 140) hx hb dX5_turn_135 (by decide) ?_
          subst hQ
          have h := Option.some.inj h
          subst h
          exact m_iret hx hb hr hM hL dX5_turn_140 hlocks
      · have h := (if_neg c29).symm.trans h
        refine lv_iload hx hb dX5_turn_43 (lv_at hl 5 rfl) ?_
        refine m_calli (va_runS (As := [.int x5]) (rest := []) ⟨hx, hb, hml, hown, hts⟩ (c_J6_bitCount l G x5) (va_cwS 1 hts gX5_turn_J6_bitCount_0f7a4 rfl rfl rfl hd_J6_bitCount ⟨Nat.le_of_ble_eq_true rfl, Nat.le_of_ble_eq_true rfl⟩) (m_preS hK hM) rfl rfl hl.1 rfl (lv_room (Nat.le_of_ble_eq_true rfl)) dX5_turn_45 ⟨Nat.le_of_ble_eq_true rfl, Nat.le_of_ble_eq_true rfl⟩) hL (fun H locs hM hL => ?_)
        refine lv_topi (fun v31 ev31 => ?_)
        have h := vl_at ev31 h
        refine lv_istore (lv' := [(6, .int v31), (0, .ref h0), (1, .int x1), (2, .int x2), (3, .int x3), (4, .int x4), (5, .int x5)]) hx hb dX5_turn_48 hl (by decide) rfl (fun ls hl => ?_)
        refine lv_iload hx hb dX5_turn_50 (lv_at hl 6 rfl) ?_
        refine lv_aload_n hx hb dX5_turn_52 rfl (lv_at hl 1 rfl) ?_
        refine m_getR (ci := 4) hx hb hU5 hown hK hM rfl 3 (by decide) w1 h dX5_turn_53 (fun r32 gr32 h => ?_)
        refine m_getIN (ci := 0) (host := RX5) hx hb hU0 hown hK hM rfl 11 (by decide) (List.mem_of_getElem? (i := 14) rfl) h dX5_turn_56 (fun v33 gv33 h => ?_)
        refine lv_iand hx hb dX5_turn_59 ?_
        suffices hJ : ∀ (v37 : Int32) (ls : Array Slot), v37 = (if (x5 &&& v33) = 0 then if x4 = (-1 : Int32) then (1 : Int32) else if x4 ≤ v31 then (0 : Int32) else (1 : Int32) else (0 : Int32)) → lv_has ls 8 [(0, .ref h0), (1, .int x1), (2, .int x2), (3, .int x3), (4, .int x4), (5, .int x5), (6, .int v31)] → W p l e rm_X5_turn s m args below meth c H locs 0 0 Q (F0 m 81 ls [.int v37]) by
          refine lv_if_ne (tgt := 80) hx hb dX5_turn_60 (by decide) (fun c34 => ?_) (fun c34 => ?_)
          · refine lv_iconst hx hb dX5_turn_80 kI_0 ?_
            exact hJ _ _ (((if_neg c34).trans rfl).symm) (lv_sub hl [1, 2, 3, 4, 5, 6, 0] rfl)
          · refine lv_iload hx hb dX5_turn_63 (lv_at hl 5 rfl) ?_
            refine lv_iconst hx hb dX5_turn_65 kI_m1 ?_
            refine lv_icmp_eq (tgt := 76) hx hb dX5_turn_66 (by decide) (fun c35 => ?_) (fun c35 => ?_)
            · refine lv_iconst hx hb dX5_turn_76 kI_1 ?_
              refine lv_goto (tgt := 81) hx hb dX5_turn_77 (by decide) ?_
              exact hJ _ _ (((if_pos c34).trans ((if_pos c35).trans rfl)).symm) (lv_sub hl [1, 2, 3, 4, 5, 6, 0] rfl)
            · refine lv_iload hx hb dX5_turn_69 (lv_at hl 0 rfl) ?_
              refine lv_iload hx hb dX5_turn_71 (lv_at hl 5 rfl) ?_
              refine lv_icmp_ge (tgt := 80) hx hb dX5_turn_73 (by decide) (fun c36 => ?_) (fun c36 => ?_)
              · refine lv_iconst hx hb dX5_turn_80 kI_0 ?_
                exact hJ _ _ (((if_pos c34).trans ((if_neg c35).trans ((if_pos c36).trans rfl))).symm) (lv_sub hl [1, 2, 3, 4, 5, 6, 0] rfl)
              · refine lv_iconst hx hb dX5_turn_76 kI_1 ?_
                refine lv_goto (tgt := 81) hx hb dX5_turn_77 (by decide) ?_
                exact hJ _ _ (((if_pos c34).trans ((if_neg c35).trans ((if_neg c36).trans rfl))).symm) (lv_sub hl [1, 2, 3, 4, 5, 6, 0] rfl)
        intro v37 ls ev37 hl
        have h := vl_at ev37 h
        refine lv_istore (lv' := [(7, .int v37), (0, .ref h0), (1, .int x1), (2, .int x2), (3, .int x3), (4, .int x4), (5, .int x5), (6, .int v31)]) hx hb dX5_turn_81 hl (by decide) rfl (fun ls hl => ?_)
        refine lv_iload hx hb dX5_turn_83 (lv_at hl 0 rfl) ?_
        refine lv_if_eq (tgt := 124) hx hb dX5_turn_85 (by decide) (fun c38 => ?_) (fun c38 => ?_)
        · have h := (if_pos c38).symm.trans h
          obtain ⟨v39, ev39⟩ : ∃ y : Int32, y = x5 + (1 : Int32) := ⟨_, rfl⟩
          have h := vl_at ev39 h
          refine lv_iinc (v := v39) (lv' := [(5, .int v39), (7, .int v37), (0, .ref h0), (1, .int x1), (2, .int x2), (3, .int x3), (4, .int x4), (6, .int v31)]) hx hb dX5_turn_124 hl (k := 6) rfl (by rw [ev39, kI_1]) (by decide) rfl (fun ls hl => ?_)
          refine lv_goto (tgt := 35) hx hb dX5_turn_127 (by decide) ?_
          exact ih _ _ _ _ _ _ h _ _ _ hM hL (lv_sub hl [2, 3, 4, 5, 6, 0] rfl)
        · have h := (if_neg c38).symm.trans h
          refine lv_aload_n hx hb dX5_turn_88 rfl (lv_at hl 1 rfl) ?_
          refine m_getR (ci := 4) hx hb hU5 hown hK hM rfl 3 (by decide) w1 h dX5_turn_89 (fun r40 gr40 h => ?_)
          refine lv_aload_n hx hb dX5_turn_92 rfl (lv_at hl 1 rfl) ?_
          refine m_getR (ci := 4) hx hb hU5 hown hK hM rfl 3 (by decide) w1 h dX5_turn_93 (fun r41 gr41 h => ?_)
          refine m_getIN (ci := 0) (host := RX5) hx hb hU0 hown hK hM rfl 11 (by decide) (List.mem_of_getElem? (i := 14) rfl) h dX5_turn_96 (fun v42 gv42 h => ?_)
          refine lv_iload hx hb dX5_turn_99 (lv_at hl 6 rfl) ?_
          refine lv_ior hx hb dX5_turn_101 ?_
          obtain ⟨o43, h⟩ := oi_some h
          obtain ⟨q44, hq44, h⟩ := ob_some h
          refine m_calli (va_runV (As := [.int (v42 ||| x5)]) (rest := []) ⟨hx, hb, hml, hown, hts⟩ (c_X0_weightOf l G hq44) (cwV 1 hts gX5_turn_X0_weightOf rfl rfl rfl hd_X0_weightOfv ⟨Nat.le_of_ble_eq_true rfl, Nat.le_of_ble_eq_true rfl⟩) (m_preV (ci := 0) hK hM rfl o43) rfl rfl hl.1 rfl (lv_room (Nat.le_of_ble_eq_true rfl)) dX5_turn_102 ⟨Nat.le_of_ble_eq_true rfl, Nat.le_of_ble_eq_true rfl⟩) hL (fun H locs hM hL => ?_)
          suffices hJ : ∀ (v46 : Int32) (ls : Array Slot), v46 = (if q44 ≤ 0 then (0 : Int32) else (1 : Int32)) → lv_has ls 8 [(0, .ref h0), (1, .int x1), (2, .int x2), (3, .int x3), (4, .int x4), (5, .int x5), (6, .int v31)] → W p l e rm_X5_turn s m args below meth c H locs 0 0 Q (F0 m 113 ls [.int v46]) by
            refine lv_if_le (tgt := 112) hx hb dX5_turn_105 (by decide) (fun c45 => ?_) (fun c45 => ?_)
            · refine lv_iconst hx hb dX5_turn_112 kI_0 ?_
              exact hJ _ _ (((if_pos c45).trans rfl).symm) (lv_sub hl [1, 2, 3, 4, 5, 6, 7] rfl)
            · refine lv_iconst hx hb dX5_turn_108 kI_1 ?_
              refine lv_goto (tgt := 113) hx hb dX5_turn_109 (by decide) ?_
              exact hJ _ _ (((if_neg c45).trans rfl).symm) (lv_sub hl [1, 2, 3, 4, 5, 6, 7] rfl)
          intro v46 ls ev46 hl
          have h := vl_at ev46 h
          refine lv_iload_n hx hb dX5_turn_113 rfl (lv_at hl 2 rfl) ?_
          suffices hJ : ∀ (v48 : Int32) (v49 : Int32) (ls : Array Slot), v48 = (if v46 = x2 then x3 else x5) → v49 = (if v46 = x2 then x4 else v31) → lv_has ls 8 [(0, .ref h0), (1, .int x1), (2, .int x2), (3, .int v48), (4, .int v49), (5, .int x5)] → W p l e rm_X5_turn s m args below meth c H locs 0 0 Q (F0 m 124 ls []) by
            refine lv_icmp_eq (tgt := 124) hx hb dX5_turn_114 (by decide) (fun c47 => ?_) (fun c47 => ?_)
            · exact hJ _ _ _ (((if_pos c47).trans rfl).symm) (((if_pos c47).trans rfl).symm) (lv_sub hl [0, 1, 2, 3, 4, 5] rfl)
            · refine lv_iload hx hb dX5_turn_117 (lv_at hl 5 rfl) ?_
              refine lv_istore_n (lv' := [(3, .int x5), (0, .ref h0), (1, .int x1), (2, .int x2), (4, .int x4), (5, .int x5), (6, .int v31)]) hx hb dX5_turn_119 rfl hl (by decide) rfl (fun ls hl => ?_)
              refine lv_iload hx hb dX5_turn_120 (lv_at hl 6 rfl) ?_
              refine lv_istore (lv' := [(4, .int v31), (3, .int x5), (0, .ref h0), (1, .int x1), (2, .int x2), (5, .int x5), (6, .int v31)]) hx hb dX5_turn_122 hl (by decide) rfl (fun ls hl => ?_)
              exact hJ _ _ _ (((if_neg c47).trans rfl).symm) (((if_neg c47).trans rfl).symm) (lv_sub hl [2, 3, 4, 1, 0, 5] rfl)
          intro v48 v49 ls ev48 ev49 hl
          have h := vl_at ev48 h
          have h := vl_at ev49 h
          obtain ⟨v50, ev50⟩ : ∃ y : Int32, y = x5 + (1 : Int32) := ⟨_, rfl⟩
          have h := vl_at ev50 h
          refine lv_iinc (v := v50) (lv' := [(5, .int v50), (0, .ref h0), (1, .int x1), (2, .int x2), (3, .int v48), (4, .int v49)]) hx hb dX5_turn_124 hl (k := 5) rfl (by rw [ev50, kI_1]) (by decide) rfl (fun ls hl => ?_)
          refine lv_goto (tgt := 35) hx hb dX5_turn_127 (by decide) ?_
          exact ih _ _ _ _ _ _ h _ _ _ hM hL (lv_sub hl [1, 2, 3, 4, 5, 0] rfl)
  rw [f_X5_turn.eq_1] at h
  refine lv_iload_n hx hb dX5_turn_0 rfl (lv_at hl 1 rfl) ?_
  refine lv_iconst hx hb dX5_turn_1 kI_2 ?_
  refine m_calli (va_runS (As := [.int x1, .int (2 : Int32)]) (rest := []) ⟨hx, hb, hml, hown, hts⟩ (c_X5_isBelow l G x1 (2 : Int32)) (va_cwS 2 hts gX5_turn_X5_isBelow rfl rfl rfl hd_X5_isBelow ⟨Nat.le_of_ble_eq_true rfl, Nat.le_of_ble_eq_true rfl⟩) (m_preS hK hM) rfl rfl hl.1 rfl (lv_room (Nat.le_of_ble_eq_true rfl)) dX5_turn_2 ⟨Nat.le_of_ble_eq_true rfl, Nat.le_of_ble_eq_true rfl⟩) hL (fun H locs hM hL => ?_)
  refine lv_if_ne (tgt := 11) hx hb dX5_turn_5 (by decide) (fun c51 => ?_) (fun c51 => ?_)
  · have h := (if_neg c51).symm.trans h
    refine lv_aload_n hx hb dX5_turn_11 rfl (lv_at hl 0 rfl) ?_
    refine m_getR (ci := 4) hx hb hU5 hown hK hM rfl 3 (by decide) w1 h dX5_turn_12 (fun r52 gr52 h => ?_)
    obtain ⟨o53, h⟩ := oi_some h
    obtain ⟨q54, hq54, h⟩ := ob_some h
    refine m_calli (va_runV (As := []) (rest := []) ⟨hx, hb, hml, hown, hts⟩ (c_X0_verdict l G hq54) (cwV 0 hts gX5_turn_X0_verdict rfl rfl rfl hd_X0_verdictv ⟨Nat.le_of_ble_eq_true rfl, Nat.le_of_ble_eq_true rfl⟩) (m_preV (ci := 0) hK hM rfl o53) rfl rfl hl.1 rfl (lv_room (Nat.le_of_ble_eq_true rfl)) dX5_turn_15 ⟨Nat.le_of_ble_eq_true rfl, Nat.le_of_ble_eq_true rfl⟩) hL (fun H locs hM hL => ?_)
    suffices hJ : ∀ (v56 : Int32) (ls : Array Slot), v56 = (if q54 ≤ 0 then (0 : Int32) else (1 : Int32)) → lv_has ls 8 [(0, .ref h0), (1, .int x1)] → W p l e rm_X5_turn s m args below meth c H locs 0 0 Q (F0 m 26 ls [.int v56]) by
      refine lv_if_le (tgt := 25) hx hb dX5_turn_18 (by decide) (fun c55 => ?_) (fun c55 => ?_)
      · refine lv_iconst hx hb dX5_turn_25 kI_0 ?_
        exact hJ _ _ (((if_pos c55).trans rfl).symm) (lv_sub hl [0, 1] rfl)
      · refine lv_iconst hx hb dX5_turn_21 kI_1 ?_
        refine lv_goto (tgt := 26) hx hb dX5_turn_22 (by decide) ?_
        exact hJ _ _ (((if_neg c55).trans rfl).symm) (lv_sub hl [0, 1] rfl)
    intro v56 ls ev56 hl
    have h := vl_at ev56 h
    refine lv_istore_n (lv' := [(2, .int v56), (0, .ref h0), (1, .int x1)]) hx hb dX5_turn_26 rfl hl (by decide) rfl (fun ls hl => ?_)
    refine lv_iconst hx hb dX5_turn_27 kI_m1 ?_
    refine lv_istore_n (lv' := [(3, .int (-1 : Int32)), (2, .int v56), (0, .ref h0), (1, .int x1)]) hx hb dX5_turn_28 rfl hl (by decide) rfl (fun ls hl => ?_)
    refine lv_iconst hx hb dX5_turn_29 kI_m1 ?_
    refine lv_istore (lv' := [(4, .int (-1 : Int32)), (3, .int (-1 : Int32)), (2, .int v56), (0, .ref h0), (1, .int x1)]) hx hb dX5_turn_30 hl (by decide) rfl (fun ls hl => ?_)
    refine lv_iconst hx hb dX5_turn_32 kI_1 ?_
    refine lv_istore (lv' := [(5, .int (1 : Int32)), (4, .int (-1 : Int32)), (3, .int (-1 : Int32)), (2, .int v56), (0, .ref h0), (1, .int x1)]) hx hb dX5_turn_33 hl (by decide) rfl (fun ls hl => ?_)
    refine hN35 _ _ _ _ _ _ _ h _ _ _ hM hL (lv_sub hl [4, 5, 3, 2, 1, 0] rfl)
  · have h := (if_pos c51).symm.trans h
    refine lv_bipush hx hb dX5_turn_8 kB_m2 ?_
    subst hQ
    have h := Option.some.inj h
    subst h
    exact m_iret hx hb hr hM hL dX5_turn_10 hlocks
abbrev rm_X5_gallant : Room := { frames := 5, cells := 0, slots := 0, locals := 130 }
set_option maxHeartbeats 4000000 in
set_option maxRecDepth 100000 in
theorem c_X5_gallant (l : Launch) (G : mG) {h0 : Nat} {x1 : Int32} {x2 : Int32} {σ : mS} {z : Int32 × mS} (h : f_X5_gallant h0 x1 x2 σ = some z) : Met l yX5_gallant wsX5_gallant rm_X5_gallant (va_Pc [.ref h0, .int x1, .int x2] (mB G σ)) (mQ G (.returned (some (.int z.1))) z.2) 0 0 (mF G) := by
  refine m_start (cc := cX5_gallant) (maxL := 7) (ret := (some .int)) (by decide) rfl [.ref h0, .int x1, .int x2] (Nat.le_of_ble_eq_true rfl) ?_
  intro p e s m args below meth c ls hx hb hr hml hown hts hlocks hnm hK hM hl
  have hown : s.vm.findClass RX5 = some m.cls := hown
  have hnm : meth.name = "gallant" := hnm
  obtain ⟨locs, hlocs⟩ : ∃ l : List Loc, l = [] := ⟨_, rfl⟩
  have hL : mL G locs := by rw [hlocs]; exact mL_nil G
  rw [← hlocs]
  generalize s.heap = H at hM ⊢
  have hl : lv_has ls 7 [(0, .ref h0), (1, .int x1), (2, .int x2)] := hl
  obtain ⟨Q, hQ⟩ : ∃ Q, Q = MQ below (mQ G (.returned (some (.int z.1))) z.2) args s 0 0 (mF G) := ⟨_, rfl⟩
  rw [← hQ]
  have hU5 : ∀ w ∈ wsX50, w.before args s = true := fun w h => hts w (List.mem_cons_of_mem _ (List.mem_append_left _ (List.mem_append_left _ (List.mem_append_right _ h))))
  have w1 := (hts (.fieldLink RX5 51 "HandkerchiefsDropped" "thought" "LHandkerchiefsDropped$Assize;") (List.mem_of_getElem? (i := 1) rfl))
  have w2 := (hts (.fieldLink RX5 44 "HandkerchiefsDropped" "now" "LHandkerchiefsDropped$Assize;") (List.mem_of_getElem? (i := 2) rfl))
  have hU0 : ∀ w ∈ wsX00, w.before args s = true := fun w h => hts w (List.mem_cons_of_mem _ (List.mem_append_left _ (List.mem_append_right _ h)))
  have w4 := (hts (.methodLink RX5 191 Lib.Math.max.name) (List.mem_of_getElem? (i := 3) rfl))
  have w5 := (hts (.static Lib.Math.max.name) (List.mem_of_getElem? (i := 4) rfl))
  have w6 := (hts (.initialized "java/lang/Math") (List.mem_of_getElem? (i := 5) rfl))
  have w7 := (hts (.code Lib.Math.max.name Lib.Math.max.code 2 (some .int)) (List.mem_of_getElem? (i := 6) rfl))
  have hN57 : ∀ (n : Nat) (h0 : Nat) (x1 : Int32) (x2 : Int32) (x3 : Int32) (x4 : Int32) (x5 : Int32) (σ : mS), f_X5_gallant_57 n h0 x1 x2 x3 x4 x5 σ = some z → ∀ (H : Heap) (locs : List Loc) (ls : Array Slot), mP G σ H → mL G locs → lv_has ls 7 [(0, .ref h0), (1, .int x1), (2, .int x2), (3, .int x3), (4, .int x4), (5, .int x5)] → W p l e rm_X5_gallant s m args below meth c H locs 0 0 Q (F0 m 57 ls []) := by
    intro n
    induction n with
    | zero =>
      intro h0 x1 x2 x3 x4 x5 σ h
      exact nomatch (show (none : Option (Int32 × mS)) = some z from h)
    | succ n ih =>
      intro h0 x1 x2 x3 x4 x5 σ h H locs ls hM hL hl
      rw [f_X5_gallant_57.eq_2] at h
      refine lv_iload hx hb dX5_gallant_57 (lv_at hl 5 rfl) ?_
      refine lv_bipush hx hb dX5_gallant_59 kB_6 ?_
      refine lv_icmp_ge (tgt := 137) hx hb dX5_gallant_61 (by decide) (fun c32 => ?_) (fun c32 => ?_)
      · have h := (if_pos c32).symm.trans h
        refine lv_iload_n hx hb dX5_gallant_137 rfl (lv_at hl 2 rfl) ?_
        refine lv_if_ne (tgt := 145) hx hb dX5_gallant_138 (by decide) (fun c33 => ?_) (fun c33 => ?_)
        · have h := (if_neg c33).symm.trans h
          refine lv_iload hx hb dX5_gallant_145 (lv_at hl 4 rfl) ?_
          subst hQ
          have h := Option.some.inj h
          subst h
          exact m_iret hx hb hr hM hL dX5_gallant_147 hlocks
        · have h := (if_pos c33).symm.trans h
          refine lv_iload_n hx hb dX5_gallant_141 rfl (lv_at hl 3 rfl) ?_
          refine lv_goto (tgt := 147) hx hb dX5_gallant_142 (by decide) ?_
          subst hQ
          have h := Option.some.inj h
          subst h
          exact m_iret hx hb hr hM hL dX5_gallant_147 hlocks
      · have h := (if_neg c32).symm.trans h
        refine lv_aload_n hx hb dX5_gallant_64 rfl (lv_at hl 0 rfl) ?_
        refine m_getR (ci := 4) hx hb hU5 hown hK hM rfl 5 (by decide) w1 h dX5_gallant_65 (fun r34 gr34 h => ?_)
        refine lv_aload_n hx hb dX5_gallant_68 rfl (lv_at hl 0 rfl) ?_
        refine m_getR (ci := 4) hx hb hU5 hown hK hM rfl 3 (by decide) w2 h dX5_gallant_69 (fun r35 gr35 h => ?_)
        obtain ⟨o36, h⟩ := oi_some h
        obtain ⟨q37, hq37, h⟩ := ob_some h
        refine m_callv (va_runV (As := [.ref r35]) (rest := []) ⟨hx, hb, hml, hown, hts⟩ (c_X0_become l G hq37) (cwV 1 hts gX5_gallant_X0_become rfl rfl rfl hd_X0_becomev ⟨Nat.le_of_ble_eq_true rfl, Nat.le_of_ble_eq_true rfl⟩) (m_preV (ci := 0) hK hM rfl o36) rfl rfl hl.1 rfl (lv_room (Nat.le_of_ble_eq_true rfl)) dX5_gallant_72 ⟨Nat.le_of_ble_eq_true rfl, Nat.le_of_ble_eq_true rfl⟩) hL (fun H locs hM hL => ?_)
        refine lv_aload_n hx hb dX5_gallant_75 rfl (lv_at hl 0 rfl) ?_
        refine m_getR (ci := 4) hx hb hU5 hown hK hM rfl 5 (by decide) w1 h dX5_gallant_76 (fun r38 gr38 h => ?_)
        refine m_getRN (ci := 0) (host := RX5) hx hb hU0 hown hK hM rfl 1 (by decide) (List.mem_of_getElem? (i := 4) rfl) h dX5_gallant_79 (fun r39 gr39 h => ?_)
        refine lv_iload hx hb dX5_gallant_82 (lv_at hl 5 rfl) ?_
        refine lv_bipush hx hb dX5_gallant_84 kB_99 ?_
        refine m_iast hx hb hK hM hL h dX5_gallant_86 (fun t40 H locs h hM hL => ?_)
        refine lv_aload_n hx hb dX5_gallant_87 rfl (lv_at hl 0 rfl) ?_
        refine m_getR (ci := 4) hx hb hU5 hown hK hM rfl 5 (by decide) w1 h dX5_gallant_88 (fun r41 gr41 h => ?_)
        refine lv_iload_n hx hb dX5_gallant_91 rfl (lv_at hl 1 rfl) ?_
        obtain ⟨o42, h⟩ := oi_some h
        obtain ⟨q43, hq43, h⟩ := ob_some h
        refine m_calli (va_runV (As := [.int x1]) (rest := []) ⟨hx, hb, hml, hown, hts⟩ (c_X0_passHours l G hq43) (cwV 1 hts gX5_gallant_X0_passHours rfl rfl rfl hd_X0_passHoursv ⟨Nat.le_of_ble_eq_true rfl, Nat.le_of_ble_eq_true rfl⟩) (m_preV (ci := 0) hK hM rfl o42) rfl rfl hl.1 rfl (lv_room (Nat.le_of_ble_eq_true rfl)) dX5_gallant_92 ⟨Nat.le_of_ble_eq_true rfl, Nat.le_of_ble_eq_true rfl⟩) hL (fun H locs hM hL => ?_)
        refine lv_pop hx hb dX5_gallant_95 rfl ?_
        refine lv_aload_n hx hb dX5_gallant_96 rfl (lv_at hl 0 rfl) ?_
        refine m_getR (ci := 4) hx hb hU5 hown hK hM rfl 5 (by decide) w1 h dX5_gallant_97 (fun r44 gr44 h => ?_)
        refine m_getIN (ci := 0) (host := RX5) hx hb hU0 hown hK hM rfl 11 (by decide) (List.mem_of_getElem? (i := 14) rfl) h dX5_gallant_100 (fun v45 gv45 h => ?_)
        refine m_calli (va_runS (As := [.int v45]) (rest := []) ⟨hx, hb, hml, hown, hts⟩ (c_J6_bitCount l G v45) (va_cwS 1 hts gX5_gallant_J6_bitCount_0f7a4 rfl rfl rfl hd_J6_bitCount ⟨Nat.le_of_ble_eq_true rfl, Nat.le_of_ble_eq_true rfl⟩) (m_preS hK hM) rfl rfl hl.1 rfl (lv_room (Nat.le_of_ble_eq_true rfl)) dX5_gallant_103 ⟨Nat.le_of_ble_eq_true rfl, Nat.le_of_ble_eq_true rfl⟩) hL (fun H locs hM hL => ?_)
        refine lv_topi (fun v46 ev46 => ?_)
        have h := vl_at ev46 h
        refine lv_istore (lv' := [(6, .int v46), (0, .ref h0), (1, .int x1), (2, .int x2), (3, .int x3), (4, .int x4), (5, .int x5)]) hx hb dX5_gallant_106 hl (by decide) rfl (fun ls hl => ?_)
        refine lv_iload hx hb dX5_gallant_108 (lv_at hl 0 rfl) ?_
        refine lv_iload hx hb dX5_gallant_110 (lv_at hl 5 rfl) ?_
        suffices hJ : ∀ (v48 : Int32) (ls : Array Slot), v48 = (if v46 ≤ x4 then x3 else x5) → lv_has ls 7 [(0, .ref h0), (1, .int x1), (2, .int x2), (4, .int x4), (5, .int x5), (6, .int v46)] → W p l e rm_X5_gallant s m args below meth c H locs 0 0 Q (F0 m 121 ls [.int v48]) by
          refine lv_icmp_le (tgt := 120) hx hb dX5_gallant_112 (by decide) (fun c47 => ?_) (fun c47 => ?_)
          · refine lv_iload_n hx hb dX5_gallant_120 rfl (lv_at hl 4 rfl) ?_
            exact hJ _ _ (((if_pos c47).trans rfl).symm) (lv_sub hl [1, 2, 3, 5, 6, 0] rfl)
          · refine lv_iload hx hb dX5_gallant_115 (lv_at hl 6 rfl) ?_
            refine lv_goto (tgt := 121) hx hb dX5_gallant_117 (by decide) ?_
            exact hJ _ _ (((if_neg c47).trans rfl).symm) (lv_sub hl [1, 2, 3, 5, 6, 0] rfl)
        intro v48 ls ev48 hl
        have h := vl_at ev48 h
        refine lv_istore_n (lv' := [(3, .int v48), (0, .ref h0), (1, .int x1), (2, .int x2), (4, .int x4), (5, .int x5), (6, .int v46)]) hx hb dX5_gallant_121 rfl hl (by decide) rfl (fun ls hl => ?_)
        refine lv_iload hx hb dX5_gallant_122 (lv_at hl 6 rfl) ?_
        refine lv_iload hx hb dX5_gallant_124 (lv_at hl 4 rfl) ?_
        refine va_mmax hx hb (hml.trans hl.1.symm) hown w4 w5 w6 w7 (Nat.le_of_ble_eq_true rfl) (Nat.le_of_ble_eq_true rfl) (Nat.le_of_ble_eq_true rfl) (Nat.le_of_ble_eq_true rfl) dX5_gallant_126 ?_
        refine lv_topi (fun v49 ev49 => ?_)
        have h := vl_at ev49 h
        refine lv_istore (lv' := [(4, .int v49), (3, .int v48), (0, .ref h0), (1, .int x1), (2, .int x2), (5, .int x5), (6, .int v46)]) hx hb dX5_gallant_129 hl (by decide) rfl (fun ls hl => ?_)
        obtain ⟨v50, ev50⟩ : ∃ y : Int32, y = x5 + (1 : Int32) := ⟨_, rfl⟩
        have h := vl_at ev50 h
        refine lv_iinc (v := v50) (lv' := [(5, .int v50), (4, .int v49), (3, .int v48), (0, .ref h0), (1, .int x1), (2, .int x2), (6, .int v46)]) hx hb dX5_gallant_131 hl (k := 5) rfl (by rw [ev50, kI_1]) (by decide) rfl (fun ls hl => ?_)
        refine lv_goto (tgt := 57) hx hb dX5_gallant_134 (by decide) ?_
        exact ih _ _ _ _ _ _ _ h _ _ _ hM hL (lv_sub hl [3, 4, 5, 2, 1, 0] rfl)
  rw [f_X5_gallant.eq_1] at h
  refine lv_iload_n hx hb dX5_gallant_0 rfl (lv_at hl 1 rfl) ?_
  refine lv_bipush hx hb dX5_gallant_1 kB_41 ?_
  refine m_calli (va_runS (As := [.int x1, .int (41 : Int32)]) (rest := []) ⟨hx, hb, hml, hown, hts⟩ (c_X5_isBelow l G x1 (41 : Int32)) (va_cwS 2 hts gX5_gallant_X5_isBelow rfl rfl rfl hd_X5_isBelow ⟨Nat.le_of_ble_eq_true rfl, Nat.le_of_ble_eq_true rfl⟩) (m_preS hK hM) rfl rfl hl.1 rfl (lv_room (Nat.le_of_ble_eq_true rfl)) dX5_gallant_3 ⟨Nat.le_of_ble_eq_true rfl, Nat.le_of_ble_eq_true rfl⟩) hL (fun H locs hM hL => ?_)
  refine lv_if_eq (tgt := 17) hx hb dX5_gallant_6 (by decide) (fun c51 => ?_) (fun c51 => ?_)
  · have h := (if_pos c51).symm.trans h
    refine lv_bipush hx hb dX5_gallant_17 kB_m2 ?_
    subst hQ
    have h := Option.some.inj h
    subst h
    exact m_iret hx hb hr hM hL dX5_gallant_19 hlocks
  · have h := (if_neg c51).symm.trans h
    refine lv_iload_n hx hb dX5_gallant_9 rfl (lv_at hl 2 rfl) ?_
    refine lv_iconst hx hb dX5_gallant_10 kI_2 ?_
    refine m_calli (va_runS (As := [.int x2, .int (2 : Int32)]) (rest := []) ⟨hx, hb, hml, hown, hts⟩ (c_X5_isBelow l G x2 (2 : Int32)) (va_cwS 2 hts gX5_gallant_X5_isBelow rfl rfl rfl hd_X5_isBelow ⟨Nat.le_of_ble_eq_true rfl, Nat.le_of_ble_eq_true rfl⟩) (m_preS hK hM) rfl rfl hl.1 rfl (lv_room (Nat.le_of_ble_eq_true rfl)) dX5_gallant_11 ⟨Nat.le_of_ble_eq_true rfl, Nat.le_of_ble_eq_true rfl⟩) hL (fun H locs hM hL => ?_)
    refine lv_if_ne (tgt := 20) hx hb dX5_gallant_14 (by decide) (fun c52 => ?_) (fun c52 => ?_)
    · have h := (if_neg c52).symm.trans h
      refine lv_aload_n hx hb dX5_gallant_20 rfl (lv_at hl 0 rfl) ?_
      refine m_getR (ci := 4) hx hb hU5 hown hK hM rfl 5 (by decide) w1 h dX5_gallant_21 (fun r53 gr53 h => ?_)
      refine lv_aload_n hx hb dX5_gallant_24 rfl (lv_at hl 0 rfl) ?_
      refine m_getR (ci := 4) hx hb hU5 hown hK hM rfl 3 (by decide) w2 h dX5_gallant_25 (fun r54 gr54 h => ?_)
      obtain ⟨o55, h⟩ := oi_some h
      obtain ⟨q56, hq56, h⟩ := ob_some h
      refine m_callv (va_runV (As := [.ref r54]) (rest := []) ⟨hx, hb, hml, hown, hts⟩ (c_X0_become l G hq56) (cwV 1 hts gX5_gallant_X0_become rfl rfl rfl hd_X0_becomev ⟨Nat.le_of_ble_eq_true rfl, Nat.le_of_ble_eq_true rfl⟩) (m_preV (ci := 0) hK hM rfl o55) rfl rfl hl.1 rfl (lv_room (Nat.le_of_ble_eq_true rfl)) dX5_gallant_28 ⟨Nat.le_of_ble_eq_true rfl, Nat.le_of_ble_eq_true rfl⟩) hL (fun H locs hM hL => ?_)
      refine lv_aload_n hx hb dX5_gallant_31 rfl (lv_at hl 0 rfl) ?_
      refine m_getR (ci := 4) hx hb hU5 hown hK hM rfl 5 (by decide) w1 h dX5_gallant_32 (fun r57 gr57 h => ?_)
      refine lv_iload_n hx hb dX5_gallant_35 rfl (lv_at hl 1 rfl) ?_
      obtain ⟨o58, h⟩ := oi_some h
      obtain ⟨q59, hq59, h⟩ := ob_some h
      refine m_calli (va_runV (As := [.int x1]) (rest := []) ⟨hx, hb, hml, hown, hts⟩ (c_X0_passHours l G hq59) (cwV 1 hts gX5_gallant_X0_passHours rfl rfl rfl hd_X0_passHoursv ⟨Nat.le_of_ble_eq_true rfl, Nat.le_of_ble_eq_true rfl⟩) (m_preV (ci := 0) hK hM rfl o58) rfl rfl hl.1 rfl (lv_room (Nat.le_of_ble_eq_true rfl)) dX5_gallant_36 ⟨Nat.le_of_ble_eq_true rfl, Nat.le_of_ble_eq_true rfl⟩) hL (fun H locs hM hL => ?_)
      refine lv_pop hx hb dX5_gallant_39 rfl ?_
      refine lv_iconst hx hb dX5_gallant_40 kI_m1 ?_
      refine lv_istore_n (lv' := [(3, .int (-1 : Int32)), (0, .ref h0), (1, .int x1), (2, .int x2)]) hx hb dX5_gallant_41 rfl hl (by decide) rfl (fun ls hl => ?_)
      refine lv_aload_n hx hb dX5_gallant_42 rfl (lv_at hl 1 rfl) ?_
      refine m_getR (ci := 4) hx hb hU5 hown hK hM rfl 5 (by decide) w1 h dX5_gallant_43 (fun r60 gr60 h => ?_)
      refine m_getIN (ci := 0) (host := RX5) hx hb hU0 hown hK hM rfl 11 (by decide) (List.mem_of_getElem? (i := 14) rfl) h dX5_gallant_46 (fun v61 gv61 h => ?_)
      refine m_calli (va_runS (As := [.int v61]) (rest := []) ⟨hx, hb, hml, hown, hts⟩ (c_J6_bitCount l G v61) (va_cwS 1 hts gX5_gallant_J6_bitCount_0f7a4 rfl rfl rfl hd_J6_bitCount ⟨Nat.le_of_ble_eq_true rfl, Nat.le_of_ble_eq_true rfl⟩) (m_preS hK hM) rfl rfl hl.1 rfl (lv_room (Nat.le_of_ble_eq_true rfl)) dX5_gallant_49 ⟨Nat.le_of_ble_eq_true rfl, Nat.le_of_ble_eq_true rfl⟩) hL (fun H locs hM hL => ?_)
      refine lv_topi (fun v62 ev62 => ?_)
      have h := vl_at ev62 h
      refine lv_istore (lv' := [(4, .int v62), (3, .int (-1 : Int32)), (0, .ref h0), (1, .int x1), (2, .int x2)]) hx hb dX5_gallant_52 hl (by decide) rfl (fun ls hl => ?_)
      refine lv_iconst hx hb dX5_gallant_54 kI_0 ?_
      refine lv_istore (lv' := [(5, .int (0 : Int32)), (4, .int v62), (3, .int (-1 : Int32)), (0, .ref h0), (1, .int x1), (2, .int x2)]) hx hb dX5_gallant_55 hl (by decide) rfl (fun ls hl => ?_)
      refine hN57 _ _ _ _ _ _ _ _ h _ _ _ hM hL (lv_sub hl [3, 4, 5, 2, 1, 0] rfl)
    · have h := (if_pos c52).symm.trans h
      refine lv_bipush hx hb dX5_gallant_17 kB_m2 ?_
      subst hQ
      have h := Option.some.inj h
      subst h
      exact m_iret hx hb hr hM hL dX5_gallant_19 hlocks
abbrev rm_X5_tryLongerRows (fE lE : Nat) : Room := { frames := fE + 5, cells := 0, slots := 0, locals := lE + 130 }
set_option maxHeartbeats 4000000 in
set_option maxRecDepth 100000 in
theorem c_X5_tryLongerRows (l : Launch) (G : mG) {E : Nat → Int32 → Int32 → Int32 → Int32 → mS → Option mS} (fE lE : Nat) (hE : ∀ (a0 : Nat) (a1 : Int32) (a2 : Int32) (a3 : Int32) (a4 : Int32) (τ : mS) (q : mS), E a0 a1 a2 a3 a4 τ = some q → Met l yX5_tryRow wsX5_tryRow { frames := fE, cells := 0, slots := 0, locals := lE } (va_Pc [.ref a0, .int a1, .int a2, .int a3, .int a4] (mB G τ)) (mQ G (.returned none) q) 0 0 (mF G)) {h0 : Nat} {x1 : Int32} {x2 : Int32} {x3 : Int32} {x4 : Int32} {σ : mS} {z : mS} (h : f_X5_tryLongerRows E h0 x1 x2 x3 x4 σ = some z) : Met l yX5_tryLongerRows wsX5_tryLongerRows (rm_X5_tryLongerRows fE lE) (va_Pc [.ref h0, .int x1, .int x2, .int x3, .int x4] (mB G σ)) (mQ G (.returned none) z) 0 0 (mF G) := by
  refine m_start (cc := cX5_tryLongerRows) (maxL := 8) (ret := none) (by decide) rfl [.ref h0, .int x1, .int x2, .int x3, .int x4] (Nat.le_of_ble_eq_true rfl) ?_
  intro p e s m args below meth c ls hx hb hr hml hown hts hlocks hnm hK hM hl
  have hown : s.vm.findClass RX5 = some m.cls := hown
  have hnm : meth.name = "tryLongerRows" := hnm
  obtain ⟨locs, hlocs⟩ : ∃ l : List Loc, l = [] := ⟨_, rfl⟩
  have hL : mL G locs := by rw [hlocs]; exact mL_nil G
  rw [← hlocs]
  generalize s.heap = H at hM ⊢
  have hl : lv_has ls 8 [(0, .ref h0), (1, .int x1), (2, .int x2), (3, .int x3), (4, .int x4)] := hl
  obtain ⟨Q, hQ⟩ : ∃ Q, Q = MQ below (mQ G (.returned none) z) args s 0 0 (mF G) := ⟨_, rfl⟩
  rw [← hQ]
  have hU5 : ∀ w ∈ wsX50, w.before args s = true := fun w h => hts w (List.mem_cons_of_mem _ (List.mem_append_left _ (List.mem_append_left _ (List.mem_append_right _ h))))
  have w1 := (hts (.fieldLink RX5 30 "HandkerchiefsDropped" "behind" "[LHandkerchiefsDropped$Assize;") (List.mem_of_getElem? (i := 1) rfl))
  have hU0 : ∀ w ∈ wsX00, w.before args s = true := fun w h => hts w (List.mem_cons_of_mem _ (List.mem_append_left _ (List.mem_append_right _ h)))
  have hN33 : ∀ (n : Nat) (h0 : Nat) (x1 : Int32) (x2 : Int32) (x3 : Int32) (x4 : Int32) (h5 : Nat) (h6 : Nat) (x7 : Int32) (σ : mS), f_X5_tryLongerRows_33 E n h0 x1 x2 x3 x4 h5 h6 x7 σ = some z → ∀ (H : Heap) (locs : List Loc) (ls : Array Slot), mP G σ H → mL G locs → lv_has ls 8 [(0, .ref h0), (1, .int x1), (2, .int x2), (3, .int x3), (4, .int x4), (5, .ref h5), (6, .ref h6), (7, .int x7)] → W p l e (rm_X5_tryLongerRows fE lE) s m args below meth c H locs 0 0 Q (F0 m 33 ls []) := by
    intro n
    induction n with
    | zero =>
      intro h0 x1 x2 x3 x4 h5 h6 x7 σ h
      exact nomatch (show (none : Option mS) = some z from h)
    | succ n ih =>
      intro h0 x1 x2 x3 x4 h5 h6 x7 σ h H locs ls hM hL hl
      rw [f_X5_tryLongerRows_33.eq_2] at h
      refine lv_iload hx hb dX5_tryLongerRows_33 (lv_at hl 7 rfl) ?_
      refine lv_aload hx hb dX5_tryLongerRows_35 (lv_at hl 5 rfl) ?_
      refine m_getIN (ci := 0) (host := RX5) hx hb hU0 hown hK hM rfl 13 (by decide) (List.mem_of_getElem? (i := 16) rfl) h dX5_tryLongerRows_37 (fun v25 gv25 h => ?_)
      refine lv_icmp_ge (tgt := 114) hx hb dX5_tryLongerRows_40 (by decide) (fun c26 => ?_) (fun c26 => ?_)
      · have h := (if_pos c26).symm.trans h
        subst hQ
        cases h
        exact m_vret hx hb hr hM hL dX5_tryLongerRows_114 hlocks
      · have h := (if_neg c26).symm.trans h
        refine lv_iload_n hx hb dX5_tryLongerRows_43 rfl (lv_at hl 3 rfl) ?_
        refine lv_iload hx hb dX5_tryLongerRows_44 (lv_at hl 7 rfl) ?_
        refine lv_ishr hx hb dX5_tryLongerRows_46 ?_
        refine lv_iconst hx hb dX5_tryLongerRows_47 kI_1 ?_
        refine lv_iand hx hb dX5_tryLongerRows_48 ?_
        refine lv_if_ne (tgt := 108) hx hb dX5_tryLongerRows_49 (by decide) (fun c27 => ?_) (fun c27 => ?_)
        · have h := (if_neg c27).symm.trans h
          obtain ⟨v28, ev28⟩ : ∃ y : Int32, y = x7 + (1 : Int32) := ⟨_, rfl⟩
          have h := vl_at ev28 h
          refine lv_iinc (v := v28) (lv' := [(7, .int v28), (0, .ref h0), (1, .int x1), (2, .int x2), (3, .int x3), (4, .int x4), (5, .ref h5), (6, .ref h6)]) hx hb dX5_tryLongerRows_108 hl (k := 7) rfl (by rw [ev28, kI_1]) (by decide) rfl (fun ls hl => ?_)
          refine lv_goto (tgt := 33) hx hb dX5_tryLongerRows_111 (by decide) ?_
          exact ih _ _ _ _ _ _ _ _ _ h _ _ _ hM hL (lv_sub hl [1, 2, 3, 4, 5, 6, 7, 0] rfl)
        · have h := (if_pos c27).symm.trans h
          refine lv_aload hx hb dX5_tryLongerRows_52 (lv_at hl 5 rfl) ?_
          refine lv_iload hx hb dX5_tryLongerRows_54 (lv_at hl 7 rfl) ?_
          obtain ⟨o29, h⟩ := oi_some h
          obtain ⟨q30, hq30, h⟩ := ob_some h
          refine m_calli (va_runV (As := [.int x7]) (rest := []) ⟨hx, hb, hml, hown, hts⟩ (c_X0_canLetFall l G hq30) (cwV 1 hts gX5_tryLongerRows_X0_canLetFall rfl rfl rfl hd_X0_canLetFallv ⟨Nat.le_trans (Nat.le_of_ble_eq_true rfl) (Nat.le_add_left _ _), Nat.le_trans (Nat.le_of_ble_eq_true rfl) (Nat.le_add_left _ _)⟩) (m_preV (ci := 0) hK hM rfl o29) rfl rfl hl.1 rfl (lv_room (Nat.le_of_ble_eq_true rfl)) dX5_tryLongerRows_56 ⟨Nat.le_of_ble_eq_true rfl, Nat.le_of_ble_eq_true rfl⟩) hL (fun H locs hM hL => ?_)
          refine lv_if_eq (tgt := 108) hx hb dX5_tryLongerRows_59 (by decide) (fun c31 => ?_) (fun c31 => ?_)
          · have h := (if_pos c31).symm.trans h
            obtain ⟨v32, ev32⟩ : ∃ y : Int32, y = x7 + (1 : Int32) := ⟨_, rfl⟩
            have h := vl_at ev32 h
            refine lv_iinc (v := v32) (lv' := [(7, .int v32), (0, .ref h0), (1, .int x1), (2, .int x2), (3, .int x3), (4, .int x4), (5, .ref h5), (6, .ref h6)]) hx hb dX5_tryLongerRows_108 hl (k := 7) rfl (by rw [ev32, kI_1]) (by decide) rfl (fun ls hl => ?_)
            refine lv_goto (tgt := 33) hx hb dX5_tryLongerRows_111 (by decide) ?_
            exact ih _ _ _ _ _ _ _ _ _ h _ _ _ hM hL (lv_sub hl [1, 2, 3, 4, 5, 6, 7, 0] rfl)
          · have h := (if_neg c31).symm.trans h
            refine lv_aload hx hb dX5_tryLongerRows_62 (lv_at hl 6 rfl) ?_
            refine lv_aload hx hb dX5_tryLongerRows_64 (lv_at hl 5 rfl) ?_
            obtain ⟨o33, h⟩ := oi_some h
            obtain ⟨q34, hq34, h⟩ := ob_some h
            refine m_callv (va_runV (As := [.ref h5]) (rest := []) ⟨hx, hb, hml, hown, hts⟩ (c_X0_become l G hq34) (cwV 1 hts gX5_tryLongerRows_X0_become rfl rfl rfl hd_X0_becomev ⟨Nat.le_trans (Nat.le_of_ble_eq_true rfl) (Nat.le_add_left _ _), Nat.le_trans (Nat.le_of_ble_eq_true rfl) (Nat.le_add_left _ _)⟩) (m_preV (ci := 0) hK hM rfl o33) rfl rfl hl.1 rfl (lv_room (Nat.le_of_ble_eq_true rfl)) dX5_tryLongerRows_66 ⟨Nat.le_of_ble_eq_true rfl, Nat.le_of_ble_eq_true rfl⟩) hL (fun H locs hM hL => ?_)
            refine lv_aload hx hb dX5_tryLongerRows_69 (lv_at hl 6 rfl) ?_
            refine lv_iload hx hb dX5_tryLongerRows_71 (lv_at hl 7 rfl) ?_
            obtain ⟨o35, h⟩ := oi_some h
            obtain ⟨q36, hq36, h⟩ := ob_some h
            refine m_calli (va_runV (As := [.int x7]) (rest := []) ⟨hx, hb, hml, hown, hts⟩ (c_X0_letFall l G hq36) (cwV 1 hts gX5_tryLongerRows_X0_letFall rfl rfl rfl hd_X0_letFallv ⟨Nat.le_trans (Nat.le_of_ble_eq_true rfl) (Nat.le_add_left _ _), Nat.le_trans (Nat.le_of_ble_eq_true rfl) (Nat.le_add_left _ _)⟩) (m_preV (ci := 0) hK hM rfl o35) rfl rfl hl.1 rfl (lv_room (Nat.le_of_ble_eq_true rfl)) dX5_tryLongerRows_73 ⟨Nat.le_of_ble_eq_true rfl, Nat.le_of_ble_eq_true rfl⟩) hL (fun H locs hM hL => ?_)
            refine lv_pop hx hb dX5_tryLongerRows_76 rfl ?_
            refine lv_aload hx hb dX5_tryLongerRows_77 (lv_at hl 6 rfl) ?_
            refine lv_iconst hx hb dX5_tryLongerRows_79 kI_1 ?_
            obtain ⟨o37, h⟩ := oi_some h
            obtain ⟨q38, hq38, h⟩ := ob_some h
            refine m_calli (va_runV (As := [.int (1 : Int32)]) (rest := []) ⟨hx, hb, hml, hown, hts⟩ (c_X0_passHours l G hq38) (cwV 1 hts gX5_tryLongerRows_X0_passHours rfl rfl rfl hd_X0_passHoursv ⟨Nat.le_trans (Nat.le_of_ble_eq_true rfl) (Nat.le_add_left _ _), Nat.le_trans (Nat.le_of_ble_eq_true rfl) (Nat.le_add_left _ _)⟩) (m_preV (ci := 0) hK hM rfl o37) rfl rfl hl.1 rfl (lv_room (Nat.le_of_ble_eq_true rfl)) dX5_tryLongerRows_80 ⟨Nat.le_of_ble_eq_true rfl, Nat.le_of_ble_eq_true rfl⟩) hL (fun H locs hM hL => ?_)
            refine lv_pop hx hb dX5_tryLongerRows_83 rfl ?_
            refine lv_aload_n hx hb dX5_tryLongerRows_84 rfl (lv_at hl 0 rfl) ?_
            refine lv_iload_n hx hb dX5_tryLongerRows_85 rfl (lv_at hl 1 rfl) ?_
            refine lv_iconst hx hb dX5_tryLongerRows_86 kI_1 ?_
            refine lv_iadd hx hb dX5_tryLongerRows_87 ?_
            refine lv_iload_n hx hb dX5_tryLongerRows_88 rfl (lv_at hl 2 rfl) ?_
            refine lv_iload_n hx hb dX5_tryLongerRows_89 rfl (lv_at hl 3 rfl) ?_
            refine lv_iconst hx hb dX5_tryLongerRows_90 kI_1 ?_
            refine lv_iload hx hb dX5_tryLongerRows_91 (lv_at hl 7 rfl) ?_
            refine lv_ishl hx hb dX5_tryLongerRows_93 ?_
            refine lv_ior hx hb dX5_tryLongerRows_94 ?_
            refine lv_iload hx hb dX5_tryLongerRows_95 (lv_at hl 4 rfl) ?_
            refine lv_bipush hx hb dX5_tryLongerRows_97 kB_10 ?_
            refine lv_imul hx hb dX5_tryLongerRows_99 ?_
            refine lv_iload hx hb dX5_tryLongerRows_100 (lv_at hl 7 rfl) ?_
            refine lv_iadd hx hb dX5_tryLongerRows_102 ?_
            refine lv_iconst hx hb dX5_tryLongerRows_103 kI_1 ?_
            refine lv_iadd hx hb dX5_tryLongerRows_104 ?_
            obtain ⟨o39, h⟩ := oi_some h
            obtain ⟨q40, hq40, h⟩ := ob_some h
            refine m_callv (va_runV (As := [.int (x1 + (1 : Int32)), .int x2, .int (x3 ||| ((1 : Int32) <<< (x7 &&& 31))), .int (((x4 * (10 : Int32)) + x7) + (1 : Int32))]) (rest := []) ⟨hx, hb, hml, hown, hts⟩ (hE _ _ _ _ _ _ _ hq40) (cwV 4 hts gX5_tryLongerRows_X5_tryRow rfl rfl rfl hd_X5_tryRowv (by constructor <;> (simp only [rm_X5_tryLongerRows]; omega))) (m_preV (ci := 4) hK hM rfl o39) rfl rfl hl.1 rfl (lv_room (Nat.le_of_ble_eq_true rfl)) dX5_tryLongerRows_105 ⟨Nat.le_of_ble_eq_true rfl, Nat.le_of_ble_eq_true rfl⟩) hL (fun H locs hM hL => ?_)
            obtain ⟨v41, ev41⟩ : ∃ y : Int32, y = x7 + (1 : Int32) := ⟨_, rfl⟩
            have h := vl_at ev41 h
            refine lv_iinc (v := v41) (lv' := [(7, .int v41), (0, .ref h0), (1, .int x1), (2, .int x2), (3, .int x3), (4, .int x4), (5, .ref h5), (6, .ref h6)]) hx hb dX5_tryLongerRows_108 hl (k := 7) rfl (by rw [ev41, kI_1]) (by decide) rfl (fun ls hl => ?_)
            refine lv_goto (tgt := 33) hx hb dX5_tryLongerRows_111 (by decide) ?_
            exact ih _ _ _ _ _ _ _ _ _ h _ _ _ hM hL (lv_sub hl [1, 2, 3, 4, 5, 6, 7, 0] rfl)
  rw [f_X5_tryLongerRows.eq_1] at h
  refine lv_iload_n hx hb dX5_tryLongerRows_0 rfl (lv_at hl 1 rfl) ?_
  refine lv_iconst hx hb dX5_tryLongerRows_1 kI_1 ?_
  refine lv_iadd hx hb dX5_tryLongerRows_2 ?_
  refine lv_aload_n hx hb dX5_tryLongerRows_3 rfl (lv_at hl 0 rfl) ?_
  refine m_getR (ci := 4) hx hb hU5 hown hK hM rfl 6 (by decide) w1 h dX5_tryLongerRows_4 (fun r42 gr42 h => ?_)
  refine m_rlen hx hb hK hM 3 rfl h dX5_tryLongerRows_7 (fun v43 gv43 h => ?_)
  refine lv_icmp_lt (tgt := 12) hx hb dX5_tryLongerRows_8 (by decide) (fun c44 => ?_) (fun c44 => ?_)
  · have h := (if_pos c44).symm.trans h
    refine lv_aload_n hx hb dX5_tryLongerRows_12 rfl (lv_at hl 0 rfl) ?_
    refine m_getR (ci := 4) hx hb hU5 hown hK hM rfl 6 (by decide) w1 h dX5_tryLongerRows_13 (fun r45 gr45 h => ?_)
    refine lv_iload_n hx hb dX5_tryLongerRows_16 rfl (lv_at hl 1 rfl) ?_
    refine m_aald hx hb hK hM 3 rfl h dX5_tryLongerRows_17 (fun r46 gr46 h => ?_)
    refine lv_astore (lv' := [(5, .ref r46), (0, .ref h0), (1, .int x1), (2, .int x2), (3, .int x3), (4, .int x4)]) hx hb dX5_tryLongerRows_18 hl (by decide) rfl (fun ls hl => ?_)
    refine lv_aload_n hx hb dX5_tryLongerRows_20 rfl (lv_at hl 1 rfl) ?_
    refine m_getR (ci := 4) hx hb hU5 hown hK hM rfl 6 (by decide) w1 h dX5_tryLongerRows_21 (fun r47 gr47 h => ?_)
    refine lv_iload_n hx hb dX5_tryLongerRows_24 rfl (lv_at hl 2 rfl) ?_
    refine lv_iconst hx hb dX5_tryLongerRows_25 kI_1 ?_
    refine lv_iadd hx hb dX5_tryLongerRows_26 ?_
    refine m_aald hx hb hK hM 3 rfl h dX5_tryLongerRows_27 (fun r48 gr48 h => ?_)
    refine lv_astore (lv' := [(6, .ref r48), (5, .ref r46), (0, .ref h0), (1, .int x1), (2, .int x2), (3, .int x3), (4, .int x4)]) hx hb dX5_tryLongerRows_28 hl (by decide) rfl (fun ls hl => ?_)
    refine lv_iconst hx hb dX5_tryLongerRows_30 kI_0 ?_
    refine lv_istore (lv' := [(7, .int (0 : Int32)), (6, .ref r48), (5, .ref r46), (0, .ref h0), (1, .int x1), (2, .int x2), (3, .int x3), (4, .int x4)]) hx hb dX5_tryLongerRows_31 hl (by decide) rfl (fun ls hl => ?_)
    refine hN33 _ _ _ _ _ _ _ _ _ _ h _ _ _ hM hL (lv_sub hl [3, 4, 5, 6, 7, 2, 1, 0] rfl)
  · have h := (if_neg c44).symm.trans h
    subst hQ
    cases h
    exact m_vret hx hb hr hM hL dX5_tryLongerRows_11 hlocks
abbrev rm_X5_tryRow (fE lE : Nat) : Room := { frames := fE + 6, cells := 0, slots := 0, locals := lE + 157 }
set_option maxHeartbeats 4000000 in
set_option maxRecDepth 100000 in
theorem c_X5_tryRowB (l : Launch) (G : mG) {E : Nat → Int32 → Int32 → Int32 → Int32 → mS → Option mS} (fE lE : Nat) (hE : ∀ (a0 : Nat) (a1 : Int32) (a2 : Int32) (a3 : Int32) (a4 : Int32) (τ : mS) (q : mS), E a0 a1 a2 a3 a4 τ = some q → Met l yX5_tryRow wsX5_tryRow { frames := fE, cells := 0, slots := 0, locals := lE } (va_Pc [.ref a0, .int a1, .int a2, .int a3, .int a4] (mB G τ)) (mQ G (.returned none) q) 0 0 (mF G)) {h0 : Nat} {x1 : Int32} {x2 : Int32} {x3 : Int32} {x4 : Int32} {σ : mS} {z : mS} (h : f_X5_tryRowB E h0 x1 x2 x3 x4 σ = some z) : Met l yX5_tryRow wsX5_tryRow (rm_X5_tryRow fE lE) (va_Pc [.ref h0, .int x1, .int x2, .int x3, .int x4] (mB G σ)) (mQ G (.returned none) z) 0 0 (mF G) := by
  refine m_start (cc := cX5_tryRow) (maxL := 6) (ret := none) (by decide) rfl [.ref h0, .int x1, .int x2, .int x3, .int x4] (Nat.le_of_ble_eq_true rfl) ?_
  intro p e s m args below meth c ls hx hb hr hml hown hts hlocks hnm hK hM hl
  have hown : s.vm.findClass RX5 = some m.cls := hown
  have hnm : meth.name = "tryRow" := hnm
  obtain ⟨locs, hlocs⟩ : ∃ l : List Loc, l = [] := ⟨_, rfl⟩
  have hL : mL G locs := by rw [hlocs]; exact mL_nil G
  rw [← hlocs]
  generalize s.heap = H at hM ⊢
  have hl : lv_has ls 6 [(0, .ref h0), (1, .int x1), (2, .int x2), (3, .int x3), (4, .int x4)] := hl
  obtain ⟨Q, hQ⟩ : ∃ Q, Q = MQ below (mQ G (.returned none) z) args s 0 0 (mF G) := ⟨_, rfl⟩
  rw [← hQ]
  have hU5 : ∀ w ∈ wsX50, w.before args s = true := fun w h => hts w (List.mem_cons_of_mem _ (List.mem_append_left _ (List.mem_append_left _ (List.mem_append_right _ h))))
  have w1 := (hts (.fieldLink RX5 51 "HandkerchiefsDropped" "thought" "LHandkerchiefsDropped$Assize;") (List.mem_of_getElem? (i := 1) rfl))
  have w2 := (hts (.fieldLink RX5 30 "HandkerchiefsDropped" "behind" "[LHandkerchiefsDropped$Assize;") (List.mem_of_getElem? (i := 2) rfl))
  have w3 := (hts (.fieldLink RX5 208 "HandkerchiefsDropped" "bestVerdict" "I") (List.mem_of_getElem? (i := 3) rfl))
  have w4 := (hts (.fieldLink RX5 204 "HandkerchiefsDropped" "bestRow" "I") (List.mem_of_getElem? (i := 4) rfl))
  have hN53 : ∀ (h0 : Nat) (x1 : Int32) (x2 : Int32) (x3 : Int32) (x4 : Int32) (σ : mS), f_X5_tryRow_53 E h0 x1 x2 x3 x4 σ = some z → ∀ (H : Heap) (locs : List Loc) (ls : Array Slot), mP G σ H → mL G locs → lv_has ls 6 [(0, .ref h0), (1, .int x1), (2, .int x2), (3, .int x3), (4, .int x4)] → W p l e (rm_X5_tryRow fE lE) s m args below meth c H locs 0 0 Q (F0 m 53 ls []) := by
    intro h0 x1 x2 x3 x4 σ h H locs ls hM hL hl
    rw [f_X5_tryRow_53.eq_1] at h
    refine lv_iload_n hx hb dX5_tryRow_53 rfl (lv_at hl 1 rfl) ?_
    refine lv_iload_n hx hb dX5_tryRow_54 rfl (lv_at hl 2 rfl) ?_
    refine lv_icmp_ge (tgt := 67) hx hb dX5_tryRow_55 (by decide) (fun c19 => ?_) (fun c19 => ?_)
    · have h := (if_pos c19).symm.trans h
      subst hQ
      cases h
      exact m_vret hx hb hr hM hL dX5_tryRow_67 hlocks
    · have h := (if_neg c19).symm.trans h
      refine lv_aload_n hx hb dX5_tryRow_58 rfl (lv_at hl 0 rfl) ?_
      refine lv_iload_n hx hb dX5_tryRow_59 rfl (lv_at hl 1 rfl) ?_
      refine lv_iload_n hx hb dX5_tryRow_60 rfl (lv_at hl 2 rfl) ?_
      refine lv_iload_n hx hb dX5_tryRow_61 rfl (lv_at hl 3 rfl) ?_
      refine lv_iload hx hb dX5_tryRow_62 (lv_at hl 4 rfl) ?_
      obtain ⟨o20, h⟩ := oi_some h
      obtain ⟨q21, hq21, h⟩ := ob_some h
      refine m_callv (va_runV (As := [.int x1, .int x2, .int x3, .int x4]) (rest := []) ⟨hx, hb, hml, hown, hts⟩ (c_X5_tryLongerRows l G fE lE hE hq21) (cwV 4 hts gX5_tryRow_X5_tryLongerRows rfl rfl rfl hd_X5_tryLongerRowsv (by constructor <;> (simp only [rm_X5_tryRow, rm_X5_tryLongerRows]; omega))) (m_preV (ci := 4) hK hM rfl o20) rfl rfl hl.1 rfl (lv_room (Nat.le_of_ble_eq_true rfl)) dX5_tryRow_64 ⟨Nat.le_of_ble_eq_true rfl, Nat.le_of_ble_eq_true rfl⟩) hL (fun H locs hM hL => ?_)
      subst hQ
      cases h
      exact m_vret hx hb hr hM hL dX5_tryRow_67 hlocks
  rw [f_X5_tryRowB.eq_1] at h
  refine lv_aload_n hx hb dX5_tryRow_0 rfl (lv_at hl 0 rfl) ?_
  refine m_getR (ci := 4) hx hb hU5 hown hK hM rfl 5 (by decide) w1 h dX5_tryRow_1 (fun r22 gr22 h => ?_)
  refine lv_aload_n hx hb dX5_tryRow_4 rfl (lv_at hl 0 rfl) ?_
  refine m_getR (ci := 4) hx hb hU5 hown hK hM rfl 6 (by decide) w2 h dX5_tryRow_5 (fun r23 gr23 h => ?_)
  refine lv_iload_n hx hb dX5_tryRow_8 rfl (lv_at hl 1 rfl) ?_
  refine m_aald hx hb hK hM 3 rfl h dX5_tryRow_9 (fun r24 gr24 h => ?_)
  obtain ⟨o25, h⟩ := oi_some h
  obtain ⟨q26, hq26, h⟩ := ob_some h
  refine m_callv (va_runV (As := [.ref r24]) (rest := []) ⟨hx, hb, hml, hown, hts⟩ (c_X0_become l G hq26) (cwV 1 hts gX5_tryRow_X0_become rfl rfl rfl hd_X0_becomev ⟨Nat.le_trans (Nat.le_of_ble_eq_true rfl) (Nat.le_add_left _ _), Nat.le_trans (Nat.le_of_ble_eq_true rfl) (Nat.le_add_left _ _)⟩) (m_preV (ci := 0) hK hM rfl o25) rfl rfl hl.1 rfl (lv_room (Nat.le_of_ble_eq_true rfl)) dX5_tryRow_10 ⟨Nat.le_of_ble_eq_true rfl, Nat.le_of_ble_eq_true rfl⟩) hL (fun H locs hM hL => ?_)
  refine lv_aload_n hx hb dX5_tryRow_13 rfl (lv_at hl 0 rfl) ?_
  refine m_getR (ci := 4) hx hb hU5 hown hK hM rfl 5 (by decide) w1 h dX5_tryRow_14 (fun r27 gr27 h => ?_)
  refine lv_bipush hx hb dX5_tryRow_17 kB_12 ?_
  obtain ⟨o28, h⟩ := oi_some h
  obtain ⟨q29, hq29, h⟩ := ob_some h
  refine m_calli (va_runV (As := [.int (12 : Int32)]) (rest := []) ⟨hx, hb, hml, hown, hts⟩ (c_X0_passHours l G hq29) (cwV 1 hts gX5_tryRow_X0_passHours rfl rfl rfl hd_X0_passHoursv ⟨Nat.le_trans (Nat.le_of_ble_eq_true rfl) (Nat.le_add_left _ _), Nat.le_trans (Nat.le_of_ble_eq_true rfl) (Nat.le_add_left _ _)⟩) (m_preV (ci := 0) hK hM rfl o28) rfl rfl hl.1 rfl (lv_room (Nat.le_of_ble_eq_true rfl)) dX5_tryRow_19 ⟨Nat.le_of_ble_eq_true rfl, Nat.le_of_ble_eq_true rfl⟩) hL (fun H locs hM hL => ?_)
  refine lv_pop hx hb dX5_tryRow_22 rfl ?_
  refine lv_aload_n hx hb dX5_tryRow_23 rfl (lv_at hl 0 rfl) ?_
  refine m_getR (ci := 4) hx hb hU5 hown hK hM rfl 5 (by decide) w1 h dX5_tryRow_24 (fun r30 gr30 h => ?_)
  obtain ⟨o31, h⟩ := oi_some h
  obtain ⟨q32, hq32, h⟩ := ob_some h
  refine m_calli (va_runV (As := []) (rest := []) ⟨hx, hb, hml, hown, hts⟩ (c_X0_verdict l G hq32) (cwV 0 hts gX5_tryRow_X0_verdict rfl rfl rfl hd_X0_verdictv ⟨Nat.le_trans (Nat.le_of_ble_eq_true rfl) (Nat.le_add_left _ _), Nat.le_trans (Nat.le_of_ble_eq_true rfl) (Nat.le_add_left _ _)⟩) (m_preV (ci := 0) hK hM rfl o31) rfl rfl hl.1 rfl (lv_room (Nat.le_of_ble_eq_true rfl)) dX5_tryRow_27 ⟨Nat.le_of_ble_eq_true rfl, Nat.le_of_ble_eq_true rfl⟩) hL (fun H locs hM hL => ?_)
  refine lv_istore (lv' := [(5, .int q32), (0, .ref h0), (1, .int x1), (2, .int x2), (3, .int x3), (4, .int x4)]) hx hb dX5_tryRow_30 hl (by decide) rfl (fun ls hl => ?_)
  refine lv_iload hx hb dX5_tryRow_32 (lv_at hl 0 rfl) ?_
  refine lv_aload_n hx hb dX5_tryRow_34 rfl (lv_at hl 1 rfl) ?_
  refine m_getI (ci := 4) hx hb hU5 hown hK hM rfl 10 (by decide) w3 h dX5_tryRow_35 (fun v33 gv33 h => ?_)
  refine lv_icmp_le (tgt := 53) hx hb dX5_tryRow_38 (by decide) (fun c34 => ?_) (fun c34 => ?_)
  · have h := (if_pos c34).symm.trans h
    refine hN53 _ _ _ _ _ _ h _ _ _ hM hL (lv_sub hl [1, 2, 3, 4, 5] rfl)
  · have h := (if_neg c34).symm.trans h
    refine lv_aload_n hx hb dX5_tryRow_41 rfl (lv_at hl 1 rfl) ?_
    refine lv_iload hx hb dX5_tryRow_42 (lv_at hl 0 rfl) ?_
    refine m_put (ci := 4) hx hb hU5 tyX5 tyX5_ok nmX5 hown hK hM hL rfl 10 (by decide) w3 rfl rfl rfl h dX5_tryRow_44 (fun t35 H locs h hM hL => ?_)
    refine lv_aload_n hx hb dX5_tryRow_47 rfl (lv_at hl 1 rfl) ?_
    refine lv_iload hx hb dX5_tryRow_48 (lv_at hl 5 rfl) ?_
    refine m_put (ci := 4) hx hb hU5 tyX5 tyX5_ok nmX5 hown hK hM hL rfl 9 (by decide) w4 rfl rfl rfl h dX5_tryRow_50 (fun t36 H locs h hM hL => ?_)
    refine hN53 _ _ _ _ _ _ h _ _ _ hM hL (lv_sub hl [1, 2, 3, 4, 5] rfl)
theorem c_X5_tryRow (l : Launch) (G : mG) (d : Nat) : ∀ {h0 : Nat} {x1 : Int32} {x2 : Int32} {x3 : Int32} {x4 : Int32} {σ : mS} {z : mS}, f_X5_tryRow d h0 x1 x2 x3 x4 σ = some z → Met l yX5_tryRow wsX5_tryRow { frames := 6 * d, cells := 0, slots := 0, locals := 157 * d } (va_Pc [.ref h0, .int x1, .int x2, .int x3, .int x4] (mB G σ)) (mQ G (.returned none) (z)) 0 0 (mF G) := by
  induction d with
  | zero =>
    intro h0 x1 x2 x3 x4 σ z h
    exact nomatch (show (none : Option mS) = some z from h)
  | succ d ih =>
    intro h0 x1 x2 x3 x4 σ z h
    exact c_X5_tryRowB l G (6 * d) (157 * d) (fun _ _ _ _ _ _ q hq => ih hq) h

abbrev rm_X5_cast : Room := { frames := 31, cells := 0, slots := 0, locals := 810 }
set_option maxHeartbeats 4000000 in
set_option maxRecDepth 100000 in
theorem c_X5_cast (l : Launch) (G : mG) {h0 : Nat} {x1 : Int32} {x2 : Int32} {σ : mS} {z : Int32 × mS} (h : f_X5_cast h0 x1 x2 σ = some z) : Met l yX5_cast wsX5_cast rm_X5_cast (va_Pc [.ref h0, .int x1, .int x2] (mB G σ)) (mQ G (.returned (some (.int z.1))) z.2) 0 0 (mF G) := by
  refine m_start (cc := cX5_cast) (maxL := 3) (ret := (some .int)) (by decide) rfl [.ref h0, .int x1, .int x2] (Nat.le_of_ble_eq_true rfl) ?_
  intro p e s m args below meth c ls hx hb hr hml hown hts hlocks hnm hK hM hl
  have hown : s.vm.findClass RX5 = some m.cls := hown
  have hnm : meth.name = "cast" := hnm
  obtain ⟨locs, hlocs⟩ : ∃ l : List Loc, l = [] := ⟨_, rfl⟩
  have hL : mL G locs := by rw [hlocs]; exact mL_nil G
  rw [← hlocs]
  generalize s.heap = H at hM ⊢
  have hl : lv_has ls 3 [(0, .ref h0), (1, .int x1), (2, .int x2)] := hl
  obtain ⟨Q, hQ⟩ : ∃ Q, Q = MQ below (mQ G (.returned (some (.int z.1))) z.2) args s 0 0 (mF G) := ⟨_, rfl⟩
  rw [← hQ]
  have hU5 : ∀ w ∈ wsX50, w.before args s = true := fun w h => hts w (List.mem_cons_of_mem _ (List.mem_append_left _ (List.mem_append_left _ (List.mem_append_right _ h))))
  have w1 := (hts (.fieldLink RX5 204 "HandkerchiefsDropped" "bestRow" "I") (List.mem_of_getElem? (i := 1) rfl))
  have w2 := (hts (.constant RX5 207 (-2147483648)) (List.mem_of_getElem? (i := 2) rfl))
  have w3 := (hts (.fieldLink RX5 208 "HandkerchiefsDropped" "bestVerdict" "I") (List.mem_of_getElem? (i := 3) rfl))
  rw [f_X5_cast.eq_1] at h
  refine lv_iload_n hx hb dX5_cast_0 rfl (lv_at hl 1 rfl) ?_
  refine lv_iconst hx hb dX5_cast_1 kI_4 ?_
  refine m_calli (va_runS (As := [.int x1, .int (4 : Int32)]) (rest := []) ⟨hx, hb, hml, hown, hts⟩ (c_X5_isBelow l G x1 (4 : Int32)) (va_cwS 2 hts gX5_cast_X5_isBelow rfl rfl rfl hd_X5_isBelow ⟨Nat.le_of_ble_eq_true rfl, Nat.le_of_ble_eq_true rfl⟩) (m_preS hK hM) rfl rfl hl.1 rfl (lv_room (Nat.le_of_ble_eq_true rfl)) dX5_cast_2 ⟨Nat.le_of_ble_eq_true rfl, Nat.le_of_ble_eq_true rfl⟩) hL (fun H locs hM hL => ?_)
  refine lv_if_eq (tgt := 16) hx hb dX5_cast_5 (by decide) (fun c10 => ?_) (fun c10 => ?_)
  · have h := (if_pos c10).symm.trans h
    refine lv_sipush hx hb dX5_cast_16 kS_m5000 ?_
    subst hQ
    have h := Option.some.inj h
    subst h
    exact m_iret hx hb hr hM hL dX5_cast_19 hlocks
  · have h := (if_neg c10).symm.trans h
    refine lv_iload_n hx hb dX5_cast_8 rfl (lv_at hl 2 rfl) ?_
    refine lv_iconst hx hb dX5_cast_9 kI_2 ?_
    refine m_calli (va_runS (As := [.int x2, .int (2 : Int32)]) (rest := []) ⟨hx, hb, hml, hown, hts⟩ (c_X5_isBelow l G x2 (2 : Int32)) (va_cwS 2 hts gX5_cast_X5_isBelow rfl rfl rfl hd_X5_isBelow ⟨Nat.le_of_ble_eq_true rfl, Nat.le_of_ble_eq_true rfl⟩) (m_preS hK hM) rfl rfl hl.1 rfl (lv_room (Nat.le_of_ble_eq_true rfl)) dX5_cast_10 ⟨Nat.le_of_ble_eq_true rfl, Nat.le_of_ble_eq_true rfl⟩) hL (fun H locs hM hL => ?_)
    refine lv_if_ne (tgt := 20) hx hb dX5_cast_13 (by decide) (fun c11 => ?_) (fun c11 => ?_)
    · have h := (if_neg c11).symm.trans h
      refine lv_aload_n hx hb dX5_cast_20 rfl (lv_at hl 0 rfl) ?_
      refine lv_iconst hx hb dX5_cast_21 kI_0 ?_
      refine m_put (ci := 4) hx hb hU5 tyX5 tyX5_ok nmX5 hown hK hM hL rfl 9 (by decide) w1 rfl rfl rfl h dX5_cast_22 (fun t12 H locs h hM hL => ?_)
      refine lv_aload_n hx hb dX5_cast_25 rfl (lv_at hl 0 rfl) ?_
      refine lv_ldc hx hb hown w2 dX5_cast_26 ?_
      refine m_put (ci := 4) hx hb hU5 tyX5 tyX5_ok nmX5 hown hK hM hL rfl 10 (by decide) w3 rfl rfl rfl h dX5_cast_28 (fun t13 H locs h hM hL => ?_)
      refine lv_aload_n hx hb dX5_cast_31 rfl (lv_at hl 0 rfl) ?_
      refine lv_iconst hx hb dX5_cast_32 kI_0 ?_
      refine lv_iload_n hx hb dX5_cast_33 rfl (lv_at hl 1 rfl) ?_
      refine lv_iconst hx hb dX5_cast_34 kI_0 ?_
      refine lv_iconst hx hb dX5_cast_35 kI_0 ?_
      obtain ⟨o14, h⟩ := oi_some h
      obtain ⟨q15, hq15, h⟩ := ob_some h
      refine m_callv (va_runV (As := [.int (0 : Int32), .int x1, .int (0 : Int32), .int (0 : Int32)]) (rest := []) ⟨hx, hb, hml, hown, hts⟩ (c_X5_tryRow l G 5 hq15) (cwV 4 hts gX5_cast_X5_tryRow rfl rfl rfl hd_X5_tryRowv ⟨Nat.le_of_ble_eq_true rfl, Nat.le_of_ble_eq_true rfl⟩) (m_preV (ci := 4) hK hM rfl o14) rfl rfl hl.1 rfl (lv_room (Nat.le_of_ble_eq_true rfl)) dX5_cast_36 ⟨Nat.le_of_ble_eq_true rfl, Nat.le_of_ble_eq_true rfl⟩) hL (fun H locs hM hL => ?_)
      refine lv_iload_n hx hb dX5_cast_39 rfl (lv_at hl 2 rfl) ?_
      refine lv_if_ne (tgt := 50) hx hb dX5_cast_40 (by decide) (fun c16 => ?_) (fun c16 => ?_)
      · have h := (if_neg c16).symm.trans h
        refine lv_aload_n hx hb dX5_cast_50 rfl (lv_at hl 0 rfl) ?_
        refine m_getI (ci := 4) hx hb hU5 hown hK hM rfl 10 (by decide) w3 h dX5_cast_51 (fun v17 gv17 h => ?_)
        subst hQ
        have h := Option.some.inj h
        subst h
        exact m_iret hx hb hr hM hL dX5_cast_54 hlocks
      · have h := (if_pos c16).symm.trans h
        refine lv_aload_n hx hb dX5_cast_43 rfl (lv_at hl 0 rfl) ?_
        refine m_getI (ci := 4) hx hb hU5 hown hK hM rfl 9 (by decide) w1 h dX5_cast_44 (fun v18 gv18 h => ?_)
        refine lv_goto (tgt := 54) hx hb dX5_cast_47 (by decide) ?_
        subst hQ
        have h := Option.some.inj h
        subst h
        exact m_iret hx hb hr hM hL dX5_cast_54 hlocks
    · have h := (if_pos c11).symm.trans h
      refine lv_sipush hx hb dX5_cast_16 kS_m5000 ?_
      subst hQ
      have h := Option.some.inj h
      subst h
      exact m_iret hx hb hr hM hL dX5_cast_19 hlocks
abbrev rm_X5_commonDivisor : Room := { frames := 0, cells := 0, slots := 0, locals := 0 }
set_option maxHeartbeats 4000000 in
set_option maxRecDepth 100000 in
theorem c_X5_commonDivisor (l : Launch) (G : mG) {x0 : Int32} {x1 : Int32} {σ : mS} {z : Int32} (h : f_X5_commonDivisor x0 x1 = some z) : Met l yX5_commonDivisor wsX5_commonDivisor rm_X5_commonDivisor (va_Pc [.int x0, .int x1] (mB G σ)) (mQ G (.returned (some (.int z))) (σ)) 0 0 (mF G) := by
  refine m_start (cc := cX5_commonDivisor) (maxL := 6) (ret := (some .int)) (by decide) rfl [.int x0, .int x1] (Nat.le_of_ble_eq_true rfl) ?_
  intro p e s m args below meth c ls hx hb hr hml hown hts hlocks hnm hK hM hl
  have hown : s.vm.findClass RX5 = some m.cls := hown
  have hnm : meth.name = "commonDivisor" := hnm
  obtain ⟨locs, hlocs⟩ : ∃ l : List Loc, l = [] := ⟨_, rfl⟩
  have hL : mL G locs := by rw [hlocs]; exact mL_nil G
  rw [← hlocs]
  generalize s.heap = H at hM ⊢
  have hl : lv_has ls 6 [(0, .int x0), (1, .int x1)] := hl
  obtain ⟨Q, hQ⟩ : ∃ Q, Q = MQ below (mQ G (.returned (some (.int z))) (σ)) args s 0 0 (mF G) := ⟨_, rfl⟩
  rw [← hQ]
  have hN7 : ∀ (n : Nat) (x2 : Int32) (x3 : Int32) (x4 : Int32), f_X5_commonDivisor_7 n x2 x3 x4 = some z → ∀ (H : Heap) (locs : List Loc) (ls : Array Slot), mP G σ H → mL G locs → lv_has ls 6 [(2, .int x2), (3, .int x3), (4, .int x4)] → W p l e rm_X5_commonDivisor s m args below meth c H locs 0 0 Q (F0 m 7 ls []) := by
    intro n
    induction n with
    | zero =>
      intro x2 x3 x4 h
      exact nomatch (show (none : Option Int32) = some z from h)
    | succ n ih =>
      intro x2 x3 x4 h H locs ls hM hL hl
      rw [f_X5_commonDivisor_7.eq_2] at h
      refine lv_iload hx hb dX5_commonDivisor_7 (lv_at hl 2 rfl) ?_
      refine lv_bipush hx hb dX5_commonDivisor_9 kB_64 ?_
      refine lv_icmp_ge (tgt := 34) hx hb dX5_commonDivisor_11 (by decide) (fun c6 => ?_) (fun c6 => ?_)
      · have h := (if_pos c6).symm.trans h
        refine lv_iload_n hx hb dX5_commonDivisor_34 rfl (lv_at hl 0 rfl) ?_
        subst hQ
        have h := Option.some.inj h
        subst h
        exact m_iret hx hb hr hM hL dX5_commonDivisor_35 hlocks
      · have h := (if_neg c6).symm.trans h
        refine lv_iload_n hx hb dX5_commonDivisor_14 rfl (lv_at hl 1 rfl) ?_
        refine lv_if_eq (tgt := 34) hx hb dX5_commonDivisor_15 (by decide) (fun c7 => ?_) (fun c7 => ?_)
        · have h := (if_pos c7).symm.trans h
          refine lv_iload_n hx hb dX5_commonDivisor_34 rfl (lv_at hl 0 rfl) ?_
          subst hQ
          have h := Option.some.inj h
          subst h
          exact m_iret hx hb hr hM hL dX5_commonDivisor_35 hlocks
        · have h := (if_neg c7).symm.trans h
          refine lv_iload_n hx hb dX5_commonDivisor_18 rfl (lv_at hl 0 rfl) ?_
          refine lv_iload_n hx hb dX5_commonDivisor_19 rfl (lv_at hl 1 rfl) ?_
          obtain ⟨n8, h⟩ := on_some h
          refine lv_irem hx hb dX5_commonDivisor_20 n8 ?_
          refine lv_topi (fun v9 ev9 => ?_)
          have h := vl_at ev9 h
          refine lv_istore (lv' := [(5, .int v9), (2, .int x2), (3, .int x3), (4, .int x4)]) hx hb dX5_commonDivisor_21 hl (by decide) rfl (fun ls hl => ?_)
          refine lv_iload_n hx hb dX5_commonDivisor_23 rfl (lv_at hl 2 rfl) ?_
          refine lv_istore_n (lv' := [(2, .int x3), (5, .int v9), (3, .int x3), (4, .int x4)]) hx hb dX5_commonDivisor_24 rfl hl (by decide) rfl (fun ls hl => ?_)
          refine lv_iload hx hb dX5_commonDivisor_25 (lv_at hl 1 rfl) ?_
          refine lv_istore_n (lv' := [(3, .int v9), (2, .int x3), (5, .int v9), (4, .int x4)]) hx hb dX5_commonDivisor_27 rfl hl (by decide) rfl (fun ls hl => ?_)
          obtain ⟨v10, ev10⟩ : ∃ y : Int32, y = x4 + (1 : Int32) := ⟨_, rfl⟩
          have h := vl_at ev10 h
          refine lv_iinc (v := v10) (lv' := [(4, .int v10), (3, .int v9), (2, .int x3), (5, .int v9)]) hx hb dX5_commonDivisor_28 hl (k := 3) rfl (by rw [ev10, kI_1]) (by decide) rfl (fun ls hl => ?_)
          refine lv_goto (tgt := 7) hx hb dX5_commonDivisor_31 (by decide) ?_
          exact ih _ _ _ h _ _ _ hM hL (lv_sub hl [2, 1, 0] rfl)
  rw [f_X5_commonDivisor.eq_1] at h
  refine lv_iload_n hx hb dX5_commonDivisor_0 rfl (lv_at hl 0 rfl) ?_
  refine lv_istore_n (lv' := [(2, .int x0), (0, .int x0), (1, .int x1)]) hx hb dX5_commonDivisor_1 rfl hl (by decide) rfl (fun ls hl => ?_)
  refine lv_iload_n hx hb dX5_commonDivisor_2 rfl (lv_at hl 2 rfl) ?_
  refine lv_istore_n (lv' := [(3, .int x1), (2, .int x0), (0, .int x0), (1, .int x1)]) hx hb dX5_commonDivisor_3 rfl hl (by decide) rfl (fun ls hl => ?_)
  refine lv_iconst hx hb dX5_commonDivisor_4 kI_0 ?_
  refine lv_istore (lv' := [(4, .int (0 : Int32)), (3, .int x1), (2, .int x0), (0, .int x0), (1, .int x1)]) hx hb dX5_commonDivisor_5 hl (by decide) rfl (fun ls hl => ?_)
  refine hN7 _ _ _ _ h _ _ _ hM hL (lv_sub hl [2, 1, 0] rfl)
abbrev rm_X5_lowest : Room := { frames := 1, cells := 0, slots := 0, locals := 30 }
set_option maxHeartbeats 4000000 in
set_option maxRecDepth 100000 in
theorem c_X5_lowest (l : Launch) (G : mG) {x0 : Int32} {x1 : Int32} {x2 : Int32} {σ : mS} {z : Int64} (h : f_X5_lowest x0 x1 x2 = some z) : Met l yX5_lowest wsX5_lowest rm_X5_lowest (va_Pc [.int x0, .int x1, .int x2] (mB G σ)) (mQ G (.returned (some (.long z))) (σ)) 0 0 (mF G) := by
  refine m_start (cc := cX5_lowest) (maxL := 4) (ret := (some .long)) (by decide) rfl [.int x0, .int x1, .int x2] (Nat.le_of_ble_eq_true rfl) ?_
  intro p e s m args below meth c ls hx hb hr hml hown hts hlocks hnm hK hM hl
  have hown : s.vm.findClass RX5 = some m.cls := hown
  have hnm : meth.name = "lowest" := hnm
  obtain ⟨locs, hlocs⟩ : ∃ l : List Loc, l = [] := ⟨_, rfl⟩
  have hL : mL G locs := by rw [hlocs]; exact mL_nil G
  rw [← hlocs]
  generalize s.heap = H at hM ⊢
  have hl : lv_has ls 4 [(0, .int x0), (1, .int x1), (2, .int x2)] := hl
  obtain ⟨Q, hQ⟩ : ∃ Q, Q = MQ below (mQ G (.returned (some (.long z))) (σ)) args s 0 0 (mF G) := ⟨_, rfl⟩
  rw [← hQ]
  have w0 := (hts (.methodLink RX5 224 Lib.Math.abs.name) (List.mem_of_getElem? (i := 1) rfl))
  have w1 := (hts (.static Lib.Math.abs.name) (List.mem_of_getElem? (i := 2) rfl))
  have w2 := (hts (.initialized "java/lang/Math") (List.mem_of_getElem? (i := 3) rfl))
  have w3 := (hts (.code Lib.Math.abs.name Lib.Math.abs.code 1 (some .int)) (List.mem_of_getElem? (i := 4) rfl))
  have w4 := (hts (.constantLong RX5 218 (-4611686018427387904)) (List.mem_of_getElem? (i := 5) rfl))
  rw [f_X5_lowest.eq_1] at h
  refine lv_iload_n hx hb dX5_lowest_0 rfl (lv_at hl 0 rfl) ?_
  refine va_mabs hx hb (hml.trans hl.1.symm) hown w0 w1 w2 w3 (Nat.le_of_ble_eq_true rfl) (Nat.le_of_ble_eq_true rfl) (Nat.le_of_ble_eq_true rfl) (Nat.le_of_ble_eq_true rfl) dX5_lowest_1 ?_
  refine lv_iload_n hx hb dX5_lowest_4 rfl (lv_at hl 1 rfl) ?_
  obtain ⟨q7, hq7, h⟩ := ob_some h
  refine m_calli (va_runS (As := [.int (if 0 ≤ x0 then x0 else 0 - x0), .int x1]) (rest := []) ⟨hx, hb, hml, hown, hts⟩ (c_X5_commonDivisor l G hq7) (va_cwS 2 hts gX5_lowest_X5_commonDivisor rfl rfl rfl hd_X5_commonDivisor ⟨Nat.le_of_ble_eq_true rfl, Nat.le_of_ble_eq_true rfl⟩) (m_preS hK hM) rfl rfl hl.1 rfl (lv_room (Nat.le_of_ble_eq_true rfl)) dX5_lowest_5 ⟨Nat.le_of_ble_eq_true rfl, Nat.le_of_ble_eq_true rfl⟩) hL (fun H locs hM hL => ?_)
  refine lv_istore_n (lv' := [(3, .int q7), (0, .int x0), (1, .int x1), (2, .int x2)]) hx hb dX5_lowest_8 rfl hl (by decide) rfl (fun ls hl => ?_)
  refine lv_iload_n hx hb dX5_lowest_9 rfl (lv_at hl 3 rfl) ?_
  refine lv_iconst hx hb dX5_lowest_10 kI_2 ?_
  refine m_calli (va_runS (As := [.int x2, .int (2 : Int32)]) (rest := []) ⟨hx, hb, hml, hown, hts⟩ (c_X5_isBelow l G x2 (2 : Int32)) (va_cwS 2 hts gX5_lowest_X5_isBelow rfl rfl rfl hd_X5_isBelow ⟨Nat.le_of_ble_eq_true rfl, Nat.le_of_ble_eq_true rfl⟩) (m_preS hK hM) rfl rfl hl.1 rfl (lv_room (Nat.le_of_ble_eq_true rfl)) dX5_lowest_11 ⟨Nat.le_of_ble_eq_true rfl, Nat.le_of_ble_eq_true rfl⟩) hL (fun H locs hM hL => ?_)
  refine lv_if_eq (tgt := 21) hx hb dX5_lowest_14 (by decide) (fun c8 => ?_) (fun c8 => ?_)
  · have h := (if_pos c8).symm.trans h
    refine lv_ldc2 hx hb hown w4 dX5_lowest_21 ?_
    subst hQ
    have h := Option.some.inj h
    subst h
    exact m_lret hx hb hr hM hL dX5_lowest_24 hlocks
  · have h := (if_neg c8).symm.trans h
    refine lv_iload_n hx hb dX5_lowest_17 rfl (lv_at hl 0 rfl) ?_
    refine lv_if_gt (tgt := 25) hx hb dX5_lowest_18 (by decide) (fun c9 => ?_) (fun c9 => ?_)
    · have h := (if_pos c9).symm.trans h
      refine lv_iload_n hx hb dX5_lowest_25 rfl (lv_at hl 3 rfl) ?_
      suffices hJ : ∀ (v11 : Int32) (ls : Array Slot), v11 = (if x2 = 0 then x0 else x1) → lv_has ls 4 [(3, .int q7)] → W p l e rm_X5_lowest s m args below meth c H locs 0 0 Q (F0 m 34 ls [.int v11]) by
        refine lv_if_ne (tgt := 33) hx hb dX5_lowest_26 (by decide) (fun c10 => ?_) (fun c10 => ?_)
        · refine lv_iload_n hx hb dX5_lowest_33 rfl (lv_at hl 2 rfl) ?_
          exact hJ _ _ (((if_neg c10).trans rfl).symm) (lv_sub hl [0] rfl)
        · refine lv_iload_n hx hb dX5_lowest_29 rfl (lv_at hl 1 rfl) ?_
          refine lv_goto (tgt := 34) hx hb dX5_lowest_30 (by decide) ?_
          exact hJ _ _ (((if_pos c10).trans rfl).symm) (lv_sub hl [0] rfl)
      intro v11 ls ev11 hl
      have h := vl_at ev11 h
      refine lv_iload_n hx hb dX5_lowest_34 rfl (lv_at hl 0 rfl) ?_
      obtain ⟨n12, h⟩ := on_some h
      refine lv_idiv hx hb dX5_lowest_35 n12 ?_
      refine lv_i2l hx hb dX5_lowest_36 rfl ?_
      subst hQ
      have h := Option.some.inj h
      subst h
      exact m_lret hx hb hr hM hL dX5_lowest_37 hlocks
    · have h := (if_neg c9).symm.trans h
      refine lv_ldc2 hx hb hown w4 dX5_lowest_21 ?_
      subst hQ
      have h := Option.some.inj h
      subst h
      exact m_lret hx hb hr hM hL dX5_lowest_24 hlocks
abbrev rm_X5_mean : Room := { frames := 2, cells := 0, slots := 0, locals := 53 }
set_option maxHeartbeats 4000000 in
set_option maxRecDepth 100000 in
theorem c_X5_mean (l : Launch) (G : mG) {h0 : Nat} {x1 : Int32} {σ : mS} {z : Int64} (h : f_X5_mean h0 x1 σ = some z) : Met l yX5_mean wsX5_mean rm_X5_mean (va_Pc [.ref h0, .int x1] (mB G σ)) (mQ G (.returned (some (.long z))) (σ)) 0 0 (mF G) := by
  refine m_start (cc := cX5_mean) (maxL := 3) (ret := (some .long)) (by decide) rfl [.ref h0, .int x1] (Nat.le_of_ble_eq_true rfl) ?_
  intro p e s m args below meth c ls hx hb hr hml hown hts hlocks hnm hK hM hl
  have hown : s.vm.findClass RX5 = some m.cls := hown
  have hnm : meth.name = "mean" := hnm
  obtain ⟨locs, hlocs⟩ : ∃ l : List Loc, l = [] := ⟨_, rfl⟩
  have hL : mL G locs := by rw [hlocs]; exact mL_nil G
  rw [← hlocs]
  generalize s.heap = H at hM ⊢
  have hl : lv_has ls 3 [(0, .ref h0), (1, .int x1)] := hl
  obtain ⟨Q, hQ⟩ : ∃ Q, Q = MQ below (mQ G (.returned (some (.long z))) (σ)) args s 0 0 (mF G) := ⟨_, rfl⟩
  rw [← hQ]
  have hU5 : ∀ w ∈ wsX50, w.before args s = true := fun w h => hts w (List.mem_cons_of_mem _ (List.mem_append_left _ (List.mem_append_right _ h)))
  have w1 := (hts (.fieldLink RX5 44 "HandkerchiefsDropped" "now" "LHandkerchiefsDropped$Assize;") (List.mem_of_getElem? (i := 1) rfl))
  have hU0 : ∀ w ∈ wsX00, w.before args s = true := fun w h => hts w (List.mem_cons_of_mem _ (List.mem_append_right _ h))
  have w3 := (hts (.constantLong RX5 218 (-4611686018427387904)) (List.mem_of_getElem? (i := 2) rfl))
  rw [f_X5_mean.eq_1] at h
  refine lv_aload_n hx hb dX5_mean_0 rfl (lv_at hl 0 rfl) ?_
  refine m_getR (ci := 4) hx hb hU5 hown hK hM rfl 3 (by decide) w1 h dX5_mean_1 (fun r9 gr9 h => ?_)
  refine m_getIN (ci := 0) (host := RX5) hx hb hU0 hown hK hM rfl 11 (by decide) (List.mem_of_getElem? (i := 14) rfl) h dX5_mean_4 (fun v10 gv10 h => ?_)
  refine m_calli (va_runS (As := [.int v10]) (rest := []) ⟨hx, hb, hml, hown, hts⟩ (c_J6_bitCount l G v10) (va_cwS 1 hts gX5_mean_J6_bitCount_0f7a4 rfl rfl rfl hd_J6_bitCount ⟨Nat.le_of_ble_eq_true rfl, Nat.le_of_ble_eq_true rfl⟩) (m_preS hK hM) rfl rfl hl.1 rfl (lv_room (Nat.le_of_ble_eq_true rfl)) dX5_mean_7 ⟨Nat.le_of_ble_eq_true rfl, Nat.le_of_ble_eq_true rfl⟩) hL (fun H locs hM hL => ?_)
  refine lv_topi (fun v11 ev11 => ?_)
  have h := vl_at ev11 h
  refine lv_istore_n (lv' := [(2, .int v11), (0, .ref h0), (1, .int x1)]) hx hb dX5_mean_10 rfl hl (by decide) rfl (fun ls hl => ?_)
  refine lv_iload_n hx hb dX5_mean_11 rfl (lv_at hl 0 rfl) ?_
  refine lv_if_ne (tgt := 21) hx hb dX5_mean_12 (by decide) (fun c12 => ?_) (fun c12 => ?_)
  · have h := (if_neg c12).symm.trans h
    refine lv_aload_n hx hb dX5_mean_21 rfl (lv_at hl 1 rfl) ?_
    refine m_getR (ci := 4) hx hb hU5 hown hK hM rfl 3 (by decide) w1 h dX5_mean_22 (fun r13 gr13 h => ?_)
    obtain ⟨o14, h⟩ := oi_some h
    obtain ⟨q15, hq15, h⟩ := ob_some h
    refine m_calli (va_runV (As := []) (rest := []) ⟨hx, hb, hml, hown, hts⟩ (c_X0_verdict l G hq15) (cwV 0 hts gX5_mean_X0_verdict rfl rfl rfl hd_X0_verdictv ⟨Nat.le_of_ble_eq_true rfl, Nat.le_of_ble_eq_true rfl⟩) (m_preV (ci := 0) hK hM rfl o14) rfl rfl hl.1 rfl (lv_room (Nat.le_of_ble_eq_true rfl)) dX5_mean_25 ⟨Nat.le_of_ble_eq_true rfl, Nat.le_of_ble_eq_true rfl⟩) hL (fun H locs hM hL => ?_)
    refine lv_iload_n hx hb dX5_mean_28 rfl (lv_at hl 0 rfl) ?_
    refine lv_iload_n hx hb dX5_mean_29 rfl (lv_at hl 2 rfl) ?_
    obtain ⟨q16, hq16, h⟩ := ob_some h
    refine m_calll (va_runS (As := [.int q15, .int v11, .int x1]) (rest := []) ⟨hx, hb, hml, hown, hts⟩ (c_X5_lowest l G hq16) (va_cwS 3 hts gX5_mean_X5_lowest rfl rfl rfl hd_X5_lowest ⟨Nat.le_of_ble_eq_true rfl, Nat.le_of_ble_eq_true rfl⟩) (m_preS hK hM) rfl rfl hl.1 rfl (lv_room (Nat.le_of_ble_eq_true rfl)) dX5_mean_30 ⟨Nat.le_of_ble_eq_true rfl, Nat.le_of_ble_eq_true rfl⟩) hL (fun H locs hM hL => ?_)
    subst hQ
    have h := Option.some.inj h
    subst h
    exact m_lret hx hb hr hM hL dX5_mean_33 hlocks
  · have h := (if_pos c12).symm.trans h
    refine lv_ldc2 hx hb hown w3 dX5_mean_15 ?_
    refine lv_goto (tgt := 33) hx hb dX5_mean_18 (by decide) ?_
    subst hQ
    have h := Option.some.inj h
    subst h
    exact m_lret hx hb hr hM hL dX5_mean_33 hlocks
abbrev rm_X5_refusalOfTale : Room := { frames := 1, cells := 0, slots := 0, locals := 21 }
set_option maxHeartbeats 4000000 in
set_option maxRecDepth 100000 in
theorem c_X5_refusalOfTale (l : Launch) (G : mG) {h0 : Nat} {x1 : Int32} {σ : mS} {z : Int32} (h : f_X5_refusalOfTale h0 x1 σ = some z) : Met l yX5_refusalOfTale wsX5_refusalOfTale rm_X5_refusalOfTale (va_Pc [.ref h0, .int x1] (mB G σ)) (mQ G (.returned (some (.int z))) (σ)) 0 0 (mF G) := by
  refine m_start (cc := cX5_refusalOfTale) (maxL := 2) (ret := (some .int)) (by decide) rfl [.ref h0, .int x1] (Nat.le_of_ble_eq_true rfl) ?_
  intro p e s m args below meth c ls hx hb hr hml hown hts hlocks hnm hK hM hl
  have hown : s.vm.findClass RX5 = some m.cls := hown
  have hnm : meth.name = "refusalOfTale" := hnm
  obtain ⟨locs, hlocs⟩ : ∃ l : List Loc, l = [] := ⟨_, rfl⟩
  have hL : mL G locs := by rw [hlocs]; exact mL_nil G
  rw [← hlocs]
  generalize s.heap = H at hM ⊢
  have hl : lv_has ls 2 [(0, .ref h0), (1, .int x1)] := hl
  obtain ⟨Q, hQ⟩ : ∃ Q, Q = MQ below (mQ G (.returned (some (.int z))) (σ)) args s 0 0 (mF G) := ⟨_, rfl⟩
  rw [← hQ]
  have hU5 : ∀ w ∈ wsX50, w.before args s = true := fun w h => hts w (List.mem_cons_of_mem _ (List.mem_append_left _ (List.mem_append_right _ h)))
  have w1 := (hts (.fieldLink RX5 24 "HandkerchiefsDropped" "sheets" "[LHandkerchiefsDropped$Sheet;") (List.mem_of_getElem? (i := 1) rfl))
  have hU3 : ∀ w ∈ wsX30, w.before args s = true := fun w h => hts w (List.mem_cons_of_mem _ (List.mem_append_right _ h))
  rw [f_X5_refusalOfTale.eq_1] at h
  refine lv_iload_n hx hb dX5_refusalOfTale_0 rfl (lv_at hl 1 rfl) ?_
  refine lv_iconst hx hb dX5_refusalOfTale_1 kI_4 ?_
  refine m_calli (va_runS (As := [.int x1, .int (4 : Int32)]) (rest := []) ⟨hx, hb, hml, hown, hts⟩ (c_X5_isBelow l G x1 (4 : Int32)) (va_cwS 2 hts gX5_refusalOfTale_X5_isBelow rfl rfl rfl hd_X5_isBelow ⟨Nat.le_of_ble_eq_true rfl, Nat.le_of_ble_eq_true rfl⟩) (m_preS hK hM) rfl rfl hl.1 rfl (lv_room (Nat.le_of_ble_eq_true rfl)) dX5_refusalOfTale_2 ⟨Nat.le_of_ble_eq_true rfl, Nat.le_of_ble_eq_true rfl⟩) hL (fun H locs hM hL => ?_)
  refine lv_if_ne (tgt := 11) hx hb dX5_refusalOfTale_5 (by decide) (fun c11 => ?_) (fun c11 => ?_)
  · have h := (if_neg c11).symm.trans h
    refine lv_aload_n hx hb dX5_refusalOfTale_11 rfl (lv_at hl 0 rfl) ?_
    refine m_getR (ci := 4) hx hb hU5 hown hK hM rfl 2 (by decide) w1 h dX5_refusalOfTale_12 (fun r12 gr12 h => ?_)
    refine lv_iload_n hx hb dX5_refusalOfTale_15 rfl (lv_at hl 1 rfl) ?_
    refine m_aald hx hb hK hM 2 rfl h dX5_refusalOfTale_16 (fun r13 gr13 h => ?_)
    obtain ⟨o14, h⟩ := oi_some h
    obtain ⟨q15, hq15, h⟩ := ob_some h
    refine m_calli (va_runV (As := []) (rest := []) ⟨hx, hb, hml, hown, hts⟩ (c_X3_isMissing l G hq15) (cwV 0 hts gX5_refusalOfTale_X3_isMissing rfl rfl rfl hd_X3_isMissingv ⟨Nat.le_of_ble_eq_true rfl, Nat.le_of_ble_eq_true rfl⟩) (m_preV (ci := 2) hK hM rfl o14) rfl rfl hl.1 rfl (lv_room (Nat.le_of_ble_eq_true rfl)) dX5_refusalOfTale_17 ⟨Nat.le_of_ble_eq_true rfl, Nat.le_of_ble_eq_true rfl⟩) hL (fun H locs hM hL => ?_)
    refine lv_if_eq (tgt := 26) hx hb dX5_refusalOfTale_20 (by decide) (fun c16 => ?_) (fun c16 => ?_)
    · have h := (if_pos c16).symm.trans h
      refine lv_aload_n hx hb dX5_refusalOfTale_26 rfl (lv_at hl 0 rfl) ?_
      refine m_getR (ci := 4) hx hb hU5 hown hK hM rfl 2 (by decide) w1 h dX5_refusalOfTale_27 (fun r17 gr17 h => ?_)
      refine lv_iload_n hx hb dX5_refusalOfTale_30 rfl (lv_at hl 1 rfl) ?_
      refine m_aald hx hb hK hM 2 rfl h dX5_refusalOfTale_31 (fun r18 gr18 h => ?_)
      refine m_getIN (ci := 2) (host := RX5) hx hb hU3 hown hK hM rfl 2 (by decide) (List.mem_of_getElem? (i := 21) rfl) h dX5_refusalOfTale_32 (fun v19 gv19 h => ?_)
      refine lv_bipush hx hb dX5_refusalOfTale_35 kB_20 ?_
      refine lv_icmp_le (tgt := 45) hx hb dX5_refusalOfTale_37 (by decide) (fun c20 => ?_) (fun c20 => ?_)
      · have h := (if_pos c20).symm.trans h
        refine lv_iconst hx hb dX5_refusalOfTale_45 kI_0 ?_
        subst hQ
        have h := Option.some.inj h
        subst h
        exact m_iret hx hb hr hM hL dX5_refusalOfTale_46 hlocks
      · have h := (if_neg c20).symm.trans h
        refine lv_bipush hx hb dX5_refusalOfTale_40 kB_m2 ?_
        refine lv_goto (tgt := 46) hx hb dX5_refusalOfTale_42 (by decide) ?_
        subst hQ
        have h := Option.some.inj h
        subst h
        exact m_iret hx hb hr hM hL dX5_refusalOfTale_46 hlocks
    · have h := (if_neg c16).symm.trans h
      refine lv_bipush hx hb dX5_refusalOfTale_23 kB_m11 ?_
      subst hQ
      have h := Option.some.inj h
      subst h
      exact m_iret hx hb hr hM hL dX5_refusalOfTale_25 hlocks
  · have h := (if_pos c11).symm.trans h
    refine lv_bipush hx hb dX5_refusalOfTale_8 kB_m2 ?_
    subst hQ
    have h := Option.some.inj h
    subst h
    exact m_iret hx hb hr hM hL dX5_refusalOfTale_10 hlocks
abbrev rm_X5_firstOtherwise : Room := { frames := 5, cells := 0, slots := 0, locals := 130 }
set_option maxHeartbeats 4000000 in
set_option maxRecDepth 100000 in
theorem c_X5_firstOtherwise (l : Launch) (G : mG) {h0 : Nat} {x1 : Int32} {σ : mS} {z : Int32 × mS} (h : f_X5_firstOtherwise h0 x1 σ = some z) : Met l yX5_firstOtherwise wsX5_firstOtherwise rm_X5_firstOtherwise (va_Pc [.ref h0, .int x1] (mB G σ)) (mQ G (.returned (some (.int z.1))) z.2) 0 0 (mF G) := by
  refine m_start (cc := cX5_firstOtherwise) (maxL := 4) (ret := (some .int)) (by decide) rfl [.ref h0, .int x1] (Nat.le_of_ble_eq_true rfl) ?_
  intro p e s m args below meth c ls hx hb hr hml hown hts hlocks hnm hK hM hl
  have hown : s.vm.findClass RX5 = some m.cls := hown
  have hnm : meth.name = "firstOtherwise" := hnm
  obtain ⟨locs, hlocs⟩ : ∃ l : List Loc, l = [] := ⟨_, rfl⟩
  have hL : mL G locs := by rw [hlocs]; exact mL_nil G
  rw [← hlocs]
  generalize s.heap = H at hM ⊢
  have hl : lv_has ls 4 [(0, .ref h0), (1, .int x1)] := hl
  obtain ⟨Q, hQ⟩ : ∃ Q, Q = MQ below (mQ G (.returned (some (.int z.1))) z.2) args s 0 0 (mF G) := ⟨_, rfl⟩
  rw [← hQ]
  have hU5 : ∀ w ∈ wsX50, w.before args s = true := fun w h => hts w (List.mem_cons_of_mem _ (List.mem_append_left _ (List.mem_append_left _ (List.mem_append_left _ (List.mem_append_right _ h)))))
  have w1 := (hts (.fieldLink RX5 24 "HandkerchiefsDropped" "sheets" "[LHandkerchiefsDropped$Sheet;") (List.mem_of_getElem? (i := 1) rfl))
  have hU3 : ∀ w ∈ wsX30, w.before args s = true := fun w h => hts w (List.mem_cons_of_mem _ (List.mem_append_left _ (List.mem_append_left _ (List.mem_append_right _ h))))
  have w3 := (hts (.fieldLink RX5 51 "HandkerchiefsDropped" "thought" "LHandkerchiefsDropped$Assize;") (List.mem_of_getElem? (i := 2) rfl))
  have hU0 : ∀ w ∈ wsX00, w.before args s = true := fun w h => hts w (List.mem_cons_of_mem _ (List.mem_append_left _ (List.mem_append_right _ h)))
  have hN9 : ∀ (n : Nat) (h0 : Nat) (h2 : Nat) (x3 : Int32) (σ : mS), f_X5_firstOtherwise_9 n h0 h2 x3 σ = some z → ∀ (H : Heap) (locs : List Loc) (ls : Array Slot), mP G σ H → mL G locs → lv_has ls 4 [(0, .ref h0), (2, .ref h2), (3, .int x3)] → W p l e rm_X5_firstOtherwise s m args below meth c H locs 0 0 Q (F0 m 9 ls []) := by
    intro n
    induction n with
    | zero =>
      intro h0 h2 x3 σ h
      exact nomatch (show (none : Option (Int32 × mS)) = some z from h)
    | succ n ih =>
      intro h0 h2 x3 σ h H locs ls hM hL hl
      rw [f_X5_firstOtherwise_9.eq_2] at h
      refine lv_iload_n hx hb dX5_firstOtherwise_9 rfl (lv_at hl 2 rfl) ?_
      refine lv_aload_n hx hb dX5_firstOtherwise_10 rfl (lv_at hl 1 rfl) ?_
      refine m_getIN (ci := 2) (host := RX5) hx hb hU3 hown hK hM rfl 2 (by decide) (List.mem_of_getElem? (i := 21) rfl) h dX5_firstOtherwise_11 (fun v14 gv14 h => ?_)
      refine lv_icmp_ge (tgt := 53) hx hb dX5_firstOtherwise_14 (by decide) (fun c15 => ?_) (fun c15 => ?_)
      · have h := (if_pos c15).symm.trans h
        refine lv_iconst hx hb dX5_firstOtherwise_53 kI_m1 ?_
        subst hQ
        have h := Option.some.inj h
        subst h
        exact m_iret hx hb hr hM hL dX5_firstOtherwise_54 hlocks
      · have h := (if_neg c15).symm.trans h
        refine lv_aload_n hx hb dX5_firstOtherwise_17 rfl (lv_at hl 0 rfl) ?_
        refine m_getR (ci := 4) hx hb hU5 hown hK hM rfl 5 (by decide) w3 h dX5_firstOtherwise_18 (fun r16 gr16 h => ?_)
        refine lv_iconst hx hb dX5_firstOtherwise_21 kI_1 ?_
        obtain ⟨o17, h⟩ := oi_some h
        obtain ⟨q18, hq18, h⟩ := ob_some h
        refine m_calli (va_runV (As := [.int (1 : Int32)]) (rest := []) ⟨hx, hb, hml, hown, hts⟩ (c_X0_passHours l G hq18) (cwV 1 hts gX5_firstOtherwise_X0_passHours rfl rfl rfl hd_X0_passHoursv ⟨Nat.le_of_ble_eq_true rfl, Nat.le_of_ble_eq_true rfl⟩) (m_preV (ci := 0) hK hM rfl o17) rfl rfl hl.1 rfl (lv_room (Nat.le_of_ble_eq_true rfl)) dX5_firstOtherwise_22 ⟨Nat.le_of_ble_eq_true rfl, Nat.le_of_ble_eq_true rfl⟩) hL (fun H locs hM hL => ?_)
        refine lv_pop hx hb dX5_firstOtherwise_25 rfl ?_
        refine lv_aload_n hx hb dX5_firstOtherwise_26 rfl (lv_at hl 0 rfl) ?_
        refine m_getR (ci := 4) hx hb hU5 hown hK hM rfl 5 (by decide) w3 h dX5_firstOtherwise_27 (fun r19 gr19 h => ?_)
        refine m_getIN (ci := 0) (host := RX5) hx hb hU0 hown hK hM rfl 11 (by decide) (List.mem_of_getElem? (i := 14) rfl) h dX5_firstOtherwise_30 (fun v20 gv20 h => ?_)
        refine m_calli (va_runS (As := [.int v20]) (rest := []) ⟨hx, hb, hml, hown, hts⟩ (c_J6_bitCount l G v20) (va_cwS 1 hts gX5_firstOtherwise_J6_bitCount_0f7a4 rfl rfl rfl hd_J6_bitCount ⟨Nat.le_of_ble_eq_true rfl, Nat.le_of_ble_eq_true rfl⟩) (m_preS hK hM) rfl rfl hl.1 rfl (lv_room (Nat.le_of_ble_eq_true rfl)) dX5_firstOtherwise_33 ⟨Nat.le_of_ble_eq_true rfl, Nat.le_of_ble_eq_true rfl⟩) hL (fun H locs hM hL => ?_)
        refine lv_aload_n hx hb dX5_firstOtherwise_36 rfl (lv_at hl 1 rfl) ?_
        refine m_getRN (ci := 2) (host := RX5) hx hb hU3 hown hK hM rfl 0 (by decide) (List.mem_of_getElem? (i := 19) rfl) h dX5_firstOtherwise_37 (fun r21 gr21 h => ?_)
        refine lv_iload_n hx hb dX5_firstOtherwise_40 rfl (lv_at hl 2 rfl) ?_
        refine m_iald hx hb hK hM h dX5_firstOtherwise_41 (fun v22 gv22 h => ?_)
        refine lv_icmp_eq (tgt := 47) hx hb dX5_firstOtherwise_42 (by decide) (fun c23 => ?_) (fun c23 => ?_)
        · have h := (if_pos c23).symm.trans h
          obtain ⟨v24, ev24⟩ : ∃ y : Int32, y = x3 + (1 : Int32) := ⟨_, rfl⟩
          have h := vl_at ev24 h
          refine lv_iinc (v := v24) (lv' := [(3, .int v24), (0, .ref h0), (2, .ref h2)]) hx hb dX5_firstOtherwise_47 hl (k := 2) rfl (by rw [ev24, kI_1]) (by decide) rfl (fun ls hl => ?_)
          refine lv_goto (tgt := 9) hx hb dX5_firstOtherwise_50 (by decide) ?_
          exact ih _ _ _ _ h _ _ _ hM hL (lv_sub hl [1, 2, 0] rfl)
        · have h := (if_neg c23).symm.trans h
          refine lv_iload_n hx hb dX5_firstOtherwise_45 rfl (lv_at hl 2 rfl) ?_
          subst hQ
          have h := Option.some.inj h
          subst h
          exact m_iret hx hb hr hM hL dX5_firstOtherwise_46 hlocks
  rw [f_X5_firstOtherwise.eq_1] at h
  refine lv_aload_n hx hb dX5_firstOtherwise_0 rfl (lv_at hl 0 rfl) ?_
  refine m_getR (ci := 4) hx hb hU5 hown hK hM rfl 2 (by decide) w1 h dX5_firstOtherwise_1 (fun r25 gr25 h => ?_)
  refine lv_iload_n hx hb dX5_firstOtherwise_4 rfl (lv_at hl 1 rfl) ?_
  refine m_aald hx hb hK hM 2 rfl h dX5_firstOtherwise_5 (fun r26 gr26 h => ?_)
  refine lv_astore_n (lv' := [(2, .ref r26), (0, .ref h0), (1, .int x1)]) hx hb dX5_firstOtherwise_6 rfl hl (by decide) rfl (fun ls hl => ?_)
  refine lv_iconst hx hb dX5_firstOtherwise_7 kI_0 ?_
  refine lv_istore_n (lv' := [(3, .int (0 : Int32)), (2, .ref r26), (0, .ref h0), (1, .int x1)]) hx hb dX5_firstOtherwise_8 rfl hl (by decide) rfl (fun ls hl => ?_)
  refine hN9 _ _ _ _ _ h _ _ _ hM hL (lv_sub hl [2, 1, 0] rfl)
abbrev rm_X5_judge : Room := { frames := 6, cells := 0, slots := 0, locals := 153 }
set_option maxHeartbeats 4000000 in
set_option maxRecDepth 100000 in
theorem c_X5_judge (l : Launch) (G : mG) {h0 : Nat} {x1 : Int32} {σ : mS} {z : Int32 × mS} (h : f_X5_judge h0 x1 σ = some z) : Met l yX5_judge wsX5_judge rm_X5_judge (va_Pc [.ref h0, .int x1] (mB G σ)) (mQ G (.returned (some (.int z.1))) z.2) 0 0 (mF G) := by
  refine m_start (cc := cX5_judge) (maxL := 3) (ret := (some .int)) (by decide) rfl [.ref h0, .int x1] (Nat.le_of_ble_eq_true rfl) ?_
  intro p e s m args below meth c ls hx hb hr hml hown hts hlocks hnm hK hM hl
  have hown : s.vm.findClass RX5 = some m.cls := hown
  have hnm : meth.name = "judge" := hnm
  obtain ⟨locs, hlocs⟩ : ∃ l : List Loc, l = [] := ⟨_, rfl⟩
  have hL : mL G locs := by rw [hlocs]; exact mL_nil G
  rw [← hlocs]
  generalize s.heap = H at hM ⊢
  have hl : lv_has ls 3 [(0, .ref h0), (1, .int x1)] := hl
  obtain ⟨Q, hQ⟩ : ∃ Q, Q = MQ below (mQ G (.returned (some (.int z.1))) z.2) args s 0 0 (mF G) := ⟨_, rfl⟩
  rw [← hQ]
  have hU5 : ∀ w ∈ wsX50, w.before args s = true := fun w h => hts w (List.mem_cons_of_mem _ (List.mem_append_left _ (List.mem_append_left _ (List.mem_append_left _ (List.mem_append_right _ h)))))
  have w1 := (hts (.fieldLink RX5 51 "HandkerchiefsDropped" "thought" "LHandkerchiefsDropped$Assize;") (List.mem_of_getElem? (i := 1) rfl))
  have w2 := (hts (.fieldLink RX5 44 "HandkerchiefsDropped" "now" "LHandkerchiefsDropped$Assize;") (List.mem_of_getElem? (i := 2) rfl))
  rw [f_X5_judge.eq_1] at h
  refine lv_aload_n hx hb dX5_judge_0 rfl (lv_at hl 0 rfl) ?_
  refine lv_iload_n hx hb dX5_judge_1 rfl (lv_at hl 1 rfl) ?_
  obtain ⟨o10, h⟩ := oi_some h
  obtain ⟨q11, hq11, h⟩ := ob_some h
  refine m_calli (va_runV (As := [.int x1]) (rest := []) ⟨hx, hb, hml, hown, hts⟩ (c_X5_refusalOfTale l G hq11) (cwV 1 hts gX5_judge_X5_refusalOfTale rfl rfl rfl hd_X5_refusalOfTalev ⟨Nat.le_of_ble_eq_true rfl, Nat.le_of_ble_eq_true rfl⟩) (m_preV (ci := 4) hK hM rfl o10) rfl rfl hl.1 rfl (lv_room (Nat.le_of_ble_eq_true rfl)) dX5_judge_2 ⟨Nat.le_of_ble_eq_true rfl, Nat.le_of_ble_eq_true rfl⟩) hL (fun H locs hM hL => ?_)
  refine lv_istore_n (lv' := [(2, .int q11), (0, .ref h0), (1, .int x1)]) hx hb dX5_judge_5 rfl hl (by decide) rfl (fun ls hl => ?_)
  refine lv_iload_n hx hb dX5_judge_6 rfl (lv_at hl 0 rfl) ?_
  refine lv_if_eq (tgt := 12) hx hb dX5_judge_7 (by decide) (fun c12 => ?_) (fun c12 => ?_)
  · have h := (if_pos c12).symm.trans h
    refine lv_aload_n hx hb dX5_judge_12 rfl (lv_at hl 1 rfl) ?_
    refine m_getR (ci := 4) hx hb hU5 hown hK hM rfl 5 (by decide) w1 h dX5_judge_13 (fun r13 gr13 h => ?_)
    refine lv_aload_n hx hb dX5_judge_16 rfl (lv_at hl 1 rfl) ?_
    refine m_getR (ci := 4) hx hb hU5 hown hK hM rfl 3 (by decide) w2 h dX5_judge_17 (fun r14 gr14 h => ?_)
    obtain ⟨o15, h⟩ := oi_some h
    obtain ⟨q16, hq16, h⟩ := ob_some h
    refine m_callv (va_runV (As := [.ref r14]) (rest := []) ⟨hx, hb, hml, hown, hts⟩ (c_X0_become l G hq16) (cwV 1 hts gX5_judge_X0_become rfl rfl rfl hd_X0_becomev ⟨Nat.le_of_ble_eq_true rfl, Nat.le_of_ble_eq_true rfl⟩) (m_preV (ci := 0) hK hM rfl o15) rfl rfl hl.1 rfl (lv_room (Nat.le_of_ble_eq_true rfl)) dX5_judge_20 ⟨Nat.le_of_ble_eq_true rfl, Nat.le_of_ble_eq_true rfl⟩) hL (fun H locs hM hL => ?_)
    refine lv_aload_n hx hb dX5_judge_23 rfl (lv_at hl 1 rfl) ?_
    refine lv_iload_n hx hb dX5_judge_24 rfl (lv_at hl 2 rfl) ?_
    obtain ⟨o17, h⟩ := oi_some h
    obtain ⟨q18, hq18, h⟩ := ob_some h
    refine m_calli (va_runV (As := [.int x1]) (rest := []) ⟨hx, hb, hml, hown, hts⟩ (c_X5_firstOtherwise l G hq18) (cwV 1 hts gX5_judge_X5_firstOtherwise rfl rfl rfl hd_X5_firstOtherwisev ⟨Nat.le_of_ble_eq_true rfl, Nat.le_of_ble_eq_true rfl⟩) (m_preV (ci := 4) hK hM rfl o17) rfl rfl hl.1 rfl (lv_room (Nat.le_of_ble_eq_true rfl)) dX5_judge_25 ⟨Nat.le_of_ble_eq_true rfl, Nat.le_of_ble_eq_true rfl⟩) hL (fun H locs hM hL => ?_)
    subst hQ
    have h := Option.some.inj h
    subst h
    exact m_iret hx hb hr hM hL dX5_judge_28 hlocks
  · have h := (if_neg c12).symm.trans h
    refine lv_iload_n hx hb dX5_judge_10 rfl (lv_at hl 0 rfl) ?_
    subst hQ
    have h := Option.some.inj h
    subst h
    exact m_iret hx hb hr hM hL dX5_judge_11 hlocks
abbrev rm_X5_refusalOfFitting : Room := { frames := 2, cells := 0, slots := 0, locals := 42 }
set_option maxHeartbeats 4000000 in
set_option maxRecDepth 100000 in
theorem c_X5_refusalOfFitting (l : Launch) (G : mG) {h0 : Nat} {x1 : Int32} {x2 : Int32} {x3 : Int32} {σ : mS} {z : Int32} (h : f_X5_refusalOfFitting h0 x1 x2 x3 σ = some z) : Met l yX5_refusalOfFitting wsX5_refusalOfFitting rm_X5_refusalOfFitting (va_Pc [.ref h0, .int x1, .int x2, .int x3] (mB G σ)) (mQ G (.returned (some (.int z))) (σ)) 0 0 (mF G) := by
  refine m_start (cc := cX5_refusalOfFitting) (maxL := 5) (ret := (some .int)) (by decide) rfl [.ref h0, .int x1, .int x2, .int x3] (Nat.le_of_ble_eq_true rfl) ?_
  intro p e s m args below meth c ls hx hb hr hml hown hts hlocks hnm hK hM hl
  have hown : s.vm.findClass RX5 = some m.cls := hown
  have hnm : meth.name = "refusalOfFitting" := hnm
  obtain ⟨locs, hlocs⟩ : ∃ l : List Loc, l = [] := ⟨_, rfl⟩
  have hL : mL G locs := by rw [hlocs]; exact mL_nil G
  rw [← hlocs]
  generalize s.heap = H at hM ⊢
  have hl : lv_has ls 5 [(0, .ref h0), (1, .int x1), (2, .int x2), (3, .int x3)] := hl
  obtain ⟨Q, hQ⟩ : ∃ Q, Q = MQ below (mQ G (.returned (some (.int z))) (σ)) args s 0 0 (mF G) := ⟨_, rfl⟩
  rw [← hQ]
  rw [f_X5_refusalOfFitting.eq_1] at h
  refine lv_aload_n hx hb dX5_refusalOfFitting_0 rfl (lv_at hl 0 rfl) ?_
  refine lv_iload_n hx hb dX5_refusalOfFitting_1 rfl (lv_at hl 1 rfl) ?_
  obtain ⟨o6, h⟩ := oi_some h
  obtain ⟨q7, hq7, h⟩ := ob_some h
  refine m_calli (va_runV (As := [.int x1]) (rest := []) ⟨hx, hb, hml, hown, hts⟩ (c_X5_refusalOfTale l G hq7) (cwV 1 hts gX5_refusalOfFitting_X5_refusalOfTale rfl rfl rfl hd_X5_refusalOfTalev ⟨Nat.le_of_ble_eq_true rfl, Nat.le_of_ble_eq_true rfl⟩) (m_preV (ci := 4) hK hM rfl o6) rfl rfl hl.1 rfl (lv_room (Nat.le_of_ble_eq_true rfl)) dX5_refusalOfFitting_2 ⟨Nat.le_of_ble_eq_true rfl, Nat.le_of_ble_eq_true rfl⟩) hL (fun H locs hM hL => ?_)
  refine lv_istore (lv' := [(4, .int q7), (0, .ref h0), (1, .int x1), (2, .int x2), (3, .int x3)]) hx hb dX5_refusalOfFitting_5 hl (by decide) rfl (fun ls hl => ?_)
  refine lv_iload hx hb dX5_refusalOfFitting_7 (lv_at hl 0 rfl) ?_
  refine lv_if_eq (tgt := 15) hx hb dX5_refusalOfFitting_9 (by decide) (fun c8 => ?_) (fun c8 => ?_)
  · have h := (if_pos c8).symm.trans h
    refine lv_iload_n hx hb dX5_refusalOfFitting_15 rfl (lv_at hl 3 rfl) ?_
    refine lv_if_ne (tgt := 22) hx hb dX5_refusalOfFitting_16 (by decide) (fun c9 => ?_) (fun c9 => ?_)
    · have h := (if_neg c9).symm.trans h
      refine lv_iload_n hx hb dX5_refusalOfFitting_22 rfl (lv_at hl 4 rfl) ?_
      refine lv_iconst hx hb dX5_refusalOfFitting_23 kI_2 ?_
      refine m_calli (va_runS (As := [.int x3, .int (2 : Int32)]) (rest := []) ⟨hx, hb, hml, hown, hts⟩ (c_X5_isBelow l G x3 (2 : Int32)) (va_cwS 2 hts gX5_refusalOfFitting_X5_isBelow rfl rfl rfl hd_X5_isBelow ⟨Nat.le_of_ble_eq_true rfl, Nat.le_of_ble_eq_true rfl⟩) (m_preS hK hM) rfl rfl hl.1 rfl (lv_room (Nat.le_of_ble_eq_true rfl)) dX5_refusalOfFitting_24 ⟨Nat.le_of_ble_eq_true rfl, Nat.le_of_ble_eq_true rfl⟩) hL (fun H locs hM hL => ?_)
      refine lv_if_eq (tgt := 34) hx hb dX5_refusalOfFitting_27 (by decide) (fun c10 => ?_) (fun c10 => ?_)
      · have h := (if_pos c10).symm.trans h
        refine lv_bipush hx hb dX5_refusalOfFitting_34 kB_m7 ?_
        subst hQ
        have h := Option.some.inj h
        subst h
        exact m_iret hx hb hr hM hL dX5_refusalOfFitting_36 hlocks
      · have h := (if_neg c10).symm.trans h
        refine lv_iconst hx hb dX5_refusalOfFitting_30 kI_0 ?_
        refine lv_goto (tgt := 36) hx hb dX5_refusalOfFitting_31 (by decide) ?_
        subst hQ
        have h := Option.some.inj h
        subst h
        exact m_iret hx hb hr hM hL dX5_refusalOfFitting_36 hlocks
    · have h := (if_pos c9).symm.trans h
      refine lv_bipush hx hb dX5_refusalOfFitting_19 kB_m5 ?_
      subst hQ
      have h := Option.some.inj h
      subst h
      exact m_iret hx hb hr hM hL dX5_refusalOfFitting_21 hlocks
  · have h := (if_neg c8).symm.trans h
    refine lv_iload hx hb dX5_refusalOfFitting_12 (lv_at hl 0 rfl) ?_
    subst hQ
    have h := Option.some.inj h
    subst h
    exact m_iret hx hb hr hM hL dX5_refusalOfFitting_14 hlocks
abbrev rm_X5_kinds : Room := { frames := 6, cells := 0, slots := 0, locals := 153 }
set_option maxHeartbeats 4000000 in
set_option maxRecDepth 100000 in
theorem c_X5_kinds (l : Launch) (G : mG) {h0 : Nat} {x1 : Int32} {x2 : Int32} {x3 : Int32} {σ : mS} {z : Int32 × mS} (h : f_X5_kinds h0 x1 x2 x3 σ = some z) : Met l yX5_kinds wsX5_kinds rm_X5_kinds (va_Pc [.ref h0, .int x1, .int x2, .int x3] (mB G σ)) (mQ G (.returned (some (.int z.1))) z.2) 0 0 (mF G) := by
  refine m_start (cc := cX5_kinds) (maxL := 7) (ret := (some .int)) (by decide) rfl [.ref h0, .int x1, .int x2, .int x3] (Nat.le_of_ble_eq_true rfl) ?_
  intro p e s m args below meth c ls hx hb hr hml hown hts hlocks hnm hK hM hl
  have hown : s.vm.findClass RX5 = some m.cls := hown
  have hnm : meth.name = "kinds" := hnm
  obtain ⟨locs, hlocs⟩ : ∃ l : List Loc, l = [] := ⟨_, rfl⟩
  have hL : mL G locs := by rw [hlocs]; exact mL_nil G
  rw [← hlocs]
  generalize s.heap = H at hM ⊢
  have hl : lv_has ls 7 [(0, .ref h0), (1, .int x1), (2, .int x2), (3, .int x3)] := hl
  obtain ⟨Q, hQ⟩ : ∃ Q, Q = MQ below (mQ G (.returned (some (.int z.1))) z.2) args s 0 0 (mF G) := ⟨_, rfl⟩
  rw [← hQ]
  have hU5 : ∀ w ∈ wsX50, w.before args s = true := fun w h => hts w (List.mem_cons_of_mem _ (List.mem_append_left _ (List.mem_append_left _ (List.mem_append_left _ (List.mem_append_right _ h)))))
  have w1 := (hts (.fieldLink RX5 44 "HandkerchiefsDropped" "now" "LHandkerchiefsDropped$Assize;") (List.mem_of_getElem? (i := 1) rfl))
  have w2 := (hts (.fieldLink RX5 51 "HandkerchiefsDropped" "thought" "LHandkerchiefsDropped$Assize;") (List.mem_of_getElem? (i := 2) rfl))
  have hU0 : ∀ w ∈ wsX00, w.before args s = true := fun w h => hts w (List.mem_cons_of_mem _ (List.mem_append_left _ (List.mem_append_left _ (List.mem_append_right _ h))))
  have hN78 : ∀ (k30 : Nat → Int32 → Int32 → Int32 → Int32 → Int32 → mS → Option (Int32 × mS)) (hk30 : ∀ (h0 : Nat) (x1 : Int32) (x2 : Int32) (x3 : Int32) (x5 : Int32) (x6 : Int32) (σ : mS), k30 h0 x1 x2 x3 x5 x6 σ = some z → ∀ (H : Heap) (locs : List Loc) (ls : Array Slot), mP G σ H → mL G locs → lv_has ls 7 [(0, .ref h0), (1, .int x1), (2, .int x2), (3, .int x3), (5, .int x5), (6, .int x6)] → W p l e rm_X5_kinds s m args below meth c H locs 0 0 Q (F0 m 30 ls [])) (h0 : Nat) (x1 : Int32) (x2 : Int32) (x3 : Int32) (x5 : Int32) (x6 : Int32) (s0 : Nat) (σ : mS), f_X5_kinds_78 k30 h0 x1 x2 x3 x5 x6 s0 σ = some z → ∀ (H : Heap) (locs : List Loc) (ls : Array Slot), mP G σ H → mL G locs → lv_has ls 7 [(0, .ref h0), (1, .int x1), (2, .int x2), (3, .int x3), (5, .int x5), (6, .int x6)] → W p l e rm_X5_kinds s m args below meth c H locs 0 0 Q (F0 m 78 ls [.ref s0]) := by
    intro k30 hk30 h0 x1 x2 x3 x5 x6 s0 σ h H locs ls hM hL hl
    rw [f_X5_kinds_78.eq_1] at h
    refine lv_iload_n hx hb dX5_kinds_78 rfl (lv_at hl 2 rfl) ?_
    refine lv_iload hx hb dX5_kinds_79 (lv_at hl 5 rfl) ?_
    refine m_iast hx hb hK hM hL h dX5_kinds_81 (fun t26 H locs h hM hL => ?_)
    refine lv_iload hx hb dX5_kinds_82 (lv_at hl 4 rfl) ?_
    refine lv_aload_n hx hb dX5_kinds_84 rfl (lv_at hl 0 rfl) ?_
    refine lv_iload_n hx hb dX5_kinds_85 rfl (lv_at hl 1 rfl) ?_
    obtain ⟨o27, h⟩ := oi_some h
    obtain ⟨q28, hq28, h⟩ := ob_some h
    refine m_calli (va_runV (As := [.int x1]) (rest := [.int x5]) ⟨hx, hb, hml, hown, hts⟩ (c_X5_firstOtherwise l G hq28) (cwV 1 hts gX5_kinds_X5_firstOtherwise rfl rfl rfl hd_X5_firstOtherwisev ⟨Nat.le_of_ble_eq_true rfl, Nat.le_of_ble_eq_true rfl⟩) (m_preV (ci := 4) hK hM rfl o27) rfl rfl hl.1 rfl (lv_room (Nat.le_of_ble_eq_true rfl)) dX5_kinds_86 ⟨Nat.le_of_ble_eq_true rfl, Nat.le_of_ble_eq_true rfl⟩) hL (fun H locs hM hL => ?_)
    refine lv_iconst hx hb dX5_kinds_89 kI_m1 ?_
    suffices hJ : ∀ (v30 : Int32) (ls : Array Slot), v30 = (if q28.1 = (-1 : Int32) then ((1 : Int32) <<< (x6 &&& 31)) else (0 : Int32)) → lv_has ls 7 [(0, .ref h0), (1, .int x1), (2, .int x2), (3, .int x3), (6, .int x6)] → W p l e rm_X5_kinds s m args below meth c H locs 0 0 Q (F0 m 101 ls [.int v30, .int x5]) by
      refine lv_icmp_ne (tgt := 100) hx hb dX5_kinds_90 (by decide) (fun c29 => ?_) (fun c29 => ?_)
      · refine lv_iconst hx hb dX5_kinds_100 kI_0 ?_
        exact hJ _ _ (((if_neg c29).trans rfl).symm) (lv_sub hl [0, 1, 2, 3, 5] rfl)
      · refine lv_iconst hx hb dX5_kinds_93 kI_1 ?_
        refine lv_iload hx hb dX5_kinds_94 (lv_at hl 5 rfl) ?_
        refine lv_ishl hx hb dX5_kinds_96 ?_
        refine lv_goto (tgt := 101) hx hb dX5_kinds_97 (by decide) ?_
        exact hJ _ _ (((if_pos c29).trans rfl).symm) (lv_sub hl [0, 1, 2, 3, 5] rfl)
    intro v30 ls ev30 hl
    have h := vl_at ev30 h
    refine lv_ior hx hb dX5_kinds_101 ?_
    refine lv_topi (fun v31 ev31 => ?_)
    have h := vl_at ev31 h
    refine lv_istore (lv' := [(5, .int v31), (0, .ref h0), (1, .int x1), (2, .int x2), (3, .int x3), (6, .int x6)]) hx hb dX5_kinds_102 hl (by decide) rfl (fun ls hl => ?_)
    obtain ⟨v32, ev32⟩ : ∃ y : Int32, y = x6 + (1 : Int32) := ⟨_, rfl⟩
    have h := vl_at ev32 h
    refine lv_iinc (v := v32) (lv' := [(6, .int v32), (5, .int v31), (0, .ref h0), (1, .int x1), (2, .int x2), (3, .int x3)]) hx hb dX5_kinds_104 hl (k := 5) rfl (by rw [ev32, kI_1]) (by decide) rfl (fun ls hl => ?_)
    refine lv_goto (tgt := 30) hx hb dX5_kinds_107 (by decide) ?_
    exact hk30 _ _ _ _ _ _ _ h _ _ _ hM hL (lv_sub hl [2, 3, 4, 5, 1, 0] rfl)
  have hN30 : ∀ (n : Nat) (h0 : Nat) (x1 : Int32) (x2 : Int32) (x3 : Int32) (x5 : Int32) (x6 : Int32) (σ : mS), f_X5_kinds_30 n h0 x1 x2 x3 x5 x6 σ = some z → ∀ (H : Heap) (locs : List Loc) (ls : Array Slot), mP G σ H → mL G locs → lv_has ls 7 [(0, .ref h0), (1, .int x1), (2, .int x2), (3, .int x3), (5, .int x5), (6, .int x6)] → W p l e rm_X5_kinds s m args below meth c H locs 0 0 Q (F0 m 30 ls []) := by
    intro n
    induction n with
    | zero =>
      intro h0 x1 x2 x3 x5 x6 σ h
      exact nomatch (show (none : Option (Int32 × mS)) = some z from h)
    | succ n ih =>
      intro h0 x1 x2 x3 x5 x6 σ h H locs ls hM hL hl
      rw [f_X5_kinds_30.eq_2] at h
      refine lv_iload hx hb dX5_kinds_30 (lv_at hl 5 rfl) ?_
      refine lv_iload_n hx hb dX5_kinds_32 rfl (lv_at hl 3 rfl) ?_
      suffices hJ : ∀ (v34 : Int32) (ls : Array Slot), v34 = (if x3 = 0 then (6 : Int32) else (10 : Int32)) → lv_has ls 7 [(0, .ref h0), (1, .int x1), (2, .int x2), (3, .int x3), (5, .int x5), (6, .int x6)] → W p l e rm_X5_kinds s m args below meth c H locs 0 0 Q (F0 m 43 ls [.int v34, .int x6]) by
        refine lv_if_ne (tgt := 41) hx hb dX5_kinds_33 (by decide) (fun c33 => ?_) (fun c33 => ?_)
        · refine lv_bipush hx hb dX5_kinds_41 kB_10 ?_
          exact hJ _ _ (((if_neg c33).trans rfl).symm) (lv_sub hl [0, 1, 2, 3, 4, 5] rfl)
        · refine lv_bipush hx hb dX5_kinds_36 kB_6 ?_
          refine lv_goto (tgt := 43) hx hb dX5_kinds_38 (by decide) ?_
          exact hJ _ _ (((if_pos c33).trans rfl).symm) (lv_sub hl [0, 1, 2, 3, 4, 5] rfl)
      intro v34 ls ev34 hl
      have h := vl_at ev34 h
      refine lv_icmp_ge (tgt := 110) hx hb dX5_kinds_43 (by decide) (fun c35 => ?_) (fun c35 => ?_)
      · have h := (if_pos c35).symm.trans h
        refine lv_iload hx hb dX5_kinds_110 (lv_at hl 4 rfl) ?_
        subst hQ
        have h := Option.some.inj h
        subst h
        exact m_iret hx hb hr hM hL dX5_kinds_112 hlocks
      · have h := (if_neg c35).symm.trans h
        refine lv_aload_n hx hb dX5_kinds_46 rfl (lv_at hl 0 rfl) ?_
        refine m_getR (ci := 4) hx hb hU5 hown hK hM rfl 5 (by decide) w2 h dX5_kinds_47 (fun r36 gr36 h => ?_)
        refine lv_aload_n hx hb dX5_kinds_50 rfl (lv_at hl 0 rfl) ?_
        refine m_getR (ci := 4) hx hb hU5 hown hK hM rfl 3 (by decide) w1 h dX5_kinds_51 (fun r37 gr37 h => ?_)
        obtain ⟨o38, h⟩ := oi_some h
        obtain ⟨q39, hq39, h⟩ := ob_some h
        refine m_callv (va_runV (As := [.ref r37]) (rest := []) ⟨hx, hb, hml, hown, hts⟩ (c_X0_become l G hq39) (cwV 1 hts gX5_kinds_X0_become rfl rfl rfl hd_X0_becomev ⟨Nat.le_of_ble_eq_true rfl, Nat.le_of_ble_eq_true rfl⟩) (m_preV (ci := 0) hK hM rfl o38) rfl rfl hl.1 rfl (lv_room (Nat.le_of_ble_eq_true rfl)) dX5_kinds_54 ⟨Nat.le_of_ble_eq_true rfl, Nat.le_of_ble_eq_true rfl⟩) hL (fun H locs hM hL => ?_)
        refine lv_iload_n hx hb dX5_kinds_57 rfl (lv_at hl 3 rfl) ?_
        refine lv_if_ne (tgt := 71) hx hb dX5_kinds_58 (by decide) (fun c40 => ?_) (fun c40 => ?_)
        · have h := (if_neg c40).symm.trans h
          refine lv_aload_n hx hb dX5_kinds_71 rfl (lv_at hl 0 rfl) ?_
          refine m_getR (ci := 4) hx hb hU5 hown hK hM rfl 5 (by decide) w2 h dX5_kinds_72 (fun r41 gr41 h => ?_)
          refine m_getRN (ci := 0) (host := RX5) hx hb hU0 hown hK hM rfl 3 (by decide) (List.mem_of_getElem? (i := 6) rfl) h dX5_kinds_75 (fun r42 gr42 h => ?_)
          refine hN78 _ (fun _ _ _ _ _ _ _ h H locs ls hM hL hl => ih _ _ _ _ _ _ _ h H locs ls hM hL hl) _ _ _ _ _ _ _ _ h _ _ _ hM hL (lv_sub hl [0, 1, 2, 3, 4, 5] rfl)
        · have h := (if_pos c40).symm.trans h
          refine lv_aload_n hx hb dX5_kinds_61 rfl (lv_at hl 0 rfl) ?_
          refine m_getR (ci := 4) hx hb hU5 hown hK hM rfl 5 (by decide) w2 h dX5_kinds_62 (fun r43 gr43 h => ?_)
          refine m_getRN (ci := 0) (host := RX5) hx hb hU0 hown hK hM rfl 2 (by decide) (List.mem_of_getElem? (i := 5) rfl) h dX5_kinds_65 (fun r44 gr44 h => ?_)
          refine lv_goto (tgt := 78) hx hb dX5_kinds_68 (by decide) ?_
          refine hN78 _ (fun _ _ _ _ _ _ _ h H locs ls hM hL hl => ih _ _ _ _ _ _ _ h H locs ls hM hL hl) _ _ _ _ _ _ _ _ h _ _ _ hM hL (lv_sub hl [0, 1, 2, 3, 4, 5] rfl)
  rw [f_X5_kinds.eq_1] at h
  refine lv_aload_n hx hb dX5_kinds_0 rfl (lv_at hl 0 rfl) ?_
  refine lv_iload_n hx hb dX5_kinds_1 rfl (lv_at hl 1 rfl) ?_
  refine lv_aload_n hx hb dX5_kinds_2 rfl (lv_at hl 0 rfl) ?_
  refine m_getR (ci := 4) hx hb hU5 hown hK hM rfl 3 (by decide) w1 h dX5_kinds_3 (fun r45 gr45 h => ?_)
  refine lv_iload_n hx hb dX5_kinds_6 rfl (lv_at hl 2 rfl) ?_
  obtain ⟨o46, h⟩ := oi_some h
  obtain ⟨q47, hq47, h⟩ := ob_some h
  refine m_calli (va_runV (As := [.int x2]) (rest := [.int x1, .ref h0]) ⟨hx, hb, hml, hown, hts⟩ (c_X0_hasWitness l G hq47) (cwV 1 hts gX5_kinds_X0_hasWitness rfl rfl rfl hd_X0_hasWitnessv ⟨Nat.le_of_ble_eq_true rfl, Nat.le_of_ble_eq_true rfl⟩) (m_preV (ci := 0) hK hM rfl o46) rfl rfl hl.1 rfl (lv_room (Nat.le_of_ble_eq_true rfl)) dX5_kinds_7 ⟨Nat.le_of_ble_eq_true rfl, Nat.le_of_ble_eq_true rfl⟩) hL (fun H locs hM hL => ?_)
  refine lv_iload_n hx hb dX5_kinds_10 rfl (lv_at hl 3 rfl) ?_
  obtain ⟨o48, h⟩ := oi_some h
  obtain ⟨q49, hq49, h⟩ := ob_some h
  refine m_calli (va_runV (As := [.int x1, .int q47, .int x3]) (rest := []) ⟨hx, hb, hml, hown, hts⟩ (c_X5_refusalOfFitting l G hq49) (cwV 3 hts gX5_kinds_X5_refusalOfFitting rfl rfl rfl hd_X5_refusalOfFittingv ⟨Nat.le_of_ble_eq_true rfl, Nat.le_of_ble_eq_true rfl⟩) (m_preV (ci := 4) hK hM rfl o48) rfl rfl hl.1 rfl (lv_room (Nat.le_of_ble_eq_true rfl)) dX5_kinds_11 ⟨Nat.le_of_ble_eq_true rfl, Nat.le_of_ble_eq_true rfl⟩) hL (fun H locs hM hL => ?_)
  refine lv_istore (lv' := [(4, .int q49), (0, .ref h0), (1, .int x1), (2, .int x2), (3, .int x3)]) hx hb dX5_kinds_14 hl (by decide) rfl (fun ls hl => ?_)
  refine lv_iload hx hb dX5_kinds_16 (lv_at hl 0 rfl) ?_
  refine lv_if_eq (tgt := 24) hx hb dX5_kinds_18 (by decide) (fun c50 => ?_) (fun c50 => ?_)
  · have h := (if_pos c50).symm.trans h
    refine lv_iconst hx hb dX5_kinds_24 kI_0 ?_
    refine lv_istore (lv' := [(5, .int (0 : Int32)), (4, .int q49), (0, .ref h0), (1, .int x1), (2, .int x2), (3, .int x3)]) hx hb dX5_kinds_25 hl (by decide) rfl (fun ls hl => ?_)
    refine lv_iconst hx hb dX5_kinds_27 kI_0 ?_
    refine lv_istore (lv' := [(6, .int (0 : Int32)), (5, .int (0 : Int32)), (4, .int q49), (0, .ref h0), (1, .int x1), (2, .int x2), (3, .int x3)]) hx hb dX5_kinds_28 hl (by decide) rfl (fun ls hl => ?_)
    refine hN30 _ _ _ _ _ _ _ _ h _ _ _ hM hL (lv_sub hl [3, 4, 5, 6, 1, 0] rfl)
  · have h := (if_neg c50).symm.trans h
    refine lv_iload hx hb dX5_kinds_21 (lv_at hl 0 rfl) ?_
    subst hQ
    have h := Option.some.inj h
    subst h
    exact m_iret hx hb hr hM hL dX5_kinds_23 hlocks
abbrev rm_X5_fitting : Room := { frames := 6, cells := 0, slots := 0, locals := 153 }
set_option maxHeartbeats 4000000 in
set_option maxRecDepth 100000 in
theorem c_X5_fitting (l : Launch) (G : mG) {h0 : Nat} {x1 : Int32} {h2 : Nat} {x3 : Int32} {x4 : Int32} {σ : mS} {z : Int32 × mS} (h : f_X5_fitting h0 x1 h2 x3 x4 σ = some z) : Met l yX5_fitting wsX5_fitting rm_X5_fitting (va_Pc [.ref h0, .int x1, .ref h2, .int x3, .int x4] (mB G σ)) (mQ G (.returned (some (.int z.1))) z.2) 0 0 (mF G) := by
  refine m_start (cc := cX5_fitting) (maxL := 8) (ret := (some .int)) (by decide) rfl [.ref h0, .int x1, .ref h2, .int x3, .int x4] (Nat.le_of_ble_eq_true rfl) ?_
  intro p e s m args below meth c ls hx hb hr hml hown hts hlocks hnm hK hM hl
  have hown : s.vm.findClass RX5 = some m.cls := hown
  have hnm : meth.name = "fitting" := hnm
  obtain ⟨locs, hlocs⟩ : ∃ l : List Loc, l = [] := ⟨_, rfl⟩
  have hL : mL G locs := by rw [hlocs]; exact mL_nil G
  rw [← hlocs]
  generalize s.heap = H at hM ⊢
  have hl : lv_has ls 8 [(0, .ref h0), (1, .int x1), (2, .ref h2), (3, .int x3), (4, .int x4)] := hl
  obtain ⟨Q, hQ⟩ : ∃ Q, Q = MQ below (mQ G (.returned (some (.int z.1))) z.2) args s 0 0 (mF G) := ⟨_, rfl⟩
  rw [← hQ]
  have hU5 : ∀ w ∈ wsX50, w.before args s = true := fun w h => hts w (List.mem_cons_of_mem _ (List.mem_append_left _ (List.mem_append_left _ (List.mem_append_left _ (List.mem_append_right _ h)))))
  have w1 := (hts (.fieldLink RX5 51 "HandkerchiefsDropped" "thought" "LHandkerchiefsDropped$Assize;") (List.mem_of_getElem? (i := 1) rfl))
  have w2 := (hts (.fieldLink RX5 44 "HandkerchiefsDropped" "now" "LHandkerchiefsDropped$Assize;") (List.mem_of_getElem? (i := 2) rfl))
  have hN9 : ∀ (n : Nat) (h0 : Nat) (x1 : Int32) (h2 : Nat) (x3 : Int32) (x4 : Int32) (x5 : Int32) (x6 : Int32) (x7 : Int32) (σ : mS), f_X5_fitting_9 n h0 x1 h2 x3 x4 x5 x6 x7 σ = some z → ∀ (H : Heap) (locs : List Loc) (ls : Array Slot), mP G σ H → mL G locs → lv_has ls 8 [(0, .ref h0), (1, .int x1), (2, .ref h2), (3, .int x3), (4, .int x4), (5, .int x5), (6, .int x6), (7, .int x7)] → W p l e rm_X5_fitting s m args below meth c H locs 0 0 Q (F0 m 9 ls []) := by
    intro n
    induction n with
    | zero =>
      intro h0 x1 h2 x3 x4 x5 x6 x7 σ h
      exact nomatch (show (none : Option (Int32 × mS)) = some z from h)
    | succ n ih =>
      intro h0 x1 h2 x3 x4 x5 x6 x7 σ h H locs ls hM hL hl
      rw [f_X5_fitting_9.eq_2] at h
      refine lv_iload hx hb dX5_fitting_9 (lv_at hl 7 rfl) ?_
      refine lv_bipush hx hb dX5_fitting_11 kB_99 ?_
      refine lv_icmp_gt (tgt := 65) hx hb dX5_fitting_13 (by decide) (fun c15 => ?_) (fun c15 => ?_)
      · have h := (if_pos c15).symm.trans h
        refine lv_iload hx hb dX5_fitting_65 (lv_at hl 4 rfl) ?_
        refine lv_if_ne (tgt := 75) hx hb dX5_fitting_67 (by decide) (fun c16 => ?_) (fun c16 => ?_)
        · have h := (if_neg c16).symm.trans h
          refine lv_iload hx hb dX5_fitting_75 (lv_at hl 6 rfl) ?_
          subst hQ
          have h := Option.some.inj h
          subst h
          exact m_iret hx hb hr hM hL dX5_fitting_77 hlocks
        · have h := (if_pos c16).symm.trans h
          refine lv_iload hx hb dX5_fitting_70 (lv_at hl 5 rfl) ?_
          refine lv_goto (tgt := 77) hx hb dX5_fitting_72 (by decide) ?_
          subst hQ
          have h := Option.some.inj h
          subst h
          exact m_iret hx hb hr hM hL dX5_fitting_77 hlocks
      · have h := (if_neg c15).symm.trans h
        refine lv_aload_n hx hb dX5_fitting_16 rfl (lv_at hl 0 rfl) ?_
        refine m_getR (ci := 4) hx hb hU5 hown hK hM rfl 5 (by decide) w1 h dX5_fitting_17 (fun r17 gr17 h => ?_)
        refine lv_aload_n hx hb dX5_fitting_20 rfl (lv_at hl 0 rfl) ?_
        refine m_getR (ci := 4) hx hb hU5 hown hK hM rfl 3 (by decide) w2 h dX5_fitting_21 (fun r18 gr18 h => ?_)
        obtain ⟨o19, h⟩ := oi_some h
        obtain ⟨q20, hq20, h⟩ := ob_some h
        refine m_callv (va_runV (As := [.ref r18]) (rest := []) ⟨hx, hb, hml, hown, hts⟩ (c_X0_become l G hq20) (cwV 1 hts gX5_fitting_X0_become rfl rfl rfl hd_X0_becomev ⟨Nat.le_of_ble_eq_true rfl, Nat.le_of_ble_eq_true rfl⟩) (m_preV (ci := 0) hK hM rfl o19) rfl rfl hl.1 rfl (lv_room (Nat.le_of_ble_eq_true rfl)) dX5_fitting_24 ⟨Nat.le_of_ble_eq_true rfl, Nat.le_of_ble_eq_true rfl⟩) hL (fun H locs hM hL => ?_)
        refine lv_aload_n hx hb dX5_fitting_27 rfl (lv_at hl 2 rfl) ?_
        refine lv_iload_n hx hb dX5_fitting_28 rfl (lv_at hl 3 rfl) ?_
        refine lv_iload hx hb dX5_fitting_29 (lv_at hl 7 rfl) ?_
        refine m_iast hx hb hK hM hL h dX5_fitting_31 (fun t21 H locs h hM hL => ?_)
        refine lv_aload_n hx hb dX5_fitting_32 rfl (lv_at hl 0 rfl) ?_
        refine lv_iload_n hx hb dX5_fitting_33 rfl (lv_at hl 1 rfl) ?_
        obtain ⟨o22, h⟩ := oi_some h
        obtain ⟨q23, hq23, h⟩ := ob_some h
        refine m_calli (va_runV (As := [.int x1]) (rest := []) ⟨hx, hb, hml, hown, hts⟩ (c_X5_firstOtherwise l G hq23) (cwV 1 hts gX5_fitting_X5_firstOtherwise rfl rfl rfl hd_X5_firstOtherwisev ⟨Nat.le_of_ble_eq_true rfl, Nat.le_of_ble_eq_true rfl⟩) (m_preV (ci := 4) hK hM rfl o22) rfl rfl hl.1 rfl (lv_room (Nat.le_of_ble_eq_true rfl)) dX5_fitting_34 ⟨Nat.le_of_ble_eq_true rfl, Nat.le_of_ble_eq_true rfl⟩) hL (fun H locs hM hL => ?_)
        refine lv_iconst hx hb dX5_fitting_37 kI_m1 ?_
        suffices hJ : ∀ (v26 : Int32) (v27 : Int32) (ls : Array Slot), v26 = (if q23.1 = (-1 : Int32) then if x6 = (-1 : Int32) then (x5 + (1 : Int32)) else (x5 + (1 : Int32)) else x5) → v27 = (if q23.1 = (-1 : Int32) then if x6 = (-1 : Int32) then x7 else x6 else x6) → lv_has ls 8 [(0, .ref h0), (1, .int x1), (2, .ref h2), (3, .int x3), (4, .int x4), (5, .int v26), (6, .int v27), (7, .int x7)] → W p l e rm_X5_fitting s m args below meth c H locs 0 0 Q (F0 m 59 ls []) by
          refine lv_icmp_ne (tgt := 59) hx hb dX5_fitting_38 (by decide) (fun c24 => ?_) (fun c24 => ?_)
          · exact hJ _ _ _ (((if_neg c24).trans rfl).symm) (((if_neg c24).trans rfl).symm) (lv_sub hl [0, 1, 2, 3, 4, 5, 6, 7] rfl)
          · refine lv_iinc (v := (x5 + (1 : Int32))) (lv' := [(5, .int (x5 + (1 : Int32))), (0, .ref h0), (1, .int x1), (2, .ref h2), (3, .int x3), (4, .int x4), (6, .int x6), (7, .int x7)]) hx hb dX5_fitting_41 hl (k := 5) rfl (by rw [kI_1]) (by decide) rfl (fun ls hl => ?_)
            refine lv_iload hx hb dX5_fitting_44 (lv_at hl 6 rfl) ?_
            refine lv_iconst hx hb dX5_fitting_46 kI_m1 ?_
            refine lv_icmp_ne (tgt := 55) hx hb dX5_fitting_47 (by decide) (fun c25 => ?_) (fun c25 => ?_)
            · refine lv_iload hx hb dX5_fitting_55 (lv_at hl 6 rfl) ?_
              refine lv_istore (lv' := [(6, .int x6), (5, .int (x5 + (1 : Int32))), (0, .ref h0), (1, .int x1), (2, .ref h2), (3, .int x3), (4, .int x4), (7, .int x7)]) hx hb dX5_fitting_57 hl (by decide) rfl (fun ls hl => ?_)
              exact hJ _ _ _ (((if_pos c24).trans ((if_neg c25).trans rfl)).symm) (((if_pos c24).trans ((if_neg c25).trans rfl)).symm) (lv_sub hl [2, 3, 4, 5, 6, 1, 0, 7] rfl)
            · refine lv_iload hx hb dX5_fitting_50 (lv_at hl 7 rfl) ?_
              refine lv_goto (tgt := 57) hx hb dX5_fitting_52 (by decide) ?_
              refine lv_istore (lv' := [(6, .int x7), (5, .int (x5 + (1 : Int32))), (0, .ref h0), (1, .int x1), (2, .ref h2), (3, .int x3), (4, .int x4), (7, .int x7)]) hx hb dX5_fitting_57 hl (by decide) rfl (fun ls hl => ?_)
              exact hJ _ _ _ (((if_pos c24).trans ((if_pos c25).trans rfl)).symm) (((if_pos c24).trans ((if_pos c25).trans rfl)).symm) (lv_sub hl [2, 3, 4, 5, 6, 1, 0, 7] rfl)
        intro v26 v27 ls ev26 ev27 hl
        have h := vl_at ev26 h
        have h := vl_at ev27 h
        obtain ⟨v28, ev28⟩ : ∃ y : Int32, y = x7 + (1 : Int32) := ⟨_, rfl⟩
        have h := vl_at ev28 h
        refine lv_iinc (v := v28) (lv' := [(7, .int v28), (0, .ref h0), (1, .int x1), (2, .ref h2), (3, .int x3), (4, .int x4), (5, .int v26), (6, .int v27)]) hx hb dX5_fitting_59 hl (k := 7) rfl (by rw [ev28, kI_1]) (by decide) rfl (fun ls hl => ?_)
        refine lv_goto (tgt := 9) hx hb dX5_fitting_62 (by decide) ?_
        exact ih _ _ _ _ _ _ _ _ _ h _ _ _ hM hL (lv_sub hl [1, 2, 3, 4, 5, 6, 7, 0] rfl)
  rw [f_X5_fitting.eq_1] at h
  refine lv_iconst hx hb dX5_fitting_0 kI_0 ?_
  refine lv_istore (lv' := [(5, .int (0 : Int32)), (0, .ref h0), (1, .int x1), (2, .ref h2), (3, .int x3), (4, .int x4)]) hx hb dX5_fitting_1 hl (by decide) rfl (fun ls hl => ?_)
  refine lv_iconst hx hb dX5_fitting_3 kI_m1 ?_
  refine lv_istore (lv' := [(6, .int (-1 : Int32)), (5, .int (0 : Int32)), (0, .ref h0), (1, .int x1), (2, .ref h2), (3, .int x3), (4, .int x4)]) hx hb dX5_fitting_4 hl (by decide) rfl (fun ls hl => ?_)
  refine lv_iconst hx hb dX5_fitting_6 kI_0 ?_
  refine lv_istore (lv' := [(7, .int (0 : Int32)), (6, .int (-1 : Int32)), (5, .int (0 : Int32)), (0, .ref h0), (1, .int x1), (2, .ref h2), (3, .int x3), (4, .int x4)]) hx hb dX5_fitting_7 hl (by decide) rfl (fun ls hl => ?_)
  refine hN9 _ _ _ _ _ _ _ _ _ _ h _ _ _ hM hL (lv_sub hl [3, 4, 5, 6, 7, 2, 1, 0] rfl)
