abbrev rm_X6_signOf : Room := { frames := 0, cells := 0, slots := 0, locals := 0 }
set_option maxHeartbeats 4000000 in
set_option maxRecDepth 100000 in
theorem c_X6_signOf (l : Launch) (G : mG) {h0 : Nat} {σ : mS} {z : Int32} (h : f_X6_signOf h0 σ = some z) : Met l yX6_signOf wsX6_signOf rm_X6_signOf (va_Pc [.ref h0] (mB G σ)) (mQ G (.returned (some (.int z))) (σ)) 0 0 (mF G) := by
  refine m_start (cc := cX6_signOf) (maxL := 1) (ret := (some .int)) (by decide) rfl [.ref h0] (Nat.le_of_ble_eq_true rfl) ?_
  intro p e s m args below meth c ls hx hb hr hml hown hts hlocks hnm hK hM hl
  have hown : s.vm.findClass RX6 = some m.cls := hown
  have hnm : meth.name = "signOf" := hnm
  obtain ⟨locs, hlocs⟩ : ∃ l : List Loc, l = [] := ⟨_, rfl⟩
  have hL : mL G locs := by rw [hlocs]; exact mL_nil G
  rw [← hlocs]
  generalize s.heap = H at hM ⊢
  have hl : lv_has ls 1 [(0, .ref h0)] := hl
  obtain ⟨Q, hQ⟩ : ∃ Q, Q = MQ below (mQ G (.returned (some (.int z))) (σ)) args s 0 0 (mF G) := ⟨_, rfl⟩
  rw [← hQ]
  have hU6 : ∀ w ∈ wsX60, w.before args s = true := fun w h => hts w (List.mem_cons_of_mem _ (List.mem_append_right _ h))
  have w1 := (hts (.fieldLink RX6 125 "HandkerchiefsDroppedModel" "token" "I") (List.mem_of_getElem? (i := 1) rfl))
  rw [f_X6_signOf.eq_1] at h
  refine lv_aload_n hx hb dX6_signOf_0 rfl (lv_at hl 0 rfl) ?_
  refine m_getI (ci := 5) hx hb hU6 hown hK hM rfl 24 (by decide) w1 h dX6_signOf_1 (fun v15 gv15 h => ?_)
  refine lv_iconst hx hb dX6_signOf_4 kI_4 ?_
  refine lv_icmp_ne (tgt := 13) hx hb dX6_signOf_5 (by decide) (fun c16 => ?_) (fun c16 => ?_)
  · have h := (if_neg c16).symm.trans h
    refine lv_aload_n hx hb dX6_signOf_13 rfl (lv_at hl 0 rfl) ?_
    refine m_getI (ci := 5) hx hb hU6 hown hK hM rfl 24 (by decide) w1 h dX6_signOf_14 (fun v17 gv17 h => ?_)
    refine lv_iconst hx hb dX6_signOf_17 kI_5 ?_
    refine lv_icmp_ne (tgt := 26) hx hb dX6_signOf_18 (by decide) (fun c18 => ?_) (fun c18 => ?_)
    · have h := (if_neg c18).symm.trans h
      refine lv_aload_n hx hb dX6_signOf_26 rfl (lv_at hl 0 rfl) ?_
      refine m_getI (ci := 5) hx hb hU6 hown hK hM rfl 24 (by decide) w1 h dX6_signOf_27 (fun v19 gv19 h => ?_)
      refine lv_bipush hx hb dX6_signOf_30 kB_60 ?_
      refine lv_icmp_ne (tgt := 40) hx hb dX6_signOf_32 (by decide) (fun c20 => ?_) (fun c20 => ?_)
      · have h := (if_neg c20).symm.trans h
        refine lv_aload_n hx hb dX6_signOf_40 rfl (lv_at hl 0 rfl) ?_
        refine m_getI (ci := 5) hx hb hU6 hown hK hM rfl 24 (by decide) w1 h dX6_signOf_41 (fun v21 gv21 h => ?_)
        refine lv_bipush hx hb dX6_signOf_44 kB_61 ?_
        refine lv_icmp_ne (tgt := 54) hx hb dX6_signOf_46 (by decide) (fun c22 => ?_) (fun c22 => ?_)
        · have h := (if_neg c22).symm.trans h
          refine lv_aload_n hx hb dX6_signOf_54 rfl (lv_at hl 0 rfl) ?_
          refine m_getI (ci := 5) hx hb hU6 hown hK hM rfl 24 (by decide) w1 h dX6_signOf_55 (fun v23 gv23 h => ?_)
          refine lv_bipush hx hb dX6_signOf_58 kB_43 ?_
          refine lv_icmp_ne (tgt := 68) hx hb dX6_signOf_60 (by decide) (fun c24 => ?_) (fun c24 => ?_)
          · have h := (if_neg c24).symm.trans h
            refine lv_aload_n hx hb dX6_signOf_68 rfl (lv_at hl 0 rfl) ?_
            refine m_getI (ci := 5) hx hb hU6 hown hK hM rfl 24 (by decide) w1 h dX6_signOf_69 (fun v25 gv25 h => ?_)
            refine lv_bipush hx hb dX6_signOf_72 kB_45 ?_
            refine lv_icmp_ne (tgt := 82) hx hb dX6_signOf_74 (by decide) (fun c26 => ?_) (fun c26 => ?_)
            · have h := (if_neg c26).symm.trans h
              refine lv_aload_n hx hb dX6_signOf_82 rfl (lv_at hl 0 rfl) ?_
              refine m_getI (ci := 5) hx hb hU6 hown hK hM rfl 24 (by decide) w1 h dX6_signOf_83 (fun v27 gv27 h => ?_)
              refine lv_bipush hx hb dX6_signOf_86 kB_42 ?_
              refine lv_icmp_ne (tgt := 96) hx hb dX6_signOf_88 (by decide) (fun c28 => ?_) (fun c28 => ?_)
              · have h := (if_neg c28).symm.trans h
                refine lv_iconst hx hb dX6_signOf_96 kI_m1 ?_
                subst hQ
                have h := Option.some.inj h
                subst h
                exact m_iret hx hb hr hM hL dX6_signOf_97 hlocks
              · have h := (if_pos c28).symm.trans h
                refine lv_bipush hx hb dX6_signOf_91 kB_18 ?_
                refine lv_goto (tgt := 97) hx hb dX6_signOf_93 (by decide) ?_
                subst hQ
                have h := Option.some.inj h
                subst h
                exact m_iret hx hb hr hM hL dX6_signOf_97 hlocks
            · have h := (if_pos c26).symm.trans h
              refine lv_bipush hx hb dX6_signOf_77 kB_17 ?_
              refine lv_goto (tgt := 97) hx hb dX6_signOf_79 (by decide) ?_
              subst hQ
              have h := Option.some.inj h
              subst h
              exact m_iret hx hb hr hM hL dX6_signOf_97 hlocks
          · have h := (if_pos c24).symm.trans h
            refine lv_bipush hx hb dX6_signOf_63 kB_16 ?_
            refine lv_goto (tgt := 97) hx hb dX6_signOf_65 (by decide) ?_
            subst hQ
            have h := Option.some.inj h
            subst h
            exact m_iret hx hb hr hM hL dX6_signOf_97 hlocks
        · have h := (if_pos c22).symm.trans h
          refine lv_bipush hx hb dX6_signOf_49 kB_15 ?_
          refine lv_goto (tgt := 97) hx hb dX6_signOf_51 (by decide) ?_
          subst hQ
          have h := Option.some.inj h
          subst h
          exact m_iret hx hb hr hM hL dX6_signOf_97 hlocks
      · have h := (if_pos c20).symm.trans h
        refine lv_bipush hx hb dX6_signOf_35 kB_14 ?_
        refine lv_goto (tgt := 97) hx hb dX6_signOf_37 (by decide) ?_
        subst hQ
        have h := Option.some.inj h
        subst h
        exact m_iret hx hb hr hM hL dX6_signOf_97 hlocks
    · have h := (if_pos c18).symm.trans h
      refine lv_bipush hx hb dX6_signOf_21 kB_12 ?_
      refine lv_goto (tgt := 97) hx hb dX6_signOf_23 (by decide) ?_
      subst hQ
      have h := Option.some.inj h
      subst h
      exact m_iret hx hb hr hM hL dX6_signOf_97 hlocks
  · have h := (if_pos c16).symm.trans h
    refine lv_bipush hx hb dX6_signOf_8 kB_11 ?_
    refine lv_goto (tgt := 97) hx hb dX6_signOf_10 (by decide) ?_
    subst hQ
    have h := Option.some.inj h
    subst h
    exact m_iret hx hb hr hM hL dX6_signOf_97 hlocks
abbrev rm_X6_eRead : Room := { frames := 3, cells := 0, slots := 0, locals := 64 }
set_option maxHeartbeats 4000000 in
set_option maxRecDepth 100000 in
theorem c_X6_eRead (l : Launch) (G : mG) {h0 : Nat} {σ : mS} {z : Int32 × mS} (h : f_X6_eRead h0 σ = some z) : Met l yX6_eRead wsX6_eRead rm_X6_eRead (va_Pc [.ref h0] (mB G σ)) (mQ G (.returned (some (.int z.1))) z.2) 0 0 (mF G) := by
  refine m_start (cc := cX6_eRead) (maxL := 4) (ret := (some .boolean)) (by decide) rfl [.ref h0] (Nat.le_of_ble_eq_true rfl) ?_
  intro p e s m args below meth c ls hx hb hr hml hown hts hlocks hnm hK hM hl
  have hown : s.vm.findClass RX6 = some m.cls := hown
  have hnm : meth.name = "eRead" := hnm
  obtain ⟨locs, hlocs⟩ : ∃ l : List Loc, l = [] := ⟨_, rfl⟩
  have hL : mL G locs := by rw [hlocs]; exact mL_nil G
  rw [← hlocs]
  generalize s.heap = H at hM ⊢
  have hl : lv_has ls 4 [(0, .ref h0)] := hl
  obtain ⟨Q, hQ⟩ : ∃ Q, Q = MQ below (mQ G (.returned (some (.int z.1))) z.2) args s 0 0 (mF G) := ⟨_, rfl⟩
  rw [← hQ]
  have hU6 : ∀ w ∈ wsX60, w.before args s = true := fun w h => hts w (List.mem_cons_of_mem _ (List.mem_append_right _ h))
  have w1 := (hts (.fieldLink RX6 138 "HandkerchiefsDroppedModel" "heldMany" "I") (List.mem_of_getElem? (i := 1) rfl))
  have w2 := (hts (.fieldLink RX6 144 "HandkerchiefsDroppedModel" "opens" "I") (List.mem_of_getElem? (i := 2) rfl))
  have w3 := (hts (.fieldLink RX6 125 "HandkerchiefsDroppedModel" "token" "I") (List.mem_of_getElem? (i := 3) rfl))
  have w4 := (hts (.fieldLink RX6 128 "HandkerchiefsDroppedModel" "value" "I") (List.mem_of_getElem? (i := 5) rfl))
  have w5 := (hts (.constant RX6 160 (100000)) (List.mem_of_getElem? (i := 4) rfl))
  have hN61 : ∀ (k14 : Nat → Int32 → Int32 → mS → Option (Int32 × mS)) (hk14 : ∀ (h0 : Nat) (x1 : Int32) (x2 : Int32) (σ : mS), k14 h0 x1 x2 σ = some z → ∀ (H : Heap) (locs : List Loc) (ls : Array Slot), mP G σ H → mL G locs → lv_has ls 4 [(0, .ref h0), (1, .int x1), (2, .int x2)] → W p l e rm_X6_eRead s m args below meth c H locs 0 0 Q (F0 m 14 ls [])) (h0 : Nat) (x2 : Int32) (s0 : Nat) (s1 : Int32) (σ : mS), f_X6_eRead_61 k14 h0 x2 s0 s1 σ = some z → ∀ (H : Heap) (locs : List Loc) (ls : Array Slot), mP G σ H → mL G locs → lv_has ls 4 [(0, .ref h0), (2, .int x2)] → W p l e rm_X6_eRead s m args below meth c H locs 0 0 Q (F0 m 61 ls [.int s1, .ref s0]) := by
    intro k14 hk14 h0 x2 s0 s1 σ h H locs ls hM hL hl
    rw [f_X6_eRead_61.eq_1] at h
    obtain ⟨o60, h⟩ := oi_some h
    obtain ⟨q61, hq61, h⟩ := ob_some h
    refine m_callv (va_runV (As := [.int s1]) (rest := []) ⟨hx, hb, hml, hown, hts⟩ (c_X6_puts l G hq61) (cwV 1 hts gX6_eRead_X6_puts rfl rfl rfl hd_X6_putsv ⟨Nat.le_of_ble_eq_true rfl, Nat.le_of_ble_eq_true rfl⟩) (m_preV (ci := 5) hK hM rfl o60) rfl rfl hl.1 rfl (lv_room (Nat.le_of_ble_eq_true rfl)) dX6_eRead_61 ⟨Nat.le_of_ble_eq_true rfl, Nat.le_of_ble_eq_true rfl⟩) hL (fun H locs hM hL => ?_)
    refine lv_aload_n hx hb dX6_eRead_64 rfl (lv_at hl 0 rfl) ?_
    refine lv_bipush hx hb dX6_eRead_65 kB_7 ?_
    obtain ⟨o62, h⟩ := oi_some h
    obtain ⟨q63, hq63, h⟩ := ob_some h
    refine m_callv (va_runV (As := [.int (7 : Int32)]) (rest := []) ⟨hx, hb, hml, hown, hts⟩ (c_X6_unwinds l G hq63) (cwV 1 hts gX6_eRead_X6_unwinds rfl rfl rfl hd_X6_unwindsv ⟨Nat.le_of_ble_eq_true rfl, Nat.le_of_ble_eq_true rfl⟩) (m_preV (ci := 5) hK hM rfl o62) rfl rfl hl.1 rfl (lv_room (Nat.le_of_ble_eq_true rfl)) dX6_eRead_67 ⟨Nat.le_of_ble_eq_true rfl, Nat.le_of_ble_eq_true rfl⟩) hL (fun H locs hM hL => ?_)
    refine lv_iconst hx hb dX6_eRead_70 kI_0 ?_
    refine lv_istore_n (lv' := [(1, .int (0 : Int32)), (0, .ref h0), (2, .int x2)]) hx hb dX6_eRead_71 rfl hl (by decide) rfl (fun ls hl => ?_)
    refine lv_goto (tgt := 14) hx hb dX6_eRead_72 (by decide) ?_
    exact hk14 _ _ _ _ h _ _ _ hM hL (lv_sub hl [1, 0, 2] rfl)
  have hN38 : ∀ (k14 : Nat → Int32 → Int32 → mS → Option (Int32 × mS)) (hk14 : ∀ (h0 : Nat) (x1 : Int32) (x2 : Int32) (σ : mS), k14 h0 x1 x2 σ = some z → ∀ (H : Heap) (locs : List Loc) (ls : Array Slot), mP G σ H → mL G locs → lv_has ls 4 [(0, .ref h0), (1, .int x1), (2, .int x2)] → W p l e rm_X6_eRead s m args below meth c H locs 0 0 Q (F0 m 14 ls [])) (h0 : Nat) (x2 : Int32) (σ : mS), f_X6_eRead_38 k14 h0 x2 σ = some z → ∀ (H : Heap) (locs : List Loc) (ls : Array Slot), mP G σ H → mL G locs → lv_has ls 4 [(0, .ref h0), (2, .int x2)] → W p l e rm_X6_eRead s m args below meth c H locs 0 0 Q (F0 m 38 ls []) := by
    intro k14 hk14 h0 x2 σ h H locs ls hM hL hl
    rw [f_X6_eRead_38.eq_1] at h
    refine lv_aload_n hx hb dX6_eRead_38 rfl (lv_at hl 0 rfl) ?_
    refine lv_aload_n hx hb dX6_eRead_39 rfl (lv_at hl 0 rfl) ?_
    refine m_getI (ci := 5) hx hb hU6 hown hK hM rfl 24 (by decide) w3 h dX6_eRead_40 (fun v64 gv64 h => ?_)
    refine lv_iconst hx hb dX6_eRead_43 kI_1 ?_
    refine lv_icmp_ne (tgt := 57) hx hb dX6_eRead_44 (by decide) (fun c65 => ?_) (fun c65 => ?_)
    · have h := (if_neg c65).symm.trans h
      refine lv_aload_n hx hb dX6_eRead_57 rfl (lv_at hl 0 rfl) ?_
      refine m_getI (ci := 5) hx hb hU6 hown hK hM rfl 25 (by decide) w4 h dX6_eRead_58 (fun v66 gv66 h => ?_)
      refine hN61 _ hk14 _ _ _ _ _ h _ _ _ hM hL (lv_sub hl [0, 1] rfl)
    · have h := (if_pos c65).symm.trans h
      refine lv_ldc hx hb hown w5 dX6_eRead_47 ?_
      refine lv_aload_n hx hb dX6_eRead_49 rfl (lv_at hl 0 rfl) ?_
      refine m_getI (ci := 5) hx hb hU6 hown hK hM rfl 25 (by decide) w4 h dX6_eRead_50 (fun v67 gv67 h => ?_)
      refine lv_iadd hx hb dX6_eRead_53 ?_
      refine lv_goto (tgt := 61) hx hb dX6_eRead_54 (by decide) ?_
      refine hN61 _ hk14 _ _ _ _ _ h _ _ _ hM hL (lv_sub hl [0, 1] rfl)
  have hN99 : ∀ (k14 : Nat → Int32 → Int32 → mS → Option (Int32 × mS)) (hk14 : ∀ (h0 : Nat) (x1 : Int32) (x2 : Int32) (σ : mS), k14 h0 x1 x2 σ = some z → ∀ (H : Heap) (locs : List Loc) (ls : Array Slot), mP G σ H → mL G locs → lv_has ls 4 [(0, .ref h0), (1, .int x1), (2, .int x2)] → W p l e rm_X6_eRead s m args below meth c H locs 0 0 Q (F0 m 14 ls [])) (h0 : Nat) (x1 : Int32) (σ : mS), f_X6_eRead_99 k14 h0 x1 σ = some z → ∀ (H : Heap) (locs : List Loc) (ls : Array Slot), mP G σ H → mL G locs → lv_has ls 4 [(0, .ref h0), (1, .int x1)] → W p l e rm_X6_eRead s m args below meth c H locs 0 0 Q (F0 m 99 ls []) := by
    intro k14 hk14 h0 x1 σ h H locs ls hM hL hl
    rw [f_X6_eRead_99.eq_1] at h
    refine lv_aload_n hx hb dX6_eRead_99 rfl (lv_at hl 0 rfl) ?_
    refine m_getI (ci := 5) hx hb hU6 hown hK hM rfl 24 (by decide) w3 h dX6_eRead_100 (fun v68 gv68 h => ?_)
    refine lv_bipush hx hb dX6_eRead_103 kB_45 ?_
    refine lv_icmp_ne (tgt := 124) hx hb dX6_eRead_105 (by decide) (fun c69 => ?_) (fun c69 => ?_)
    · have h := (if_neg c69).symm.trans h
      refine lv_aload_n hx hb dX6_eRead_124 rfl (lv_at hl 0 rfl) ?_
      refine m_getI (ci := 5) hx hb hU6 hown hK hM rfl 24 (by decide) w3 h dX6_eRead_125 (fun v70 gv70 h => ?_)
      refine lv_bipush hx hb dX6_eRead_128 kB_40 ?_
      refine lv_icmp_ne (tgt := 148) hx hb dX6_eRead_130 (by decide) (fun c71 => ?_) (fun c71 => ?_)
      · have h := (if_neg c71).symm.trans h
        refine lv_iconst hx hb dX6_eRead_148 kI_0 ?_
        subst hQ
        have h := Option.some.inj h
        subst h
        exact m_zret (x := (0 : Int32)) hx hb hr rfl hM hL dX6_eRead_149 hlocks
      · have h := (if_pos c71).symm.trans h
        refine lv_aload_n hx hb dX6_eRead_133 rfl (lv_at hl 0 rfl) ?_
        refine lv_iconst hx hb dX6_eRead_134 kI_0 ?_
        obtain ⟨o72, h⟩ := oi_some h
        obtain ⟨q73, hq73, h⟩ := ob_some h
        refine m_calli (va_runV (As := [.int (0 : Int32)]) (rest := []) ⟨hx, hb, hml, hown, hts⟩ (c_X6_opensOne l G hq73) (cwV 1 hts gX6_eRead_X6_opensOne rfl rfl rfl hd_X6_opensOnev ⟨Nat.le_of_ble_eq_true rfl, Nat.le_of_ble_eq_true rfl⟩) (m_preV (ci := 5) hK hM rfl o72) rfl rfl hl.1 rfl (lv_room (Nat.le_of_ble_eq_true rfl)) dX6_eRead_135 ⟨Nat.le_of_ble_eq_true rfl, Nat.le_of_ble_eq_true rfl⟩) hL (fun H locs hM hL => ?_)
        refine lv_if_ne (tgt := 143) hx hb dX6_eRead_138 (by decide) (fun c74 => ?_) (fun c74 => ?_)
        · have h := (if_neg c74).symm.trans h
          refine lv_iconst hx hb dX6_eRead_143 kI_1 ?_
          refine lv_istore_n (lv' := [(2, .int (1 : Int32)), (0, .ref h0), (1, .int x1)]) hx hb dX6_eRead_144 rfl hl (by decide) rfl (fun ls hl => ?_)
          refine lv_goto (tgt := 14) hx hb dX6_eRead_145 (by decide) ?_
          exact hk14 _ _ _ _ h _ _ _ hM hL (lv_sub hl [1, 2, 0] rfl)
        · have h := (if_pos c74).symm.trans h
          refine lv_iconst hx hb dX6_eRead_141 kI_0 ?_
          subst hQ
          have h := Option.some.inj h
          subst h
          exact m_zret (x := (0 : Int32)) hx hb hr rfl hM hL dX6_eRead_142 hlocks
    · have h := (if_pos c69).symm.trans h
      refine lv_aload_n hx hb dX6_eRead_108 rfl (lv_at hl 0 rfl) ?_
      refine lv_bipush hx hb dX6_eRead_109 kB_19 ?_
      obtain ⟨o75, h⟩ := oi_some h
      obtain ⟨q76, hq76, h⟩ := ob_some h
      refine m_calli (va_runV (As := [.int (19 : Int32)]) (rest := []) ⟨hx, hb, hml, hown, hts⟩ (c_X6_opensOne l G hq76) (cwV 1 hts gX6_eRead_X6_opensOne rfl rfl rfl hd_X6_opensOnev ⟨Nat.le_of_ble_eq_true rfl, Nat.le_of_ble_eq_true rfl⟩) (m_preV (ci := 5) hK hM rfl o75) rfl rfl hl.1 rfl (lv_room (Nat.le_of_ble_eq_true rfl)) dX6_eRead_111 ⟨Nat.le_of_ble_eq_true rfl, Nat.le_of_ble_eq_true rfl⟩) hL (fun H locs hM hL => ?_)
      refine lv_if_ne (tgt := 119) hx hb dX6_eRead_114 (by decide) (fun c77 => ?_) (fun c77 => ?_)
      · have h := (if_neg c77).symm.trans h
        refine lv_iconst hx hb dX6_eRead_119 kI_0 ?_
        refine lv_istore_n (lv' := [(2, .int (0 : Int32)), (0, .ref h0), (1, .int x1)]) hx hb dX6_eRead_120 rfl hl (by decide) rfl (fun ls hl => ?_)
        refine lv_goto (tgt := 14) hx hb dX6_eRead_121 (by decide) ?_
        exact hk14 _ _ _ _ h _ _ _ hM hL (lv_sub hl [1, 2, 0] rfl)
      · have h := (if_pos c77).symm.trans h
        refine lv_iconst hx hb dX6_eRead_117 kI_0 ?_
        subst hQ
        have h := Option.some.inj h
        subst h
        exact m_zret (x := (0 : Int32)) hx hb hr rfl hM hL dX6_eRead_118 hlocks
  have hN14 : ∀ (n : Nat) (h0 : Nat) (x1 : Int32) (x2 : Int32) (σ : mS), f_X6_eRead_14 n h0 x1 x2 σ = some z → ∀ (H : Heap) (locs : List Loc) (ls : Array Slot), mP G σ H → mL G locs → lv_has ls 4 [(0, .ref h0), (1, .int x1), (2, .int x2)] → W p l e rm_X6_eRead s m args below meth c H locs 0 0 Q (F0 m 14 ls []) := by
    intro n
    induction n with
    | zero =>
      intro h0 x1 x2 σ h
      exact nomatch (show (none : Option (Int32 × mS)) = some z from h)
    | succ n ih =>
      intro h0 x1 x2 σ h H locs ls hM hL hl
      rw [f_X6_eRead_14.eq_2] at h
      refine lv_aload_n hx hb dX6_eRead_14 rfl (lv_at hl 0 rfl) ?_
      obtain ⟨o78, h⟩ := oi_some h
      obtain ⟨q79, hq79, h⟩ := ob_some h
      refine m_callv (va_runV (As := []) (rest := []) ⟨hx, hb, hml, hown, hts⟩ (c_X6_next l G hq79) (cwV 0 hts gX6_eRead_X6_next rfl rfl rfl hd_X6_nextv ⟨Nat.le_of_ble_eq_true rfl, Nat.le_of_ble_eq_true rfl⟩) (m_preV (ci := 5) hK hM rfl o78) rfl rfl hl.1 rfl (lv_room (Nat.le_of_ble_eq_true rfl)) dX6_eRead_15 ⟨Nat.le_of_ble_eq_true rfl, Nat.le_of_ble_eq_true rfl⟩) hL (fun H locs hM hL => ?_)
      refine lv_iload_n hx hb dX6_eRead_18 rfl (lv_at hl 1 rfl) ?_
      refine lv_if_eq (tgt := 150) hx hb dX6_eRead_19 (by decide) (fun c80 => ?_) (fun c80 => ?_)
      · have h := (if_pos c80).symm.trans h
        refine lv_aload_n hx hb dX6_eRead_150 rfl (lv_at hl 0 rfl) ?_
        refine m_getI (ci := 5) hx hb hU6 hown hK hM rfl 24 (by decide) w3 h dX6_eRead_151 (fun v81 gv81 h => ?_)
        refine lv_bipush hx hb dX6_eRead_154 kB_59 ?_
        refine lv_icmp_ne (tgt := 177) hx hb dX6_eRead_156 (by decide) (fun c82 => ?_) (fun c82 => ?_)
        · have h := (if_neg c82).symm.trans h
          refine lv_aload_n hx hb dX6_eRead_177 rfl (lv_at hl 0 rfl) ?_
          refine m_getI (ci := 5) hx hb hU6 hown hK hM rfl 24 (by decide) w3 h dX6_eRead_178 (fun v83 gv83 h => ?_)
          refine lv_bipush hx hb dX6_eRead_181 kB_41 ?_
          refine lv_icmp_ne (tgt := 229) hx hb dX6_eRead_183 (by decide) (fun c84 => ?_) (fun c84 => ?_)
          · have h := (if_neg c84).symm.trans h
            refine lv_aload_n hx hb dX6_eRead_229 rfl (lv_at hl 0 rfl) ?_
            obtain ⟨o85, h⟩ := oi_some h
            obtain ⟨q86, hq86, h⟩ := ob_some h
            refine m_calli (va_runV (As := []) (rest := []) ⟨hx, hb, hml, hown, hts⟩ (c_X6_signOf l G hq86) (cwV 0 hts gX6_eRead_X6_signOf rfl rfl rfl hd_X6_signOfv ⟨Nat.le_of_ble_eq_true rfl, Nat.le_of_ble_eq_true rfl⟩) (m_preV (ci := 5) hK hM rfl o85) rfl rfl hl.1 rfl (lv_room (Nat.le_of_ble_eq_true rfl)) dX6_eRead_230 ⟨Nat.le_of_ble_eq_true rfl, Nat.le_of_ble_eq_true rfl⟩) hL (fun H locs hM hL => ?_)
            refine lv_istore_n (lv' := [(3, .int q86), (0, .ref h0), (1, .int x1), (2, .int x2)]) hx hb dX6_eRead_233 rfl hl (by decide) rfl (fun ls hl => ?_)
            refine lv_iload_n hx hb dX6_eRead_234 rfl (lv_at hl 0 rfl) ?_
            refine lv_iconst hx hb dX6_eRead_235 kI_m1 ?_
            refine lv_icmp_eq (tgt := 247) hx hb dX6_eRead_236 (by decide) (fun c87 => ?_) (fun c87 => ?_)
            · have h := (if_pos c87).symm.trans h
              refine lv_iconst hx hb dX6_eRead_247 kI_0 ?_
              subst hQ
              have h := Option.some.inj h
              subst h
              exact m_zret (x := (0 : Int32)) hx hb hr rfl hM hL dX6_eRead_248 hlocks
            · have h := (if_neg c87).symm.trans h
              refine lv_aload_n hx hb dX6_eRead_239 rfl (lv_at hl 1 rfl) ?_
              refine lv_iload_n hx hb dX6_eRead_240 rfl (lv_at hl 0 rfl) ?_
              obtain ⟨o88, h⟩ := oi_some h
              obtain ⟨q89, hq89, h⟩ := ob_some h
              refine m_calli (va_runV (As := [.int q86]) (rest := []) ⟨hx, hb, hml, hown, hts⟩ (c_X6_between l G hq89) (cwV 1 hts gX6_eRead_X6_between rfl rfl rfl hd_X6_betweenv ⟨Nat.le_of_ble_eq_true rfl, Nat.le_of_ble_eq_true rfl⟩) (m_preV (ci := 5) hK hM rfl o88) rfl rfl hl.1 rfl (lv_room (Nat.le_of_ble_eq_true rfl)) dX6_eRead_241 ⟨Nat.le_of_ble_eq_true rfl, Nat.le_of_ble_eq_true rfl⟩) hL (fun H locs hM hL => ?_)
              refine lv_if_ne (tgt := 249) hx hb dX6_eRead_244 (by decide) (fun c90 => ?_) (fun c90 => ?_)
              · have h := (if_neg c90).symm.trans h
                refine lv_iconst hx hb dX6_eRead_249 kI_1 ?_
                refine lv_istore_n (lv' := [(1, .int (1 : Int32)), (3, .int q86), (0, .ref h0), (2, .int x2)]) hx hb dX6_eRead_250 rfl hl (by decide) rfl (fun ls hl => ?_)
                refine lv_iload_n hx hb dX6_eRead_251 rfl (lv_at hl 1 rfl) ?_
                refine lv_bipush hx hb dX6_eRead_252 kB_12 ?_
                suffices hJ : ∀ (v92 : Int32) (ls : Array Slot), v92 = (if (12 : Int32) < q86 then (0 : Int32) else (1 : Int32)) → lv_has ls 4 [(0, .ref h0), (1, .int (1 : Int32))] → W p l e rm_X6_eRead s m args below meth c H locs 0 0 Q (F0 m 262 ls [.int v92]) by
                  refine lv_icmp_gt (tgt := 261) hx hb dX6_eRead_254 (by decide) (fun c91 => ?_) (fun c91 => ?_)
                  · refine lv_iconst hx hb dX6_eRead_261 kI_0 ?_
                    exact hJ _ _ (((if_pos c91).trans rfl).symm) (lv_sub hl [2, 0] rfl)
                  · refine lv_iconst hx hb dX6_eRead_257 kI_1 ?_
                    refine lv_goto (tgt := 262) hx hb dX6_eRead_258 (by decide) ?_
                    exact hJ _ _ (((if_neg c91).trans rfl).symm) (lv_sub hl [2, 0] rfl)
                intro v92 ls ev92 hl
                have h := vl_at ev92 h
                refine lv_istore_n (lv' := [(2, .int v92), (0, .ref h0), (1, .int (1 : Int32))]) hx hb dX6_eRead_262 rfl hl (by decide) rfl (fun ls hl => ?_)
                refine lv_goto (tgt := 14) hx hb dX6_eRead_263 (by decide) ?_
                exact ih _ _ _ _ h _ _ _ hM hL (lv_sub hl [1, 2, 0] rfl)
              · have h := (if_pos c90).symm.trans h
                refine lv_iconst hx hb dX6_eRead_247 kI_0 ?_
                subst hQ
                have h := Option.some.inj h
                subst h
                exact m_zret (x := (0 : Int32)) hx hb hr rfl hM hL dX6_eRead_248 hlocks
          · have h := (if_pos c84).symm.trans h
            refine lv_aload_n hx hb dX6_eRead_186 rfl (lv_at hl 0 rfl) ?_
            refine lv_iconst hx hb dX6_eRead_187 kI_1 ?_
            obtain ⟨o93, h⟩ := oi_some h
            obtain ⟨q94, hq94, h⟩ := ob_some h
            refine m_callv (va_runV (As := [.int (1 : Int32)]) (rest := []) ⟨hx, hb, hml, hown, hts⟩ (c_X6_unwinds l G hq94) (cwV 1 hts gX6_eRead_X6_unwinds rfl rfl rfl hd_X6_unwindsv ⟨Nat.le_of_ble_eq_true rfl, Nat.le_of_ble_eq_true rfl⟩) (m_preV (ci := 5) hK hM rfl o93) rfl rfl hl.1 rfl (lv_room (Nat.le_of_ble_eq_true rfl)) dX6_eRead_188 ⟨Nat.le_of_ble_eq_true rfl, Nat.le_of_ble_eq_true rfl⟩) hL (fun H locs hM hL => ?_)
            refine lv_aload_n hx hb dX6_eRead_191 rfl (lv_at hl 0 rfl) ?_
            refine m_getI (ci := 5) hx hb hU6 hown hK hM rfl 28 (by decide) w1 h dX6_eRead_192 (fun v95 gv95 h => ?_)
            refine lv_if_ne (tgt := 200) hx hb dX6_eRead_195 (by decide) (fun c96 => ?_) (fun c96 => ?_)
            · have h := (if_neg c96).symm.trans h
              refine lv_aload_n hx hb dX6_eRead_200 rfl (lv_at hl 0 rfl) ?_
              refine lv_dup hx hb dX6_eRead_201 rfl ?_
              refine m_getI (ci := 5) hx hb hU6 hown hK hM rfl 28 (by decide) w1 h dX6_eRead_202 (fun v97 gv97 h => ?_)
              refine lv_iconst hx hb dX6_eRead_205 kI_1 ?_
              refine lv_isub hx hb dX6_eRead_206 ?_
              refine m_put (ci := 5) hx hb hU6 tyX6 tyX6_ok nmX6 hown hK hM hL rfl 28 (by decide) w1 rfl rfl rfl h dX6_eRead_207 (fun t98 H locs h hM hL => ?_)
              refine lv_aload_n hx hb dX6_eRead_210 rfl (lv_at hl 0 rfl) ?_
              refine lv_dup hx hb dX6_eRead_211 rfl ?_
              refine m_getI (ci := 5) hx hb hU6 hown hK hM rfl 29 (by decide) w2 h dX6_eRead_212 (fun v99 gv99 h => ?_)
              refine lv_iconst hx hb dX6_eRead_215 kI_1 ?_
              refine lv_isub hx hb dX6_eRead_216 ?_
              refine m_put (ci := 5) hx hb hU6 tyX6 tyX6_ok nmX6 hown hK hM hL rfl 29 (by decide) w2 rfl rfl rfl h dX6_eRead_217 (fun t100 H locs h hM hL => ?_)
              refine lv_aload_n hx hb dX6_eRead_220 rfl (lv_at hl 0 rfl) ?_
              refine lv_bipush hx hb dX6_eRead_221 kB_7 ?_
              obtain ⟨o101, h⟩ := oi_some h
              obtain ⟨q102, hq102, h⟩ := ob_some h
              refine m_callv (va_runV (As := [.int (7 : Int32)]) (rest := []) ⟨hx, hb, hml, hown, hts⟩ (c_X6_unwinds l G hq102) (cwV 1 hts gX6_eRead_X6_unwinds rfl rfl rfl hd_X6_unwindsv ⟨Nat.le_of_ble_eq_true rfl, Nat.le_of_ble_eq_true rfl⟩) (m_preV (ci := 5) hK hM rfl o101) rfl rfl hl.1 rfl (lv_room (Nat.le_of_ble_eq_true rfl)) dX6_eRead_223 ⟨Nat.le_of_ble_eq_true rfl, Nat.le_of_ble_eq_true rfl⟩) hL (fun H locs hM hL => ?_)
              refine lv_goto (tgt := 14) hx hb dX6_eRead_226 (by decide) ?_
              exact ih _ _ _ _ h _ _ _ hM hL (lv_sub hl [0, 1, 2] rfl)
            · have h := (if_pos c96).symm.trans h
              refine lv_iconst hx hb dX6_eRead_198 kI_0 ?_
              subst hQ
              have h := Option.some.inj h
              subst h
              exact m_zret (x := (0 : Int32)) hx hb hr rfl hM hL dX6_eRead_199 hlocks
        · have h := (if_pos c82).symm.trans h
          refine lv_aload_n hx hb dX6_eRead_159 rfl (lv_at hl 0 rfl) ?_
          refine lv_iconst hx hb dX6_eRead_160 kI_1 ?_
          obtain ⟨o103, h⟩ := oi_some h
          obtain ⟨q104, hq104, h⟩ := ob_some h
          refine m_callv (va_runV (As := [.int (1 : Int32)]) (rest := []) ⟨hx, hb, hml, hown, hts⟩ (c_X6_unwinds l G hq104) (cwV 1 hts gX6_eRead_X6_unwinds rfl rfl rfl hd_X6_unwindsv ⟨Nat.le_of_ble_eq_true rfl, Nat.le_of_ble_eq_true rfl⟩) (m_preV (ci := 5) hK hM rfl o103) rfl rfl hl.1 rfl (lv_room (Nat.le_of_ble_eq_true rfl)) dX6_eRead_161 ⟨Nat.le_of_ble_eq_true rfl, Nat.le_of_ble_eq_true rfl⟩) hL (fun H locs hM hL => ?_)
          refine lv_aload_n hx hb dX6_eRead_164 rfl (lv_at hl 0 rfl) ?_
          refine m_getI (ci := 5) hx hb hU6 hown hK hM rfl 28 (by decide) w1 h dX6_eRead_165 (fun v105 gv105 h => ?_)
          refine lv_if_ne (tgt := 175) hx hb dX6_eRead_168 (by decide) (fun c106 => ?_) (fun c106 => ?_)
          · have h := (if_neg c106).symm.trans h
            refine lv_iconst hx hb dX6_eRead_175 kI_0 ?_
            subst hQ
            have h := Option.some.inj h
            subst h
            exact m_zret (x := (0 : Int32)) hx hb hr rfl hM hL dX6_eRead_176 hlocks
          · have h := (if_pos c106).symm.trans h
            refine lv_iconst hx hb dX6_eRead_171 kI_1 ?_
            refine lv_goto (tgt := 176) hx hb dX6_eRead_172 (by decide) ?_
            subst hQ
            have h := Option.some.inj h
            subst h
            exact m_zret (x := (1 : Int32)) hx hb hr rfl hM hL dX6_eRead_176 hlocks
      · have h := (if_neg c80).symm.trans h
        refine lv_aload_n hx hb dX6_eRead_22 rfl (lv_at hl 0 rfl) ?_
        refine m_getI (ci := 5) hx hb hU6 hown hK hM rfl 24 (by decide) w3 h dX6_eRead_23 (fun v107 gv107 h => ?_)
        refine lv_iconst hx hb dX6_eRead_26 kI_1 ?_
        refine lv_icmp_eq (tgt := 38) hx hb dX6_eRead_27 (by decide) (fun c108 => ?_) (fun c108 => ?_)
        · have h := (if_pos c108).symm.trans h
          refine hN38 _ (fun _ _ _ _ h H locs ls hM hL hl => ih _ _ _ _ h H locs ls hM hL hl) _ _ _ h _ _ _ hM hL (lv_sub hl [0, 2] rfl)
        · have h := (if_neg c108).symm.trans h
          refine lv_aload_n hx hb dX6_eRead_30 rfl (lv_at hl 0 rfl) ?_
          refine m_getI (ci := 5) hx hb hU6 hown hK hM rfl 24 (by decide) w3 h dX6_eRead_31 (fun v109 gv109 h => ?_)
          refine lv_iconst hx hb dX6_eRead_34 kI_2 ?_
          refine lv_icmp_ne (tgt := 75) hx hb dX6_eRead_35 (by decide) (fun c110 => ?_) (fun c110 => ?_)
          · have h := (if_neg c110).symm.trans h
            refine lv_aload_n hx hb dX6_eRead_75 rfl (lv_at hl 0 rfl) ?_
            refine m_getI (ci := 5) hx hb hU6 hown hK hM rfl 24 (by decide) w3 h dX6_eRead_76 (fun v111 gv111 h => ?_)
            refine lv_bipush hx hb dX6_eRead_79 kB_6 ?_
            refine lv_icmp_ne (tgt := 99) hx hb dX6_eRead_81 (by decide) (fun c112 => ?_) (fun c112 => ?_)
            · have h := (if_neg c112).symm.trans h
              refine hN99 _ (fun _ _ _ _ h H locs ls hM hL hl => ih _ _ _ _ h H locs ls hM hL hl) _ _ _ h _ _ _ hM hL (lv_sub hl [0, 1] rfl)
            · have h := (if_pos c112).symm.trans h
              refine lv_iload_n hx hb dX6_eRead_84 rfl (lv_at hl 2 rfl) ?_
              refine lv_if_eq (tgt := 99) hx hb dX6_eRead_85 (by decide) (fun c113 => ?_) (fun c113 => ?_)
              · have h := (if_pos c113).symm.trans h
                refine hN99 _ (fun _ _ _ _ h H locs ls hM hL hl => ih _ _ _ _ h H locs ls hM hL hl) _ _ _ h _ _ _ hM hL (lv_sub hl [0, 1] rfl)
              · have h := (if_neg c113).symm.trans h
                refine lv_aload_n hx hb dX6_eRead_88 rfl (lv_at hl 0 rfl) ?_
                refine lv_bipush hx hb dX6_eRead_89 kB_13 ?_
                obtain ⟨o114, h⟩ := oi_some h
                obtain ⟨q115, hq115, h⟩ := ob_some h
                refine m_calli (va_runV (As := [.int (13 : Int32)]) (rest := []) ⟨hx, hb, hml, hown, hts⟩ (c_X6_opensOne l G hq115) (cwV 1 hts gX6_eRead_X6_opensOne rfl rfl rfl hd_X6_opensOnev ⟨Nat.le_of_ble_eq_true rfl, Nat.le_of_ble_eq_true rfl⟩) (m_preV (ci := 5) hK hM rfl o114) rfl rfl hl.1 rfl (lv_room (Nat.le_of_ble_eq_true rfl)) dX6_eRead_91 ⟨Nat.le_of_ble_eq_true rfl, Nat.le_of_ble_eq_true rfl⟩) hL (fun H locs hM hL => ?_)
                refine lv_if_ne (tgt := 14) hx hb dX6_eRead_94 (by decide) (fun c116 => ?_) (fun c116 => ?_)
                · have h := (if_neg c116).symm.trans h
                  exact ih _ _ _ _ h _ _ _ hM hL (lv_sub hl [0, 1, 2] rfl)
                · have h := (if_pos c116).symm.trans h
                  refine lv_iconst hx hb dX6_eRead_97 kI_0 ?_
                  subst hQ
                  have h := Option.some.inj h
                  subst h
                  exact m_zret (x := (0 : Int32)) hx hb hr rfl hM hL dX6_eRead_98 hlocks
          · have h := (if_pos c110).symm.trans h
            refine hN38 _ (fun _ _ _ _ h H locs ls hM hL hl => ih _ _ _ _ h H locs ls hM hL hl) _ _ _ h _ _ _ hM hL (lv_sub hl [0, 2] rfl)
  rw [f_X6_eRead.eq_1] at h
  refine lv_aload_n hx hb dX6_eRead_0 rfl (lv_at hl 0 rfl) ?_
  refine lv_iconst hx hb dX6_eRead_1 kI_0 ?_
  refine m_put (ci := 5) hx hb hU6 tyX6 tyX6_ok nmX6 hown hK hM hL rfl 28 (by decide) w1 rfl rfl rfl h dX6_eRead_2 (fun t117 H locs h hM hL => ?_)
  refine lv_aload_n hx hb dX6_eRead_5 rfl (lv_at hl 0 rfl) ?_
  refine lv_iconst hx hb dX6_eRead_6 kI_0 ?_
  refine m_put (ci := 5) hx hb hU6 tyX6 tyX6_ok nmX6 hown hK hM hL rfl 29 (by decide) w2 rfl rfl rfl h dX6_eRead_7 (fun t118 H locs h hM hL => ?_)
  refine lv_iconst hx hb dX6_eRead_10 kI_1 ?_
  refine lv_istore_n (lv' := [(1, .int (1 : Int32)), (0, .ref h0)]) hx hb dX6_eRead_11 rfl hl (by decide) rfl (fun ls hl => ?_)
  refine lv_iconst hx hb dX6_eRead_12 kI_1 ?_
  refine lv_istore_n (lv' := [(2, .int (1 : Int32)), (1, .int (1 : Int32)), (0, .ref h0)]) hx hb dX6_eRead_13 rfl hl (by decide) rfl (fun ls hl => ?_)
  refine hN14 _ _ _ _ _ h _ _ _ hM hL (lv_sub hl [2, 1, 0] rfl)
abbrev rm_X6_text : Room := { frames := 4, cells := 0, slots := 0, locals := 87 }
set_option maxHeartbeats 4000000 in
set_option maxRecDepth 100000 in
theorem c_X6_text (l : Launch) (G : mG) {h0 : Nat} {σ : mS} {z : Int32 × mS} (h : f_X6_text h0 σ = some z) : Met l yX6_text wsX6_text rm_X6_text (va_Pc [.ref h0] (mB G σ)) (mQ G (.returned (some (.int z.1))) z.2) 0 0 (mF G) := by
  refine m_start (cc := cX6_text) (maxL := 3) (ret := (some .int)) (by decide) rfl [.ref h0] (Nat.le_of_ble_eq_true rfl) ?_
  intro p e s m args below meth c ls hx hb hr hml hown hts hlocks hnm hK hM hl
  have hown : s.vm.findClass RX6 = some m.cls := hown
  have hnm : meth.name = "text" := hnm
  obtain ⟨locs, hlocs⟩ : ∃ l : List Loc, l = [] := ⟨_, rfl⟩
  have hL : mL G locs := by rw [hlocs]; exact mL_nil G
  rw [← hlocs]
  generalize s.heap = H at hM ⊢
  have hl : lv_has ls 3 [(0, .ref h0)] := hl
  obtain ⟨Q, hQ⟩ : ∃ Q, Q = MQ below (mQ G (.returned (some (.int z.1))) z.2) args s 0 0 (mF G) := ⟨_, rfl⟩
  rw [← hQ]
  have hU6 : ∀ w ∈ wsX60, w.before args s = true := fun w h => hts w (List.mem_cons_of_mem _ (List.mem_append_right _ h))
  have w1 := (hts (.fieldLink RX6 99 "HandkerchiefsDroppedModel" "texts" "I") (List.mem_of_getElem? (i := 1) rfl))
  have w2 := (hts (.fieldLink RX6 119 "HandkerchiefsDroppedModel" "at" "I") (List.mem_of_getElem? (i := 2) rfl))
  have w3 := (hts (.fieldLink RX6 135 "HandkerchiefsDroppedModel" "out" "I") (List.mem_of_getElem? (i := 3) rfl))
  have w4 := (hts (.fieldLink RX6 125 "HandkerchiefsDroppedModel" "token" "I") (List.mem_of_getElem? (i := 4) rfl))
  have w5 := (hts (.fieldLink RX6 128 "HandkerchiefsDroppedModel" "value" "I") (List.mem_of_getElem? (i := 5) rfl))
  have w6 := (hts (.fieldLink RX6 34 "HandkerchiefsDroppedModel" "starts" "[I") (List.mem_of_getElem? (i := 6) rfl))
  have w7 := (hts (.fieldLink RX6 70 "HandkerchiefsDroppedModel" "taped" "I") (List.mem_of_getElem? (i := 7) rfl))
  have w8 := (hts (.fieldLink RX6 122 "HandkerchiefsDroppedModel" "begun" "I") (List.mem_of_getElem? (i := 8) rfl))
  have hN60 : ∀ (k26 : Nat → Int32 → Int32 → mS → Option (Int32 × mS)) (hk26 : ∀ (h0 : Nat) (x1 : Int32) (x2 : Int32) (σ : mS), k26 h0 x1 x2 σ = some z → ∀ (H : Heap) (locs : List Loc) (ls : Array Slot), mP G σ H → mL G locs → lv_has ls 3 [(0, .ref h0), (1, .int x1), (2, .int x2)] → W p l e rm_X6_text s m args below meth c H locs 0 0 Q (F0 m 26 ls [])) (h0 : Nat) (x2 : Int32) (s0 : Int32) (σ : mS), f_X6_text_60 k26 h0 x2 s0 σ = some z → ∀ (H : Heap) (locs : List Loc) (ls : Array Slot), mP G σ H → mL G locs → lv_has ls 3 [(0, .ref h0), (2, .int x2)] → W p l e rm_X6_text s m args below meth c H locs 0 0 Q (F0 m 60 ls [.int s0]) := by
    intro k26 hk26 h0 x2 s0 σ h H locs ls hM hL hl
    rw [f_X6_text_60.eq_1] at h
    refine lv_istore_n (lv' := [(1, .int s0), (0, .ref h0), (2, .int x2)]) hx hb dX6_text_60 rfl hl (by decide) rfl (fun ls hl => ?_)
    refine lv_aload_n hx hb dX6_text_61 rfl (lv_at hl 1 rfl) ?_
    refine m_getR (ci := 5) hx hb hU6 hown hK hM rfl 12 (by decide) w6 h dX6_text_62 (fun r41 gr41 h => ?_)
    refine lv_iconst hx hb dX6_text_65 kI_4 ?_
    refine lv_aload_n hx hb dX6_text_66 rfl (lv_at hl 1 rfl) ?_
    refine m_getI (ci := 5) hx hb hU6 hown hK hM rfl 13 (by decide) w1 h dX6_text_67 (fun v42 gv42 h => ?_)
    refine lv_imul hx hb dX6_text_70 ?_
    refine lv_iload_n hx hb dX6_text_71 rfl (lv_at hl 2 rfl) ?_
    refine lv_iadd hx hb dX6_text_72 ?_
    refine lv_aload_n hx hb dX6_text_73 rfl (lv_at hl 1 rfl) ?_
    refine m_getI (ci := 5) hx hb hU6 hown hK hM rfl 30 (by decide) w3 h dX6_text_74 (fun v43 gv43 h => ?_)
    refine m_iast hx hb hK hM hL h dX6_text_77 (fun t44 H locs h hM hL => ?_)
    refine lv_iload_n hx hb dX6_text_78 rfl (lv_at hl 0 rfl) ?_
    refine lv_if_eq (tgt := 93) hx hb dX6_text_79 (by decide) (fun c45 => ?_) (fun c45 => ?_)
    · have h := (if_pos c45).symm.trans h
      refine lv_iconst hx hb dX6_text_93 kI_0 ?_
      refine lv_istore_n (lv' := [(1, .int (0 : Int32)), (0, .ref h0), (2, .int x2)]) hx hb dX6_text_94 rfl hl (by decide) rfl (fun ls hl => ?_)
      obtain ⟨v46, ev46⟩ : ∃ y : Int32, y = x2 + (1 : Int32) := ⟨_, rfl⟩
      have h := vl_at ev46 h
      refine lv_iinc (v := v46) (lv' := [(2, .int v46), (1, .int (0 : Int32)), (0, .ref h0)]) hx hb dX6_text_95 hl (k := 2) rfl (by rw [ev46, kI_1]) (by decide) rfl (fun ls hl => ?_)
      refine lv_goto (tgt := 26) hx hb dX6_text_98 (by decide) ?_
      exact hk26 _ _ _ _ h _ _ _ hM hL (lv_sub hl [2, 1, 0] rfl)
    · have h := (if_neg c45).symm.trans h
      refine lv_aload_n hx hb dX6_text_82 rfl (lv_at hl 1 rfl) ?_
      obtain ⟨o47, h⟩ := oi_some h
      obtain ⟨q48, hq48, h⟩ := ob_some h
      refine m_calli (va_runV (As := []) (rest := []) ⟨hx, hb, hml, hown, hts⟩ (c_X6_eRead l G hq48) (cwV 0 hts gX6_text_X6_eRead rfl rfl rfl hd_X6_eReadv ⟨Nat.le_of_ble_eq_true rfl, Nat.le_of_ble_eq_true rfl⟩) (m_preV (ci := 5) hK hM rfl o47) rfl rfl hl.1 rfl (lv_room (Nat.le_of_ble_eq_true rfl)) dX6_text_83 ⟨Nat.le_of_ble_eq_true rfl, Nat.le_of_ble_eq_true rfl⟩) hL (fun H locs hM hL => ?_)
      suffices hJ : ∀ (v50 : Int32) (ls : Array Slot), v50 = (if q48.1 = 0 then (0 : Int32) else (1 : Int32)) → lv_has ls 3 [(0, .ref h0), (2, .int x2)] → W p l e rm_X6_text s m args below meth c H locs 0 0 Q (F0 m 94 ls [.int v50]) by
        refine lv_if_eq (tgt := 93) hx hb dX6_text_86 (by decide) (fun c49 => ?_) (fun c49 => ?_)
        · refine lv_iconst hx hb dX6_text_93 kI_0 ?_
          exact hJ _ _ (((if_pos c49).trans rfl).symm) (lv_sub hl [1, 2] rfl)
        · refine lv_iconst hx hb dX6_text_89 kI_1 ?_
          refine lv_goto (tgt := 94) hx hb dX6_text_90 (by decide) ?_
          exact hJ _ _ (((if_neg c49).trans rfl).symm) (lv_sub hl [1, 2] rfl)
      intro v50 ls ev50 hl
      have h := vl_at ev50 h
      refine lv_istore_n (lv' := [(1, .int v50), (0, .ref h0), (2, .int x2)]) hx hb dX6_text_94 rfl hl (by decide) rfl (fun ls hl => ?_)
      obtain ⟨v51, ev51⟩ : ∃ y : Int32, y = x2 + (1 : Int32) := ⟨_, rfl⟩
      have h := vl_at ev51 h
      refine lv_iinc (v := v51) (lv' := [(2, .int v51), (1, .int v50), (0, .ref h0)]) hx hb dX6_text_95 hl (k := 2) rfl (by rw [ev51, kI_1]) (by decide) rfl (fun ls hl => ?_)
      refine lv_goto (tgt := 26) hx hb dX6_text_98 (by decide) ?_
      exact hk26 _ _ _ _ h _ _ _ hM hL (lv_sub hl [2, 1, 0] rfl)
  have hN26 : ∀ (k101 : Nat → Int32 → mS → Option (Int32 × mS)) (hk101 : ∀ (h0 : Nat) (x1 : Int32) (σ : mS), k101 h0 x1 σ = some z → ∀ (H : Heap) (locs : List Loc) (ls : Array Slot), mP G σ H → mL G locs → lv_has ls 3 [(0, .ref h0), (1, .int x1)] → W p l e rm_X6_text s m args below meth c H locs 0 0 Q (F0 m 101 ls [])) (n : Nat) (h0 : Nat) (x1 : Int32) (x2 : Int32) (σ : mS), f_X6_text_26 k101 n h0 x1 x2 σ = some z → ∀ (H : Heap) (locs : List Loc) (ls : Array Slot), mP G σ H → mL G locs → lv_has ls 3 [(0, .ref h0), (1, .int x1), (2, .int x2)] → W p l e rm_X6_text s m args below meth c H locs 0 0 Q (F0 m 26 ls []) := by
    intro k101 hk101 n
    induction n with
    | zero =>
      intro h0 x1 x2 σ h
      exact nomatch (show (none : Option (Int32 × mS)) = some z from h)
    | succ n ih =>
      intro h0 x1 x2 σ h H locs ls hM hL hl
      rw [f_X6_text_26.eq_2] at h
      refine lv_iload_n hx hb dX6_text_26 rfl (lv_at hl 2 rfl) ?_
      refine lv_iconst hx hb dX6_text_27 kI_3 ?_
      refine lv_icmp_ge (tgt := 101) hx hb dX6_text_28 (by decide) (fun c52 => ?_) (fun c52 => ?_)
      · have h := (if_pos c52).symm.trans h
        exact hk101 _ _ _ h _ _ _ hM hL (lv_sub hl [0, 1] rfl)
      · have h := (if_neg c52).symm.trans h
        refine lv_iload_n hx hb dX6_text_31 rfl (lv_at hl 1 rfl) ?_
        refine lv_if_eq (tgt := 101) hx hb dX6_text_32 (by decide) (fun c53 => ?_) (fun c53 => ?_)
        · have h := (if_pos c53).symm.trans h
          exact hk101 _ _ _ h _ _ _ hM hL (lv_sub hl [0, 1] rfl)
        · have h := (if_neg c53).symm.trans h
          refine lv_aload_n hx hb dX6_text_35 rfl (lv_at hl 0 rfl) ?_
          obtain ⟨o54, h⟩ := oi_some h
          obtain ⟨q55, hq55, h⟩ := ob_some h
          refine m_callv (va_runV (As := []) (rest := []) ⟨hx, hb, hml, hown, hts⟩ (c_X6_next l G hq55) (cwV 0 hts gX6_text_X6_next rfl rfl rfl hd_X6_nextv ⟨Nat.le_of_ble_eq_true rfl, Nat.le_of_ble_eq_true rfl⟩) (m_preV (ci := 5) hK hM rfl o54) rfl rfl hl.1 rfl (lv_room (Nat.le_of_ble_eq_true rfl)) dX6_text_36 ⟨Nat.le_of_ble_eq_true rfl, Nat.le_of_ble_eq_true rfl⟩) hL (fun H locs hM hL => ?_)
          refine lv_aload_n hx hb dX6_text_39 rfl (lv_at hl 0 rfl) ?_
          refine m_getI (ci := 5) hx hb hU6 hown hK hM rfl 24 (by decide) w4 h dX6_text_40 (fun v56 gv56 h => ?_)
          refine lv_iconst hx hb dX6_text_43 kI_3 ?_
          refine lv_icmp_ne (tgt := 59) hx hb dX6_text_44 (by decide) (fun c57 => ?_) (fun c57 => ?_)
          · have h := (if_neg c57).symm.trans h
            refine lv_iconst hx hb dX6_text_59 kI_0 ?_
            refine hN60 _ (fun _ _ _ _ h H locs ls hM hL hl => ih _ _ _ _ h H locs ls hM hL hl) _ _ _ _ h _ _ _ hM hL (lv_sub hl [0, 2] rfl)
          · have h := (if_pos c57).symm.trans h
            refine lv_aload_n hx hb dX6_text_47 rfl (lv_at hl 0 rfl) ?_
            refine m_getI (ci := 5) hx hb hU6 hown hK hM rfl 25 (by decide) w5 h dX6_text_48 (fun v58 gv58 h => ?_)
            refine lv_iload_n hx hb dX6_text_51 rfl (lv_at hl 2 rfl) ?_
            suffices hJ : ∀ (v60 : Int32) (ls : Array Slot), v60 = (if v58 = x2 then (1 : Int32) else (0 : Int32)) → lv_has ls 3 [(0, .ref h0), (2, .int x2)] → W p l e rm_X6_text s m args below meth c H locs 0 0 Q (F0 m 60 ls [.int v60]) by
              refine lv_icmp_ne (tgt := 59) hx hb dX6_text_52 (by decide) (fun c59 => ?_) (fun c59 => ?_)
              · refine lv_iconst hx hb dX6_text_59 kI_0 ?_
                exact hJ _ _ (((if_neg c59).trans rfl).symm) (lv_sub hl [0, 2] rfl)
              · refine lv_iconst hx hb dX6_text_55 kI_1 ?_
                refine lv_goto (tgt := 60) hx hb dX6_text_56 (by decide) ?_
                exact hJ _ _ (((if_pos c59).trans rfl).symm) (lv_sub hl [0, 2] rfl)
            intro v60 ls ev60 hl
            have h := vl_at ev60 h
            refine hN60 _ (fun _ _ _ _ h H locs ls hM hL hl => ih _ _ _ _ h H locs ls hM hL hl) _ _ _ _ h _ _ _ hM hL (lv_sub hl [0, 1] rfl)
  have hN122 : ∀ (h0 : Nat) (x1 : Int32) (σ : mS), f_X6_text_122 h0 x1 σ = some z → ∀ (H : Heap) (locs : List Loc) (ls : Array Slot), mP G σ H → mL G locs → lv_has ls 3 [(0, .ref h0), (1, .int x1)] → W p l e rm_X6_text s m args below meth c H locs 0 0 Q (F0 m 122 ls []) := by
    intro h0 x1 σ h H locs ls hM hL hl
    rw [f_X6_text_122.eq_1] at h
    refine lv_aload_n hx hb dX6_text_122 rfl (lv_at hl 0 rfl) ?_
    refine m_getR (ci := 5) hx hb hU6 hown hK hM rfl 12 (by decide) w6 h dX6_text_123 (fun r61 gr61 h => ?_)
    refine lv_iconst hx hb dX6_text_126 kI_4 ?_
    refine lv_aload_n hx hb dX6_text_127 rfl (lv_at hl 0 rfl) ?_
    refine m_getI (ci := 5) hx hb hU6 hown hK hM rfl 13 (by decide) w1 h dX6_text_128 (fun v62 gv62 h => ?_)
    refine lv_imul hx hb dX6_text_131 ?_
    refine lv_iconst hx hb dX6_text_132 kI_3 ?_
    refine lv_iadd hx hb dX6_text_133 ?_
    refine lv_aload_n hx hb dX6_text_134 rfl (lv_at hl 0 rfl) ?_
    refine m_getI (ci := 5) hx hb hU6 hown hK hM rfl 30 (by decide) w3 h dX6_text_135 (fun v63 gv63 h => ?_)
    refine m_iast hx hb hK hM hL h dX6_text_138 (fun t64 H locs h hM hL => ?_)
    refine lv_aload_n hx hb dX6_text_139 rfl (lv_at hl 0 rfl) ?_
    refine lv_iconst hx hb dX6_text_140 kI_0 ?_
    refine m_put (ci := 5) hx hb hU6 tyX6 tyX6_ok nmX6 hown hK hM hL rfl 10 (by decide) w7 rfl rfl rfl h dX6_text_141 (fun t65 H locs h hM hL => ?_)
    refine lv_iload_n hx hb dX6_text_144 rfl (lv_at hl 1 rfl) ?_
    refine lv_if_ne (tgt := 156) hx hb dX6_text_145 (by decide) (fun c66 => ?_) (fun c66 => ?_)
    · have h := (if_neg c66).symm.trans h
      refine lv_aload_n hx hb dX6_text_156 rfl (lv_at hl 0 rfl) ?_
      refine lv_dup hx hb dX6_text_157 rfl ?_
      refine m_getI (ci := 5) hx hb hU6 hown hK hM rfl 13 (by decide) w1 h dX6_text_158 (fun v67 gv67 h => ?_)
      refine lv_iconst hx hb dX6_text_161 kI_1 ?_
      refine lv_iadd hx hb dX6_text_162 ?_
      refine m_put (ci := 5) hx hb hU6 tyX6 tyX6_ok nmX6 hown hK hM hL rfl 13 (by decide) w1 rfl rfl rfl h dX6_text_163 (fun t68 H locs h hM hL => ?_)
      refine lv_aload_n hx hb dX6_text_166 rfl (lv_at hl 0 rfl) ?_
      refine m_getI (ci := 5) hx hb hU6 hown hK hM rfl 13 (by decide) w1 h dX6_text_167 (fun v69 gv69 h => ?_)
      refine lv_iconst hx hb dX6_text_170 kI_1 ?_
      refine lv_isub hx hb dX6_text_171 ?_
      subst hQ
      have h := Option.some.inj h
      subst h
      exact m_iret hx hb hr hM hL dX6_text_172 hlocks
    · have h := (if_pos c66).symm.trans h
      refine lv_bipush hx hb dX6_text_148 kB_m100 ?_
      refine lv_aload_n hx hb dX6_text_150 rfl (lv_at hl 0 rfl) ?_
      refine m_getI (ci := 5) hx hb hU6 hown hK hM rfl 23 (by decide) w8 h dX6_text_151 (fun v70 gv70 h => ?_)
      refine lv_isub hx hb dX6_text_154 ?_
      subst hQ
      have h := Option.some.inj h
      subst h
      exact m_iret hx hb hr hM hL dX6_text_155 hlocks
  rw [f_X6_text.eq_1] at h
  refine lv_aload_n hx hb dX6_text_0 rfl (lv_at hl 0 rfl) ?_
  refine m_getI (ci := 5) hx hb hU6 hown hK hM rfl 13 (by decide) w1 h dX6_text_1 (fun v71 gv71 h => ?_)
  refine lv_bipush hx hb dX6_text_4 kB_6 ?_
  refine lv_icmp_ne (tgt := 12) hx hb dX6_text_6 (by decide) (fun c72 => ?_) (fun c72 => ?_)
  · have h := (if_neg c72).symm.trans h
    refine lv_aload_n hx hb dX6_text_12 rfl (lv_at hl 0 rfl) ?_
    refine lv_iconst hx hb dX6_text_13 kI_0 ?_
    refine m_put (ci := 5) hx hb hU6 tyX6 tyX6_ok nmX6 hown hK hM hL rfl 22 (by decide) w2 rfl rfl rfl h dX6_text_14 (fun t73 H locs h hM hL => ?_)
    refine lv_aload_n hx hb dX6_text_17 rfl (lv_at hl 0 rfl) ?_
    refine lv_iconst hx hb dX6_text_18 kI_0 ?_
    refine m_put (ci := 5) hx hb hU6 tyX6 tyX6_ok nmX6 hown hK hM hL rfl 30 (by decide) w3 rfl rfl rfl h dX6_text_19 (fun t74 H locs h hM hL => ?_)
    refine lv_iconst hx hb dX6_text_22 kI_1 ?_
    refine lv_istore_n (lv' := [(1, .int (1 : Int32)), (0, .ref h0)]) hx hb dX6_text_23 rfl hl (by decide) rfl (fun ls hl => ?_)
    refine lv_iconst hx hb dX6_text_24 kI_0 ?_
    refine lv_istore_n (lv' := [(2, .int (0 : Int32)), (1, .int (1 : Int32)), (0, .ref h0)]) hx hb dX6_text_25 rfl hl (by decide) rfl (fun ls hl => ?_)
    refine hN26 _ ?_ _ _ _ _ _ h _ _ _ hM hL (lv_sub hl [2, 1, 0] rfl)
    · intro h0 x1 σ h H locs ls hM hL hl
      refine lv_iload_n hx hb dX6_text_101 rfl (lv_at hl 1 rfl) ?_
      refine lv_if_eq (tgt := 122) hx hb dX6_text_102 (by decide) (fun c75 => ?_) (fun c75 => ?_)
      · have h := (if_pos c75).symm.trans h
        refine hN122 _ _ _ h _ _ _ hM hL (lv_sub hl [0, 1] rfl)
      · have h := (if_neg c75).symm.trans h
        refine lv_aload_n hx hb dX6_text_105 rfl (lv_at hl 0 rfl) ?_
        obtain ⟨o76, h⟩ := oi_some h
        obtain ⟨q77, hq77, h⟩ := ob_some h
        refine m_callv (va_runV (As := []) (rest := []) ⟨hx, hb, hml, hown, hts⟩ (c_X6_next l G hq77) (cwV 0 hts gX6_text_X6_next rfl rfl rfl hd_X6_nextv ⟨Nat.le_of_ble_eq_true rfl, Nat.le_of_ble_eq_true rfl⟩) (m_preV (ci := 5) hK hM rfl o76) rfl rfl hl.1 rfl (lv_room (Nat.le_of_ble_eq_true rfl)) dX6_text_106 ⟨Nat.le_of_ble_eq_true rfl, Nat.le_of_ble_eq_true rfl⟩) hL (fun H locs hM hL => ?_)
        refine lv_aload_n hx hb dX6_text_109 rfl (lv_at hl 0 rfl) ?_
        refine m_getI (ci := 5) hx hb hU6 hown hK hM rfl 24 (by decide) w4 h dX6_text_110 (fun v78 gv78 h => ?_)
        suffices hJ : ∀ (v80 : Int32) (ls : Array Slot), v80 = (if v78 = 0 then (1 : Int32) else (0 : Int32)) → lv_has ls 3 [(0, .ref h0)] → W p l e rm_X6_text s m args below meth c H locs 0 0 Q (F0 m 121 ls [.int v80]) by
          refine lv_if_ne (tgt := 120) hx hb dX6_text_113 (by decide) (fun c79 => ?_) (fun c79 => ?_)
          · refine lv_iconst hx hb dX6_text_120 kI_0 ?_
            exact hJ _ _ (((if_neg c79).trans rfl).symm) (lv_sub hl [0] rfl)
          · refine lv_iconst hx hb dX6_text_116 kI_1 ?_
            refine lv_goto (tgt := 121) hx hb dX6_text_117 (by decide) ?_
            exact hJ _ _ (((if_pos c79).trans rfl).symm) (lv_sub hl [0] rfl)
        intro v80 ls ev80 hl
        have h := vl_at ev80 h
        refine lv_istore_n (lv' := [(1, .int v80), (0, .ref h0)]) hx hb dX6_text_121 rfl hl (by decide) rfl (fun ls hl => ?_)
        refine hN122 _ _ _ h _ _ _ hM hL (lv_sub hl [1, 0] rfl)
  · have h := (if_pos c72).symm.trans h
    refine lv_bipush hx hb dX6_text_9 kB_m4 ?_
    subst hQ
    have h := Option.some.inj h
    subst h
    exact m_iret hx hb hr hM hL dX6_text_11 hlocks
abbrev rm_X6_two : Room := { frames := 0, cells := 0, slots := 0, locals := 0 }
set_option maxHeartbeats 4000000 in
set_option maxRecDepth 100000 in
theorem c_X6_two (l : Launch) (G : mG) (x0 : Int32) (x1 : Int32) (x2 : Int32) {σ : mS} : Met l yX6_two wsX6_two rm_X6_two (va_Pc [.int x0, .int x1, .int x2] (mB G σ)) (mQ G (.returned (some (.int (f_X6_two x0 x1 x2)))) (σ)) 0 0 (mF G) := by
  obtain ⟨z, h⟩ : ∃ z, f_X6_two x0 x1 x2 = z := ⟨_, rfl⟩
  rw [h]
  refine m_start (cc := cX6_two) (maxL := 3) (ret := (some .int)) (by decide) rfl [.int x0, .int x1, .int x2] (Nat.le_of_ble_eq_true rfl) ?_
  intro p e s m args below meth c ls hx hb hr hml hown hts hlocks hnm hK hM hl
  have hown : s.vm.findClass RX6 = some m.cls := hown
  have hnm : meth.name = "two" := hnm
  obtain ⟨locs, hlocs⟩ : ∃ l : List Loc, l = [] := ⟨_, rfl⟩
  have hL : mL G locs := by rw [hlocs]; exact mL_nil G
  rw [← hlocs]
  generalize s.heap = H at hM ⊢
  have hl : lv_has ls 3 [(0, .int x0), (1, .int x1), (2, .int x2)] := hl
  obtain ⟨Q, hQ⟩ : ∃ Q, Q = MQ below (mQ G (.returned (some (.int z))) (σ)) args s 0 0 (mF G) := ⟨_, rfl⟩
  rw [← hQ]
  rw [f_X6_two.eq_1] at h
  refine lv_iload_n hx hb dX6_two_0 rfl (lv_at hl 0 rfl) ?_
  by_cases c14 : x0 = (11 : Int32)
  · have h := (if_pos c14).symm.trans h
    refine m_tin (tgt := 44) (off := 43) hx hb c14 dX6_two_1 (by decide) (by decide) (by decide) (by decide) ?_
    refine lv_iload_n hx hb dX6_two_44 rfl (lv_at hl 1 rfl) ?_
    refine lv_if_ne (tgt := 52) hx hb dX6_two_45 (by decide) (fun c15 => ?_) (fun c15 => ?_)
    · have h := (if_neg c15).symm.trans h
      refine lv_iconst hx hb dX6_two_52 kI_1 ?_
      refine lv_goto (tgt := 57) hx hb dX6_two_53 (by decide) ?_
      subst hQ
      subst h
      exact m_iret hx hb hr hM hL dX6_two_57 hlocks
    · have h := (if_pos c15).symm.trans h
      refine lv_iload_n hx hb dX6_two_48 rfl (lv_at hl 2 rfl) ?_
      refine lv_if_eq (tgt := 56) hx hb dX6_two_49 (by decide) (fun c16 => ?_) (fun c16 => ?_)
      · have h := (if_pos c16).symm.trans h
        refine lv_iconst hx hb dX6_two_56 kI_0 ?_
        subst hQ
        subst h
        exact m_iret hx hb hr hM hL dX6_two_57 hlocks
      · have h := (if_neg c16).symm.trans h
        refine lv_iconst hx hb dX6_two_52 kI_1 ?_
        refine lv_goto (tgt := 57) hx hb dX6_two_53 (by decide) ?_
        subst hQ
        subst h
        exact m_iret hx hb hr hM hL dX6_two_57 hlocks
  have h := (if_neg c14).symm.trans h
  by_cases c17 : x0 = (12 : Int32)
  · have h := (if_pos c17).symm.trans h
    refine m_tin (tgt := 58) (off := 57) hx hb c17 dX6_two_1 (by decide) (by decide) (by decide) (by decide) ?_
    refine lv_iload_n hx hb dX6_two_58 rfl (lv_at hl 1 rfl) ?_
    refine lv_if_eq (tgt := 70) hx hb dX6_two_59 (by decide) (fun c18 => ?_) (fun c18 => ?_)
    · have h := (if_pos c18).symm.trans h
      refine lv_iconst hx hb dX6_two_70 kI_0 ?_
      subst hQ
      subst h
      exact m_iret hx hb hr hM hL dX6_two_71 hlocks
    · have h := (if_neg c18).symm.trans h
      refine lv_iload_n hx hb dX6_two_62 rfl (lv_at hl 2 rfl) ?_
      refine lv_if_eq (tgt := 70) hx hb dX6_two_63 (by decide) (fun c19 => ?_) (fun c19 => ?_)
      · have h := (if_pos c19).symm.trans h
        refine lv_iconst hx hb dX6_two_70 kI_0 ?_
        subst hQ
        subst h
        exact m_iret hx hb hr hM hL dX6_two_71 hlocks
      · have h := (if_neg c19).symm.trans h
        refine lv_iconst hx hb dX6_two_66 kI_1 ?_
        refine lv_goto (tgt := 71) hx hb dX6_two_67 (by decide) ?_
        subst hQ
        subst h
        exact m_iret hx hb hr hM hL dX6_two_71 hlocks
  have h := (if_neg c17).symm.trans h
  by_cases c20 : x0 = (13 : Int32)
  · have h := (if_pos c20).symm.trans h
    refine m_tin (tgt := 102) (off := 101) hx hb c20 dX6_two_1 (by decide) (by decide) (by decide) (by decide) ?_
    refine lv_iload_n hx hb dX6_two_102 rfl (lv_at hl 1 rfl) ?_
    refine lv_iload_n hx hb dX6_two_103 rfl (lv_at hl 2 rfl) ?_
    refine lv_imul hx hb dX6_two_104 ?_
    subst hQ
    subst h
    exact m_iret hx hb hr hM hL dX6_two_105 hlocks
  have h := (if_neg c20).symm.trans h
  by_cases c21 : x0 = (14 : Int32)
  · have h := (if_pos c21).symm.trans h
    refine m_tin (tgt := 72) (off := 71) hx hb c21 dX6_two_1 (by decide) (by decide) (by decide) (by decide) ?_
    refine lv_iload_n hx hb dX6_two_72 rfl (lv_at hl 1 rfl) ?_
    refine lv_iload_n hx hb dX6_two_73 rfl (lv_at hl 2 rfl) ?_
    refine lv_icmp_ge (tgt := 81) hx hb dX6_two_74 (by decide) (fun c22 => ?_) (fun c22 => ?_)
    · have h := (if_pos c22).symm.trans h
      refine lv_iconst hx hb dX6_two_81 kI_0 ?_
      subst hQ
      subst h
      exact m_iret hx hb hr hM hL dX6_two_82 hlocks
    · have h := (if_neg c22).symm.trans h
      refine lv_iconst hx hb dX6_two_77 kI_1 ?_
      refine lv_goto (tgt := 82) hx hb dX6_two_78 (by decide) ?_
      subst hQ
      subst h
      exact m_iret hx hb hr hM hL dX6_two_82 hlocks
  have h := (if_neg c21).symm.trans h
  by_cases c23 : x0 = (15 : Int32)
  · have h := (if_pos c23).symm.trans h
    refine m_tin (tgt := 83) (off := 82) hx hb c23 dX6_two_1 (by decide) (by decide) (by decide) (by decide) ?_
    refine lv_iload_n hx hb dX6_two_83 rfl (lv_at hl 1 rfl) ?_
    refine lv_iload_n hx hb dX6_two_84 rfl (lv_at hl 2 rfl) ?_
    refine lv_icmp_ne (tgt := 92) hx hb dX6_two_85 (by decide) (fun c24 => ?_) (fun c24 => ?_)
    · have h := (if_neg c24).symm.trans h
      refine lv_iconst hx hb dX6_two_92 kI_0 ?_
      subst hQ
      subst h
      exact m_iret hx hb hr hM hL dX6_two_93 hlocks
    · have h := (if_pos c24).symm.trans h
      refine lv_iconst hx hb dX6_two_88 kI_1 ?_
      refine lv_goto (tgt := 93) hx hb dX6_two_89 (by decide) ?_
      subst hQ
      subst h
      exact m_iret hx hb hr hM hL dX6_two_93 hlocks
  have h := (if_neg c23).symm.trans h
  by_cases c25 : x0 = (16 : Int32)
  · have h := (if_pos c25).symm.trans h
    refine m_tin (tgt := 94) (off := 93) hx hb c25 dX6_two_1 (by decide) (by decide) (by decide) (by decide) ?_
    refine lv_iload_n hx hb dX6_two_94 rfl (lv_at hl 1 rfl) ?_
    refine lv_iload_n hx hb dX6_two_95 rfl (lv_at hl 2 rfl) ?_
    refine lv_iadd hx hb dX6_two_96 ?_
    subst hQ
    subst h
    exact m_iret hx hb hr hM hL dX6_two_97 hlocks
  have h := (if_neg c25).symm.trans h
  by_cases c26 : x0 = (17 : Int32)
  · have h := (if_pos c26).symm.trans h
    refine m_tin (tgt := 98) (off := 97) hx hb c26 dX6_two_1 (by decide) (by decide) (by decide) (by decide) ?_
    refine lv_iload_n hx hb dX6_two_98 rfl (lv_at hl 1 rfl) ?_
    refine lv_iload_n hx hb dX6_two_99 rfl (lv_at hl 2 rfl) ?_
    refine lv_isub hx hb dX6_two_100 ?_
    subst hQ
    subst h
    exact m_iret hx hb hr hM hL dX6_two_101 hlocks
  have h := (if_neg c26).symm.trans h
  refine lv_tableOut (tgt := 102) hx hb dX6_two_1 (by have q0 := lv_neT (a := 11) c14 (by decide); have q1 := lv_neT (a := 12) c17 (by decide); have q2 := lv_neT (a := 13) c20 (by decide); have q3 := lv_neT (a := 14) c21 (by decide); have q4 := lv_neT (a := 15) c23 (by decide); have q5 := lv_neT (a := 16) c25 (by decide); have q6 := lv_neT (a := 17) c26 (by decide); omega) (by decide) ?_
  refine lv_iload_n hx hb dX6_two_102 rfl (lv_at hl 1 rfl) ?_
  refine lv_iload_n hx hb dX6_two_103 rfl (lv_at hl 2 rfl) ?_
  refine lv_imul hx hb dX6_two_104 ?_
  subst hQ
  subst h
  exact m_iret hx hb hr hM hL dX6_two_105 hlocks
abbrev rm_X6_says : Room := { frames := 1, cells := 0, slots := 0, locals := 22 }
set_option maxHeartbeats 4000000 in
set_option maxRecDepth 100000 in
theorem c_X6_says (l : Launch) (G : mG) {h0 : Nat} {x1 : Int32} {σ : mS} {z : Int32 × mS} (h : f_X6_says h0 x1 σ = some z) : Met l yX6_says wsX6_says rm_X6_says (va_Pc [.ref h0, .int x1] (mB G σ)) (mQ G (.returned (some (.int z.1))) z.2) 0 0 (mF G) := by
  refine m_start (cc := cX6_says) (maxL := 5) (ret := (some .int)) (by decide) rfl [.ref h0, .int x1] (Nat.le_of_ble_eq_true rfl) ?_
  intro p e s m args below meth c ls hx hb hr hml hown hts hlocks hnm hK hM hl
  have hown : s.vm.findClass RX6 = some m.cls := hown
  have hnm : meth.name = "says" := hnm
  obtain ⟨locs, hlocs⟩ : ∃ l : List Loc, l = [] := ⟨_, rfl⟩
  have hL : mL G locs := by rw [hlocs]; exact mL_nil G
  rw [← hlocs]
  generalize s.heap = H at hM ⊢
  have hl : lv_has ls 5 [(0, .ref h0), (1, .int x1)] := hl
  obtain ⟨Q, hQ⟩ : ∃ Q, Q = MQ below (mQ G (.returned (some (.int z.1))) z.2) args s 0 0 (mF G) := ⟨_, rfl⟩
  rw [← hQ]
  have hU6 : ∀ w ∈ wsX60, w.before args s = true := fun w h => hts w (List.mem_cons_of_mem _ (List.mem_append_right _ h))
  have w1 := (hts (.fieldLink RX6 34 "HandkerchiefsDroppedModel" "starts" "[I") (List.mem_of_getElem? (i := 1) rfl))
  have w2 := (hts (.fieldLink RX6 102 "HandkerchiefsDroppedModel" "rule" "I") (List.mem_of_getElem? (i := 2) rfl))
  have w3 := (hts (.fieldLink RX6 61 "HandkerchiefsDroppedModel" "stack" "[I") (List.mem_of_getElem? (i := 5) rfl))
  have w4 := (hts (.fieldLink RX6 31 "HandkerchiefsDroppedModel" "codes" "[I") (List.mem_of_getElem? (i := 3) rfl))
  have w5 := (hts (.constant RX6 160 (100000)) (List.mem_of_getElem? (i := 4) rfl))
  have w6 := (hts (.fieldLink RX6 64 "HandkerchiefsDroppedModel" "named" "[I") (List.mem_of_getElem? (i := 6) rfl))
  have hN93 : ∀ (k16 : Nat → Int32 → Int32 → Int32 → mS → Option (Int32 × mS)) (hk16 : ∀ (h0 : Nat) (x1 : Int32) (x2 : Int32) (x3 : Int32) (σ : mS), k16 h0 x1 x2 x3 σ = some z → ∀ (H : Heap) (locs : List Loc) (ls : Array Slot), mP G σ H → mL G locs → lv_has ls 5 [(0, .ref h0), (1, .int x1), (2, .int x2), (3, .int x3)] → W p l e rm_X6_says s m args below meth c H locs 0 0 Q (F0 m 16 ls [])) (h0 : Nat) (x1 : Int32) (x2 : Int32) (x3 : Int32) (s0 : Nat) (s1 : Int32) (s2 : Int32) (σ : mS), f_X6_says_93 k16 h0 x1 x2 x3 s0 s1 s2 σ = some z → ∀ (H : Heap) (locs : List Loc) (ls : Array Slot), mP G σ H → mL G locs → lv_has ls 5 [(0, .ref h0), (1, .int x1), (2, .int x2), (3, .int x3)] → W p l e rm_X6_says s m args below meth c H locs 0 0 Q (F0 m 93 ls [.int s2, .int s1, .ref s0]) := by
    intro k16 hk16 h0 x1 x2 x3 s0 s1 s2 σ h H locs ls hM hL hl
    rw [f_X6_says_93.eq_1] at h
    refine m_iast hx hb hK hM hL h dX6_says_93 (fun t44 H locs h hM hL => ?_)
    obtain ⟨v45, ev45⟩ : ∃ y : Int32, y = x2 + (1 : Int32) := ⟨_, rfl⟩
    have h := vl_at ev45 h
    refine lv_iinc (v := v45) (lv' := [(2, .int v45), (0, .ref h0), (1, .int x1), (3, .int x3)]) hx hb dX6_says_94 hl (k := 2) rfl (by rw [ev45, kI_1]) (by decide) rfl (fun ls hl => ?_)
    refine lv_goto (tgt := 191) hx hb dX6_says_97 (by decide) ?_
    obtain ⟨v46, ev46⟩ : ∃ y : Int32, y = x3 + (1 : Int32) := ⟨_, rfl⟩
    have h := vl_at ev46 h
    refine lv_iinc (v := v46) (lv' := [(3, .int v46), (2, .int v45), (0, .ref h0), (1, .int x1)]) hx hb dX6_says_191 hl (k := 3) rfl (by rw [ev46, kI_1]) (by decide) rfl (fun ls hl => ?_)
    refine lv_goto (tgt := 16) hx hb dX6_says_194 (by decide) ?_
    exact hk16 _ _ _ _ _ h _ _ _ hM hL (lv_sub hl [2, 3, 1, 0] rfl)
  have hN66 : ∀ (k16 : Nat → Int32 → Int32 → Int32 → mS → Option (Int32 × mS)) (hk16 : ∀ (h0 : Nat) (x1 : Int32) (x2 : Int32) (x3 : Int32) (σ : mS), k16 h0 x1 x2 x3 σ = some z → ∀ (H : Heap) (locs : List Loc) (ls : Array Slot), mP G σ H → mL G locs → lv_has ls 5 [(0, .ref h0), (1, .int x1), (2, .int x2), (3, .int x3)] → W p l e rm_X6_says s m args below meth c H locs 0 0 Q (F0 m 16 ls [])) (h0 : Nat) (x1 : Int32) (x2 : Int32) (x3 : Int32) (x4 : Int32) (σ : mS), f_X6_says_66 k16 h0 x1 x2 x3 x4 σ = some z → ∀ (H : Heap) (locs : List Loc) (ls : Array Slot), mP G σ H → mL G locs → lv_has ls 5 [(0, .ref h0), (1, .int x1), (2, .int x2), (3, .int x3), (4, .int x4)] → W p l e rm_X6_says s m args below meth c H locs 0 0 Q (F0 m 66 ls []) := by
    intro k16 hk16 h0 x1 x2 x3 x4 σ h H locs ls hM hL hl
    rw [f_X6_says_66.eq_1] at h
    refine lv_aload_n hx hb dX6_says_66 rfl (lv_at hl 0 rfl) ?_
    refine m_getR (ci := 5) hx hb hU6 hown hK hM rfl 31 (by decide) w3 h dX6_says_67 (fun r47 gr47 h => ?_)
    refine lv_iload_n hx hb dX6_says_70 rfl (lv_at hl 2 rfl) ?_
    refine lv_iload hx hb dX6_says_71 (lv_at hl 4 rfl) ?_
    refine lv_bipush hx hb dX6_says_73 kB_11 ?_
    refine lv_icmp_ge (tgt := 88) hx hb dX6_says_75 (by decide) (fun c48 => ?_) (fun c48 => ?_)
    · have h := (if_pos c48).symm.trans h
      refine lv_iload hx hb dX6_says_88 (lv_at hl 4 rfl) ?_
      refine lv_ldc hx hb hown w5 dX6_says_90 ?_
      refine lv_isub hx hb dX6_says_92 ?_
      refine hN93 _ hk16 _ _ _ _ _ _ _ _ h _ _ _ hM hL (lv_sub hl [0, 1, 2, 3] rfl)
    · have h := (if_neg c48).symm.trans h
      refine lv_aload_n hx hb dX6_says_78 rfl (lv_at hl 0 rfl) ?_
      refine m_getR (ci := 5) hx hb hU6 hown hK hM rfl 32 (by decide) w6 h dX6_says_79 (fun r49 gr49 h => ?_)
      refine lv_iload hx hb dX6_says_82 (lv_at hl 4 rfl) ?_
      refine m_iald hx hb hK hM h dX6_says_84 (fun v50 gv50 h => ?_)
      refine lv_goto (tgt := 93) hx hb dX6_says_85 (by decide) ?_
      refine hN93 _ hk16 _ _ _ _ _ _ _ _ h _ _ _ hM hL (lv_sub hl [0, 1, 2, 3] rfl)
  have hN16 : ∀ (n : Nat) (h0 : Nat) (x1 : Int32) (x2 : Int32) (x3 : Int32) (σ : mS), f_X6_says_16 n h0 x1 x2 x3 σ = some z → ∀ (H : Heap) (locs : List Loc) (ls : Array Slot), mP G σ H → mL G locs → lv_has ls 5 [(0, .ref h0), (1, .int x1), (2, .int x2), (3, .int x3)] → W p l e rm_X6_says s m args below meth c H locs 0 0 Q (F0 m 16 ls []) := by
    intro n
    induction n with
    | zero =>
      intro h0 x1 x2 x3 σ h
      exact nomatch (show (none : Option (Int32 × mS)) = some z from h)
    | succ n ih =>
      intro h0 x1 x2 x3 σ h H locs ls hM hL hl
      rw [f_X6_says_16.eq_2] at h
      refine lv_iload_n hx hb dX6_says_16 rfl (lv_at hl 3 rfl) ?_
      refine lv_aload_n hx hb dX6_says_17 rfl (lv_at hl 0 rfl) ?_
      refine m_getR (ci := 5) hx hb hU6 hown hK hM rfl 12 (by decide) w1 h dX6_says_18 (fun r51 gr51 h => ?_)
      refine lv_iconst hx hb dX6_says_21 kI_4 ?_
      refine lv_aload_n hx hb dX6_says_22 rfl (lv_at hl 0 rfl) ?_
      refine m_getI (ci := 5) hx hb hU6 hown hK hM rfl 14 (by decide) w2 h dX6_says_23 (fun v52 gv52 h => ?_)
      refine lv_imul hx hb dX6_says_26 ?_
      refine lv_iload_n hx hb dX6_says_27 rfl (lv_at hl 1 rfl) ?_
      refine lv_iadd hx hb dX6_says_28 ?_
      refine lv_iconst hx hb dX6_says_29 kI_1 ?_
      refine lv_iadd hx hb dX6_says_30 ?_
      refine m_iald hx hb hK hM h dX6_says_31 (fun v53 gv53 h => ?_)
      refine lv_icmp_ge (tgt := 197) hx hb dX6_says_32 (by decide) (fun c54 => ?_) (fun c54 => ?_)
      · have h := (if_pos c54).symm.trans h
        refine lv_aload_n hx hb dX6_says_197 rfl (lv_at hl 0 rfl) ?_
        refine m_getR (ci := 5) hx hb hU6 hown hK hM rfl 31 (by decide) w3 h dX6_says_198 (fun r55 gr55 h => ?_)
        refine lv_iconst hx hb dX6_says_201 kI_0 ?_
        refine m_iald hx hb hK hM h dX6_says_202 (fun v56 gv56 h => ?_)
        subst hQ
        have h := Option.some.inj h
        subst h
        exact m_iret hx hb hr hM hL dX6_says_203 hlocks
      · have h := (if_neg c54).symm.trans h
        refine lv_aload_n hx hb dX6_says_35 rfl (lv_at hl 0 rfl) ?_
        refine m_getR (ci := 5) hx hb hU6 hown hK hM rfl 11 (by decide) w4 h dX6_says_36 (fun r57 gr57 h => ?_)
        refine lv_sipush hx hb dX6_says_39 kS_200 ?_
        refine lv_aload_n hx hb dX6_says_42 rfl (lv_at hl 0 rfl) ?_
        refine m_getI (ci := 5) hx hb hU6 hown hK hM rfl 14 (by decide) w2 h dX6_says_43 (fun v58 gv58 h => ?_)
        refine lv_imul hx hb dX6_says_46 ?_
        refine lv_iload_n hx hb dX6_says_47 rfl (lv_at hl 3 rfl) ?_
        refine lv_iadd hx hb dX6_says_48 ?_
        refine m_iald hx hb hK hM h dX6_says_49 (fun v59 gv59 h => ?_)
        refine lv_istore (lv' := [(4, .int v59), (0, .ref h0), (1, .int x1), (2, .int x2), (3, .int x3)]) hx hb dX6_says_50 hl (by decide) rfl (fun ls hl => ?_)
        refine lv_iload hx hb dX6_says_52 (lv_at hl 0 rfl) ?_
        refine lv_ldc hx hb hown w5 dX6_says_54 ?_
        refine lv_icmp_ge (tgt := 66) hx hb dX6_says_56 (by decide) (fun c60 => ?_) (fun c60 => ?_)
        · have h := (if_pos c60).symm.trans h
          refine hN66 _ (fun _ _ _ _ _ h H locs ls hM hL hl => ih _ _ _ _ _ h H locs ls hM hL hl) _ _ _ _ _ _ h _ _ _ hM hL (lv_sub hl [1, 2, 3, 4, 0] rfl)
        · have h := (if_neg c60).symm.trans h
          refine lv_iload hx hb dX6_says_59 (lv_at hl 0 rfl) ?_
          refine lv_bipush hx hb dX6_says_61 kB_11 ?_
          refine lv_icmp_ge (tgt := 100) hx hb dX6_says_63 (by decide) (fun c61 => ?_) (fun c61 => ?_)
          · have h := (if_pos c61).symm.trans h
            refine lv_iload hx hb dX6_says_100 (lv_at hl 0 rfl) ?_
            refine lv_bipush hx hb dX6_says_102 kB_13 ?_
            refine lv_icmp_ne (tgt := 134) hx hb dX6_says_104 (by decide) (fun c62 => ?_) (fun c62 => ?_)
            · have h := (if_neg c62).symm.trans h
              refine lv_iload hx hb dX6_says_134 (lv_at hl 0 rfl) ?_
              refine lv_bipush hx hb dX6_says_136 kB_19 ?_
              refine lv_icmp_ne (tgt := 161) hx hb dX6_says_138 (by decide) (fun c63 => ?_) (fun c63 => ?_)
              · have h := (if_neg c63).symm.trans h
                obtain ⟨v64, ev64⟩ : ∃ y : Int32, y = x2 + (-1 : Int32) := ⟨_, rfl⟩
                have h := vl_at ev64 h
                refine lv_iinc (v := v64) (lv' := [(2, .int v64), (4, .int v59), (0, .ref h0), (1, .int x1), (3, .int x3)]) hx hb dX6_says_161 hl (k := 3) rfl (by rw [ev64, kI_m1]) (by decide) rfl (fun ls hl => ?_)
                refine lv_aload_n hx hb dX6_says_164 rfl (lv_at hl 2 rfl) ?_
                refine m_getR (ci := 5) hx hb hU6 hown hK hM rfl 31 (by decide) w3 h dX6_says_165 (fun r65 gr65 h => ?_)
                refine lv_iload_n hx hb dX6_says_168 rfl (lv_at hl 0 rfl) ?_
                refine lv_iconst hx hb dX6_says_169 kI_1 ?_
                refine lv_isub hx hb dX6_says_170 ?_
                refine lv_iload hx hb dX6_says_171 (lv_at hl 1 rfl) ?_
                refine lv_aload_n hx hb dX6_says_173 rfl (lv_at hl 2 rfl) ?_
                refine m_getR (ci := 5) hx hb hU6 hown hK hM rfl 31 (by decide) w3 h dX6_says_174 (fun r66 gr66 h => ?_)
                refine lv_iload_n hx hb dX6_says_177 rfl (lv_at hl 0 rfl) ?_
                refine lv_iconst hx hb dX6_says_178 kI_1 ?_
                refine lv_isub hx hb dX6_says_179 ?_
                refine m_iald hx hb hK hM h dX6_says_180 (fun v67 gv67 h => ?_)
                refine lv_aload_n hx hb dX6_says_181 rfl (lv_at hl 2 rfl) ?_
                refine m_getR (ci := 5) hx hb hU6 hown hK hM rfl 31 (by decide) w3 h dX6_says_182 (fun r68 gr68 h => ?_)
                refine lv_iload_n hx hb dX6_says_185 rfl (lv_at hl 0 rfl) ?_
                refine m_iald hx hb hK hM h dX6_says_186 (fun v69 gv69 h => ?_)
                refine m_calli (va_runS (As := [.int v59, .int v67, .int v69]) (rest := [.int (v64 - (1 : Int32)), .ref r65]) ⟨hx, hb, hml, hown, hts⟩ (c_X6_two l G v59 v67 v69) (va_cwS 3 hts gX6_says_X6_two rfl rfl rfl hd_X6_two ⟨Nat.le_of_ble_eq_true rfl, Nat.le_of_ble_eq_true rfl⟩) (m_preS hK hM) rfl rfl hl.1 rfl (lv_room (Nat.le_of_ble_eq_true rfl)) dX6_says_187 ⟨Nat.le_of_ble_eq_true rfl, Nat.le_of_ble_eq_true rfl⟩) hL (fun H locs hM hL => ?_)
                refine m_iast hx hb hK hM hL h dX6_says_190 (fun t70 H locs h hM hL => ?_)
                obtain ⟨v71, ev71⟩ : ∃ y : Int32, y = x3 + (1 : Int32) := ⟨_, rfl⟩
                have h := vl_at ev71 h
                refine lv_iinc (v := v71) (lv' := [(3, .int v71), (2, .int v64), (4, .int v59), (0, .ref h0), (1, .int x1)]) hx hb dX6_says_191 hl (k := 4) rfl (by rw [ev71, kI_1]) (by decide) rfl (fun ls hl => ?_)
                refine lv_goto (tgt := 16) hx hb dX6_says_194 (by decide) ?_
                exact ih _ _ _ _ _ h _ _ _ hM hL (lv_sub hl [3, 4, 1, 0] rfl)
              · have h := (if_pos c63).symm.trans h
                refine lv_aload_n hx hb dX6_says_141 rfl (lv_at hl 1 rfl) ?_
                refine m_getR (ci := 5) hx hb hU6 hown hK hM rfl 31 (by decide) w3 h dX6_says_142 (fun r72 gr72 h => ?_)
                refine lv_iload_n hx hb dX6_says_145 rfl (lv_at hl 3 rfl) ?_
                refine lv_iconst hx hb dX6_says_146 kI_1 ?_
                refine lv_isub hx hb dX6_says_147 ?_
                refine lv_aload_n hx hb dX6_says_148 rfl (lv_at hl 1 rfl) ?_
                refine m_getR (ci := 5) hx hb hU6 hown hK hM rfl 31 (by decide) w3 h dX6_says_149 (fun r73 gr73 h => ?_)
                refine lv_iload_n hx hb dX6_says_152 rfl (lv_at hl 3 rfl) ?_
                refine lv_iconst hx hb dX6_says_153 kI_1 ?_
                refine lv_isub hx hb dX6_says_154 ?_
                refine m_iald hx hb hK hM h dX6_says_155 (fun v74 gv74 h => ?_)
                refine lv_ineg hx hb dX6_says_156 ?_
                refine m_iast hx hb hK hM hL h dX6_says_157 (fun t75 H locs h hM hL => ?_)
                refine lv_goto (tgt := 191) hx hb dX6_says_158 (by decide) ?_
                obtain ⟨v76, ev76⟩ : ∃ y : Int32, y = x3 + (1 : Int32) := ⟨_, rfl⟩
                have h := vl_at ev76 h
                refine lv_iinc (v := v76) (lv' := [(3, .int v76), (4, .int v59), (0, .ref h0), (1, .int x1), (2, .int x2)]) hx hb dX6_says_191 hl (k := 4) rfl (by rw [ev76, kI_1]) (by decide) rfl (fun ls hl => ?_)
                refine lv_goto (tgt := 16) hx hb dX6_says_194 (by decide) ?_
                exact ih _ _ _ _ _ h _ _ _ hM hL (lv_sub hl [2, 3, 4, 0] rfl)
            · have h := (if_pos c62).symm.trans h
              refine lv_aload_n hx hb dX6_says_107 rfl (lv_at hl 1 rfl) ?_
              refine m_getR (ci := 5) hx hb hU6 hown hK hM rfl 31 (by decide) w3 h dX6_says_108 (fun r77 gr77 h => ?_)
              refine lv_iload_n hx hb dX6_says_111 rfl (lv_at hl 3 rfl) ?_
              refine lv_iconst hx hb dX6_says_112 kI_1 ?_
              refine lv_isub hx hb dX6_says_113 ?_
              refine lv_aload_n hx hb dX6_says_114 rfl (lv_at hl 1 rfl) ?_
              refine m_getR (ci := 5) hx hb hU6 hown hK hM rfl 31 (by decide) w3 h dX6_says_115 (fun r78 gr78 h => ?_)
              refine lv_iload_n hx hb dX6_says_118 rfl (lv_at hl 3 rfl) ?_
              refine lv_iconst hx hb dX6_says_119 kI_1 ?_
              refine lv_isub hx hb dX6_says_120 ?_
              refine m_iald hx hb hK hM h dX6_says_121 (fun v79 gv79 h => ?_)
              suffices hJ : ∀ (v81 : Int32) (ls : Array Slot), v81 = (if v79 = 0 then (1 : Int32) else (0 : Int32)) → lv_has ls 5 [(0, .ref h0), (1, .int x1), (2, .int x2), (3, .int x3)] → W p l e rm_X6_says s m args below meth c H locs 0 0 Q (F0 m 130 ls [.int v81, .int (x2 - (1 : Int32)), .ref r77]) by
                refine lv_if_ne (tgt := 129) hx hb dX6_says_122 (by decide) (fun c80 => ?_) (fun c80 => ?_)
                · refine lv_iconst hx hb dX6_says_129 kI_0 ?_
                  exact hJ _ _ (((if_neg c80).trans rfl).symm) (lv_sub hl [1, 2, 3, 4] rfl)
                · refine lv_iconst hx hb dX6_says_125 kI_1 ?_
                  refine lv_goto (tgt := 130) hx hb dX6_says_126 (by decide) ?_
                  exact hJ _ _ (((if_pos c80).trans rfl).symm) (lv_sub hl [1, 2, 3, 4] rfl)
              intro v81 ls ev81 hl
              have h := vl_at ev81 h
              refine m_iast hx hb hK hM hL h dX6_says_130 (fun t82 H locs h hM hL => ?_)
              refine lv_goto (tgt := 191) hx hb dX6_says_131 (by decide) ?_
              obtain ⟨v83, ev83⟩ : ∃ y : Int32, y = x3 + (1 : Int32) := ⟨_, rfl⟩
              have h := vl_at ev83 h
              refine lv_iinc (v := v83) (lv' := [(3, .int v83), (0, .ref h0), (1, .int x1), (2, .int x2)]) hx hb dX6_says_191 hl (k := 3) rfl (by rw [ev83, kI_1]) (by decide) rfl (fun ls hl => ?_)
              refine lv_goto (tgt := 16) hx hb dX6_says_194 (by decide) ?_
              exact ih _ _ _ _ _ h _ _ _ hM hL (lv_sub hl [1, 2, 3, 0] rfl)
          · have h := (if_neg c61).symm.trans h
            refine hN66 _ (fun _ _ _ _ _ h H locs ls hM hL hl => ih _ _ _ _ _ h H locs ls hM hL hl) _ _ _ _ _ _ h _ _ _ hM hL (lv_sub hl [1, 2, 3, 4, 0] rfl)
  rw [f_X6_says.eq_1] at h
  refine lv_iconst hx hb dX6_says_0 kI_0 ?_
  refine lv_istore_n (lv' := [(2, .int (0 : Int32)), (0, .ref h0), (1, .int x1)]) hx hb dX6_says_1 rfl hl (by decide) rfl (fun ls hl => ?_)
  refine lv_aload_n hx hb dX6_says_2 rfl (lv_at hl 1 rfl) ?_
  refine m_getR (ci := 5) hx hb hU6 hown hK hM rfl 12 (by decide) w1 h dX6_says_3 (fun r84 gr84 h => ?_)
  refine lv_iconst hx hb dX6_says_6 kI_4 ?_
  refine lv_aload_n hx hb dX6_says_7 rfl (lv_at hl 1 rfl) ?_
  refine m_getI (ci := 5) hx hb hU6 hown hK hM rfl 14 (by decide) w2 h dX6_says_8 (fun v85 gv85 h => ?_)
  refine lv_imul hx hb dX6_says_11 ?_
  refine lv_iload_n hx hb dX6_says_12 rfl (lv_at hl 2 rfl) ?_
  refine lv_iadd hx hb dX6_says_13 ?_
  refine m_iald hx hb hK hM h dX6_says_14 (fun v86 gv86 h => ?_)
  refine lv_istore_n (lv' := [(3, .int v86), (2, .int (0 : Int32)), (0, .ref h0), (1, .int x1)]) hx hb dX6_says_15 rfl hl (by decide) rfl (fun ls hl => ?_)
  refine hN16 _ _ _ _ _ _ h _ _ _ hM hL (lv_sub hl [2, 3, 1, 0] rfl)
abbrev rm_X6_force : Room := { frames := 1, cells := 0, slots := 0, locals := 22 }
set_option maxHeartbeats 4000000 in
set_option maxRecDepth 100000 in
theorem c_X6_force (l : Launch) (G : mG) {h0 : Nat} {x1 : Int32} {σ : mS} {z : Int32 × mS} (h : f_X6_force h0 x1 σ = some z) : Met l yX6_force wsX6_force rm_X6_force (va_Pc [.ref h0, .int x1] (mB G σ)) (mQ G (.returned (some (.int z.1))) z.2) 0 0 (mF G) := by
  refine m_start (cc := cX6_force) (maxL := 3) (ret := (some .int)) (by decide) rfl [.ref h0, .int x1] (Nat.le_of_ble_eq_true rfl) ?_
  intro p e s m args below meth c ls hx hb hr hml hown hts hlocks hnm hK hM hl
  have hown : s.vm.findClass RX6 = some m.cls := hown
  have hnm : meth.name = "force" := hnm
  obtain ⟨locs, hlocs⟩ : ∃ l : List Loc, l = [] := ⟨_, rfl⟩
  have hL : mL G locs := by rw [hlocs]; exact mL_nil G
  rw [← hlocs]
  generalize s.heap = H at hM ⊢
  have hl : lv_has ls 3 [(0, .ref h0), (1, .int x1)] := hl
  obtain ⟨Q, hQ⟩ : ∃ Q, Q = MQ below (mQ G (.returned (some (.int z.1))) z.2) args s 0 0 (mF G) := ⟨_, rfl⟩
  rw [← hQ]
  have hU6 : ∀ w ∈ wsX60, w.before args s = true := fun w h => hts w (List.mem_cons_of_mem _ (List.mem_append_right _ h))
  have w1 := (hts (.fieldLink RX6 99 "HandkerchiefsDroppedModel" "texts" "I") (List.mem_of_getElem? (i := 1) rfl))
  have w2 := (hts (.fieldLink RX6 102 "HandkerchiefsDroppedModel" "rule" "I") (List.mem_of_getElem? (i := 2) rfl))
  rw [f_X6_force.eq_1] at h
  refine lv_iload_n hx hb dX6_force_0 rfl (lv_at hl 1 rfl) ?_
  refine lv_iconst hx hb dX6_force_1 kI_0 ?_
  refine lv_aload_n hx hb dX6_force_2 rfl (lv_at hl 0 rfl) ?_
  refine m_getI (ci := 5) hx hb hU6 hown hK hM rfl 13 (by decide) w1 h dX6_force_3 (fun v5 gv5 h => ?_)
  refine lv_iconst hx hb dX6_force_6 kI_1 ?_
  refine lv_isub hx hb dX6_force_7 ?_
  refine m_calli (va_runS (As := [.int x1, .int (0 : Int32), .int (v5 - (1 : Int32))]) (rest := []) ⟨hx, hb, hml, hown, hts⟩ (c_X6_in l G x1 (0 : Int32) (v5 - (1 : Int32))) (va_cwS 3 hts gX6_force_X6_in rfl rfl rfl hd_X6_in ⟨Nat.le_of_ble_eq_true rfl, Nat.le_of_ble_eq_true rfl⟩) (m_preS hK hM) rfl rfl hl.1 rfl (lv_room (Nat.le_of_ble_eq_true rfl)) dX6_force_8 ⟨Nat.le_of_ble_eq_true rfl, Nat.le_of_ble_eq_true rfl⟩) hL (fun H locs hM hL => ?_)
  refine lv_if_ne (tgt := 17) hx hb dX6_force_11 (by decide) (fun c6 => ?_) (fun c6 => ?_)
  · have h := (if_neg c6).symm.trans h
    refine lv_aload_n hx hb dX6_force_17 rfl (lv_at hl 0 rfl) ?_
    refine m_getI (ci := 5) hx hb hU6 hown hK hM rfl 14 (by decide) w2 h dX6_force_18 (fun v7 gv7 h => ?_)
    refine lv_istore_n (lv' := [(2, .int v7), (0, .ref h0), (1, .int x1)]) hx hb dX6_force_21 rfl hl (by decide) rfl (fun ls hl => ?_)
    refine lv_aload_n hx hb dX6_force_22 rfl (lv_at hl 1 rfl) ?_
    refine lv_iload_n hx hb dX6_force_23 rfl (lv_at hl 2 rfl) ?_
    refine m_put (ci := 5) hx hb hU6 tyX6 tyX6_ok nmX6 hown hK hM hL rfl 14 (by decide) w2 rfl rfl rfl h dX6_force_24 (fun t8 H locs h hM hL => ?_)
    refine lv_iload_n hx hb dX6_force_27 rfl (lv_at hl 0 rfl) ?_
    subst hQ
    have h := Option.some.inj h
    subst h
    exact m_iret hx hb hr hM hL dX6_force_28 hlocks
  · have h := (if_pos c6).symm.trans h
    refine lv_bipush hx hb dX6_force_14 kB_m2 ?_
    subst hQ
    have h := Option.some.inj h
    subst h
    exact m_iret hx hb hr hM hL dX6_force_16 hlocks
abbrev rm_X6_asksOf : Room := { frames := 3, cells := 0, slots := 0, locals := 65 }
set_option maxHeartbeats 4000000 in
set_option maxRecDepth 100000 in
theorem c_X6_asksOf (l : Launch) (G : mG) {h0 : Nat} {x1 : Int32} {x2 : Int32} {σ : mS} {z : Int32 × mS} (h : f_X6_asksOf h0 x1 x2 σ = some z) : Met l yX6_asksOf wsX6_asksOf rm_X6_asksOf (va_Pc [.ref h0, .int x1, .int x2] (mB G σ)) (mQ G (.returned (some (.int z.1))) z.2) 0 0 (mF G) := by
  refine m_start (cc := cX6_asksOf) (maxL := 3) (ret := (some .int)) (by decide) rfl [.ref h0, .int x1, .int x2] (Nat.le_of_ble_eq_true rfl) ?_
  intro p e s m args below meth c ls hx hb hr hml hown hts hlocks hnm hK hM hl
  have hown : s.vm.findClass RX6 = some m.cls := hown
  have hnm : meth.name = "asksOf" := hnm
  obtain ⟨locs, hlocs⟩ : ∃ l : List Loc, l = [] := ⟨_, rfl⟩
  have hL : mL G locs := by rw [hlocs]; exact mL_nil G
  rw [← hlocs]
  generalize s.heap = H at hM ⊢
  have hl : lv_has ls 3 [(0, .ref h0), (1, .int x1), (2, .int x2)] := hl
  obtain ⟨Q, hQ⟩ : ∃ Q, Q = MQ below (mQ G (.returned (some (.int z.1))) z.2) args s 0 0 (mF G) := ⟨_, rfl⟩
  rw [← hQ]
  have hU6 : ∀ w ∈ wsX60, w.before args s = true := fun w h => hts w (List.mem_cons_of_mem _ (List.mem_append_right _ h))
  have w1 := (hts (.fieldLink RX6 64 "HandkerchiefsDroppedModel" "named" "[I") (List.mem_of_getElem? (i := 1) rfl))
  have w2 := (hts (.fieldLink RX6 16 "HandkerchiefsDroppedModel" "rows" "[I") (List.mem_of_getElem? (i := 2) rfl))
  have w3 := (hts (.fieldLink RX6 93 "HandkerchiefsDroppedModel" "hours" "I") (List.mem_of_getElem? (i := 3) rfl))
  have w4 := (hts (.fieldLink RX6 109 "HandkerchiefsDroppedModel" "admitted" "I") (List.mem_of_getElem? (i := 4) rfl))
  have w5 := (hts (.fieldLink RX6 13 "HandkerchiefsDroppedModel" "moreOf" "[I") (List.mem_of_getElem? (i := 5) rfl))
  rw [f_X6_asksOf.eq_1] at h
  refine lv_aload_n hx hb dX6_asksOf_0 rfl (lv_at hl 0 rfl) ?_
  refine m_getR (ci := 5) hx hb hU6 hown hK hM rfl 32 (by decide) w1 h dX6_asksOf_1 (fun r29 gr29 h => ?_)
  refine lv_iconst hx hb dX6_asksOf_4 kI_0 ?_
  refine lv_aload_n hx hb dX6_asksOf_5 rfl (lv_at hl 0 rfl) ?_
  refine m_getR (ci := 5) hx hb hU6 hown hK hM rfl 3 (by decide) w2 h dX6_asksOf_6 (fun r30 gr30 h => ?_)
  refine lv_iconst hx hb dX6_asksOf_9 kI_3 ?_
  refine lv_iload_n hx hb dX6_asksOf_10 rfl (lv_at hl 2 rfl) ?_
  refine lv_imul hx hb dX6_asksOf_11 ?_
  refine lv_iconst hx hb dX6_asksOf_12 kI_1 ?_
  refine lv_iadd hx hb dX6_asksOf_13 ?_
  refine m_iald hx hb hK hM h dX6_asksOf_14 (fun v31 gv31 h => ?_)
  refine m_iast hx hb hK hM hL h dX6_asksOf_15 (fun t32 H locs h hM hL => ?_)
  refine lv_aload_n hx hb dX6_asksOf_16 rfl (lv_at hl 0 rfl) ?_
  refine m_getR (ci := 5) hx hb hU6 hown hK hM rfl 32 (by decide) w1 h dX6_asksOf_17 (fun r33 gr33 h => ?_)
  refine lv_iconst hx hb dX6_asksOf_20 kI_1 ?_
  refine lv_aload_n hx hb dX6_asksOf_21 rfl (lv_at hl 0 rfl) ?_
  refine m_getR (ci := 5) hx hb hU6 hown hK hM rfl 3 (by decide) w2 h dX6_asksOf_22 (fun r34 gr34 h => ?_)
  refine lv_iconst hx hb dX6_asksOf_25 kI_3 ?_
  refine lv_iload_n hx hb dX6_asksOf_26 rfl (lv_at hl 2 rfl) ?_
  refine lv_imul hx hb dX6_asksOf_27 ?_
  refine m_iald hx hb hK hM h dX6_asksOf_28 (fun v35 gv35 h => ?_)
  obtain ⟨q36, hq36, h⟩ := ob_some h
  refine m_calli (va_runS (As := [.int v35]) (rest := [.int (1 : Int32), .ref r33]) ⟨hx, hb, hml, hown, hts⟩ (c_X6_onesOf l G hq36) (va_cwS 1 hts gX6_asksOf_X6_onesOf rfl rfl rfl hd_X6_onesOf ⟨Nat.le_of_ble_eq_true rfl, Nat.le_of_ble_eq_true rfl⟩) (m_preS hK hM) rfl rfl hl.1 rfl (lv_room (Nat.le_of_ble_eq_true rfl)) dX6_asksOf_29 ⟨Nat.le_of_ble_eq_true rfl, Nat.le_of_ble_eq_true rfl⟩) hL (fun H locs hM hL => ?_)
  refine m_iast hx hb hK hM hL h dX6_asksOf_32 (fun t37 H locs h hM hL => ?_)
  refine lv_aload_n hx hb dX6_asksOf_33 rfl (lv_at hl 0 rfl) ?_
  refine m_getR (ci := 5) hx hb hU6 hown hK hM rfl 32 (by decide) w1 h dX6_asksOf_34 (fun r38 gr38 h => ?_)
  refine lv_iconst hx hb dX6_asksOf_37 kI_2 ?_
  refine lv_aload_n hx hb dX6_asksOf_38 rfl (lv_at hl 0 rfl) ?_
  refine m_getI (ci := 5) hx hb hU6 hown hK hM rfl 8 (by decide) w3 h dX6_asksOf_39 (fun v39 gv39 h => ?_)
  refine m_iast hx hb hK hM hL h dX6_asksOf_42 (fun t40 H locs h hM hL => ?_)
  refine lv_aload_n hx hb dX6_asksOf_43 rfl (lv_at hl 0 rfl) ?_
  refine m_getR (ci := 5) hx hb hU6 hown hK hM rfl 32 (by decide) w1 h dX6_asksOf_44 (fun r41 gr41 h => ?_)
  refine lv_iconst hx hb dX6_asksOf_47 kI_3 ?_
  refine lv_aload_n hx hb dX6_asksOf_48 rfl (lv_at hl 0 rfl) ?_
  obtain ⟨o42, h⟩ := oi_some h
  obtain ⟨q43, hq43, h⟩ := ob_some h
  refine m_calli (va_runV (As := []) (rest := [.int (3 : Int32), .ref r41]) ⟨hx, hb, hml, hown, hts⟩ (c_X6_lying l G hq43) (cwV 0 hts gX6_asksOf_X6_lying rfl rfl rfl hd_X6_lyingv ⟨Nat.le_of_ble_eq_true rfl, Nat.le_of_ble_eq_true rfl⟩) (m_preV (ci := 5) hK hM rfl o42) rfl rfl hl.1 rfl (lv_room (Nat.le_of_ble_eq_true rfl)) dX6_asksOf_49 ⟨Nat.le_of_ble_eq_true rfl, Nat.le_of_ble_eq_true rfl⟩) hL (fun H locs hM hL => ?_)
  refine m_iast hx hb hK hM hL h dX6_asksOf_52 (fun t44 H locs h hM hL => ?_)
  refine lv_aload_n hx hb dX6_asksOf_53 rfl (lv_at hl 0 rfl) ?_
  refine m_getR (ci := 5) hx hb hU6 hown hK hM rfl 32 (by decide) w1 h dX6_asksOf_54 (fun r45 gr45 h => ?_)
  refine lv_iconst hx hb dX6_asksOf_57 kI_4 ?_
  refine lv_aload_n hx hb dX6_asksOf_58 rfl (lv_at hl 0 rfl) ?_
  refine m_getI (ci := 5) hx hb hU6 hown hK hM rfl 7 (by decide) w4 h dX6_asksOf_59 (fun v46 gv46 h => ?_)
  obtain ⟨q47, hq47, h⟩ := ob_some h
  refine m_calli (va_runS (As := [.int v46]) (rest := [.int (4 : Int32), .ref r45]) ⟨hx, hb, hml, hown, hts⟩ (c_X6_onesOf l G hq47) (va_cwS 1 hts gX6_asksOf_X6_onesOf rfl rfl rfl hd_X6_onesOf ⟨Nat.le_of_ble_eq_true rfl, Nat.le_of_ble_eq_true rfl⟩) (m_preS hK hM) rfl rfl hl.1 rfl (lv_room (Nat.le_of_ble_eq_true rfl)) dX6_asksOf_62 ⟨Nat.le_of_ble_eq_true rfl, Nat.le_of_ble_eq_true rfl⟩) hL (fun H locs hM hL => ?_)
  refine m_iast hx hb hK hM hL h dX6_asksOf_65 (fun t48 H locs h hM hL => ?_)
  refine lv_aload_n hx hb dX6_asksOf_66 rfl (lv_at hl 0 rfl) ?_
  refine m_getR (ci := 5) hx hb hU6 hown hK hM rfl 32 (by decide) w1 h dX6_asksOf_67 (fun r49 gr49 h => ?_)
  refine lv_iconst hx hb dX6_asksOf_70 kI_5 ?_
  refine lv_aload_n hx hb dX6_asksOf_71 rfl (lv_at hl 0 rfl) ?_
  refine m_getR (ci := 5) hx hb hU6 hown hK hM rfl 2 (by decide) w5 h dX6_asksOf_72 (fun r50 gr50 h => ?_)
  refine lv_iload_n hx hb dX6_asksOf_75 rfl (lv_at hl 2 rfl) ?_
  refine m_iald hx hb hK hM h dX6_asksOf_76 (fun v51 gv51 h => ?_)
  refine m_iast hx hb hK hM hL h dX6_asksOf_77 (fun t52 H locs h hM hL => ?_)
  refine lv_aload_n hx hb dX6_asksOf_78 rfl (lv_at hl 0 rfl) ?_
  refine lv_iload_n hx hb dX6_asksOf_79 rfl (lv_at hl 1 rfl) ?_
  obtain ⟨o53, h⟩ := oi_some h
  obtain ⟨q54, hq54, h⟩ := ob_some h
  refine m_calli (va_runV (As := [.int x1]) (rest := []) ⟨hx, hb, hml, hown, hts⟩ (c_X6_says l G hq54) (cwV 1 hts gX6_asksOf_X6_says rfl rfl rfl hd_X6_saysv ⟨Nat.le_of_ble_eq_true rfl, Nat.le_of_ble_eq_true rfl⟩) (m_preV (ci := 5) hK hM rfl o53) rfl rfl hl.1 rfl (lv_room (Nat.le_of_ble_eq_true rfl)) dX6_asksOf_80 ⟨Nat.le_of_ble_eq_true rfl, Nat.le_of_ble_eq_true rfl⟩) hL (fun H locs hM hL => ?_)
  refine lv_iload_n hx hb dX6_asksOf_83 rfl (lv_at hl 1 rfl) ?_
  refine lv_iconst hx hb dX6_asksOf_84 kI_2 ?_
  suffices hJ : ∀ (v56 : Int32) (ls : Array Slot), v56 = (if x1 = (2 : Int32) then (-99 : Int32) else (0 : Int32)) → lv_has ls 3 [] → W p l e rm_X6_asksOf s m args below meth c H locs 0 0 Q (F0 m 94 ls [.int v56, .int q54.1]) by
    refine lv_icmp_ne (tgt := 93) hx hb dX6_asksOf_85 (by decide) (fun c55 => ?_) (fun c55 => ?_)
    · refine lv_iconst hx hb dX6_asksOf_93 kI_0 ?_
      exact hJ _ _ (((if_neg c55).trans rfl).symm) (lv_sub hl [] rfl)
    · refine lv_bipush hx hb dX6_asksOf_88 kB_m99 ?_
      refine lv_goto (tgt := 94) hx hb dX6_asksOf_90 (by decide) ?_
      exact hJ _ _ (((if_pos c55).trans rfl).symm) (lv_sub hl [] rfl)
  intro v56 ls ev56 hl
  have h := vl_at ev56 h
  refine lv_bipush hx hb dX6_asksOf_94 kB_99 ?_
  refine m_calli (va_runS (As := [.int q54.1, .int v56, .int (99 : Int32)]) (rest := []) ⟨hx, hb, hml, hown, hts⟩ (c_X6_within l G q54.1 v56 (99 : Int32)) (va_cwS 3 hts gX6_asksOf_X6_within rfl rfl rfl hd_X6_within ⟨Nat.le_of_ble_eq_true rfl, Nat.le_of_ble_eq_true rfl⟩) (m_preS hK hM) rfl rfl hl.1 rfl (lv_room (Nat.le_of_ble_eq_true rfl)) dX6_asksOf_96 ⟨Nat.le_of_ble_eq_true rfl, Nat.le_of_ble_eq_true rfl⟩) hL (fun H locs hM hL => ?_)
  subst hQ
  have h := Option.some.inj h
  subst h
  exact m_iret hx hb hr hM hL dX6_asksOf_99 hlocks
abbrev rm_X6_asks : Room := { frames := 4, cells := 0, slots := 0, locals := 87 }
set_option maxHeartbeats 4000000 in
set_option maxRecDepth 100000 in
theorem c_X6_asks (l : Launch) (G : mG) {h0 : Nat} {x1 : Int32} {x2 : Int32} {σ : mS} {z : Int32 × mS} (h : f_X6_asks h0 x1 x2 σ = some z) : Met l yX6_asks wsX6_asks rm_X6_asks (va_Pc [.ref h0, .int x1, .int x2] (mB G σ)) (mQ G (.returned (some (.int z.1))) z.2) 0 0 (mF G) := by
  refine m_start (cc := cX6_asks) (maxL := 3) (ret := (some .int)) (by decide) rfl [.ref h0, .int x1, .int x2] (Nat.le_of_ble_eq_true rfl) ?_
  intro p e s m args below meth c ls hx hb hr hml hown hts hlocks hnm hK hM hl
  have hown : s.vm.findClass RX6 = some m.cls := hown
  have hnm : meth.name = "asks" := hnm
  obtain ⟨locs, hlocs⟩ : ∃ l : List Loc, l = [] := ⟨_, rfl⟩
  have hL : mL G locs := by rw [hlocs]; exact mL_nil G
  rw [← hlocs]
  generalize s.heap = H at hM ⊢
  have hl : lv_has ls 3 [(0, .ref h0), (1, .int x1), (2, .int x2)] := hl
  obtain ⟨Q, hQ⟩ : ∃ Q, Q = MQ below (mQ G (.returned (some (.int z.1))) z.2) args s 0 0 (mF G) := ⟨_, rfl⟩
  rw [← hQ]
  rw [f_X6_asks.eq_1] at h
  refine lv_iload_n hx hb dX6_asks_0 rfl (lv_at hl 1 rfl) ?_
  refine lv_iconst hx hb dX6_asks_1 kI_0 ?_
  refine lv_iconst hx hb dX6_asks_2 kI_2 ?_
  refine m_calli (va_runS (As := [.int x1, .int (0 : Int32), .int (2 : Int32)]) (rest := []) ⟨hx, hb, hml, hown, hts⟩ (c_X6_in l G x1 (0 : Int32) (2 : Int32)) (va_cwS 3 hts gX6_asks_X6_in rfl rfl rfl hd_X6_in ⟨Nat.le_of_ble_eq_true rfl, Nat.le_of_ble_eq_true rfl⟩) (m_preS hK hM) rfl rfl hl.1 rfl (lv_room (Nat.le_of_ble_eq_true rfl)) dX6_asks_3 ⟨Nat.le_of_ble_eq_true rfl, Nat.le_of_ble_eq_true rfl⟩) hL (fun H locs hM hL => ?_)
  refine lv_if_eq (tgt := 26) hx hb dX6_asks_6 (by decide) (fun c7 => ?_) (fun c7 => ?_)
  · have h := (if_pos c7).symm.trans h
    refine lv_sipush hx hb dX6_asks_26 kS_m1000 ?_
    subst hQ
    have h := Option.some.inj h
    subst h
    exact m_iret hx hb hr hM hL dX6_asks_29 hlocks
  · have h := (if_neg c7).symm.trans h
    refine lv_aload_n hx hb dX6_asks_9 rfl (lv_at hl 0 rfl) ?_
    refine lv_iload_n hx hb dX6_asks_10 rfl (lv_at hl 2 rfl) ?_
    obtain ⟨o8, h⟩ := oi_some h
    obtain ⟨q9, hq9, h⟩ := ob_some h
    refine m_calli (va_runV (As := [.int x2]) (rest := []) ⟨hx, hb, hml, hown, hts⟩ (c_X6_isOne l G hq9) (cwV 1 hts gX6_asks_X6_isOne rfl rfl rfl hd_X6_isOnev ⟨Nat.le_of_ble_eq_true rfl, Nat.le_of_ble_eq_true rfl⟩) (m_preV (ci := 5) hK hM rfl o8) rfl rfl hl.1 rfl (lv_room (Nat.le_of_ble_eq_true rfl)) dX6_asks_11 ⟨Nat.le_of_ble_eq_true rfl, Nat.le_of_ble_eq_true rfl⟩) hL (fun H locs hM hL => ?_)
    refine lv_if_eq (tgt := 26) hx hb dX6_asks_14 (by decide) (fun c10 => ?_) (fun c10 => ?_)
    · have h := (if_pos c10).symm.trans h
      refine lv_sipush hx hb dX6_asks_26 kS_m1000 ?_
      subst hQ
      have h := Option.some.inj h
      subst h
      exact m_iret hx hb hr hM hL dX6_asks_29 hlocks
    · have h := (if_neg c10).symm.trans h
      refine lv_aload_n hx hb dX6_asks_17 rfl (lv_at hl 0 rfl) ?_
      refine lv_iload_n hx hb dX6_asks_18 rfl (lv_at hl 1 rfl) ?_
      refine lv_iload_n hx hb dX6_asks_19 rfl (lv_at hl 2 rfl) ?_
      obtain ⟨o11, h⟩ := oi_some h
      obtain ⟨q12, hq12, h⟩ := ob_some h
      refine m_calli (va_runV (As := [.int x1, .int x2]) (rest := []) ⟨hx, hb, hml, hown, hts⟩ (c_X6_asksOf l G hq12) (cwV 2 hts gX6_asks_X6_asksOf rfl rfl rfl hd_X6_asksOfv ⟨Nat.le_of_ble_eq_true rfl, Nat.le_of_ble_eq_true rfl⟩) (m_preV (ci := 5) hK hM rfl o11) rfl rfl hl.1 rfl (lv_room (Nat.le_of_ble_eq_true rfl)) dX6_asks_20 ⟨Nat.le_of_ble_eq_true rfl, Nat.le_of_ble_eq_true rfl⟩) hL (fun H locs hM hL => ?_)
      refine lv_goto (tgt := 29) hx hb dX6_asks_23 (by decide) ?_
      subst hQ
      have h := Option.some.inj h
      subst h
      exact m_iret hx hb hr hM hL dX6_asks_29 hlocks
abbrev rm_X6_witness : Room := { frames := 1, cells := 0, slots := 0, locals := 22 }
set_option maxHeartbeats 4000000 in
set_option maxRecDepth 100000 in
theorem c_X6_witness (l : Launch) (G : mG) {h0 : Nat} {x1 : Int32} {x2 : Int32} {x3 : Int32} {σ : mS} {z : Int32 × mS} (h : f_X6_witness h0 x1 x2 x3 σ = some z) : Met l yX6_witness wsX6_witness rm_X6_witness (va_Pc [.ref h0, .int x1, .int x2, .int x3] (mB G σ)) (mQ G (.returned (some (.int z.1))) z.2) 0 0 (mF G) := by
  refine m_start (cc := cX6_witness) (maxL := 4) (ret := (some .int)) (by decide) rfl [.ref h0, .int x1, .int x2, .int x3] (Nat.le_of_ble_eq_true rfl) ?_
  intro p e s m args below meth c ls hx hb hr hml hown hts hlocks hnm hK hM hl
  have hown : s.vm.findClass RX6 = some m.cls := hown
  have hnm : meth.name = "witness" := hnm
  obtain ⟨locs, hlocs⟩ : ∃ l : List Loc, l = [] := ⟨_, rfl⟩
  have hL : mL G locs := by rw [hlocs]; exact mL_nil G
  rw [← hlocs]
  generalize s.heap = H at hM ⊢
  have hl : lv_has ls 4 [(0, .ref h0), (1, .int x1), (2, .int x2), (3, .int x3)] := hl
  obtain ⟨Q, hQ⟩ : ∃ Q, Q = MQ below (mQ G (.returned (some (.int z.1))) z.2) args s 0 0 (mF G) := ⟨_, rfl⟩
  rw [← hQ]
  have hU6 : ∀ w ∈ wsX60, w.before args s = true := fun w h => hts w (List.mem_cons_of_mem _ (List.mem_append_right _ h))
  have w1 := (hts (.fieldLink RX6 78 "HandkerchiefsDroppedModel" "witnesses" "I") (List.mem_of_getElem? (i := 1) rfl))
  have w2 := (hts (.fieldLink RX6 7 "HandkerchiefsDroppedModel" "kind" "[I") (List.mem_of_getElem? (i := 2) rfl))
  have w3 := (hts (.fieldLink RX6 13 "HandkerchiefsDroppedModel" "moreOf" "[I") (List.mem_of_getElem? (i := 3) rfl))
  have w4 := (hts (.fieldLink RX6 16 "HandkerchiefsDroppedModel" "rows" "[I") (List.mem_of_getElem? (i := 4) rfl))
  rw [f_X6_witness.eq_1] at h
  refine lv_iload_n hx hb dX6_witness_0 rfl (lv_at hl 1 rfl) ?_
  refine lv_iconst hx hb dX6_witness_1 kI_0 ?_
  refine lv_bipush hx hb dX6_witness_2 kB_59 ?_
  refine m_calli (va_runS (As := [.int x1, .int (0 : Int32), .int (59 : Int32)]) (rest := []) ⟨hx, hb, hml, hown, hts⟩ (c_X6_in l G x1 (0 : Int32) (59 : Int32)) (va_cwS 3 hts gX6_witness_X6_in rfl rfl rfl hd_X6_in ⟨Nat.le_of_ble_eq_true rfl, Nat.le_of_ble_eq_true rfl⟩) (m_preS hK hM) rfl rfl hl.1 rfl (lv_room (Nat.le_of_ble_eq_true rfl)) dX6_witness_4 ⟨Nat.le_of_ble_eq_true rfl, Nat.le_of_ble_eq_true rfl⟩) hL (fun H locs hM hL => ?_)
  refine lv_if_eq (tgt := 31) hx hb dX6_witness_7 (by decide) (fun c24 => ?_) (fun c24 => ?_)
  · have h := (if_pos c24).symm.trans h
    refine lv_bipush hx hb dX6_witness_31 kB_m2 ?_
    subst hQ
    have h := Option.some.inj h
    subst h
    exact m_iret hx hb hr hM hL dX6_witness_33 hlocks
  · have h := (if_neg c24).symm.trans h
    refine lv_iload_n hx hb dX6_witness_10 rfl (lv_at hl 2 rfl) ?_
    refine lv_iconst hx hb dX6_witness_11 kI_0 ?_
    refine lv_sipush hx hb dX6_witness_12 kS_1023 ?_
    refine m_calli (va_runS (As := [.int x2, .int (0 : Int32), .int (1023 : Int32)]) (rest := []) ⟨hx, hb, hml, hown, hts⟩ (c_X6_in l G x2 (0 : Int32) (1023 : Int32)) (va_cwS 3 hts gX6_witness_X6_in rfl rfl rfl hd_X6_in ⟨Nat.le_of_ble_eq_true rfl, Nat.le_of_ble_eq_true rfl⟩) (m_preS hK hM) rfl rfl hl.1 rfl (lv_room (Nat.le_of_ble_eq_true rfl)) dX6_witness_15 ⟨Nat.le_of_ble_eq_true rfl, Nat.le_of_ble_eq_true rfl⟩) hL (fun H locs hM hL => ?_)
    refine lv_if_eq (tgt := 31) hx hb dX6_witness_18 (by decide) (fun c25 => ?_) (fun c25 => ?_)
    · have h := (if_pos c25).symm.trans h
      refine lv_bipush hx hb dX6_witness_31 kB_m2 ?_
      subst hQ
      have h := Option.some.inj h
      subst h
      exact m_iret hx hb hr hM hL dX6_witness_33 hlocks
    · have h := (if_neg c25).symm.trans h
      refine lv_iload_n hx hb dX6_witness_21 rfl (lv_at hl 3 rfl) ?_
      refine lv_iconst hx hb dX6_witness_22 kI_0 ?_
      refine lv_bipush hx hb dX6_witness_23 kB_99 ?_
      refine m_calli (va_runS (As := [.int x3, .int (0 : Int32), .int (99 : Int32)]) (rest := []) ⟨hx, hb, hml, hown, hts⟩ (c_X6_in l G x3 (0 : Int32) (99 : Int32)) (va_cwS 3 hts gX6_witness_X6_in rfl rfl rfl hd_X6_in ⟨Nat.le_of_ble_eq_true rfl, Nat.le_of_ble_eq_true rfl⟩) (m_preS hK hM) rfl rfl hl.1 rfl (lv_room (Nat.le_of_ble_eq_true rfl)) dX6_witness_25 ⟨Nat.le_of_ble_eq_true rfl, Nat.le_of_ble_eq_true rfl⟩) hL (fun H locs hM hL => ?_)
      refine lv_if_ne (tgt := 34) hx hb dX6_witness_28 (by decide) (fun c26 => ?_) (fun c26 => ?_)
      · have h := (if_neg c26).symm.trans h
        refine lv_aload_n hx hb dX6_witness_34 rfl (lv_at hl 0 rfl) ?_
        refine m_getI (ci := 5) hx hb hU6 hown hK hM rfl 0 (by decide) w1 h dX6_witness_35 (fun v27 gv27 h => ?_)
        refine lv_bipush hx hb dX6_witness_38 kB_6 ?_
        refine lv_icmp_ne (tgt := 46) hx hb dX6_witness_40 (by decide) (fun c28 => ?_) (fun c28 => ?_)
        · have h := (if_neg c28).symm.trans h
          refine lv_aload_n hx hb dX6_witness_46 rfl (lv_at hl 0 rfl) ?_
          refine m_getR (ci := 5) hx hb hU6 hown hK hM rfl 1 (by decide) w2 h dX6_witness_47 (fun r29 gr29 h => ?_)
          refine lv_aload_n hx hb dX6_witness_50 rfl (lv_at hl 0 rfl) ?_
          refine m_getI (ci := 5) hx hb hU6 hown hK hM rfl 0 (by decide) w1 h dX6_witness_51 (fun v30 gv30 h => ?_)
          refine lv_iload_n hx hb dX6_witness_54 rfl (lv_at hl 1 rfl) ?_
          refine lv_bipush hx hb dX6_witness_55 kB_10 ?_
          refine lv_idiv hx hb dX6_witness_57 (by decide) ?_
          refine m_iast hx hb hK hM hL h dX6_witness_58 (fun t31 H locs h hM hL => ?_)
          refine lv_aload_n hx hb dX6_witness_59 rfl (lv_at hl 0 rfl) ?_
          refine m_getR (ci := 5) hx hb hU6 hown hK hM rfl 2 (by decide) w3 h dX6_witness_60 (fun r32 gr32 h => ?_)
          refine lv_aload_n hx hb dX6_witness_63 rfl (lv_at hl 0 rfl) ?_
          refine m_getI (ci := 5) hx hb hU6 hown hK hM rfl 0 (by decide) w1 h dX6_witness_64 (fun v33 gv33 h => ?_)
          refine lv_iload_n hx hb dX6_witness_67 rfl (lv_at hl 1 rfl) ?_
          refine lv_bipush hx hb dX6_witness_68 kB_10 ?_
          refine lv_irem hx hb dX6_witness_70 (by decide) ?_
          refine m_iast hx hb hK hM hL h dX6_witness_71 (fun t34 H locs h hM hL => ?_)
          refine lv_aload_n hx hb dX6_witness_72 rfl (lv_at hl 0 rfl) ?_
          refine m_getR (ci := 5) hx hb hU6 hown hK hM rfl 3 (by decide) w4 h dX6_witness_73 (fun r35 gr35 h => ?_)
          refine lv_iconst hx hb dX6_witness_76 kI_3 ?_
          refine lv_aload_n hx hb dX6_witness_77 rfl (lv_at hl 0 rfl) ?_
          refine m_getI (ci := 5) hx hb hU6 hown hK hM rfl 0 (by decide) w1 h dX6_witness_78 (fun v36 gv36 h => ?_)
          refine lv_imul hx hb dX6_witness_81 ?_
          refine lv_iload_n hx hb dX6_witness_82 rfl (lv_at hl 2 rfl) ?_
          refine m_iast hx hb hK hM hL h dX6_witness_83 (fun t37 H locs h hM hL => ?_)
          refine lv_aload_n hx hb dX6_witness_84 rfl (lv_at hl 0 rfl) ?_
          refine m_getR (ci := 5) hx hb hU6 hown hK hM rfl 3 (by decide) w4 h dX6_witness_85 (fun r38 gr38 h => ?_)
          refine lv_iconst hx hb dX6_witness_88 kI_3 ?_
          refine lv_aload_n hx hb dX6_witness_89 rfl (lv_at hl 0 rfl) ?_
          refine m_getI (ci := 5) hx hb hU6 hown hK hM rfl 0 (by decide) w1 h dX6_witness_90 (fun v39 gv39 h => ?_)
          refine lv_imul hx hb dX6_witness_93 ?_
          refine lv_iconst hx hb dX6_witness_94 kI_1 ?_
          refine lv_iadd hx hb dX6_witness_95 ?_
          refine lv_iload_n hx hb dX6_witness_96 rfl (lv_at hl 3 rfl) ?_
          refine m_iast hx hb hK hM hL h dX6_witness_97 (fun t40 H locs h hM hL => ?_)
          refine lv_aload_n hx hb dX6_witness_98 rfl (lv_at hl 0 rfl) ?_
          refine m_getR (ci := 5) hx hb hU6 hown hK hM rfl 3 (by decide) w4 h dX6_witness_99 (fun r41 gr41 h => ?_)
          refine lv_iconst hx hb dX6_witness_102 kI_3 ?_
          refine lv_aload_n hx hb dX6_witness_103 rfl (lv_at hl 0 rfl) ?_
          refine m_getI (ci := 5) hx hb hU6 hown hK hM rfl 0 (by decide) w1 h dX6_witness_104 (fun v42 gv42 h => ?_)
          refine lv_imul hx hb dX6_witness_107 ?_
          refine lv_iconst hx hb dX6_witness_108 kI_2 ?_
          refine lv_iadd hx hb dX6_witness_109 ?_
          refine lv_iconst hx hb dX6_witness_110 kI_0 ?_
          refine m_iast hx hb hK hM hL h dX6_witness_111 (fun t43 H locs h hM hL => ?_)
          refine lv_aload_n hx hb dX6_witness_112 rfl (lv_at hl 0 rfl) ?_
          refine lv_dup hx hb dX6_witness_113 rfl ?_
          refine m_getI (ci := 5) hx hb hU6 hown hK hM rfl 0 (by decide) w1 h dX6_witness_114 (fun v44 gv44 h => ?_)
          refine lv_iconst hx hb dX6_witness_117 kI_1 ?_
          refine lv_iadd hx hb dX6_witness_118 ?_
          refine m_put (ci := 5) hx hb hU6 tyX6 tyX6_ok nmX6 hown hK hM hL rfl 0 (by decide) w1 rfl rfl rfl h dX6_witness_119 (fun t45 H locs h hM hL => ?_)
          refine lv_aload_n hx hb dX6_witness_122 rfl (lv_at hl 0 rfl) ?_
          refine m_getI (ci := 5) hx hb hU6 hown hK hM rfl 0 (by decide) w1 h dX6_witness_123 (fun v46 gv46 h => ?_)
          refine lv_iconst hx hb dX6_witness_126 kI_1 ?_
          refine lv_isub hx hb dX6_witness_127 ?_
          subst hQ
          have h := Option.some.inj h
          subst h
          exact m_iret hx hb hr hM hL dX6_witness_128 hlocks
        · have h := (if_pos c28).symm.trans h
          refine lv_bipush hx hb dX6_witness_43 kB_m4 ?_
          subst hQ
          have h := Option.some.inj h
          subst h
          exact m_iret hx hb hr hM hL dX6_witness_45 hlocks
      · have h := (if_pos c26).symm.trans h
        refine lv_bipush hx hb dX6_witness_31 kB_m2 ?_
        subst hQ
        have h := Option.some.inj h
        subst h
        exact m_iret hx hb hr hM hL dX6_witness_33 hlocks
abbrev rm_X6_put : Room := { frames := 2, cells := 0, slots := 0, locals := 43 }
set_option maxHeartbeats 4000000 in
set_option maxRecDepth 100000 in
theorem c_X6_put (l : Launch) (G : mG) {h0 : Nat} {x1 : Int32} {x2 : Int32} {x3 : Int32} {σ : mS} {z : Int32 × mS} (h : f_X6_put h0 x1 x2 x3 σ = some z) : Met l yX6_put wsX6_put rm_X6_put (va_Pc [.ref h0, .int x1, .int x2, .int x3] (mB G σ)) (mQ G (.returned (some (.int z.1))) z.2) 0 0 (mF G) := by
  refine m_start (cc := cX6_put) (maxL := 5) (ret := (some .int)) (by decide) rfl [.ref h0, .int x1, .int x2, .int x3] (Nat.le_of_ble_eq_true rfl) ?_
  intro p e s m args below meth c ls hx hb hr hml hown hts hlocks hnm hK hM hl
  have hown : s.vm.findClass RX6 = some m.cls := hown
  have hnm : meth.name = "put" := hnm
  obtain ⟨locs, hlocs⟩ : ∃ l : List Loc, l = [] := ⟨_, rfl⟩
  have hL : mL G locs := by rw [hlocs]; exact mL_nil G
  rw [← hlocs]
  generalize s.heap = H at hM ⊢
  have hl : lv_has ls 5 [(0, .ref h0), (1, .int x1), (2, .int x2), (3, .int x3)] := hl
  obtain ⟨Q, hQ⟩ : ∃ Q, Q = MQ below (mQ G (.returned (some (.int z.1))) z.2) args s 0 0 (mF G) := ⟨_, rfl⟩
  rw [← hQ]
  have hU6 : ∀ w ∈ wsX60, w.before args s = true := fun w h => hts w (List.mem_cons_of_mem _ (List.mem_append_right _ h))
  have w1 := (hts (.fieldLink RX6 16 "HandkerchiefsDroppedModel" "rows" "[I") (List.mem_of_getElem? (i := 1) rfl))
  rw [f_X6_put.eq_1] at h
  refine lv_aload_n hx hb dX6_put_0 rfl (lv_at hl 0 rfl) ?_
  refine lv_iload_n hx hb dX6_put_1 rfl (lv_at hl 1 rfl) ?_
  obtain ⟨o12, h⟩ := oi_some h
  obtain ⟨q13, hq13, h⟩ := ob_some h
  refine m_calli (va_runV (As := [.int x1]) (rest := []) ⟨hx, hb, hml, hown, hts⟩ (c_X6_isOne l G hq13) (cwV 1 hts gX6_put_X6_isOne rfl rfl rfl hd_X6_isOnev ⟨Nat.le_of_ble_eq_true rfl, Nat.le_of_ble_eq_true rfl⟩) (m_preV (ci := 5) hK hM rfl o12) rfl rfl hl.1 rfl (lv_room (Nat.le_of_ble_eq_true rfl)) dX6_put_2 ⟨Nat.le_of_ble_eq_true rfl, Nat.le_of_ble_eq_true rfl⟩) hL (fun H locs hM hL => ?_)
  refine lv_if_ne (tgt := 11) hx hb dX6_put_5 (by decide) (fun c14 => ?_) (fun c14 => ?_)
  · have h := (if_neg c14).symm.trans h
    refine lv_iload_n hx hb dX6_put_11 rfl (lv_at hl 2 rfl) ?_
    refine lv_iconst hx hb dX6_put_12 kI_0 ?_
    refine lv_iconst hx hb dX6_put_13 kI_1 ?_
    refine m_calli (va_runS (As := [.int x2, .int (0 : Int32), .int (1 : Int32)]) (rest := []) ⟨hx, hb, hml, hown, hts⟩ (c_X6_in l G x2 (0 : Int32) (1 : Int32)) (va_cwS 3 hts gX6_put_X6_in rfl rfl rfl hd_X6_in ⟨Nat.le_of_ble_eq_true rfl, Nat.le_of_ble_eq_true rfl⟩) (m_preS hK hM) rfl rfl hl.1 rfl (lv_room (Nat.le_of_ble_eq_true rfl)) dX6_put_14 ⟨Nat.le_of_ble_eq_true rfl, Nat.le_of_ble_eq_true rfl⟩) hL (fun H locs hM hL => ?_)
    refine lv_if_eq (tgt := 40) hx hb dX6_put_17 (by decide) (fun c15 => ?_) (fun c15 => ?_)
    · have h := (if_pos c15).symm.trans h
      refine lv_bipush hx hb dX6_put_40 kB_m7 ?_
      subst hQ
      have h := Option.some.inj h
      subst h
      exact m_iret hx hb hr hM hL dX6_put_42 hlocks
    · have h := (if_neg c15).symm.trans h
      refine lv_iload_n hx hb dX6_put_20 rfl (lv_at hl 3 rfl) ?_
      refine lv_iconst hx hb dX6_put_21 kI_0 ?_
      refine lv_iload_n hx hb dX6_put_22 rfl (lv_at hl 2 rfl) ?_
      suffices hJ : ∀ (v17 : Int32) (ls : Array Slot), v17 = (if x2 = 0 then (1023 : Int32) else (99 : Int32)) → lv_has ls 5 [(0, .ref h0), (1, .int x1), (2, .int x2), (3, .int x3)] → W p l e rm_X6_put s m args below meth c H locs 0 0 Q (F0 m 34 ls [.int v17, .int (0 : Int32), .int x3]) by
        refine lv_if_ne (tgt := 32) hx hb dX6_put_23 (by decide) (fun c16 => ?_) (fun c16 => ?_)
        · refine lv_bipush hx hb dX6_put_32 kB_99 ?_
          exact hJ _ _ (((if_neg c16).trans rfl).symm) (lv_sub hl [0, 1, 2, 3] rfl)
        · refine lv_sipush hx hb dX6_put_26 kS_1023 ?_
          refine lv_goto (tgt := 34) hx hb dX6_put_29 (by decide) ?_
          exact hJ _ _ (((if_pos c16).trans rfl).symm) (lv_sub hl [0, 1, 2, 3] rfl)
      intro v17 ls ev17 hl
      have h := vl_at ev17 h
      refine m_calli (va_runS (As := [.int x3, .int (0 : Int32), .int v17]) (rest := []) ⟨hx, hb, hml, hown, hts⟩ (c_X6_in l G x3 (0 : Int32) v17) (va_cwS 3 hts gX6_put_X6_in rfl rfl rfl hd_X6_in ⟨Nat.le_of_ble_eq_true rfl, Nat.le_of_ble_eq_true rfl⟩) (m_preS hK hM) rfl rfl hl.1 rfl (lv_room (Nat.le_of_ble_eq_true rfl)) dX6_put_34 ⟨Nat.le_of_ble_eq_true rfl, Nat.le_of_ble_eq_true rfl⟩) hL (fun H locs hM hL => ?_)
      refine lv_if_ne (tgt := 43) hx hb dX6_put_37 (by decide) (fun c18 => ?_) (fun c18 => ?_)
      · have h := (if_neg c18).symm.trans h
        refine lv_aload_n hx hb dX6_put_43 rfl (lv_at hl 0 rfl) ?_
        refine m_getR (ci := 5) hx hb hU6 hown hK hM rfl 3 (by decide) w1 h dX6_put_44 (fun r19 gr19 h => ?_)
        refine lv_iconst hx hb dX6_put_47 kI_3 ?_
        refine lv_iload_n hx hb dX6_put_48 rfl (lv_at hl 1 rfl) ?_
        refine lv_imul hx hb dX6_put_49 ?_
        refine lv_iload_n hx hb dX6_put_50 rfl (lv_at hl 2 rfl) ?_
        refine lv_iadd hx hb dX6_put_51 ?_
        refine m_iald hx hb hK hM h dX6_put_52 (fun v20 gv20 h => ?_)
        refine lv_istore (lv' := [(4, .int v20), (0, .ref h0), (1, .int x1), (2, .int x2), (3, .int x3)]) hx hb dX6_put_53 hl (by decide) rfl (fun ls hl => ?_)
        refine lv_aload_n hx hb dX6_put_55 rfl (lv_at hl 1 rfl) ?_
        refine m_getR (ci := 5) hx hb hU6 hown hK hM rfl 3 (by decide) w1 h dX6_put_56 (fun r21 gr21 h => ?_)
        refine lv_iconst hx hb dX6_put_59 kI_3 ?_
        refine lv_iload_n hx hb dX6_put_60 rfl (lv_at hl 2 rfl) ?_
        refine lv_imul hx hb dX6_put_61 ?_
        refine lv_iload_n hx hb dX6_put_62 rfl (lv_at hl 3 rfl) ?_
        refine lv_iadd hx hb dX6_put_63 ?_
        refine lv_iload_n hx hb dX6_put_64 rfl (lv_at hl 4 rfl) ?_
        refine m_iast hx hb hK hM hL h dX6_put_65 (fun t22 H locs h hM hL => ?_)
        refine lv_iload hx hb dX6_put_66 (lv_at hl 0 rfl) ?_
        subst hQ
        have h := Option.some.inj h
        subst h
        exact m_iret hx hb hr hM hL dX6_put_68 hlocks
      · have h := (if_pos c18).symm.trans h
        refine lv_bipush hx hb dX6_put_40 kB_m7 ?_
        subst hQ
        have h := Option.some.inj h
        subst h
        exact m_iret hx hb hr hM hL dX6_put_42 hlocks
  · have h := (if_pos c14).symm.trans h
    refine lv_bipush hx hb dX6_put_8 kB_m5 ?_
    subst hQ
    have h := Option.some.inj h
    subst h
    exact m_iret hx hb hr hM hL dX6_put_10 hlocks
abbrev rm_X6_looksOf : Room := { frames := 4, cells := 0, slots := 0, locals := 87 }
set_option maxHeartbeats 4000000 in
set_option maxRecDepth 100000 in
theorem c_X6_looksOf (l : Launch) (G : mG) {h0 : Nat} {x1 : Int32} {x2 : Int32} {σ : mS} {z : Int32 × mS} (h : f_X6_looksOf h0 x1 x2 σ = some z) : Met l yX6_looksOf wsX6_looksOf rm_X6_looksOf (va_Pc [.ref h0, .int x1, .int x2] (mB G σ)) (mQ G (.returned (some (.int z.1))) z.2) 0 0 (mF G) := by
  refine m_start (cc := cX6_looksOf) (maxL := 5) (ret := (some .int)) (by decide) rfl [.ref h0, .int x1, .int x2] (Nat.le_of_ble_eq_true rfl) ?_
  intro p e s m args below meth c ls hx hb hr hml hown hts hlocks hnm hK hM hl
  have hown : s.vm.findClass RX6 = some m.cls := hown
  have hnm : meth.name = "looksOf" := hnm
  obtain ⟨locs, hlocs⟩ : ∃ l : List Loc, l = [] := ⟨_, rfl⟩
  have hL : mL G locs := by rw [hlocs]; exact mL_nil G
  rw [← hlocs]
  generalize s.heap = H at hM ⊢
  have hl : lv_has ls 5 [(0, .ref h0), (1, .int x1), (2, .int x2)] := hl
  obtain ⟨Q, hQ⟩ : ∃ Q, Q = MQ below (mQ G (.returned (some (.int z.1))) z.2) args s 0 0 (mF G) := ⟨_, rfl⟩
  rw [← hQ]
  have hU6 : ∀ w ∈ wsX60, w.before args s = true := fun w h => hts w (List.mem_cons_of_mem _ (List.mem_append_right _ h))
  have w1 := (hts (.fieldLink RX6 7 "HandkerchiefsDroppedModel" "kind" "[I") (List.mem_of_getElem? (i := 1) rfl))
  have w2 := (hts (.fieldLink RX6 13 "HandkerchiefsDroppedModel" "moreOf" "[I") (List.mem_of_getElem? (i := 2) rfl))
  have hN79 : ∀ (h0 : Nat) (x1 : Int32) (x3 : Int32) (σ : mS), f_X6_looksOf_79 h0 x1 x3 σ = some z → ∀ (H : Heap) (locs : List Loc) (ls : Array Slot), mP G σ H → mL G locs → lv_has ls 5 [(0, .ref h0), (1, .int x1), (3, .int x3)] → W p l e rm_X6_looksOf s m args below meth c H locs 0 0 Q (F0 m 79 ls []) := by
    intro h0 x1 x3 σ h H locs ls hM hL hl
    rw [f_X6_looksOf_79.eq_1] at h
    refine lv_iload_n hx hb dX6_looksOf_79 rfl (lv_at hl 2 rfl) ?_
    refine lv_iconst hx hb dX6_looksOf_80 kI_5 ?_
    refine lv_aload_n hx hb dX6_looksOf_81 rfl (lv_at hl 0 rfl) ?_
    refine m_getR (ci := 5) hx hb hU6 hown hK hM rfl 2 (by decide) w2 h dX6_looksOf_82 (fun r19 gr19 h => ?_)
    refine lv_iload_n hx hb dX6_looksOf_85 rfl (lv_at hl 1 rfl) ?_
    refine m_iald hx hb hK hM h dX6_looksOf_86 (fun v20 gv20 h => ?_)
    refine lv_imul hx hb dX6_looksOf_87 ?_
    refine lv_isub hx hb dX6_looksOf_88 ?_
    refine lv_iconst hx hb dX6_looksOf_89 kI_0 ?_
    refine lv_bipush hx hb dX6_looksOf_90 kB_99 ?_
    refine m_calli (va_runS (As := [.int (x3 - ((5 : Int32) * v20)), .int (0 : Int32), .int (99 : Int32)]) (rest := []) ⟨hx, hb, hml, hown, hts⟩ (c_X6_within l G (x3 - ((5 : Int32) * v20)) (0 : Int32) (99 : Int32)) (va_cwS 3 hts gX6_looksOf_X6_within rfl rfl rfl hd_X6_within ⟨Nat.le_of_ble_eq_true rfl, Nat.le_of_ble_eq_true rfl⟩) (m_preS hK hM) rfl rfl hl.1 rfl (lv_room (Nat.le_of_ble_eq_true rfl)) dX6_looksOf_92 ⟨Nat.le_of_ble_eq_true rfl, Nat.le_of_ble_eq_true rfl⟩) hL (fun H locs hM hL => ?_)
    subst hQ
    have h := Option.some.inj h
    subst h
    exact m_iret hx hb hr hM hL dX6_looksOf_95 hlocks
  rw [f_X6_looksOf.eq_1] at h
  refine lv_aload_n hx hb dX6_looksOf_0 rfl (lv_at hl 0 rfl) ?_
  refine m_getR (ci := 5) hx hb hU6 hown hK hM rfl 1 (by decide) w1 h dX6_looksOf_1 (fun r21 gr21 h => ?_)
  refine lv_iload_n hx hb dX6_looksOf_4 rfl (lv_at hl 1 rfl) ?_
  refine m_iald hx hb hK hM h dX6_looksOf_5 (fun v22 gv22 h => ?_)
  refine lv_iconst hx hb dX6_looksOf_6 kI_5 ?_
  refine lv_icmp_ne (tgt := 12) hx hb dX6_looksOf_7 (by decide) (fun c23 => ?_) (fun c23 => ?_)
  · have h := (if_neg c23).symm.trans h
    refine lv_aload_n hx hb dX6_looksOf_12 rfl (lv_at hl 0 rfl) ?_
    refine lv_iconst hx hb dX6_looksOf_13 kI_0 ?_
    refine lv_iload_n hx hb dX6_looksOf_14 rfl (lv_at hl 1 rfl) ?_
    obtain ⟨o24, h⟩ := oi_some h
    obtain ⟨q25, hq25, h⟩ := ob_some h
    refine m_calli (va_runV (As := [.int (0 : Int32), .int x1]) (rest := []) ⟨hx, hb, hml, hown, hts⟩ (c_X6_asksOf l G hq25) (cwV 2 hts gX6_looksOf_X6_asksOf rfl rfl rfl hd_X6_asksOfv ⟨Nat.le_of_ble_eq_true rfl, Nat.le_of_ble_eq_true rfl⟩) (m_preV (ci := 5) hK hM rfl o24) rfl rfl hl.1 rfl (lv_room (Nat.le_of_ble_eq_true rfl)) dX6_looksOf_15 ⟨Nat.le_of_ble_eq_true rfl, Nat.le_of_ble_eq_true rfl⟩) hL (fun H locs hM hL => ?_)
    refine lv_istore_n (lv' := [(3, .int q25.1), (0, .ref h0), (1, .int x1), (2, .int x2)]) hx hb dX6_looksOf_18 rfl hl (by decide) rfl (fun ls hl => ?_)
    refine lv_iload_n hx hb dX6_looksOf_19 rfl (lv_at hl 3 rfl) ?_
    refine lv_aload_n hx hb dX6_looksOf_20 rfl (lv_at hl 1 rfl) ?_
    refine m_getR (ci := 5) hx hb hU6 hown hK hM rfl 2 (by decide) w2 h dX6_looksOf_21 (fun r26 gr26 h => ?_)
    refine lv_iload_n hx hb dX6_looksOf_24 rfl (lv_at hl 2 rfl) ?_
    refine m_iald hx hb hK hM h dX6_looksOf_25 (fun v27 gv27 h => ?_)
    refine lv_bipush hx hb dX6_looksOf_26 kB_6 ?_
    refine lv_irem hx hb dX6_looksOf_28 (by decide) ?_
    suffices hJ : ∀ (v29 : Int32) (ls : Array Slot), v29 = (if x2 = (v27 - v27 / (6 : Int32) * (6 : Int32)) then (99 : Int32) else q25.1) → lv_has ls 5 [(0, .ref h0), (1, .int x1), (2, .int x2), (3, .int q25.1)] → W p l e rm_X6_looksOf s m args below meth c H locs 0 0 Q (F0 m 38 ls [.int v29]) by
      refine lv_icmp_ne (tgt := 37) hx hb dX6_looksOf_29 (by decide) (fun c28 => ?_) (fun c28 => ?_)
      · refine lv_iload_n hx hb dX6_looksOf_37 rfl (lv_at hl 0 rfl) ?_
        exact hJ _ _ (((if_neg c28).trans rfl).symm) (lv_sub hl [1, 2, 3, 0] rfl)
      · refine lv_bipush hx hb dX6_looksOf_32 kB_99 ?_
        refine lv_goto (tgt := 38) hx hb dX6_looksOf_34 (by decide) ?_
        exact hJ _ _ (((if_pos c28).trans rfl).symm) (lv_sub hl [1, 2, 3, 0] rfl)
    intro v29 ls ev29 hl
    have h := vl_at ev29 h
    refine lv_istore (lv' := [(4, .int v29), (0, .ref h0), (1, .int x1), (2, .int x2), (3, .int q25.1)]) hx hb dX6_looksOf_38 hl (by decide) rfl (fun ls hl => ?_)
    refine lv_aload_n hx hb dX6_looksOf_40 rfl (lv_at hl 1 rfl) ?_
    refine m_getR (ci := 5) hx hb hU6 hown hK hM rfl 1 (by decide) w1 h dX6_looksOf_41 (fun r30 gr30 h => ?_)
    refine lv_iload_n hx hb dX6_looksOf_44 rfl (lv_at hl 2 rfl) ?_
    refine m_iald hx hb hK hM h dX6_looksOf_45 (fun v31 gv31 h => ?_)
    by_cases c32 : v31 = (1 : Int32)
    · have h := (if_pos c32).symm.trans h
      refine m_tin (tgt := 76) (off := 30) hx hb c32 dX6_looksOf_46 (by decide) (by decide) (by decide) (by decide) ?_
      refine lv_iload hx hb dX6_looksOf_76 (lv_at hl 0 rfl) ?_
      subst hQ
      have h := Option.some.inj h
      subst h
      exact m_iret hx hb hr hM hL dX6_looksOf_78 hlocks
    have h := (if_neg c32).symm.trans h
    by_cases c33 : v31 = (2 : Int32)
    · have h := (if_pos c33).symm.trans h
      refine m_tin (tgt := 79) (off := 33) hx hb c33 dX6_looksOf_46 (by decide) (by decide) (by decide) (by decide) ?_
      refine hN79 _ _ _ _ h _ _ _ hM hL (lv_sub hl [1, 2, 4] rfl)
    have h := (if_neg c33).symm.trans h
    by_cases c34 : v31 = (3 : Int32)
    · have h := (if_pos c34).symm.trans h
      refine m_tin (tgt := 96) (off := 50) hx hb c34 dX6_looksOf_46 (by decide) (by decide) (by decide) (by decide) ?_
      refine lv_iload_n hx hb dX6_looksOf_96 rfl (lv_at hl 3 rfl) ?_
      refine lv_iconst hx hb dX6_looksOf_97 kI_2 ?_
      refine lv_irem hx hb dX6_looksOf_98 (by decide) ?_
      refine lv_if_ne (tgt := 109) hx hb dX6_looksOf_99 (by decide) (fun c35 => ?_) (fun c35 => ?_)
      · have h := (if_neg c35).symm.trans h
        refine lv_iload hx hb dX6_looksOf_109 (lv_at hl 0 rfl) ?_
        subst hQ
        have h := Option.some.inj h
        subst h
        exact m_iret hx hb hr hM hL dX6_looksOf_111 hlocks
      · have h := (if_pos c35).symm.trans h
        refine lv_iload hx hb dX6_looksOf_102 (lv_at hl 0 rfl) ?_
        refine lv_iconst hx hb dX6_looksOf_104 kI_2 ?_
        refine lv_idiv hx hb dX6_looksOf_105 (by decide) ?_
        refine lv_goto (tgt := 111) hx hb dX6_looksOf_106 (by decide) ?_
        subst hQ
        have h := Option.some.inj h
        subst h
        exact m_iret hx hb hr hM hL dX6_looksOf_111 hlocks
    have h := (if_neg c34).symm.trans h
    by_cases c36 : v31 = (4 : Int32)
    · have h := (if_pos c36).symm.trans h
      refine m_tin (tgt := 79) (off := 33) hx hb c36 dX6_looksOf_46 (by decide) (by decide) (by decide) (by decide) ?_
      refine hN79 _ _ _ _ h _ _ _ hM hL (lv_sub hl [1, 2, 4] rfl)
    have h := (if_neg c36).symm.trans h
    refine lv_tableOut (tgt := 112) hx hb dX6_looksOf_46 (by have q0 := lv_neT (a := 1) c32 (by decide); have q1 := lv_neT (a := 2) c33 (by decide); have q2 := lv_neT (a := 3) c34 (by decide); have q3 := lv_neT (a := 4) c36 (by decide); omega) (by decide) ?_
    refine lv_iload_n hx hb dX6_looksOf_112 rfl (lv_at hl 4 rfl) ?_
    subst hQ
    have h := Option.some.inj h
    subst h
    exact m_iret hx hb hr hM hL dX6_looksOf_113 hlocks
  · have h := (if_pos c23).symm.trans h
    refine lv_iconst hx hb dX6_looksOf_10 kI_0 ?_
    subst hQ
    have h := Option.some.inj h
    subst h
    exact m_iret hx hb hr hM hL dX6_looksOf_11 hlocks
abbrev rm_X6_waitsOf : Room := { frames := 4, cells := 0, slots := 0, locals := 87 }
set_option maxHeartbeats 4000000 in
set_option maxRecDepth 100000 in
theorem c_X6_waitsOf (l : Launch) (G : mG) {h0 : Nat} {x1 : Int32} {σ : mS} {z : Int32 × mS} (h : f_X6_waitsOf h0 x1 σ = some z) : Met l yX6_waitsOf wsX6_waitsOf rm_X6_waitsOf (va_Pc [.ref h0, .int x1] (mB G σ)) (mQ G (.returned (some (.int z.1))) z.2) 0 0 (mF G) := by
  refine m_start (cc := cX6_waitsOf) (maxL := 3) (ret := (some .int)) (by decide) rfl [.ref h0, .int x1] (Nat.le_of_ble_eq_true rfl) ?_
  intro p e s m args below meth c ls hx hb hr hml hown hts hlocks hnm hK hM hl
  have hown : s.vm.findClass RX6 = some m.cls := hown
  have hnm : meth.name = "waitsOf" := hnm
  obtain ⟨locs, hlocs⟩ : ∃ l : List Loc, l = [] := ⟨_, rfl⟩
  have hL : mL G locs := by rw [hlocs]; exact mL_nil G
  rw [← hlocs]
  generalize s.heap = H at hM ⊢
  have hl : lv_has ls 3 [(0, .ref h0), (1, .int x1)] := hl
  obtain ⟨Q, hQ⟩ : ∃ Q, Q = MQ below (mQ G (.returned (some (.int z.1))) z.2) args s 0 0 (mF G) := ⟨_, rfl⟩
  rw [← hQ]
  have hU6 : ∀ w ∈ wsX60, w.before args s = true := fun w h => hts w (List.mem_cons_of_mem _ (List.mem_append_right _ h))
  have w1 := (hts (.fieldLink RX6 7 "HandkerchiefsDroppedModel" "kind" "[I") (List.mem_of_getElem? (i := 1) rfl))
  have w2 := (hts (.fieldLink RX6 93 "HandkerchiefsDroppedModel" "hours" "I") (List.mem_of_getElem? (i := 2) rfl))
  have w3 := (hts (.fieldLink RX6 13 "HandkerchiefsDroppedModel" "moreOf" "[I") (List.mem_of_getElem? (i := 3) rfl))
  have hN108 : ∀ (x2 : Int32) (σ : mS), f_X6_waitsOf_108 x2 σ = some z → ∀ (H : Heap) (locs : List Loc) (ls : Array Slot), mP G σ H → mL G locs → lv_has ls 3 [(2, .int x2)] → W p l e rm_X6_waitsOf s m args below meth c H locs 0 0 Q (F0 m 108 ls []) := by
    intro x2 σ h H locs ls hM hL hl
    rw [f_X6_waitsOf_108.eq_1] at h
    refine lv_iload_n hx hb dX6_waitsOf_108 rfl (lv_at hl 0 rfl) ?_
    refine lv_iconst hx hb dX6_waitsOf_109 kI_1 ?_
    refine lv_bipush hx hb dX6_waitsOf_110 kB_99 ?_
    refine m_calli (va_runS (As := [.int x2, .int (1 : Int32), .int (99 : Int32)]) (rest := []) ⟨hx, hb, hml, hown, hts⟩ (c_X6_within l G x2 (1 : Int32) (99 : Int32)) (va_cwS 3 hts gX6_waitsOf_X6_within rfl rfl rfl hd_X6_within ⟨Nat.le_of_ble_eq_true rfl, Nat.le_of_ble_eq_true rfl⟩) (m_preS hK hM) rfl rfl hl.1 rfl (lv_room (Nat.le_of_ble_eq_true rfl)) dX6_waitsOf_112 ⟨Nat.le_of_ble_eq_true rfl, Nat.le_of_ble_eq_true rfl⟩) hL (fun H locs hM hL => ?_)
    subst hQ
    have h := Option.some.inj h
    subst h
    exact m_iret hx hb hr hM hL dX6_waitsOf_115 hlocks
  rw [f_X6_waitsOf.eq_1] at h
  refine lv_aload_n hx hb dX6_waitsOf_0 rfl (lv_at hl 0 rfl) ?_
  refine lv_iconst hx hb dX6_waitsOf_1 kI_1 ?_
  refine lv_iload_n hx hb dX6_waitsOf_2 rfl (lv_at hl 1 rfl) ?_
  obtain ⟨o16, h⟩ := oi_some h
  obtain ⟨q17, hq17, h⟩ := ob_some h
  refine m_calli (va_runV (As := [.int (1 : Int32), .int x1]) (rest := []) ⟨hx, hb, hml, hown, hts⟩ (c_X6_asksOf l G hq17) (cwV 2 hts gX6_waitsOf_X6_asksOf rfl rfl rfl hd_X6_asksOfv ⟨Nat.le_of_ble_eq_true rfl, Nat.le_of_ble_eq_true rfl⟩) (m_preV (ci := 5) hK hM rfl o16) rfl rfl hl.1 rfl (lv_room (Nat.le_of_ble_eq_true rfl)) dX6_waitsOf_3 ⟨Nat.le_of_ble_eq_true rfl, Nat.le_of_ble_eq_true rfl⟩) hL (fun H locs hM hL => ?_)
  refine lv_istore_n (lv' := [(2, .int q17.1), (0, .ref h0), (1, .int x1)]) hx hb dX6_waitsOf_6 rfl hl (by decide) rfl (fun ls hl => ?_)
  refine lv_aload_n hx hb dX6_waitsOf_7 rfl (lv_at hl 1 rfl) ?_
  refine m_getR (ci := 5) hx hb hU6 hown hK hM rfl 1 (by decide) w1 h dX6_waitsOf_8 (fun r18 gr18 h => ?_)
  refine lv_iload_n hx hb dX6_waitsOf_11 rfl (lv_at hl 2 rfl) ?_
  refine m_iald hx hb hK hM h dX6_waitsOf_12 (fun v19 gv19 h => ?_)
  by_cases c20 : v19 = (1 : Int32)
  · have h := (if_pos c20).symm.trans h
    refine m_tin (tgt := 48) (off := 35) hx hb c20 dX6_waitsOf_13 (by decide) (by decide) (by decide) (by decide) ?_
    refine lv_iload_n hx hb dX6_waitsOf_48 rfl (lv_at hl 0 rfl) ?_
    refine lv_iconst hx hb dX6_waitsOf_49 kI_2 ?_
    refine lv_idiv hx hb dX6_waitsOf_50 (by decide) ?_
    refine lv_iconst hx hb dX6_waitsOf_51 kI_1 ?_
    refine lv_bipush hx hb dX6_waitsOf_52 kB_99 ?_
    refine m_calli (va_runS (As := [.int (q17.1 / (2 : Int32)), .int (1 : Int32), .int (99 : Int32)]) (rest := []) ⟨hx, hb, hml, hown, hts⟩ (c_X6_within l G (q17.1 / (2 : Int32)) (1 : Int32) (99 : Int32)) (va_cwS 3 hts gX6_waitsOf_X6_within rfl rfl rfl hd_X6_within ⟨Nat.le_of_ble_eq_true rfl, Nat.le_of_ble_eq_true rfl⟩) (m_preS hK hM) rfl rfl hl.1 rfl (lv_room (Nat.le_of_ble_eq_true rfl)) dX6_waitsOf_54 ⟨Nat.le_of_ble_eq_true rfl, Nat.le_of_ble_eq_true rfl⟩) hL (fun H locs hM hL => ?_)
    subst hQ
    have h := Option.some.inj h
    subst h
    exact m_iret hx hb hr hM hL dX6_waitsOf_57 hlocks
  have h := (if_neg c20).symm.trans h
  by_cases c21 : v19 = (2 : Int32)
  · have h := (if_pos c21).symm.trans h
    refine m_tin (tgt := 108) (off := 95) hx hb c21 dX6_waitsOf_13 (by decide) (by decide) (by decide) (by decide) ?_
    refine hN108 _ _ h _ _ _ hM hL (lv_sub hl [0] rfl)
  have h := (if_neg c21).symm.trans h
  by_cases c22 : v19 = (3 : Int32)
  · have h := (if_pos c22).symm.trans h
    refine m_tin (tgt := 58) (off := 45) hx hb c22 dX6_waitsOf_13 (by decide) (by decide) (by decide) (by decide) ?_
    refine lv_aload_n hx hb dX6_waitsOf_58 rfl (lv_at hl 1 rfl) ?_
    refine m_getI (ci := 5) hx hb hU6 hown hK hM rfl 8 (by decide) w2 h dX6_waitsOf_59 (fun v23 gv23 h => ?_)
    refine lv_iconst hx hb dX6_waitsOf_62 kI_5 ?_
    refine lv_irem hx hb dX6_waitsOf_63 (by decide) ?_
    refine lv_if_ne (tgt := 72) hx hb dX6_waitsOf_64 (by decide) (fun c24 => ?_) (fun c24 => ?_)
    · have h := (if_neg c24).symm.trans h
      refine lv_iload_n hx hb dX6_waitsOf_72 rfl (lv_at hl 0 rfl) ?_
      refine lv_iconst hx hb dX6_waitsOf_73 kI_2 ?_
      refine lv_idiv hx hb dX6_waitsOf_74 (by decide) ?_
      refine lv_aload_n hx hb dX6_waitsOf_75 rfl (lv_at hl 1 rfl) ?_
      refine m_getR (ci := 5) hx hb hU6 hown hK hM rfl 2 (by decide) w3 h dX6_waitsOf_76 (fun r25 gr25 h => ?_)
      refine lv_iload_n hx hb dX6_waitsOf_79 rfl (lv_at hl 2 rfl) ?_
      refine m_iald hx hb hK hM h dX6_waitsOf_80 (fun v26 gv26 h => ?_)
      refine lv_iadd hx hb dX6_waitsOf_81 ?_
      refine lv_iconst hx hb dX6_waitsOf_82 kI_1 ?_
      refine lv_bipush hx hb dX6_waitsOf_83 kB_99 ?_
      refine m_calli (va_runS (As := [.int ((q17.1 / (2 : Int32)) + v26), .int (1 : Int32), .int (99 : Int32)]) (rest := []) ⟨hx, hb, hml, hown, hts⟩ (c_X6_within l G ((q17.1 / (2 : Int32)) + v26) (1 : Int32) (99 : Int32)) (va_cwS 3 hts gX6_waitsOf_X6_within rfl rfl rfl hd_X6_within ⟨Nat.le_of_ble_eq_true rfl, Nat.le_of_ble_eq_true rfl⟩) (m_preS hK hM) rfl rfl hl.1 rfl (lv_room (Nat.le_of_ble_eq_true rfl)) dX6_waitsOf_85 ⟨Nat.le_of_ble_eq_true rfl, Nat.le_of_ble_eq_true rfl⟩) hL (fun H locs hM hL => ?_)
      subst hQ
      have h := Option.some.inj h
      subst h
      exact m_iret hx hb hr hM hL dX6_waitsOf_88 hlocks
    · have h := (if_pos c24).symm.trans h
      refine lv_bipush hx hb dX6_waitsOf_67 kB_99 ?_
      refine lv_goto (tgt := 88) hx hb dX6_waitsOf_69 (by decide) ?_
      subst hQ
      have h := Option.some.inj h
      subst h
      exact m_iret hx hb hr hM hL dX6_waitsOf_88 hlocks
  have h := (if_neg c22).symm.trans h
  by_cases c27 : v19 = (4 : Int32)
  · have h := (if_pos c27).symm.trans h
    refine m_tin (tgt := 89) (off := 76) hx hb c27 dX6_waitsOf_13 (by decide) (by decide) (by decide) (by decide) ?_
    refine lv_iconst hx hb dX6_waitsOf_89 kI_2 ?_
    refine lv_iload_n hx hb dX6_waitsOf_90 rfl (lv_at hl 0 rfl) ?_
    refine lv_imul hx hb dX6_waitsOf_91 ?_
    refine lv_iconst hx hb dX6_waitsOf_92 kI_1 ?_
    refine lv_bipush hx hb dX6_waitsOf_93 kB_99 ?_
    refine m_calli (va_runS (As := [.int ((2 : Int32) * q17.1), .int (1 : Int32), .int (99 : Int32)]) (rest := []) ⟨hx, hb, hml, hown, hts⟩ (c_X6_within l G ((2 : Int32) * q17.1) (1 : Int32) (99 : Int32)) (va_cwS 3 hts gX6_waitsOf_X6_within rfl rfl rfl hd_X6_within ⟨Nat.le_of_ble_eq_true rfl, Nat.le_of_ble_eq_true rfl⟩) (m_preS hK hM) rfl rfl hl.1 rfl (lv_room (Nat.le_of_ble_eq_true rfl)) dX6_waitsOf_95 ⟨Nat.le_of_ble_eq_true rfl, Nat.le_of_ble_eq_true rfl⟩) hL (fun H locs hM hL => ?_)
    subst hQ
    have h := Option.some.inj h
    subst h
    exact m_iret hx hb hr hM hL dX6_waitsOf_98 hlocks
  have h := (if_neg c27).symm.trans h
  by_cases c28 : v19 = (5 : Int32)
  · have h := (if_pos c28).symm.trans h
    refine m_tin (tgt := 99) (off := 86) hx hb c28 dX6_waitsOf_13 (by decide) (by decide) (by decide) (by decide) ?_
    refine lv_iconst hx hb dX6_waitsOf_99 kI_1 ?_
    refine lv_aload_n hx hb dX6_waitsOf_100 rfl (lv_at hl 1 rfl) ?_
    refine m_getR (ci := 5) hx hb hU6 hown hK hM rfl 2 (by decide) w3 h dX6_waitsOf_101 (fun r29 gr29 h => ?_)
    refine lv_iload_n hx hb dX6_waitsOf_104 rfl (lv_at hl 2 rfl) ?_
    refine m_iald hx hb hK hM h dX6_waitsOf_105 (fun v30 gv30 h => ?_)
    refine lv_iadd hx hb dX6_waitsOf_106 ?_
    subst hQ
    have h := Option.some.inj h
    subst h
    exact m_iret hx hb hr hM hL dX6_waitsOf_107 hlocks
  have h := (if_neg c28).symm.trans h
  refine lv_tableOut (tgt := 108) hx hb dX6_waitsOf_13 (by have q0 := lv_neT (a := 1) c20 (by decide); have q1 := lv_neT (a := 2) c21 (by decide); have q2 := lv_neT (a := 3) c22 (by decide); have q3 := lv_neT (a := 4) c27 (by decide); have q4 := lv_neT (a := 5) c28 (by decide); omega) (by decide) ?_
  refine hN108 _ _ h _ _ _ hM hL (lv_sub hl [0] rfl)
abbrev rm_X6_dropsOf : Room := { frames := 4, cells := 0, slots := 0, locals := 87 }
set_option maxHeartbeats 4000000 in
set_option maxRecDepth 100000 in
theorem c_X6_dropsOf (l : Launch) (G : mG) {h0 : Nat} {x1 : Int32} {σ : mS} {z : Int32 × mS} (h : f_X6_dropsOf h0 x1 σ = some z) : Met l yX6_dropsOf wsX6_dropsOf rm_X6_dropsOf (va_Pc [.ref h0, .int x1] (mB G σ)) (mQ G (.returned (some (.int z.1))) z.2) 0 0 (mF G) := by
  refine m_start (cc := cX6_dropsOf) (maxL := 7) (ret := (some .int)) (by decide) rfl [.ref h0, .int x1] (Nat.le_of_ble_eq_true rfl) ?_
  intro p e s m args below meth c ls hx hb hr hml hown hts hlocks hnm hK hM hl
  have hown : s.vm.findClass RX6 = some m.cls := hown
  have hnm : meth.name = "dropsOf" := hnm
  obtain ⟨locs, hlocs⟩ : ∃ l : List Loc, l = [] := ⟨_, rfl⟩
  have hL : mL G locs := by rw [hlocs]; exact mL_nil G
  rw [← hlocs]
  generalize s.heap = H at hM ⊢
  have hl : lv_has ls 7 [(0, .ref h0), (1, .int x1)] := hl
  obtain ⟨Q, hQ⟩ : ∃ Q, Q = MQ below (mQ G (.returned (some (.int z.1))) z.2) args s 0 0 (mF G) := ⟨_, rfl⟩
  rw [← hQ]
  have hU6 : ∀ w ∈ wsX60, w.before args s = true := fun w h => hts w (List.mem_cons_of_mem _ (List.mem_append_right _ h))
  have w1 := (hts (.fieldLink RX6 16 "HandkerchiefsDroppedModel" "rows" "[I") (List.mem_of_getElem? (i := 1) rfl))
  have w2 := (hts (.fieldLink RX6 7 "HandkerchiefsDroppedModel" "kind" "[I") (List.mem_of_getElem? (i := 2) rfl))
  have w3 := (hts (.fieldLink RX6 13 "HandkerchiefsDroppedModel" "moreOf" "[I") (List.mem_of_getElem? (i := 3) rfl))
  have hN108 : ∀ (h0 : Nat) (x1 : Int32) (x6 : Int32) (σ : mS), f_X6_dropsOf_108 h0 x1 x6 σ = some z → ∀ (H : Heap) (locs : List Loc) (ls : Array Slot), mP G σ H → mL G locs → lv_has ls 7 [(0, .ref h0), (1, .int x1), (6, .int x6)] → W p l e rm_X6_dropsOf s m args below meth c H locs 0 0 Q (F0 m 108 ls []) := by
    intro h0 x1 x6 σ h H locs ls hM hL hl
    rw [f_X6_dropsOf_108.eq_1] at h
    refine lv_aload_n hx hb dX6_dropsOf_108 rfl (lv_at hl 0 rfl) ?_
    refine m_getR (ci := 5) hx hb hU6 hown hK hM rfl 3 (by decide) w1 h dX6_dropsOf_109 (fun r29 gr29 h => ?_)
    refine lv_iconst hx hb dX6_dropsOf_112 kI_3 ?_
    refine lv_iload_n hx hb dX6_dropsOf_113 rfl (lv_at hl 1 rfl) ?_
    refine lv_imul hx hb dX6_dropsOf_114 ?_
    refine m_iald hx hb hK hM h dX6_dropsOf_115 (fun v30 gv30 h => ?_)
    refine lv_iload hx hb dX6_dropsOf_116 (lv_at hl 2 rfl) ?_
    obtain ⟨q31, hq31, h⟩ := ob_some h
    refine m_calli (va_runS (As := [.int v30, .int x6]) (rest := []) ⟨hx, hb, hml, hown, hts⟩ (c_X6_nthOf l G hq31) (va_cwS 2 hts gX6_dropsOf_X6_nthOf rfl rfl rfl hd_X6_nthOf ⟨Nat.le_of_ble_eq_true rfl, Nat.le_of_ble_eq_true rfl⟩) (m_preS hK hM) rfl rfl hl.1 rfl (lv_room (Nat.le_of_ble_eq_true rfl)) dX6_dropsOf_118 ⟨Nat.le_of_ble_eq_true rfl, Nat.le_of_ble_eq_true rfl⟩) hL (fun H locs hM hL => ?_)
    subst hQ
    have h := Option.some.inj h
    subst h
    exact m_iret hx hb hr hM hL dX6_dropsOf_121 hlocks
  have hN106 : ∀ (h0 : Nat) (x1 : Int32) (s0 : Int32) (σ : mS), f_X6_dropsOf_106 h0 x1 s0 σ = some z → ∀ (H : Heap) (locs : List Loc) (ls : Array Slot), mP G σ H → mL G locs → lv_has ls 7 [(0, .ref h0), (1, .int x1)] → W p l e rm_X6_dropsOf s m args below meth c H locs 0 0 Q (F0 m 106 ls [.int s0]) := by
    intro h0 x1 s0 σ h H locs ls hM hL hl
    rw [f_X6_dropsOf_106.eq_1] at h
    refine lv_istore (lv' := [(6, .int s0), (0, .ref h0), (1, .int x1)]) hx hb dX6_dropsOf_106 hl (by decide) rfl (fun ls hl => ?_)
    refine hN108 _ _ _ _ h _ _ _ hM hL (lv_sub hl [1, 2, 0] rfl)
  have hN42 : ∀ (h0 : Nat) (x1 : Int32) (x2 : Int32) (s0 : Int32) (σ : mS), f_X6_dropsOf_42 h0 x1 x2 s0 σ = some z → ∀ (H : Heap) (locs : List Loc) (ls : Array Slot), mP G σ H → mL G locs → lv_has ls 7 [(0, .ref h0), (1, .int x1), (2, .int x2)] → W p l e rm_X6_dropsOf s m args below meth c H locs 0 0 Q (F0 m 42 ls [.int s0]) := by
    intro h0 x1 x2 s0 σ h H locs ls hM hL hl
    rw [f_X6_dropsOf_42.eq_1] at h
    refine lv_istore (lv' := [(4, .int s0), (0, .ref h0), (1, .int x1), (2, .int x2)]) hx hb dX6_dropsOf_42 hl (by decide) rfl (fun ls hl => ?_)
    refine lv_iload_n hx hb dX6_dropsOf_44 rfl (lv_at hl 3 rfl) ?_
    refine lv_iconst hx hb dX6_dropsOf_45 kI_1 ?_
    refine lv_isub hx hb dX6_dropsOf_46 ?_
    refine lv_iload hx hb dX6_dropsOf_47 (lv_at hl 0 rfl) ?_
    refine lv_isub hx hb dX6_dropsOf_49 ?_
    refine lv_topi (fun v32 ev32 => ?_)
    have h := vl_at ev32 h
    refine lv_istore (lv' := [(5, .int v32), (4, .int s0), (0, .ref h0), (1, .int x1), (2, .int x2)]) hx hb dX6_dropsOf_50 hl (by decide) rfl (fun ls hl => ?_)
    refine lv_iload hx hb dX6_dropsOf_52 (lv_at hl 1 rfl) ?_
    refine lv_istore (lv' := [(6, .int s0), (5, .int v32), (4, .int s0), (0, .ref h0), (1, .int x1), (2, .int x2)]) hx hb dX6_dropsOf_54 hl (by decide) rfl (fun ls hl => ?_)
    refine lv_aload_n hx hb dX6_dropsOf_56 rfl (lv_at hl 3 rfl) ?_
    refine m_getR (ci := 5) hx hb hU6 hown hK hM rfl 1 (by decide) w2 h dX6_dropsOf_57 (fun r33 gr33 h => ?_)
    refine lv_iload_n hx hb dX6_dropsOf_60 rfl (lv_at hl 4 rfl) ?_
    refine m_iald hx hb hK hM h dX6_dropsOf_61 (fun v34 gv34 h => ?_)
    refine lv_iconst hx hb dX6_dropsOf_62 kI_2 ?_
    suffices hJ : ∀ (v36 : Int32) (ls : Array Slot), v36 = (if v34 = (2 : Int32) then v32 else s0) → lv_has ls 7 [(0, .ref h0), (1, .int x1), (2, .int x2), (5, .int v32), (6, .int v36)] → W p l e rm_X6_dropsOf s m args below meth c H locs 0 0 Q (F0 m 70 ls []) by
      refine lv_icmp_ne (tgt := 70) hx hb dX6_dropsOf_63 (by decide) (fun c35 => ?_) (fun c35 => ?_)
      · exact hJ _ _ (((if_neg c35).trans rfl).symm) (lv_sub hl [3, 4, 5, 1, 0] rfl)
      · refine lv_iload hx hb dX6_dropsOf_66 (lv_at hl 1 rfl) ?_
        refine lv_istore (lv' := [(6, .int v32), (5, .int v32), (4, .int s0), (0, .ref h0), (1, .int x1), (2, .int x2)]) hx hb dX6_dropsOf_68 hl (by decide) rfl (fun ls hl => ?_)
        exact hJ _ _ (((if_pos c35).trans rfl).symm) (lv_sub hl [3, 4, 5, 1, 0] rfl)
    intro v36 ls ev36 hl
    have h := vl_at ev36 h
    refine lv_aload_n hx hb dX6_dropsOf_70 rfl (lv_at hl 0 rfl) ?_
    refine m_getR (ci := 5) hx hb hU6 hown hK hM rfl 1 (by decide) w2 h dX6_dropsOf_71 (fun r37 gr37 h => ?_)
    refine lv_iload_n hx hb dX6_dropsOf_74 rfl (lv_at hl 1 rfl) ?_
    refine m_iald hx hb hK hM h dX6_dropsOf_75 (fun v38 gv38 h => ?_)
    refine lv_iconst hx hb dX6_dropsOf_76 kI_4 ?_
    refine lv_icmp_ne (tgt := 108) hx hb dX6_dropsOf_77 (by decide) (fun c39 => ?_) (fun c39 => ?_)
    · have h := (if_neg c39).symm.trans h
      refine hN108 _ _ _ _ h _ _ _ hM hL (lv_sub hl [0, 1, 4] rfl)
    · have h := (if_pos c39).symm.trans h
      refine lv_iload hx hb dX6_dropsOf_80 (lv_at hl 3 rfl) ?_
      refine lv_aload_n hx hb dX6_dropsOf_82 rfl (lv_at hl 0 rfl) ?_
      refine m_getR (ci := 5) hx hb hU6 hown hK hM rfl 2 (by decide) w3 h dX6_dropsOf_83 (fun r40 gr40 h => ?_)
      refine lv_iload_n hx hb dX6_dropsOf_86 rfl (lv_at hl 1 rfl) ?_
      refine m_iald hx hb hK hM h dX6_dropsOf_87 (fun v41 gv41 h => ?_)
      refine lv_iload_n hx hb dX6_dropsOf_88 rfl (lv_at hl 2 rfl) ?_
      obtain ⟨n42, h⟩ := on_some h
      refine lv_irem hx hb dX6_dropsOf_89 n42 ?_
      refine lv_icmp_le (tgt := 98) hx hb dX6_dropsOf_90 (by decide) (fun c43 => ?_) (fun c43 => ?_)
      · have h := (if_pos c43).symm.trans h
        refine lv_aload_n hx hb dX6_dropsOf_98 rfl (lv_at hl 0 rfl) ?_
        refine m_getR (ci := 5) hx hb hU6 hown hK hM rfl 2 (by decide) w3 h dX6_dropsOf_99 (fun r44 gr44 h => ?_)
        refine lv_iload_n hx hb dX6_dropsOf_102 rfl (lv_at hl 1 rfl) ?_
        refine m_iald hx hb hK hM h dX6_dropsOf_103 (fun v45 gv45 h => ?_)
        refine lv_iload_n hx hb dX6_dropsOf_104 rfl (lv_at hl 2 rfl) ?_
        obtain ⟨n46, h⟩ := on_some h
        refine lv_irem hx hb dX6_dropsOf_105 n46 ?_
        refine hN106 _ _ _ _ h _ _ _ hM hL (lv_sub hl [0, 1] rfl)
      · have h := (if_neg c43).symm.trans h
        refine lv_iload hx hb dX6_dropsOf_93 (lv_at hl 3 rfl) ?_
        refine lv_goto (tgt := 106) hx hb dX6_dropsOf_95 (by decide) ?_
        refine hN106 _ _ _ _ h _ _ _ hM hL (lv_sub hl [0, 1] rfl)
  rw [f_X6_dropsOf.eq_1] at h
  refine lv_aload_n hx hb dX6_dropsOf_0 rfl (lv_at hl 0 rfl) ?_
  refine m_getR (ci := 5) hx hb hU6 hown hK hM rfl 3 (by decide) w1 h dX6_dropsOf_1 (fun r47 gr47 h => ?_)
  refine lv_iconst hx hb dX6_dropsOf_4 kI_3 ?_
  refine lv_iload_n hx hb dX6_dropsOf_5 rfl (lv_at hl 1 rfl) ?_
  refine lv_imul hx hb dX6_dropsOf_6 ?_
  refine m_iald hx hb hK hM h dX6_dropsOf_7 (fun v48 gv48 h => ?_)
  obtain ⟨q49, hq49, h⟩ := ob_some h
  refine m_calli (va_runS (As := [.int v48]) (rest := []) ⟨hx, hb, hml, hown, hts⟩ (c_X6_onesOf l G hq49) (va_cwS 1 hts gX6_dropsOf_X6_onesOf rfl rfl rfl hd_X6_onesOf ⟨Nat.le_of_ble_eq_true rfl, Nat.le_of_ble_eq_true rfl⟩) (m_preS hK hM) rfl rfl hl.1 rfl (lv_room (Nat.le_of_ble_eq_true rfl)) dX6_dropsOf_8 ⟨Nat.le_of_ble_eq_true rfl, Nat.le_of_ble_eq_true rfl⟩) hL (fun H locs hM hL => ?_)
  refine lv_istore_n (lv' := [(2, .int q49), (0, .ref h0), (1, .int x1)]) hx hb dX6_dropsOf_11 rfl hl (by decide) rfl (fun ls hl => ?_)
  refine lv_iload_n hx hb dX6_dropsOf_12 rfl (lv_at hl 0 rfl) ?_
  refine lv_if_ne (tgt := 18) hx hb dX6_dropsOf_13 (by decide) (fun c50 => ?_) (fun c50 => ?_)
  · have h := (if_neg c50).symm.trans h
    refine lv_aload_n hx hb dX6_dropsOf_18 rfl (lv_at hl 1 rfl) ?_
    refine lv_iconst hx hb dX6_dropsOf_19 kI_2 ?_
    refine lv_iload_n hx hb dX6_dropsOf_20 rfl (lv_at hl 2 rfl) ?_
    obtain ⟨o51, h⟩ := oi_some h
    obtain ⟨q52, hq52, h⟩ := ob_some h
    refine m_calli (va_runV (As := [.int (2 : Int32), .int x1]) (rest := []) ⟨hx, hb, hml, hown, hts⟩ (c_X6_asksOf l G hq52) (cwV 2 hts gX6_dropsOf_X6_asksOf rfl rfl rfl hd_X6_asksOfv ⟨Nat.le_of_ble_eq_true rfl, Nat.le_of_ble_eq_true rfl⟩) (m_preV (ci := 5) hK hM rfl o51) rfl rfl hl.1 rfl (lv_room (Nat.le_of_ble_eq_true rfl)) dX6_dropsOf_21 ⟨Nat.le_of_ble_eq_true rfl, Nat.le_of_ble_eq_true rfl⟩) hL (fun H locs hM hL => ?_)
    refine lv_istore_n (lv' := [(3, .int q52.1), (2, .int q49), (0, .ref h0), (1, .int x1)]) hx hb dX6_dropsOf_24 rfl hl (by decide) rfl (fun ls hl => ?_)
    refine lv_iload_n hx hb dX6_dropsOf_25 rfl (lv_at hl 0 rfl) ?_
    refine lv_iload_n hx hb dX6_dropsOf_26 rfl (lv_at hl 1 rfl) ?_
    obtain ⟨n53, h⟩ := on_some h
    refine lv_irem hx hb dX6_dropsOf_27 n53 ?_
    refine lv_if_ge (tgt := 39) hx hb dX6_dropsOf_28 (by decide) (fun c54 => ?_) (fun c54 => ?_)
    · have h := (if_pos c54).symm.trans h
      refine lv_iload_n hx hb dX6_dropsOf_39 rfl (lv_at hl 0 rfl) ?_
      refine lv_iload_n hx hb dX6_dropsOf_40 rfl (lv_at hl 1 rfl) ?_
      obtain ⟨n55, h⟩ := on_some h
      refine lv_irem hx hb dX6_dropsOf_41 n55 ?_
      refine hN42 _ _ _ _ _ h _ _ _ hM hL (lv_sub hl [2, 3, 1] rfl)
    · have h := (if_neg c54).symm.trans h
      refine lv_iload_n hx hb dX6_dropsOf_31 rfl (lv_at hl 0 rfl) ?_
      refine lv_iload_n hx hb dX6_dropsOf_32 rfl (lv_at hl 1 rfl) ?_
      obtain ⟨n56, h⟩ := on_some h
      refine lv_irem hx hb dX6_dropsOf_33 n56 ?_
      refine lv_iload_n hx hb dX6_dropsOf_34 rfl (lv_at hl 1 rfl) ?_
      refine lv_iadd hx hb dX6_dropsOf_35 ?_
      refine lv_goto (tgt := 42) hx hb dX6_dropsOf_36 (by decide) ?_
      refine hN42 _ _ _ _ _ h _ _ _ hM hL (lv_sub hl [2, 3, 1] rfl)
  · have h := (if_pos c50).symm.trans h
    refine lv_iconst hx hb dX6_dropsOf_16 kI_m1 ?_
    subst hQ
    have h := Option.some.inj h
    subst h
    exact m_iret hx hb hr hM hL dX6_dropsOf_17 hlocks
abbrev rm_X6_doesStoop : Room := { frames := 5, cells := 0, slots := 0, locals := 111 }
set_option maxHeartbeats 4000000 in
set_option maxRecDepth 100000 in
theorem c_X6_doesStoop (l : Launch) (G : mG) {h0 : Nat} {x1 : Int32} {x2 : Int32} {σ : mS} {z : Int32 × mS} (h : f_X6_doesStoop h0 x1 x2 σ = some z) : Met l yX6_doesStoop wsX6_doesStoop rm_X6_doesStoop (va_Pc [.ref h0, .int x1, .int x2] (mB G σ)) (mQ G (.returned (some (.int z.1))) z.2) 0 0 (mF G) := by
  refine m_start (cc := cX6_doesStoop) (maxL := 3) (ret := (some .boolean)) (by decide) rfl [.ref h0, .int x1, .int x2] (Nat.le_of_ble_eq_true rfl) ?_
  intro p e s m args below meth c ls hx hb hr hml hown hts hlocks hnm hK hM hl
  have hown : s.vm.findClass RX6 = some m.cls := hown
  have hnm : meth.name = "doesStoop" := hnm
  obtain ⟨locs, hlocs⟩ : ∃ l : List Loc, l = [] := ⟨_, rfl⟩
  have hL : mL G locs := by rw [hlocs]; exact mL_nil G
  rw [← hlocs]
  generalize s.heap = H at hM ⊢
  have hl : lv_has ls 3 [(0, .ref h0), (1, .int x1), (2, .int x2)] := hl
  obtain ⟨Q, hQ⟩ : ∃ Q, Q = MQ below (mQ G (.returned (some (.int z.1))) z.2) args s 0 0 (mF G) := ⟨_, rfl⟩
  rw [← hQ]
  have hU6 : ∀ w ∈ wsX60, w.before args s = true := fun w h => hts w (List.mem_cons_of_mem _ (List.mem_append_right _ h))
  have w1 := (hts (.fieldLink RX6 25 "HandkerchiefsDroppedModel" "keen" "[I") (List.mem_of_getElem? (i := 1) rfl))
  rw [f_X6_doesStoop.eq_1] at h
  refine lv_aload_n hx hb dX6_doesStoop_0 rfl (lv_at hl 0 rfl) ?_
  refine m_getR (ci := 5) hx hb hU6 hown hK hM rfl 6 (by decide) w1 h dX6_doesStoop_1 (fun r6 gr6 h => ?_)
  refine lv_iload_n hx hb dX6_doesStoop_4 rfl (lv_at hl 1 rfl) ?_
  refine m_iald hx hb hK hM h dX6_doesStoop_5 (fun v7 gv7 h => ?_)
  refine lv_aload_n hx hb dX6_doesStoop_6 rfl (lv_at hl 0 rfl) ?_
  refine lv_iload_n hx hb dX6_doesStoop_7 rfl (lv_at hl 2 rfl) ?_
  refine lv_iload_n hx hb dX6_doesStoop_8 rfl (lv_at hl 1 rfl) ?_
  obtain ⟨o8, h⟩ := oi_some h
  obtain ⟨q9, hq9, h⟩ := ob_some h
  refine m_calli (va_runV (As := [.int x2, .int x1]) (rest := [.int v7]) ⟨hx, hb, hml, hown, hts⟩ (c_X6_looksOf l G hq9) (cwV 2 hts gX6_doesStoop_X6_looksOf rfl rfl rfl hd_X6_looksOfv ⟨Nat.le_of_ble_eq_true rfl, Nat.le_of_ble_eq_true rfl⟩) (m_preV (ci := 5) hK hM rfl o8) rfl rfl hl.1 rfl (lv_room (Nat.le_of_ble_eq_true rfl)) dX6_doesStoop_9 ⟨Nat.le_of_ble_eq_true rfl, Nat.le_of_ble_eq_true rfl⟩) hL (fun H locs hM hL => ?_)
  refine lv_iadd hx hb dX6_doesStoop_12 ?_
  refine lv_bipush hx hb dX6_doesStoop_13 kB_100 ?_
  refine lv_icmp_lt (tgt := 22) hx hb dX6_doesStoop_15 (by decide) (fun c10 => ?_) (fun c10 => ?_)
  · have h := (if_pos c10).symm.trans h
    refine lv_iconst hx hb dX6_doesStoop_22 kI_0 ?_
    subst hQ
    have h := Option.some.inj h
    subst h
    exact m_zret (x := (0 : Int32)) hx hb hr rfl hM hL dX6_doesStoop_23 hlocks
  · have h := (if_neg c10).symm.trans h
    refine lv_iconst hx hb dX6_doesStoop_18 kI_1 ?_
    refine lv_goto (tgt := 23) hx hb dX6_doesStoop_19 (by decide) ?_
    subst hQ
    have h := Option.some.inj h
    subst h
    exact m_zret (x := (1 : Int32)) hx hb hr rfl hM hL dX6_doesStoop_23 hlocks
abbrev rm_X6_ownLinens : Room := { frames := 0, cells := 0, slots := 0, locals := 0 }
set_option maxHeartbeats 4000000 in
set_option maxRecDepth 100000 in
theorem c_X6_ownLinens (l : Launch) (G : mG) {h0 : Nat} {x1 : Int32} {σ : mS} {z : Int32} (h : f_X6_ownLinens h0 x1 σ = some z) : Met l yX6_ownLinens wsX6_ownLinens rm_X6_ownLinens (va_Pc [.ref h0, .int x1] (mB G σ)) (mQ G (.returned (some (.int z))) (σ)) 0 0 (mF G) := by
  refine m_start (cc := cX6_ownLinens) (maxL := 4) (ret := (some .int)) (by decide) rfl [.ref h0, .int x1] (Nat.le_of_ble_eq_true rfl) ?_
  intro p e s m args below meth c ls hx hb hr hml hown hts hlocks hnm hK hM hl
  have hown : s.vm.findClass RX6 = some m.cls := hown
  have hnm : meth.name = "ownLinens" := hnm
  obtain ⟨locs, hlocs⟩ : ∃ l : List Loc, l = [] := ⟨_, rfl⟩
  have hL : mL G locs := by rw [hlocs]; exact mL_nil G
  rw [← hlocs]
  generalize s.heap = H at hM ⊢
  have hl : lv_has ls 4 [(0, .ref h0), (1, .int x1)] := hl
  obtain ⟨Q, hQ⟩ : ∃ Q, Q = MQ below (mQ G (.returned (some (.int z))) (σ)) args s 0 0 (mF G) := ⟨_, rfl⟩
  rw [← hQ]
  have hU6 : ∀ w ∈ wsX60, w.before args s = true := fun w h => hts w (List.mem_cons_of_mem _ (List.mem_append_right _ h))
  have w1 := (hts (.fieldLink RX6 19 "HandkerchiefsDroppedModel" "linens" "[I") (List.mem_of_getElem? (i := 1) rfl))
  have hN4 : ∀ (n : Nat) (h0 : Nat) (x1 : Int32) (x2 : Int32) (x3 : Int32), f_X6_ownLinens_4 σ n h0 x1 x2 x3 = some z → ∀ (H : Heap) (locs : List Loc) (ls : Array Slot), mP G σ H → mL G locs → lv_has ls 4 [(0, .ref h0), (1, .int x1), (2, .int x2), (3, .int x3)] → W p l e rm_X6_ownLinens s m args below meth c H locs 0 0 Q (F0 m 4 ls []) := by
    intro n
    induction n with
    | zero =>
      intro h0 x1 x2 x3 h
      exact nomatch (show (none : Option Int32) = some z from h)
    | succ n ih =>
      intro h0 x1 x2 x3 h H locs ls hM hL hl
      rw [f_X6_ownLinens_4.eq_2] at h
      refine lv_iload_n hx hb dX6_ownLinens_4 rfl (lv_at hl 3 rfl) ?_
      refine lv_bipush hx hb dX6_ownLinens_5 kB_8 ?_
      refine lv_icmp_ge (tgt := 38) hx hb dX6_ownLinens_7 (by decide) (fun c8 => ?_) (fun c8 => ?_)
      · have h := (if_pos c8).symm.trans h
        refine lv_iload_n hx hb dX6_ownLinens_38 rfl (lv_at hl 2 rfl) ?_
        subst hQ
        have h := Option.some.inj h
        subst h
        exact m_iret hx hb hr hM hL dX6_ownLinens_39 hlocks
      · have h := (if_neg c8).symm.trans h
        refine lv_iload_n hx hb dX6_ownLinens_10 rfl (lv_at hl 2 rfl) ?_
        refine lv_aload_n hx hb dX6_ownLinens_11 rfl (lv_at hl 0 rfl) ?_
        refine m_getR (ci := 5) hx hb hU6 hown hK hM rfl 4 (by decide) w1 h dX6_ownLinens_12 (fun r9 gr9 h => ?_)
        refine lv_iconst hx hb dX6_ownLinens_15 kI_3 ?_
        refine lv_iload_n hx hb dX6_ownLinens_16 rfl (lv_at hl 3 rfl) ?_
        refine lv_imul hx hb dX6_ownLinens_17 ?_
        refine m_iald hx hb hK hM h dX6_ownLinens_18 (fun v10 gv10 h => ?_)
        refine lv_iload_n hx hb dX6_ownLinens_19 rfl (lv_at hl 1 rfl) ?_
        suffices hJ : ∀ (v12 : Int32) (ls : Array Slot), v12 = (if v10 = x1 then ((1 : Int32) <<< (x3 &&& 31)) else (0 : Int32)) → lv_has ls 4 [(0, .ref h0), (1, .int x1), (3, .int x3)] → W p l e rm_X6_ownLinens s m args below meth c H locs 0 0 Q (F0 m 30 ls [.int v12, .int x2]) by
          refine lv_icmp_ne (tgt := 29) hx hb dX6_ownLinens_20 (by decide) (fun c11 => ?_) (fun c11 => ?_)
          · refine lv_iconst hx hb dX6_ownLinens_29 kI_0 ?_
            exact hJ _ _ (((if_neg c11).trans rfl).symm) (lv_sub hl [0, 1, 3] rfl)
          · refine lv_iconst hx hb dX6_ownLinens_23 kI_1 ?_
            refine lv_iload_n hx hb dX6_ownLinens_24 rfl (lv_at hl 3 rfl) ?_
            refine lv_ishl hx hb dX6_ownLinens_25 ?_
            refine lv_goto (tgt := 30) hx hb dX6_ownLinens_26 (by decide) ?_
            exact hJ _ _ (((if_pos c11).trans rfl).symm) (lv_sub hl [0, 1, 3] rfl)
        intro v12 ls ev12 hl
        have h := vl_at ev12 h
        refine lv_ior hx hb dX6_ownLinens_30 ?_
        refine lv_topi (fun v13 ev13 => ?_)
        have h := vl_at ev13 h
        refine lv_istore_n (lv' := [(2, .int v13), (0, .ref h0), (1, .int x1), (3, .int x3)]) hx hb dX6_ownLinens_31 rfl hl (by decide) rfl (fun ls hl => ?_)
        obtain ⟨v14, ev14⟩ : ∃ y : Int32, y = x3 + (1 : Int32) := ⟨_, rfl⟩
        have h := vl_at ev14 h
        refine lv_iinc (v := v14) (lv' := [(3, .int v14), (2, .int v13), (0, .ref h0), (1, .int x1)]) hx hb dX6_ownLinens_32 hl (k := 3) rfl (by rw [ev14, kI_1]) (by decide) rfl (fun ls hl => ?_)
        refine lv_goto (tgt := 4) hx hb dX6_ownLinens_35 (by decide) ?_
        exact ih _ _ _ _ h _ _ _ hM hL (lv_sub hl [2, 3, 1, 0] rfl)
  rw [f_X6_ownLinens.eq_1] at h
  refine lv_iconst hx hb dX6_ownLinens_0 kI_0 ?_
  refine lv_istore_n (lv' := [(2, .int (0 : Int32)), (0, .ref h0), (1, .int x1)]) hx hb dX6_ownLinens_1 rfl hl (by decide) rfl (fun ls hl => ?_)
  refine lv_iconst hx hb dX6_ownLinens_2 kI_0 ?_
  refine lv_istore_n (lv' := [(3, .int (0 : Int32)), (2, .int (0 : Int32)), (0, .ref h0), (1, .int x1)]) hx hb dX6_ownLinens_3 rfl hl (by decide) rfl (fun ls hl => ?_)
  refine hN4 _ _ _ _ _ h _ _ _ hM hL (lv_sub hl [2, 3, 1, 0] rfl)
