abbrev rm_X6_stoopers : Room := { frames := 6, cells := 0, slots := 0, locals := 133 }
set_option maxHeartbeats 4000000 in
set_option maxRecDepth 100000 in
theorem c_X6_stoopers (l : Launch) (G : mG) {h0 : Nat} {x1 : Int32} {σ : mS} {z : Int32 × mS} (h : f_X6_stoopers h0 x1 σ = some z) : Met l yX6_stoopers wsX6_stoopers rm_X6_stoopers (va_Pc [.ref h0, .int x1] (mB G σ)) (mQ G (.returned (some (.int z.1))) z.2) 0 0 (mF G) := by
  refine m_start (cc := cX6_stoopers) (maxL := 4) (ret := (some .int)) (by decide) rfl [.ref h0, .int x1] (Nat.le_of_ble_eq_true rfl) ?_
  intro p e s m args below meth c ls hx hb hr hml hown hts hlocks hnm hK hM hl
  have hown : s.vm.findClass RX6 = some m.cls := hown
  have hnm : meth.name = "stoopers" := hnm
  obtain ⟨locs, hlocs⟩ : ∃ l : List Loc, l = [] := ⟨_, rfl⟩
  have hL : mL G locs := by rw [hlocs]; exact mL_nil G
  rw [← hlocs]
  generalize s.heap = H at hM ⊢
  have hl : lv_has ls 4 [(0, .ref h0), (1, .int x1)] := hl
  obtain ⟨Q, hQ⟩ : ∃ Q, Q = MQ below (mQ G (.returned (some (.int z.1))) z.2) args s 0 0 (mF G) := ⟨_, rfl⟩
  rw [← hQ]
  have hN4 : ∀ (n : Nat) (h0 : Nat) (x1 : Int32) (x2 : Int32) (x3 : Int32) (σ : mS), f_X6_stoopers_4 n h0 x1 x2 x3 σ = some z → ∀ (H : Heap) (locs : List Loc) (ls : Array Slot), mP G σ H → mL G locs → lv_has ls 4 [(0, .ref h0), (1, .int x1), (2, .int x2), (3, .int x3)] → W p l e rm_X6_stoopers s m args below meth c H locs 0 0 Q (F0 m 4 ls []) := by
    intro n
    induction n with
    | zero =>
      intro h0 x1 x2 x3 σ h
      exact nomatch (show (none : Option (Int32 × mS)) = some z from h)
    | succ n ih =>
      intro h0 x1 x2 x3 σ h H locs ls hM hL hl
      rw [f_X6_stoopers_4.eq_2] at h
      refine lv_iload_n hx hb dX6_stoopers_4 rfl (lv_at hl 3 rfl) ?_
      refine lv_bipush hx hb dX6_stoopers_5 kB_6 ?_
      refine lv_icmp_ge (tgt := 35) hx hb dX6_stoopers_7 (by decide) (fun c8 => ?_) (fun c8 => ?_)
      · have h := (if_pos c8).symm.trans h
        refine lv_iload_n hx hb dX6_stoopers_35 rfl (lv_at hl 2 rfl) ?_
        subst hQ
        have h := Option.some.inj h
        subst h
        exact m_iret hx hb hr hM hL dX6_stoopers_36 hlocks
      · have h := (if_neg c8).symm.trans h
        refine lv_iload_n hx hb dX6_stoopers_10 rfl (lv_at hl 2 rfl) ?_
        refine lv_aload_n hx hb dX6_stoopers_11 rfl (lv_at hl 0 rfl) ?_
        refine lv_iload_n hx hb dX6_stoopers_12 rfl (lv_at hl 3 rfl) ?_
        refine lv_iload_n hx hb dX6_stoopers_13 rfl (lv_at hl 1 rfl) ?_
        obtain ⟨o9, h⟩ := oi_some h
        obtain ⟨q10, hq10, h⟩ := ob_some h
        refine m_calli (va_runV (As := [.int x3, .int x1]) (rest := [.int x2]) ⟨hx, hb, hml, hown, hts⟩ (c_X6_doesStoop l G hq10) (cwV 2 hts gX6_stoopers_X6_doesStoop rfl rfl rfl hd_X6_doesStoopv ⟨Nat.le_of_ble_eq_true rfl, Nat.le_of_ble_eq_true rfl⟩) (m_preV (ci := 5) hK hM rfl o9) rfl rfl hl.1 rfl (lv_room (Nat.le_of_ble_eq_true rfl)) dX6_stoopers_14 ⟨Nat.le_of_ble_eq_true rfl, Nat.le_of_ble_eq_true rfl⟩) hL (fun H locs hM hL => ?_)
        suffices hJ : ∀ (v12 : Int32) (ls : Array Slot), v12 = (if q10.1 = 0 then (0 : Int32) else ((1 : Int32) <<< (x3 &&& 31))) → lv_has ls 4 [(0, .ref h0), (1, .int x1), (3, .int x3)] → W p l e rm_X6_stoopers s m args below meth c H locs 0 0 Q (F0 m 27 ls [.int v12, .int x2]) by
          refine lv_if_eq (tgt := 26) hx hb dX6_stoopers_17 (by decide) (fun c11 => ?_) (fun c11 => ?_)
          · refine lv_iconst hx hb dX6_stoopers_26 kI_0 ?_
            exact hJ _ _ (((if_pos c11).trans rfl).symm) (lv_sub hl [0, 1, 3] rfl)
          · refine lv_iconst hx hb dX6_stoopers_20 kI_1 ?_
            refine lv_iload_n hx hb dX6_stoopers_21 rfl (lv_at hl 3 rfl) ?_
            refine lv_ishl hx hb dX6_stoopers_22 ?_
            refine lv_goto (tgt := 27) hx hb dX6_stoopers_23 (by decide) ?_
            exact hJ _ _ (((if_neg c11).trans rfl).symm) (lv_sub hl [0, 1, 3] rfl)
        intro v12 ls ev12 hl
        have h := vl_at ev12 h
        refine lv_ior hx hb dX6_stoopers_27 ?_
        refine lv_topi (fun v13 ev13 => ?_)
        have h := vl_at ev13 h
        refine lv_istore_n (lv' := [(2, .int v13), (0, .ref h0), (1, .int x1), (3, .int x3)]) hx hb dX6_stoopers_28 rfl hl (by decide) rfl (fun ls hl => ?_)
        obtain ⟨v14, ev14⟩ : ∃ y : Int32, y = x3 + (1 : Int32) := ⟨_, rfl⟩
        have h := vl_at ev14 h
        refine lv_iinc (v := v14) (lv' := [(3, .int v14), (2, .int v13), (0, .ref h0), (1, .int x1)]) hx hb dX6_stoopers_29 hl (k := 3) rfl (by rw [ev14, kI_1]) (by decide) rfl (fun ls hl => ?_)
        refine lv_goto (tgt := 4) hx hb dX6_stoopers_32 (by decide) ?_
        exact ih _ _ _ _ _ h _ _ _ hM hL (lv_sub hl [2, 3, 1, 0] rfl)
  rw [f_X6_stoopers.eq_1] at h
  refine lv_iconst hx hb dX6_stoopers_0 kI_0 ?_
  refine lv_istore_n (lv' := [(2, .int (0 : Int32)), (0, .ref h0), (1, .int x1)]) hx hb dX6_stoopers_1 rfl hl (by decide) rfl (fun ls hl => ?_)
  refine lv_iconst hx hb dX6_stoopers_2 kI_0 ?_
  refine lv_istore_n (lv' := [(3, .int (0 : Int32)), (2, .int (0 : Int32)), (0, .ref h0), (1, .int x1)]) hx hb dX6_stoopers_3 rfl hl (by decide) rfl (fun ls hl => ?_)
  refine hN4 _ _ _ _ _ _ h _ _ _ hM hL (lv_sub hl [2, 3, 1, 0] rfl)
abbrev rm_X6_told : Room := { frames := 7, cells := 0, slots := 0, locals := 156 }
set_option maxHeartbeats 4000000 in
set_option maxRecDepth 100000 in
theorem c_X6_told (l : Launch) (G : mG) {h0 : Nat} {x1 : Int32} {x2 : Int32} {σ : mS} {z : Int32 × mS} (h : f_X6_told h0 x1 x2 σ = some z) : Met l yX6_told wsX6_told rm_X6_told (va_Pc [.ref h0, .int x1, .int x2] (mB G σ)) (mQ G (.returned (some (.int z.1))) z.2) 0 0 (mF G) := by
  refine m_start (cc := cX6_told) (maxL := 3) (ret := (some .int)) (by decide) rfl [.ref h0, .int x1, .int x2] (Nat.le_of_ble_eq_true rfl) ?_
  intro p e s m args below meth c ls hx hb hr hml hown hts hlocks hnm hK hM hl
  have hown : s.vm.findClass RX6 = some m.cls := hown
  have hnm : meth.name = "told" := hnm
  obtain ⟨locs, hlocs⟩ : ∃ l : List Loc, l = [] := ⟨_, rfl⟩
  have hL : mL G locs := by rw [hlocs]; exact mL_nil G
  rw [← hlocs]
  generalize s.heap = H at hM ⊢
  have hl : lv_has ls 3 [(0, .ref h0), (1, .int x1), (2, .int x2)] := hl
  obtain ⟨Q, hQ⟩ : ∃ Q, Q = MQ below (mQ G (.returned (some (.int z.1))) z.2) args s 0 0 (mF G) := ⟨_, rfl⟩
  rw [← hQ]
  have hU6 : ∀ w ∈ wsX60, w.before args s = true := fun w h => hts w (List.mem_cons_of_mem _ (List.mem_append_right _ h))
  have w1 := (hts (.fieldLink RX6 7 "HandkerchiefsDroppedModel" "kind" "[I") (List.mem_of_getElem? (i := 2) rfl))
  have w2 := (hts (.fieldLink RX6 13 "HandkerchiefsDroppedModel" "moreOf" "[I") (List.mem_of_getElem? (i := 3) rfl))
  have w3 := (hts (.fieldLink RX6 16 "HandkerchiefsDroppedModel" "rows" "[I") (List.mem_of_getElem? (i := 1) rfl))
  have hN64 : ∀ (h0 : Nat) (x1 : Int32) (x2 : Int32) (σ : mS), f_X6_told_64 h0 x1 x2 σ = some z → ∀ (H : Heap) (locs : List Loc) (ls : Array Slot), mP G σ H → mL G locs → lv_has ls 3 [(0, .ref h0), (1, .int x1), (2, .int x2)] → W p l e rm_X6_told s m args below meth c H locs 0 0 Q (F0 m 64 ls []) := by
    intro h0 x1 x2 σ h H locs ls hM hL hl
    rw [f_X6_told_64.eq_1] at h
    refine lv_aload_n hx hb dX6_told_64 rfl (lv_at hl 0 rfl) ?_
    refine m_getR (ci := 5) hx hb hU6 hown hK hM rfl 3 (by decide) w3 h dX6_told_65 (fun r27 gr27 h => ?_)
    refine lv_iconst hx hb dX6_told_68 kI_3 ?_
    refine lv_iload_n hx hb dX6_told_69 rfl (lv_at hl 1 rfl) ?_
    refine lv_imul hx hb dX6_told_70 ?_
    refine lv_iload_n hx hb dX6_told_71 rfl (lv_at hl 2 rfl) ?_
    refine lv_iadd hx hb dX6_told_72 ?_
    refine m_iald hx hb hK hM h dX6_told_73 (fun v28 gv28 h => ?_)
    subst hQ
    have h := Option.some.inj h
    subst h
    exact m_iret hx hb hr hM hL dX6_told_74 hlocks
  rw [f_X6_told.eq_1] at h
  refine lv_aload_n hx hb dX6_told_0 rfl (lv_at hl 0 rfl) ?_
  refine lv_iload_n hx hb dX6_told_1 rfl (lv_at hl 1 rfl) ?_
  obtain ⟨o29, h⟩ := oi_some h
  obtain ⟨q30, hq30, h⟩ := ob_some h
  refine m_calli (va_runV (As := [.int x1]) (rest := []) ⟨hx, hb, hml, hown, hts⟩ (c_X6_isOne l G hq30) (cwV 1 hts gX6_told_X6_isOne rfl rfl rfl hd_X6_isOnev ⟨Nat.le_of_ble_eq_true rfl, Nat.le_of_ble_eq_true rfl⟩) (m_preV (ci := 5) hK hM rfl o29) rfl rfl hl.1 rfl (lv_room (Nat.le_of_ble_eq_true rfl)) dX6_told_2 ⟨Nat.le_of_ble_eq_true rfl, Nat.le_of_ble_eq_true rfl⟩) hL (fun H locs hM hL => ?_)
  refine lv_if_ne (tgt := 11) hx hb dX6_told_5 (by decide) (fun c31 => ?_) (fun c31 => ?_)
  · have h := (if_neg c31).symm.trans h
    refine lv_iload_n hx hb dX6_told_11 rfl (lv_at hl 2 rfl) ?_
    by_cases c32 : x2 = (0 : Int32)
    · have h := (if_pos c32).symm.trans h
      refine m_tin (tgt := 64) (off := 52) hx hb c32 dX6_told_12 (by decide) (by decide) (by decide) (by decide) ?_
      refine hN64 _ _ _ _ h _ _ _ hM hL (lv_sub hl [0, 1, 2] rfl)
    have h := (if_neg c32).symm.trans h
    by_cases c33 : x2 = (1 : Int32)
    · have h := (if_pos c33).symm.trans h
      refine m_tin (tgt := 64) (off := 52) hx hb c33 dX6_told_12 (by decide) (by decide) (by decide) (by decide) ?_
      refine hN64 _ _ _ _ h _ _ _ hM hL (lv_sub hl [0, 1, 2] rfl)
    have h := (if_neg c33).symm.trans h
    by_cases c34 : x2 = (2 : Int32)
    · have h := (if_pos c34).symm.trans h
      refine m_tin (tgt := 64) (off := 52) hx hb c34 dX6_told_12 (by decide) (by decide) (by decide) (by decide) ?_
      refine hN64 _ _ _ _ h _ _ _ hM hL (lv_sub hl [0, 1, 2] rfl)
    have h := (if_neg c34).symm.trans h
    by_cases c35 : x2 = (3 : Int32)
    · have h := (if_pos c35).symm.trans h
      refine m_tin (tgt := 75) (off := 63) hx hb c35 dX6_told_12 (by decide) (by decide) (by decide) (by decide) ?_
      refine lv_aload_n hx hb dX6_told_75 rfl (lv_at hl 0 rfl) ?_
      refine m_getR (ci := 5) hx hb hU6 hown hK hM rfl 1 (by decide) w1 h dX6_told_76 (fun r36 gr36 h => ?_)
      refine lv_iload_n hx hb dX6_told_79 rfl (lv_at hl 1 rfl) ?_
      refine m_iald hx hb hK hM h dX6_told_80 (fun v37 gv37 h => ?_)
      subst hQ
      have h := Option.some.inj h
      subst h
      exact m_iret hx hb hr hM hL dX6_told_81 hlocks
    have h := (if_neg c35).symm.trans h
    by_cases c38 : x2 = (4 : Int32)
    · have h := (if_pos c38).symm.trans h
      refine m_tin (tgt := 82) (off := 70) hx hb c38 dX6_told_12 (by decide) (by decide) (by decide) (by decide) ?_
      refine lv_aload_n hx hb dX6_told_82 rfl (lv_at hl 0 rfl) ?_
      refine m_getR (ci := 5) hx hb hU6 hown hK hM rfl 2 (by decide) w2 h dX6_told_83 (fun r39 gr39 h => ?_)
      refine lv_iload_n hx hb dX6_told_86 rfl (lv_at hl 1 rfl) ?_
      refine m_iald hx hb hK hM h dX6_told_87 (fun v40 gv40 h => ?_)
      subst hQ
      have h := Option.some.inj h
      subst h
      exact m_iret hx hb hr hM hL dX6_told_88 hlocks
    have h := (if_neg c38).symm.trans h
    by_cases c41 : x2 = (5 : Int32)
    · have h := (if_pos c41).symm.trans h
      refine m_tin (tgt := 89) (off := 77) hx hb c41 dX6_told_12 (by decide) (by decide) (by decide) (by decide) ?_
      refine lv_aload_n hx hb dX6_told_89 rfl (lv_at hl 0 rfl) ?_
      refine lv_iload_n hx hb dX6_told_90 rfl (lv_at hl 1 rfl) ?_
      obtain ⟨o42, h⟩ := oi_some h
      obtain ⟨q43, hq43, h⟩ := ob_some h
      refine m_calli (va_runV (As := [.int x1]) (rest := []) ⟨hx, hb, hml, hown, hts⟩ (c_X6_dropsOf l G hq43) (cwV 1 hts gX6_told_X6_dropsOf rfl rfl rfl hd_X6_dropsOfv ⟨Nat.le_of_ble_eq_true rfl, Nat.le_of_ble_eq_true rfl⟩) (m_preV (ci := 5) hK hM rfl o42) rfl rfl hl.1 rfl (lv_room (Nat.le_of_ble_eq_true rfl)) dX6_told_91 ⟨Nat.le_of_ble_eq_true rfl, Nat.le_of_ble_eq_true rfl⟩) hL (fun H locs hM hL => ?_)
      subst hQ
      have h := Option.some.inj h
      subst h
      exact m_iret hx hb hr hM hL dX6_told_94 hlocks
    have h := (if_neg c41).symm.trans h
    by_cases c44 : x2 = (6 : Int32)
    · have h := (if_pos c44).symm.trans h
      refine m_tin (tgt := 95) (off := 83) hx hb c44 dX6_told_12 (by decide) (by decide) (by decide) (by decide) ?_
      refine lv_aload_n hx hb dX6_told_95 rfl (lv_at hl 0 rfl) ?_
      refine lv_iload_n hx hb dX6_told_96 rfl (lv_at hl 1 rfl) ?_
      obtain ⟨o45, h⟩ := oi_some h
      obtain ⟨q46, hq46, h⟩ := ob_some h
      refine m_calli (va_runV (As := [.int x1]) (rest := []) ⟨hx, hb, hml, hown, hts⟩ (c_X6_waitsOf l G hq46) (cwV 1 hts gX6_told_X6_waitsOf rfl rfl rfl hd_X6_waitsOfv ⟨Nat.le_of_ble_eq_true rfl, Nat.le_of_ble_eq_true rfl⟩) (m_preV (ci := 5) hK hM rfl o45) rfl rfl hl.1 rfl (lv_room (Nat.le_of_ble_eq_true rfl)) dX6_told_97 ⟨Nat.le_of_ble_eq_true rfl, Nat.le_of_ble_eq_true rfl⟩) hL (fun H locs hM hL => ?_)
      subst hQ
      have h := Option.some.inj h
      subst h
      exact m_iret hx hb hr hM hL dX6_told_100 hlocks
    have h := (if_neg c44).symm.trans h
    by_cases c47 : x2 = (7 : Int32)
    · have h := (if_pos c47).symm.trans h
      refine m_tin (tgt := 101) (off := 89) hx hb c47 dX6_told_12 (by decide) (by decide) (by decide) (by decide) ?_
      refine lv_aload_n hx hb dX6_told_101 rfl (lv_at hl 0 rfl) ?_
      refine lv_iload_n hx hb dX6_told_102 rfl (lv_at hl 1 rfl) ?_
      obtain ⟨o48, h⟩ := oi_some h
      obtain ⟨q49, hq49, h⟩ := ob_some h
      refine m_calli (va_runV (As := [.int x1]) (rest := []) ⟨hx, hb, hml, hown, hts⟩ (c_X6_ownLinens l G hq49) (cwV 1 hts gX6_told_X6_ownLinens rfl rfl rfl hd_X6_ownLinensv ⟨Nat.le_of_ble_eq_true rfl, Nat.le_of_ble_eq_true rfl⟩) (m_preV (ci := 5) hK hM rfl o48) rfl rfl hl.1 rfl (lv_room (Nat.le_of_ble_eq_true rfl)) dX6_told_103 ⟨Nat.le_of_ble_eq_true rfl, Nat.le_of_ble_eq_true rfl⟩) hL (fun H locs hM hL => ?_)
      subst hQ
      have h := Option.some.inj h
      subst h
      exact m_iret hx hb hr hM hL dX6_told_106 hlocks
    have h := (if_neg c47).symm.trans h
    by_cases c50 : x2 = (8 : Int32)
    · have h := (if_pos c50).symm.trans h
      refine m_tin (tgt := 107) (off := 95) hx hb c50 dX6_told_12 (by decide) (by decide) (by decide) (by decide) ?_
      refine lv_aload_n hx hb dX6_told_107 rfl (lv_at hl 0 rfl) ?_
      refine lv_iload_n hx hb dX6_told_108 rfl (lv_at hl 1 rfl) ?_
      obtain ⟨o51, h⟩ := oi_some h
      obtain ⟨q52, hq52, h⟩ := ob_some h
      refine m_calli (va_runV (As := [.int x1]) (rest := []) ⟨hx, hb, hml, hown, hts⟩ (c_X6_stoopers l G hq52) (cwV 1 hts gX6_told_X6_stoopers rfl rfl rfl hd_X6_stoopersv ⟨Nat.le_of_ble_eq_true rfl, Nat.le_of_ble_eq_true rfl⟩) (m_preV (ci := 5) hK hM rfl o51) rfl rfl hl.1 rfl (lv_room (Nat.le_of_ble_eq_true rfl)) dX6_told_109 ⟨Nat.le_of_ble_eq_true rfl, Nat.le_of_ble_eq_true rfl⟩) hL (fun H locs hM hL => ?_)
      subst hQ
      have h := Option.some.inj h
      subst h
      exact m_iret hx hb hr hM hL dX6_told_112 hlocks
    have h := (if_neg c50).symm.trans h
    refine lv_tableOut (tgt := 113) hx hb dX6_told_12 (by have q0 := lv_neT (a := 0) c32 (by decide); have q1 := lv_neT (a := 1) c33 (by decide); have q2 := lv_neT (a := 2) c34 (by decide); have q3 := lv_neT (a := 3) c35 (by decide); have q4 := lv_neT (a := 4) c38 (by decide); have q5 := lv_neT (a := 5) c41 (by decide); have q6 := lv_neT (a := 6) c44 (by decide); have q7 := lv_neT (a := 7) c47 (by decide); have q8 := lv_neT (a := 8) c50 (by decide); omega) (by decide) ?_
    refine lv_bipush hx hb dX6_told_113 kB_m7 ?_
    subst hQ
    have h := Option.some.inj h
    subst h
    exact m_iret hx hb hr hM hL dX6_told_115 hlocks
  · have h := (if_pos c31).symm.trans h
    refine lv_bipush hx hb dX6_told_8 kB_m5 ?_
    subst hQ
    have h := Option.some.inj h
    subst h
    exact m_iret hx hb hr hM hL dX6_told_10 hlocks
abbrev rm_X6_regard : Room := { frames := 6, cells := 0, slots := 0, locals := 133 }
set_option maxHeartbeats 4000000 in
set_option maxRecDepth 100000 in
theorem c_X6_regard (l : Launch) (G : mG) {h0 : Nat} {x1 : Int32} {x2 : Int32} {x3 : Int32} {σ : mS} {z : Int32 × mS} (h : f_X6_regard h0 x1 x2 x3 σ = some z) : Met l yX6_regard wsX6_regard rm_X6_regard (va_Pc [.ref h0, .int x1, .int x2, .int x3] (mB G σ)) (mQ G (.returned (some (.int z.1))) z.2) 0 0 (mF G) := by
  refine m_start (cc := cX6_regard) (maxL := 4) (ret := (some .int)) (by decide) rfl [.ref h0, .int x1, .int x2, .int x3] (Nat.le_of_ble_eq_true rfl) ?_
  intro p e s m args below meth c ls hx hb hr hml hown hts hlocks hnm hK hM hl
  have hown : s.vm.findClass RX6 = some m.cls := hown
  have hnm : meth.name = "regard" := hnm
  obtain ⟨locs, hlocs⟩ : ∃ l : List Loc, l = [] := ⟨_, rfl⟩
  have hL : mL G locs := by rw [hlocs]; exact mL_nil G
  rw [← hlocs]
  generalize s.heap = H at hM ⊢
  have hl : lv_has ls 4 [(0, .ref h0), (1, .int x1), (2, .int x2), (3, .int x3)] := hl
  obtain ⟨Q, hQ⟩ : ∃ Q, Q = MQ below (mQ G (.returned (some (.int z.1))) z.2) args s 0 0 (mF G) := ⟨_, rfl⟩
  rw [← hQ]
  rw [f_X6_regard.eq_1] at h
  refine lv_aload_n hx hb dX6_regard_0 rfl (lv_at hl 0 rfl) ?_
  refine lv_iload_n hx hb dX6_regard_1 rfl (lv_at hl 1 rfl) ?_
  obtain ⟨o12, h⟩ := oi_some h
  obtain ⟨q13, hq13, h⟩ := ob_some h
  refine m_calli (va_runV (As := [.int x1]) (rest := []) ⟨hx, hb, hml, hown, hts⟩ (c_X6_isOne l G hq13) (cwV 1 hts gX6_regard_X6_isOne rfl rfl rfl hd_X6_isOnev ⟨Nat.le_of_ble_eq_true rfl, Nat.le_of_ble_eq_true rfl⟩) (m_preV (ci := 5) hK hM rfl o12) rfl rfl hl.1 rfl (lv_room (Nat.le_of_ble_eq_true rfl)) dX6_regard_2 ⟨Nat.le_of_ble_eq_true rfl, Nat.le_of_ble_eq_true rfl⟩) hL (fun H locs hM hL => ?_)
  refine lv_if_eq (tgt := 17) hx hb dX6_regard_5 (by decide) (fun c14 => ?_) (fun c14 => ?_)
  · have h := (if_pos c14).symm.trans h
    refine lv_bipush hx hb dX6_regard_17 kB_m5 ?_
    subst hQ
    have h := Option.some.inj h
    subst h
    exact m_iret hx hb hr hM hL dX6_regard_19 hlocks
  · have h := (if_neg c14).symm.trans h
    refine lv_iload_n hx hb dX6_regard_8 rfl (lv_at hl 2 rfl) ?_
    refine lv_iconst hx hb dX6_regard_9 kI_0 ?_
    refine lv_iconst hx hb dX6_regard_10 kI_5 ?_
    refine m_calli (va_runS (As := [.int x2, .int (0 : Int32), .int (5 : Int32)]) (rest := []) ⟨hx, hb, hml, hown, hts⟩ (c_X6_in l G x2 (0 : Int32) (5 : Int32)) (va_cwS 3 hts gX6_regard_X6_in rfl rfl rfl hd_X6_in ⟨Nat.le_of_ble_eq_true rfl, Nat.le_of_ble_eq_true rfl⟩) (m_preS hK hM) rfl rfl hl.1 rfl (lv_room (Nat.le_of_ble_eq_true rfl)) dX6_regard_11 ⟨Nat.le_of_ble_eq_true rfl, Nat.le_of_ble_eq_true rfl⟩) hL (fun H locs hM hL => ?_)
    refine lv_if_ne (tgt := 20) hx hb dX6_regard_14 (by decide) (fun c15 => ?_) (fun c15 => ?_)
    · have h := (if_neg c15).symm.trans h
      refine lv_iload_n hx hb dX6_regard_20 rfl (lv_at hl 3 rfl) ?_
      refine lv_iconst hx hb dX6_regard_21 kI_0 ?_
      refine lv_iconst hx hb dX6_regard_22 kI_1 ?_
      refine m_calli (va_runS (As := [.int x3, .int (0 : Int32), .int (1 : Int32)]) (rest := []) ⟨hx, hb, hml, hown, hts⟩ (c_X6_in l G x3 (0 : Int32) (1 : Int32)) (va_cwS 3 hts gX6_regard_X6_in rfl rfl rfl hd_X6_in ⟨Nat.le_of_ble_eq_true rfl, Nat.le_of_ble_eq_true rfl⟩) (m_preS hK hM) rfl rfl hl.1 rfl (lv_room (Nat.le_of_ble_eq_true rfl)) dX6_regard_23 ⟨Nat.le_of_ble_eq_true rfl, Nat.le_of_ble_eq_true rfl⟩) hL (fun H locs hM hL => ?_)
      refine lv_if_ne (tgt := 32) hx hb dX6_regard_26 (by decide) (fun c16 => ?_) (fun c16 => ?_)
      · have h := (if_neg c16).symm.trans h
        refine lv_iload_n hx hb dX6_regard_32 rfl (lv_at hl 3 rfl) ?_
        refine lv_if_ne (tgt := 45) hx hb dX6_regard_33 (by decide) (fun c17 => ?_) (fun c17 => ?_)
        · have h := (if_neg c17).symm.trans h
          refine lv_aload_n hx hb dX6_regard_45 rfl (lv_at hl 0 rfl) ?_
          refine lv_iload_n hx hb dX6_regard_46 rfl (lv_at hl 2 rfl) ?_
          refine lv_iload_n hx hb dX6_regard_47 rfl (lv_at hl 1 rfl) ?_
          obtain ⟨o18, h⟩ := oi_some h
          obtain ⟨q19, hq19, h⟩ := ob_some h
          refine m_calli (va_runV (As := [.int x2, .int x1]) (rest := []) ⟨hx, hb, hml, hown, hts⟩ (c_X6_doesStoop l G hq19) (cwV 2 hts gX6_regard_X6_doesStoop rfl rfl rfl hd_X6_doesStoopv ⟨Nat.le_of_ble_eq_true rfl, Nat.le_of_ble_eq_true rfl⟩) (m_preV (ci := 5) hK hM rfl o18) rfl rfl hl.1 rfl (lv_room (Nat.le_of_ble_eq_true rfl)) dX6_regard_48 ⟨Nat.le_of_ble_eq_true rfl, Nat.le_of_ble_eq_true rfl⟩) hL (fun H locs hM hL => ?_)
          refine lv_if_eq (tgt := 58) hx hb dX6_regard_51 (by decide) (fun c20 => ?_) (fun c20 => ?_)
          · have h := (if_pos c20).symm.trans h
            refine lv_iconst hx hb dX6_regard_58 kI_0 ?_
            subst hQ
            have h := Option.some.inj h
            subst h
            exact m_iret hx hb hr hM hL dX6_regard_59 hlocks
          · have h := (if_neg c20).symm.trans h
            refine lv_iconst hx hb dX6_regard_54 kI_1 ?_
            refine lv_goto (tgt := 59) hx hb dX6_regard_55 (by decide) ?_
            subst hQ
            have h := Option.some.inj h
            subst h
            exact m_iret hx hb hr hM hL dX6_regard_59 hlocks
        · have h := (if_pos c17).symm.trans h
          refine lv_aload_n hx hb dX6_regard_36 rfl (lv_at hl 0 rfl) ?_
          refine lv_iload_n hx hb dX6_regard_37 rfl (lv_at hl 1 rfl) ?_
          refine lv_iload_n hx hb dX6_regard_38 rfl (lv_at hl 2 rfl) ?_
          obtain ⟨o21, h⟩ := oi_some h
          obtain ⟨q22, hq22, h⟩ := ob_some h
          refine m_calli (va_runV (As := [.int x1, .int x2]) (rest := []) ⟨hx, hb, hml, hown, hts⟩ (c_X6_looksOf l G hq22) (cwV 2 hts gX6_regard_X6_looksOf rfl rfl rfl hd_X6_looksOfv ⟨Nat.le_of_ble_eq_true rfl, Nat.le_of_ble_eq_true rfl⟩) (m_preV (ci := 5) hK hM rfl o21) rfl rfl hl.1 rfl (lv_room (Nat.le_of_ble_eq_true rfl)) dX6_regard_39 ⟨Nat.le_of_ble_eq_true rfl, Nat.le_of_ble_eq_true rfl⟩) hL (fun H locs hM hL => ?_)
          refine lv_goto (tgt := 59) hx hb dX6_regard_42 (by decide) ?_
          subst hQ
          have h := Option.some.inj h
          subst h
          exact m_iret hx hb hr hM hL dX6_regard_59 hlocks
      · have h := (if_pos c16).symm.trans h
        refine lv_bipush hx hb dX6_regard_29 kB_m7 ?_
        subst hQ
        have h := Option.some.inj h
        subst h
        exact m_iret hx hb hr hM hL dX6_regard_31 hlocks
    · have h := (if_pos c15).symm.trans h
      refine lv_bipush hx hb dX6_regard_17 kB_m5 ?_
      subst hQ
      have h := Option.some.inj h
      subst h
      exact m_iret hx hb hr hM hL dX6_regard_19 hlocks
abbrev rm_X6_linen : Room := { frames := 2, cells := 0, slots := 0, locals := 43 }
set_option maxHeartbeats 4000000 in
set_option maxRecDepth 100000 in
theorem c_X6_linen (l : Launch) (G : mG) {h0 : Nat} {x1 : Int32} {x2 : Int32} {σ : mS} {z : Int32} (h : f_X6_linen h0 x1 x2 σ = some z) : Met l yX6_linen wsX6_linen rm_X6_linen (va_Pc [.ref h0, .int x1, .int x2] (mB G σ)) (mQ G (.returned (some (.int z))) (σ)) 0 0 (mF G) := by
  refine m_start (cc := cX6_linen) (maxL := 3) (ret := (some .int)) (by decide) rfl [.ref h0, .int x1, .int x2] (Nat.le_of_ble_eq_true rfl) ?_
  intro p e s m args below meth c ls hx hb hr hml hown hts hlocks hnm hK hM hl
  have hown : s.vm.findClass RX6 = some m.cls := hown
  have hnm : meth.name = "linen" := hnm
  obtain ⟨locs, hlocs⟩ : ∃ l : List Loc, l = [] := ⟨_, rfl⟩
  have hL : mL G locs := by rw [hlocs]; exact mL_nil G
  rw [← hlocs]
  generalize s.heap = H at hM ⊢
  have hl : lv_has ls 3 [(0, .ref h0), (1, .int x1), (2, .int x2)] := hl
  obtain ⟨Q, hQ⟩ : ∃ Q, Q = MQ below (mQ G (.returned (some (.int z))) (σ)) args s 0 0 (mF G) := ⟨_, rfl⟩
  rw [← hQ]
  have hU6 : ∀ w ∈ wsX60, w.before args s = true := fun w h => hts w (List.mem_cons_of_mem _ (List.mem_append_right _ h))
  have w1 := (hts (.fieldLink RX6 19 "HandkerchiefsDroppedModel" "linens" "[I") (List.mem_of_getElem? (i := 1) rfl))
  rw [f_X6_linen.eq_1] at h
  refine lv_aload_n hx hb dX6_linen_0 rfl (lv_at hl 0 rfl) ?_
  refine lv_iload_n hx hb dX6_linen_1 rfl (lv_at hl 1 rfl) ?_
  obtain ⟨o7, h⟩ := oi_some h
  obtain ⟨q8, hq8, h⟩ := ob_some h
  refine m_calli (va_runV (As := [.int x1]) (rest := []) ⟨hx, hb, hml, hown, hts⟩ (c_X6_isLinen l G hq8) (cwV 1 hts gX6_linen_X6_isLinen rfl rfl rfl hd_X6_isLinenv ⟨Nat.le_of_ble_eq_true rfl, Nat.le_of_ble_eq_true rfl⟩) (m_preV (ci := 5) hK hM rfl o7) rfl rfl hl.1 rfl (lv_room (Nat.le_of_ble_eq_true rfl)) dX6_linen_2 ⟨Nat.le_of_ble_eq_true rfl, Nat.le_of_ble_eq_true rfl⟩) hL (fun H locs hM hL => ?_)
  refine lv_if_ne (tgt := 11) hx hb dX6_linen_5 (by decide) (fun c9 => ?_) (fun c9 => ?_)
  · have h := (if_neg c9).symm.trans h
    refine lv_iload_n hx hb dX6_linen_11 rfl (lv_at hl 2 rfl) ?_
    refine lv_iconst hx hb dX6_linen_12 kI_0 ?_
    refine lv_iconst hx hb dX6_linen_13 kI_2 ?_
    refine m_calli (va_runS (As := [.int x2, .int (0 : Int32), .int (2 : Int32)]) (rest := []) ⟨hx, hb, hml, hown, hts⟩ (c_X6_in l G x2 (0 : Int32) (2 : Int32)) (va_cwS 3 hts gX6_linen_X6_in rfl rfl rfl hd_X6_in ⟨Nat.le_of_ble_eq_true rfl, Nat.le_of_ble_eq_true rfl⟩) (m_preS hK hM) rfl rfl hl.1 rfl (lv_room (Nat.le_of_ble_eq_true rfl)) dX6_linen_14 ⟨Nat.le_of_ble_eq_true rfl, Nat.le_of_ble_eq_true rfl⟩) hL (fun H locs hM hL => ?_)
    refine lv_if_eq (tgt := 33) hx hb dX6_linen_17 (by decide) (fun c10 => ?_) (fun c10 => ?_)
    · have h := (if_pos c10).symm.trans h
      refine lv_bipush hx hb dX6_linen_33 kB_m7 ?_
      subst hQ
      have h := Option.some.inj h
      subst h
      exact m_iret hx hb hr hM hL dX6_linen_35 hlocks
    · have h := (if_neg c10).symm.trans h
      refine lv_aload_n hx hb dX6_linen_20 rfl (lv_at hl 0 rfl) ?_
      refine m_getR (ci := 5) hx hb hU6 hown hK hM rfl 4 (by decide) w1 h dX6_linen_21 (fun r11 gr11 h => ?_)
      refine lv_iconst hx hb dX6_linen_24 kI_3 ?_
      refine lv_iload_n hx hb dX6_linen_25 rfl (lv_at hl 1 rfl) ?_
      refine lv_imul hx hb dX6_linen_26 ?_
      refine lv_iload_n hx hb dX6_linen_27 rfl (lv_at hl 2 rfl) ?_
      refine lv_iadd hx hb dX6_linen_28 ?_
      refine m_iald hx hb hK hM h dX6_linen_29 (fun v12 gv12 h => ?_)
      refine lv_goto (tgt := 35) hx hb dX6_linen_30 (by decide) ?_
      subst hQ
      have h := Option.some.inj h
      subst h
      exact m_iret hx hb hr hM hL dX6_linen_35 hlocks
  · have h := (if_pos c9).symm.trans h
    refine lv_bipush hx hb dX6_linen_8 kB_m6 ?_
    subst hQ
    have h := Option.some.inj h
    subst h
    exact m_iret hx hb hr hM hL dX6_linen_10 hlocks
abbrev rm_X6_can : Room := { frames := 3, cells := 0, slots := 0, locals := 65 }
set_option maxHeartbeats 4000000 in
set_option maxRecDepth 100000 in
theorem c_X6_can (l : Launch) (G : mG) {h0 : Nat} {x1 : Int32} {σ : mS} {z : Int32} (h : f_X6_can h0 x1 σ = some z) : Met l yX6_can wsX6_can rm_X6_can (va_Pc [.ref h0, .int x1] (mB G σ)) (mQ G (.returned (some (.int z))) (σ)) 0 0 (mF G) := by
  refine m_start (cc := cX6_can) (maxL := 2) (ret := (some .boolean)) (by decide) rfl [.ref h0, .int x1] (Nat.le_of_ble_eq_true rfl) ?_
  intro p e s m args below meth c ls hx hb hr hml hown hts hlocks hnm hK hM hl
  have hown : s.vm.findClass RX6 = some m.cls := hown
  have hnm : meth.name = "can" := hnm
  obtain ⟨locs, hlocs⟩ : ∃ l : List Loc, l = [] := ⟨_, rfl⟩
  have hL : mL G locs := by rw [hlocs]; exact mL_nil G
  rw [← hlocs]
  generalize s.heap = H at hM ⊢
  have hl : lv_has ls 2 [(0, .ref h0), (1, .int x1)] := hl
  obtain ⟨Q, hQ⟩ : ∃ Q, Q = MQ below (mQ G (.returned (some (.int z))) (σ)) args s 0 0 (mF G) := ⟨_, rfl⟩
  rw [← hQ]
  have hU6 : ∀ w ∈ wsX60, w.before args s = true := fun w h => hts w (List.mem_cons_of_mem _ (List.mem_append_right _ h))
  have w1 := (hts (.fieldLink RX6 16 "HandkerchiefsDroppedModel" "rows" "[I") (List.mem_of_getElem? (i := 1) rfl))
  rw [f_X6_can.eq_1] at h
  refine lv_aload_n hx hb dX6_can_0 rfl (lv_at hl 0 rfl) ?_
  refine m_getR (ci := 5) hx hb hU6 hown hK hM rfl 3 (by decide) w1 h dX6_can_1 (fun r7 gr7 h => ?_)
  refine lv_iconst hx hb dX6_can_4 kI_3 ?_
  refine lv_iload_n hx hb dX6_can_5 rfl (lv_at hl 1 rfl) ?_
  refine lv_imul hx hb dX6_can_6 ?_
  refine m_iald hx hb hK hM h dX6_can_7 (fun v8 gv8 h => ?_)
  refine lv_if_eq (tgt := 24) hx hb dX6_can_8 (by decide) (fun c9 => ?_) (fun c9 => ?_)
  · have h := (if_pos c9).symm.trans h
    refine lv_iconst hx hb dX6_can_24 kI_0 ?_
    subst hQ
    have h := Option.some.inj h
    subst h
    exact m_zret (x := (0 : Int32)) hx hb hr rfl hM hL dX6_can_25 hlocks
  · have h := (if_neg c9).symm.trans h
    refine lv_aload_n hx hb dX6_can_11 rfl (lv_at hl 0 rfl) ?_
    obtain ⟨o10, h⟩ := oi_some h
    obtain ⟨q11, hq11, h⟩ := ob_some h
    refine m_calli (va_runV (As := []) (rest := []) ⟨hx, hb, hml, hown, hts⟩ (c_X6_lying l G hq11) (cwV 0 hts gX6_can_X6_lying rfl rfl rfl hd_X6_lyingv ⟨Nat.le_of_ble_eq_true rfl, Nat.le_of_ble_eq_true rfl⟩) (m_preV (ci := 5) hK hM rfl o10) rfl rfl hl.1 rfl (lv_room (Nat.le_of_ble_eq_true rfl)) dX6_can_12 ⟨Nat.le_of_ble_eq_true rfl, Nat.le_of_ble_eq_true rfl⟩) hL (fun H locs hM hL => ?_)
    refine lv_bipush hx hb dX6_can_15 kB_8 ?_
    refine lv_icmp_ge (tgt := 24) hx hb dX6_can_17 (by decide) (fun c12 => ?_) (fun c12 => ?_)
    · have h := (if_pos c12).symm.trans h
      refine lv_iconst hx hb dX6_can_24 kI_0 ?_
      subst hQ
      have h := Option.some.inj h
      subst h
      exact m_zret (x := (0 : Int32)) hx hb hr rfl hM hL dX6_can_25 hlocks
    · have h := (if_neg c12).symm.trans h
      refine lv_iconst hx hb dX6_can_20 kI_1 ?_
      refine lv_goto (tgt := 25) hx hb dX6_can_21 (by decide) ?_
      subst hQ
      have h := Option.some.inj h
      subst h
      exact m_zret (x := (1 : Int32)) hx hb hr rfl hM hL dX6_can_25 hlocks
abbrev rm_X6_dropOf : Room := { frames := 5, cells := 0, slots := 0, locals := 113 }
set_option maxHeartbeats 4000000 in
set_option maxRecDepth 100000 in
theorem c_X6_dropOf (l : Launch) (G : mG) {h0 : Nat} {x1 : Int32} {σ : mS} {z : Int32 × mS} (h : f_X6_dropOf h0 x1 σ = some z) : Met l yX6_dropOf wsX6_dropOf rm_X6_dropOf (va_Pc [.ref h0, .int x1] (mB G σ)) (mQ G (.returned (some (.int z.1))) z.2) 0 0 (mF G) := by
  refine m_start (cc := cX6_dropOf) (maxL := 5) (ret := (some .int)) (by decide) rfl [.ref h0, .int x1] (Nat.le_of_ble_eq_true rfl) ?_
  intro p e s m args below meth c ls hx hb hr hml hown hts hlocks hnm hK hM hl
  have hown : s.vm.findClass RX6 = some m.cls := hown
  have hnm : meth.name = "dropOf" := hnm
  obtain ⟨locs, hlocs⟩ : ∃ l : List Loc, l = [] := ⟨_, rfl⟩
  have hL : mL G locs := by rw [hlocs]; exact mL_nil G
  rw [← hlocs]
  generalize s.heap = H at hM ⊢
  have hl : lv_has ls 5 [(0, .ref h0), (1, .int x1)] := hl
  obtain ⟨Q, hQ⟩ : ∃ Q, Q = MQ below (mQ G (.returned (some (.int z.1))) z.2) args s 0 0 (mF G) := ⟨_, rfl⟩
  rw [← hQ]
  have hU6 : ∀ w ∈ wsX60, w.before args s = true := fun w h => hts w (List.mem_cons_of_mem _ (List.mem_append_right _ h))
  have w1 := (hts (.fieldLink RX6 19 "HandkerchiefsDroppedModel" "linens" "[I") (List.mem_of_getElem? (i := 1) rfl))
  have hN15 : ∀ (k37 : Nat → Int32 → Int32 → Int32 → Int32 → mS → Option (Int32 × mS)) (hk37 : ∀ (h0 : Nat) (x1 : Int32) (x2 : Int32) (x3 : Int32) (x4 : Int32) (σ : mS), k37 h0 x1 x2 x3 x4 σ = some z → ∀ (H : Heap) (locs : List Loc) (ls : Array Slot), mP G σ H → mL G locs → lv_has ls 5 [(0, .ref h0), (1, .int x1), (2, .int x2), (3, .int x3), (4, .int x4)] → W p l e rm_X6_dropOf s m args below meth c H locs 0 0 Q (F0 m 37 ls [])) (n : Nat) (h0 : Nat) (x1 : Int32) (x2 : Int32) (x3 : Int32) (x4 : Int32) (σ : mS), f_X6_dropOf_15 k37 n h0 x1 x2 x3 x4 σ = some z → ∀ (H : Heap) (locs : List Loc) (ls : Array Slot), mP G σ H → mL G locs → lv_has ls 5 [(0, .ref h0), (1, .int x1), (2, .int x2), (3, .int x3), (4, .int x4)] → W p l e rm_X6_dropOf s m args below meth c H locs 0 0 Q (F0 m 15 ls []) := by
    intro k37 hk37 n
    induction n with
    | zero =>
      intro h0 x1 x2 x3 x4 σ h
      exact nomatch (show (none : Option (Int32 × mS)) = some z from h)
    | succ n ih =>
      intro h0 x1 x2 x3 x4 σ h H locs ls hM hL hl
      rw [f_X6_dropOf_15.eq_2] at h
      refine lv_iload hx hb dX6_dropOf_15 (lv_at hl 4 rfl) ?_
      refine lv_bipush hx hb dX6_dropOf_17 kB_7 ?_
      refine lv_icmp_ge (tgt := 37) hx hb dX6_dropOf_19 (by decide) (fun c16 => ?_) (fun c16 => ?_)
      · have h := (if_pos c16).symm.trans h
        exact hk37 _ _ _ _ _ _ h _ _ _ hM hL (lv_sub hl [0, 1, 2, 3, 4] rfl)
      · have h := (if_neg c16).symm.trans h
        refine lv_aload_n hx hb dX6_dropOf_22 rfl (lv_at hl 0 rfl) ?_
        refine lv_iload hx hb dX6_dropOf_23 (lv_at hl 4 rfl) ?_
        obtain ⟨o17, h⟩ := oi_some h
        obtain ⟨q18, hq18, h⟩ := ob_some h
        refine m_calli (va_runV (As := [.int x4]) (rest := []) ⟨hx, hb, hml, hown, hts⟩ (c_X6_isLinen l G hq18) (cwV 1 hts gX6_dropOf_X6_isLinen rfl rfl rfl hd_X6_isLinenv ⟨Nat.le_of_ble_eq_true rfl, Nat.le_of_ble_eq_true rfl⟩) (m_preV (ci := 5) hK hM rfl o17) rfl rfl hl.1 rfl (lv_room (Nat.le_of_ble_eq_true rfl)) dX6_dropOf_25 ⟨Nat.le_of_ble_eq_true rfl, Nat.le_of_ble_eq_true rfl⟩) hL (fun H locs hM hL => ?_)
        refine lv_if_eq (tgt := 37) hx hb dX6_dropOf_28 (by decide) (fun c19 => ?_) (fun c19 => ?_)
        · have h := (if_pos c19).symm.trans h
          exact hk37 _ _ _ _ _ _ h _ _ _ hM hL (lv_sub hl [0, 1, 2, 3, 4] rfl)
        · have h := (if_neg c19).symm.trans h
          obtain ⟨v20, ev20⟩ : ∃ y : Int32, y = x4 + (1 : Int32) := ⟨_, rfl⟩
          have h := vl_at ev20 h
          refine lv_iinc (v := v20) (lv' := [(4, .int v20), (0, .ref h0), (1, .int x1), (2, .int x2), (3, .int x3)]) hx hb dX6_dropOf_31 hl (k := 4) rfl (by rw [ev20, kI_1]) (by decide) rfl (fun ls hl => ?_)
          refine lv_goto (tgt := 15) hx hb dX6_dropOf_34 (by decide) ?_
          exact ih _ _ _ _ _ _ h _ _ _ hM hL (lv_sub hl [1, 2, 3, 4, 0] rfl)
  rw [f_X6_dropOf.eq_1] at h
  refine lv_aload_n hx hb dX6_dropOf_0 rfl (lv_at hl 0 rfl) ?_
  refine lv_iload_n hx hb dX6_dropOf_1 rfl (lv_at hl 1 rfl) ?_
  obtain ⟨o21, h⟩ := oi_some h
  obtain ⟨q22, hq22, h⟩ := ob_some h
  refine m_calli (va_runV (As := [.int x1]) (rest := []) ⟨hx, hb, hml, hown, hts⟩ (c_X6_dropsOf l G hq22) (cwV 1 hts gX6_dropOf_X6_dropsOf rfl rfl rfl hd_X6_dropsOfv ⟨Nat.le_of_ble_eq_true rfl, Nat.le_of_ble_eq_true rfl⟩) (m_preV (ci := 5) hK hM rfl o21) rfl rfl hl.1 rfl (lv_room (Nat.le_of_ble_eq_true rfl)) dX6_dropOf_2 ⟨Nat.le_of_ble_eq_true rfl, Nat.le_of_ble_eq_true rfl⟩) hL (fun H locs hM hL => ?_)
  refine lv_istore_n (lv' := [(2, .int q22.1), (0, .ref h0), (1, .int x1)]) hx hb dX6_dropOf_5 rfl hl (by decide) rfl (fun ls hl => ?_)
  refine lv_aload_n hx hb dX6_dropOf_6 rfl (lv_at hl 1 rfl) ?_
  refine lv_iload_n hx hb dX6_dropOf_7 rfl (lv_at hl 2 rfl) ?_
  obtain ⟨o23, h⟩ := oi_some h
  obtain ⟨q24, hq24, h⟩ := ob_some h
  refine m_calli (va_runV (As := [.int x1]) (rest := []) ⟨hx, hb, hml, hown, hts⟩ (c_X6_waitsOf l G hq24) (cwV 1 hts gX6_dropOf_X6_waitsOf rfl rfl rfl hd_X6_waitsOfv ⟨Nat.le_of_ble_eq_true rfl, Nat.le_of_ble_eq_true rfl⟩) (m_preV (ci := 5) hK hM rfl o23) rfl rfl hl.1 rfl (lv_room (Nat.le_of_ble_eq_true rfl)) dX6_dropOf_8 ⟨Nat.le_of_ble_eq_true rfl, Nat.le_of_ble_eq_true rfl⟩) hL (fun H locs hM hL => ?_)
  refine lv_istore_n (lv' := [(3, .int q24.1), (2, .int q22.1), (0, .ref h0), (1, .int x1)]) hx hb dX6_dropOf_11 rfl hl (by decide) rfl (fun ls hl => ?_)
  refine lv_iconst hx hb dX6_dropOf_12 kI_0 ?_
  refine lv_istore (lv' := [(4, .int (0 : Int32)), (3, .int q24.1), (2, .int q22.1), (0, .ref h0), (1, .int x1)]) hx hb dX6_dropOf_13 hl (by decide) rfl (fun ls hl => ?_)
  refine hN15 _ ?_ _ _ _ _ _ _ _ h _ _ _ hM hL (lv_sub hl [3, 4, 2, 1, 0] rfl)
  · intro h0 x1 x2 x3 x4 σ h H locs ls hM hL hl
    refine lv_aload_n hx hb dX6_dropOf_37 rfl (lv_at hl 0 rfl) ?_
    refine m_getR (ci := 5) hx hb hU6 hown hK hM rfl 4 (by decide) w1 h dX6_dropOf_38 (fun r25 gr25 h => ?_)
    refine lv_iconst hx hb dX6_dropOf_41 kI_3 ?_
    refine lv_iload hx hb dX6_dropOf_42 (lv_at hl 4 rfl) ?_
    refine lv_imul hx hb dX6_dropOf_44 ?_
    refine lv_iload_n hx hb dX6_dropOf_45 rfl (lv_at hl 1 rfl) ?_
    refine m_iast hx hb hK hM hL h dX6_dropOf_46 (fun t26 H locs h hM hL => ?_)
    refine lv_aload_n hx hb dX6_dropOf_47 rfl (lv_at hl 0 rfl) ?_
    refine m_getR (ci := 5) hx hb hU6 hown hK hM rfl 4 (by decide) w1 h dX6_dropOf_48 (fun r27 gr27 h => ?_)
    refine lv_iconst hx hb dX6_dropOf_51 kI_3 ?_
    refine lv_iload hx hb dX6_dropOf_52 (lv_at hl 4 rfl) ?_
    refine lv_imul hx hb dX6_dropOf_54 ?_
    refine lv_iconst hx hb dX6_dropOf_55 kI_1 ?_
    refine lv_iadd hx hb dX6_dropOf_56 ?_
    refine lv_iload_n hx hb dX6_dropOf_57 rfl (lv_at hl 2 rfl) ?_
    refine m_iast hx hb hK hM hL h dX6_dropOf_58 (fun t28 H locs h hM hL => ?_)
    refine lv_aload_n hx hb dX6_dropOf_59 rfl (lv_at hl 0 rfl) ?_
    refine m_getR (ci := 5) hx hb hU6 hown hK hM rfl 4 (by decide) w1 h dX6_dropOf_60 (fun r29 gr29 h => ?_)
    refine lv_iconst hx hb dX6_dropOf_63 kI_3 ?_
    refine lv_iload hx hb dX6_dropOf_64 (lv_at hl 4 rfl) ?_
    refine lv_imul hx hb dX6_dropOf_66 ?_
    refine lv_iconst hx hb dX6_dropOf_67 kI_2 ?_
    refine lv_iadd hx hb dX6_dropOf_68 ?_
    refine lv_iload_n hx hb dX6_dropOf_69 rfl (lv_at hl 3 rfl) ?_
    refine m_iast hx hb hK hM hL h dX6_dropOf_70 (fun t30 H locs h hM hL => ?_)
    refine lv_iload hx hb dX6_dropOf_71 (lv_at hl 4 rfl) ?_
    subst hQ
    have h := Option.some.inj h
    subst h
    exact m_iret hx hb hr hM hL dX6_dropOf_73 hlocks
abbrev rm_X6_drop : Room := { frames := 6, cells := 0, slots := 0, locals := 137 }
set_option maxHeartbeats 4000000 in
set_option maxRecDepth 100000 in
theorem c_X6_drop (l : Launch) (G : mG) {h0 : Nat} {x1 : Int32} {σ : mS} {z : Int32 × mS} (h : f_X6_drop h0 x1 σ = some z) : Met l yX6_drop wsX6_drop rm_X6_drop (va_Pc [.ref h0, .int x1] (mB G σ)) (mQ G (.returned (some (.int z.1))) z.2) 0 0 (mF G) := by
  refine m_start (cc := cX6_drop) (maxL := 2) (ret := (some .int)) (by decide) rfl [.ref h0, .int x1] (Nat.le_of_ble_eq_true rfl) ?_
  intro p e s m args below meth c ls hx hb hr hml hown hts hlocks hnm hK hM hl
  have hown : s.vm.findClass RX6 = some m.cls := hown
  have hnm : meth.name = "drop" := hnm
  obtain ⟨locs, hlocs⟩ : ∃ l : List Loc, l = [] := ⟨_, rfl⟩
  have hL : mL G locs := by rw [hlocs]; exact mL_nil G
  rw [← hlocs]
  generalize s.heap = H at hM ⊢
  have hl : lv_has ls 2 [(0, .ref h0), (1, .int x1)] := hl
  obtain ⟨Q, hQ⟩ : ∃ Q, Q = MQ below (mQ G (.returned (some (.int z.1))) z.2) args s 0 0 (mF G) := ⟨_, rfl⟩
  rw [← hQ]
  have hU6 : ∀ w ∈ wsX60, w.before args s = true := fun w h => hts w (List.mem_cons_of_mem _ (List.mem_append_right _ h))
  have w1 := (hts (.fieldLink RX6 16 "HandkerchiefsDroppedModel" "rows" "[I") (List.mem_of_getElem? (i := 1) rfl))
  rw [f_X6_drop.eq_1] at h
  refine lv_aload_n hx hb dX6_drop_0 rfl (lv_at hl 0 rfl) ?_
  refine lv_iload_n hx hb dX6_drop_1 rfl (lv_at hl 1 rfl) ?_
  obtain ⟨o12, h⟩ := oi_some h
  obtain ⟨q13, hq13, h⟩ := ob_some h
  refine m_calli (va_runV (As := [.int x1]) (rest := []) ⟨hx, hb, hml, hown, hts⟩ (c_X6_isOne l G hq13) (cwV 1 hts gX6_drop_X6_isOne rfl rfl rfl hd_X6_isOnev ⟨Nat.le_of_ble_eq_true rfl, Nat.le_of_ble_eq_true rfl⟩) (m_preV (ci := 5) hK hM rfl o12) rfl rfl hl.1 rfl (lv_room (Nat.le_of_ble_eq_true rfl)) dX6_drop_2 ⟨Nat.le_of_ble_eq_true rfl, Nat.le_of_ble_eq_true rfl⟩) hL (fun H locs hM hL => ?_)
  refine lv_if_ne (tgt := 11) hx hb dX6_drop_5 (by decide) (fun c14 => ?_) (fun c14 => ?_)
  · have h := (if_neg c14).symm.trans h
    refine lv_aload_n hx hb dX6_drop_11 rfl (lv_at hl 0 rfl) ?_
    refine m_getR (ci := 5) hx hb hU6 hown hK hM rfl 3 (by decide) w1 h dX6_drop_12 (fun r15 gr15 h => ?_)
    refine lv_iconst hx hb dX6_drop_15 kI_3 ?_
    refine lv_iload_n hx hb dX6_drop_16 rfl (lv_at hl 1 rfl) ?_
    refine lv_imul hx hb dX6_drop_17 ?_
    refine m_iald hx hb hK hM h dX6_drop_18 (fun v16 gv16 h => ?_)
    refine lv_if_ne (tgt := 24) hx hb dX6_drop_19 (by decide) (fun c17 => ?_) (fun c17 => ?_)
    · have h := (if_neg c17).symm.trans h
      refine lv_aload_n hx hb dX6_drop_24 rfl (lv_at hl 0 rfl) ?_
      obtain ⟨o18, h⟩ := oi_some h
      obtain ⟨q19, hq19, h⟩ := ob_some h
      refine m_calli (va_runV (As := []) (rest := []) ⟨hx, hb, hml, hown, hts⟩ (c_X6_lying l G hq19) (cwV 0 hts gX6_drop_X6_lying rfl rfl rfl hd_X6_lyingv ⟨Nat.le_of_ble_eq_true rfl, Nat.le_of_ble_eq_true rfl⟩) (m_preV (ci := 5) hK hM rfl o18) rfl rfl hl.1 rfl (lv_room (Nat.le_of_ble_eq_true rfl)) dX6_drop_25 ⟨Nat.le_of_ble_eq_true rfl, Nat.le_of_ble_eq_true rfl⟩) hL (fun H locs hM hL => ?_)
      refine lv_bipush hx hb dX6_drop_28 kB_8 ?_
      refine lv_icmp_ne (tgt := 38) hx hb dX6_drop_30 (by decide) (fun c20 => ?_) (fun c20 => ?_)
      · have h := (if_neg c20).symm.trans h
        refine lv_aload_n hx hb dX6_drop_38 rfl (lv_at hl 0 rfl) ?_
        refine lv_iload_n hx hb dX6_drop_39 rfl (lv_at hl 1 rfl) ?_
        obtain ⟨o21, h⟩ := oi_some h
        obtain ⟨q22, hq22, h⟩ := ob_some h
        refine m_calli (va_runV (As := [.int x1]) (rest := []) ⟨hx, hb, hml, hown, hts⟩ (c_X6_dropOf l G hq22) (cwV 1 hts gX6_drop_X6_dropOf rfl rfl rfl hd_X6_dropOfv ⟨Nat.le_of_ble_eq_true rfl, Nat.le_of_ble_eq_true rfl⟩) (m_preV (ci := 5) hK hM rfl o21) rfl rfl hl.1 rfl (lv_room (Nat.le_of_ble_eq_true rfl)) dX6_drop_40 ⟨Nat.le_of_ble_eq_true rfl, Nat.le_of_ble_eq_true rfl⟩) hL (fun H locs hM hL => ?_)
        subst hQ
        have h := Option.some.inj h
        subst h
        exact m_iret hx hb hr hM hL dX6_drop_43 hlocks
      · have h := (if_pos c20).symm.trans h
        refine lv_bipush hx hb dX6_drop_33 kB_m4 ?_
        refine lv_goto (tgt := 43) hx hb dX6_drop_35 (by decide) ?_
        subst hQ
        have h := Option.some.inj h
        subst h
        exact m_iret hx hb hr hM hL dX6_drop_43 hlocks
    · have h := (if_pos c17).symm.trans h
      refine lv_iconst hx hb dX6_drop_22 kI_m1 ?_
      subst hQ
      have h := Option.some.inj h
      subst h
      exact m_iret hx hb hr hM hL dX6_drop_23 hlocks
  · have h := (if_pos c14).symm.trans h
    refine lv_bipush hx hb dX6_drop_8 kB_m5 ?_
    subst hQ
    have h := Option.some.inj h
    subst h
    exact m_iret hx hb hr hM hL dX6_drop_10 hlocks
abbrev rm_X6_hourOf : Room := { frames := 6, cells := 0, slots := 0, locals := 133 }
set_option maxHeartbeats 4000000 in
set_option maxRecDepth 100000 in
theorem c_X6_hourOf (l : Launch) (G : mG) {h0 : Nat} {σ : mS} {z : Int32 × mS} (h : f_X6_hourOf h0 σ = some z) : Met l yX6_hourOf wsX6_hourOf rm_X6_hourOf (va_Pc [.ref h0] (mB G σ)) (mQ G (.returned (some (.int z.1))) z.2) 0 0 (mF G) := by
  refine m_start (cc := cX6_hourOf) (maxL := 5) (ret := (some .int)) (by decide) rfl [.ref h0] (Nat.le_of_ble_eq_true rfl) ?_
  intro p e s m args below meth c ls hx hb hr hml hown hts hlocks hnm hK hM hl
  have hown : s.vm.findClass RX6 = some m.cls := hown
  have hnm : meth.name = "hourOf" := hnm
  obtain ⟨locs, hlocs⟩ : ∃ l : List Loc, l = [] := ⟨_, rfl⟩
  have hL : mL G locs := by rw [hlocs]; exact mL_nil G
  rw [← hlocs]
  generalize s.heap = H at hM ⊢
  have hl : lv_has ls 5 [(0, .ref h0)] := hl
  obtain ⟨Q, hQ⟩ : ∃ Q, Q = MQ below (mQ G (.returned (some (.int z.1))) z.2) args s 0 0 (mF G) := ⟨_, rfl⟩
  rw [← hQ]
  have hU6 : ∀ w ∈ wsX60, w.before args s = true := fun w h => hts w (List.mem_cons_of_mem _ (List.mem_append_right _ h))
  have w1 := (hts (.fieldLink RX6 93 "HandkerchiefsDroppedModel" "hours" "I") (List.mem_of_getElem? (i := 1) rfl))
  have w2 := (hts (.fieldLink RX6 19 "HandkerchiefsDroppedModel" "linens" "[I") (List.mem_of_getElem? (i := 2) rfl))
  have w3 := (hts (.fieldLink RX6 16 "HandkerchiefsDroppedModel" "rows" "[I") (List.mem_of_getElem? (i := 4) rfl))
  have w4 := (hts (.fieldLink RX6 109 "HandkerchiefsDroppedModel" "admitted" "I") (List.mem_of_getElem? (i := 3) rfl))
  have hN12 : ∀ (n : Nat) (h0 : Nat) (x1 : Int32) (x2 : Int32) (x3 : Int32) (σ : mS), f_X6_hourOf_12 n h0 x1 x2 x3 σ = some z → ∀ (H : Heap) (locs : List Loc) (ls : Array Slot), mP G σ H → mL G locs → lv_has ls 5 [(0, .ref h0), (1, .int x1), (2, .int x2), (3, .int x3)] → W p l e rm_X6_hourOf s m args below meth c H locs 0 0 Q (F0 m 12 ls []) := by
    intro n
    induction n with
    | zero =>
      intro h0 x1 x2 x3 σ h
      exact nomatch (show (none : Option (Int32 × mS)) = some z from h)
    | succ n ih =>
      intro h0 x1 x2 x3 σ h H locs ls hM hL hl
      rw [f_X6_hourOf_12.eq_2] at h
      refine lv_iload_n hx hb dX6_hourOf_12 rfl (lv_at hl 3 rfl) ?_
      refine lv_bipush hx hb dX6_hourOf_13 kB_8 ?_
      refine lv_icmp_ge (tgt := 171) hx hb dX6_hourOf_15 (by decide) (fun c40 => ?_) (fun c40 => ?_)
      · have h := (if_pos c40).symm.trans h
        refine lv_aload_n hx hb dX6_hourOf_171 rfl (lv_at hl 0 rfl) ?_
        refine lv_dup hx hb dX6_hourOf_172 rfl ?_
        refine m_getI (ci := 5) hx hb hU6 hown hK hM rfl 8 (by decide) w1 h dX6_hourOf_173 (fun v41 gv41 h => ?_)
        refine lv_iconst hx hb dX6_hourOf_176 kI_1 ?_
        refine lv_iadd hx hb dX6_hourOf_177 ?_
        refine m_put (ci := 5) hx hb hU6 tyX6 tyX6_ok nmX6 hown hK hM hL rfl 8 (by decide) w1 rfl rfl rfl h dX6_hourOf_178 (fun t42 H locs h hM hL => ?_)
        refine lv_iload_n hx hb dX6_hourOf_181 rfl (lv_at hl 1 rfl) ?_
        subst hQ
        have h := Option.some.inj h
        subst h
        exact m_iret hx hb hr hM hL dX6_hourOf_182 hlocks
      · have h := (if_neg c40).symm.trans h
        refine lv_aload_n hx hb dX6_hourOf_18 rfl (lv_at hl 0 rfl) ?_
        refine lv_iload_n hx hb dX6_hourOf_19 rfl (lv_at hl 3 rfl) ?_
        obtain ⟨o43, h⟩ := oi_some h
        obtain ⟨q44, hq44, h⟩ := ob_some h
        refine m_calli (va_runV (As := [.int x3]) (rest := []) ⟨hx, hb, hml, hown, hts⟩ (c_X6_isLinen l G hq44) (cwV 1 hts gX6_hourOf_X6_isLinen rfl rfl rfl hd_X6_isLinenv ⟨Nat.le_of_ble_eq_true rfl, Nat.le_of_ble_eq_true rfl⟩) (m_preV (ci := 5) hK hM rfl o43) rfl rfl hl.1 rfl (lv_room (Nat.le_of_ble_eq_true rfl)) dX6_hourOf_20 ⟨Nat.le_of_ble_eq_true rfl, Nat.le_of_ble_eq_true rfl⟩) hL (fun H locs hM hL => ?_)
        refine lv_if_eq (tgt := 165) hx hb dX6_hourOf_23 (by decide) (fun c45 => ?_) (fun c45 => ?_)
        · have h := (if_pos c45).symm.trans h
          obtain ⟨v46, ev46⟩ : ∃ y : Int32, y = x3 + (1 : Int32) := ⟨_, rfl⟩
          have h := vl_at ev46 h
          refine lv_iinc (v := v46) (lv' := [(3, .int v46), (0, .ref h0), (1, .int x1), (2, .int x2)]) hx hb dX6_hourOf_165 hl (k := 3) rfl (by rw [ev46, kI_1]) (by decide) rfl (fun ls hl => ?_)
          refine lv_goto (tgt := 12) hx hb dX6_hourOf_168 (by decide) ?_
          exact ih _ _ _ _ _ h _ _ _ hM hL (lv_sub hl [1, 2, 3, 0] rfl)
        · have h := (if_neg c45).symm.trans h
          refine lv_aload_n hx hb dX6_hourOf_26 rfl (lv_at hl 0 rfl) ?_
          refine m_getR (ci := 5) hx hb hU6 hown hK hM rfl 4 (by decide) w2 h dX6_hourOf_27 (fun r47 gr47 h => ?_)
          refine lv_iconst hx hb dX6_hourOf_30 kI_3 ?_
          refine lv_iload_n hx hb dX6_hourOf_31 rfl (lv_at hl 3 rfl) ?_
          refine lv_imul hx hb dX6_hourOf_32 ?_
          refine m_iald hx hb hK hM h dX6_hourOf_33 (fun v48 gv48 h => ?_)
          refine lv_iconst hx hb dX6_hourOf_34 kI_0 ?_
          refine lv_iconst hx hb dX6_hourOf_35 kI_5 ?_
          refine m_calli (va_runS (As := [.int v48, .int (0 : Int32), .int (5 : Int32)]) (rest := []) ⟨hx, hb, hml, hown, hts⟩ (c_X6_within l G v48 (0 : Int32) (5 : Int32)) (va_cwS 3 hts gX6_hourOf_X6_within rfl rfl rfl hd_X6_within ⟨Nat.le_of_ble_eq_true rfl, Nat.le_of_ble_eq_true rfl⟩) (m_preS hK hM) rfl rfl hl.1 rfl (lv_room (Nat.le_of_ble_eq_true rfl)) dX6_hourOf_36 ⟨Nat.le_of_ble_eq_true rfl, Nat.le_of_ble_eq_true rfl⟩) hL (fun H locs hM hL => ?_)
          refine lv_topi (fun v49 ev49 => ?_)
          have h := vl_at ev49 h
          refine lv_istore (lv' := [(4, .int v49), (0, .ref h0), (1, .int x1), (2, .int x2), (3, .int x3)]) hx hb dX6_hourOf_39 hl (by decide) rfl (fun ls hl => ?_)
          refine lv_aload_n hx hb dX6_hourOf_41 rfl (lv_at hl 1 rfl) ?_
          refine lv_iload_n hx hb dX6_hourOf_42 rfl (lv_at hl 3 rfl) ?_
          refine lv_iload hx hb dX6_hourOf_43 (lv_at hl 0 rfl) ?_
          obtain ⟨o50, h⟩ := oi_some h
          obtain ⟨q51, hq51, h⟩ := ob_some h
          refine m_calli (va_runV (As := [.int x2, .int v49]) (rest := []) ⟨hx, hb, hml, hown, hts⟩ (c_X6_doesStoop l G hq51) (cwV 2 hts gX6_hourOf_X6_doesStoop rfl rfl rfl hd_X6_doesStoopv ⟨Nat.le_of_ble_eq_true rfl, Nat.le_of_ble_eq_true rfl⟩) (m_preV (ci := 5) hK hM rfl o50) rfl rfl hl.1 rfl (lv_room (Nat.le_of_ble_eq_true rfl)) dX6_hourOf_45 ⟨Nat.le_of_ble_eq_true rfl, Nat.le_of_ble_eq_true rfl⟩) hL (fun H locs hM hL => ?_)
          refine lv_if_eq (tgt := 99) hx hb dX6_hourOf_48 (by decide) (fun c52 => ?_) (fun c52 => ?_)
          · have h := (if_pos c52).symm.trans h
            refine lv_aload_n hx hb dX6_hourOf_99 rfl (lv_at hl 1 rfl) ?_
            refine m_getR (ci := 5) hx hb hU6 hown hK hM rfl 4 (by decide) w2 h dX6_hourOf_100 (fun r53 gr53 h => ?_)
            refine lv_iconst hx hb dX6_hourOf_103 kI_3 ?_
            refine lv_iload_n hx hb dX6_hourOf_104 rfl (lv_at hl 4 rfl) ?_
            refine lv_imul hx hb dX6_hourOf_105 ?_
            refine lv_iconst hx hb dX6_hourOf_106 kI_2 ?_
            refine lv_iadd hx hb dX6_hourOf_107 ?_
            refine lv_dup2_11 hx hb dX6_hourOf_108 rfl rfl ?_
            refine m_iald hx hb hK hM h dX6_hourOf_109 (fun v54 gv54 h => ?_)
            refine lv_iconst hx hb dX6_hourOf_110 kI_1 ?_
            refine lv_isub hx hb dX6_hourOf_111 ?_
            refine m_iast hx hb hK hM hL h dX6_hourOf_112 (fun t55 H locs h hM hL => ?_)
            refine lv_aload_n hx hb dX6_hourOf_113 rfl (lv_at hl 1 rfl) ?_
            refine m_getR (ci := 5) hx hb hU6 hown hK hM rfl 4 (by decide) w2 h dX6_hourOf_114 (fun r56 gr56 h => ?_)
            refine lv_iconst hx hb dX6_hourOf_117 kI_3 ?_
            refine lv_iload_n hx hb dX6_hourOf_118 rfl (lv_at hl 4 rfl) ?_
            refine lv_imul hx hb dX6_hourOf_119 ?_
            refine lv_iconst hx hb dX6_hourOf_120 kI_2 ?_
            refine lv_iadd hx hb dX6_hourOf_121 ?_
            refine m_iald hx hb hK hM h dX6_hourOf_122 (fun v57 gv57 h => ?_)
            refine lv_if_ne (tgt := 165) hx hb dX6_hourOf_123 (by decide) (fun c58 => ?_) (fun c58 => ?_)
            · have h := (if_neg c58).symm.trans h
              obtain ⟨v59, ev59⟩ : ∃ y : Int32, y = x3 + (1 : Int32) := ⟨_, rfl⟩
              have h := vl_at ev59 h
              refine lv_iinc (v := v59) (lv' := [(3, .int v59), (4, .int v49), (0, .ref h0), (1, .int x1), (2, .int x2)]) hx hb dX6_hourOf_165 hl (k := 4) rfl (by rw [ev59, kI_1]) (by decide) rfl (fun ls hl => ?_)
              refine lv_goto (tgt := 12) hx hb dX6_hourOf_168 (by decide) ?_
              exact ih _ _ _ _ _ h _ _ _ hM hL (lv_sub hl [2, 3, 4, 0] rfl)
            · have h := (if_pos c58).symm.trans h
              refine lv_aload_n hx hb dX6_hourOf_126 rfl (lv_at hl 1 rfl) ?_
              refine m_getR (ci := 5) hx hb hU6 hown hK hM rfl 4 (by decide) w2 h dX6_hourOf_127 (fun r60 gr60 h => ?_)
              refine lv_iconst hx hb dX6_hourOf_130 kI_3 ?_
              refine lv_iload_n hx hb dX6_hourOf_131 rfl (lv_at hl 4 rfl) ?_
              refine lv_imul hx hb dX6_hourOf_132 ?_
              refine lv_iconst hx hb dX6_hourOf_133 kI_m1 ?_
              refine m_iast hx hb hK hM hL h dX6_hourOf_134 (fun t61 H locs h hM hL => ?_)
              refine lv_aload_n hx hb dX6_hourOf_135 rfl (lv_at hl 1 rfl) ?_
              refine m_getR (ci := 5) hx hb hU6 hown hK hM rfl 3 (by decide) w3 h dX6_hourOf_136 (fun r62 gr62 h => ?_)
              refine lv_iconst hx hb dX6_hourOf_139 kI_3 ?_
              refine lv_iload hx hb dX6_hourOf_140 (lv_at hl 0 rfl) ?_
              refine lv_imul hx hb dX6_hourOf_142 ?_
              refine lv_iconst hx hb dX6_hourOf_143 kI_2 ?_
              refine lv_iadd hx hb dX6_hourOf_144 ?_
              refine lv_aload_n hx hb dX6_hourOf_145 rfl (lv_at hl 1 rfl) ?_
              refine m_getR (ci := 5) hx hb hU6 hown hK hM rfl 3 (by decide) w3 h dX6_hourOf_146 (fun r63 gr63 h => ?_)
              refine lv_iconst hx hb dX6_hourOf_149 kI_3 ?_
              refine lv_iload hx hb dX6_hourOf_150 (lv_at hl 0 rfl) ?_
              refine lv_imul hx hb dX6_hourOf_152 ?_
              refine lv_iconst hx hb dX6_hourOf_153 kI_2 ?_
              refine lv_iadd hx hb dX6_hourOf_154 ?_
              refine m_iald hx hb hK hM h dX6_hourOf_155 (fun v64 gv64 h => ?_)
              refine lv_iconst hx hb dX6_hourOf_156 kI_1 ?_
              refine lv_iadd hx hb dX6_hourOf_157 ?_
              refine lv_iconst hx hb dX6_hourOf_158 kI_0 ?_
              refine lv_bipush hx hb dX6_hourOf_159 kB_99 ?_
              refine m_calli (va_runS (As := [.int (v64 + (1 : Int32)), .int (0 : Int32), .int (99 : Int32)]) (rest := [.int (((3 : Int32) * v49) + (2 : Int32)), .ref r62]) ⟨hx, hb, hml, hown, hts⟩ (c_X6_within l G (v64 + (1 : Int32)) (0 : Int32) (99 : Int32)) (va_cwS 3 hts gX6_hourOf_X6_within rfl rfl rfl hd_X6_within ⟨Nat.le_of_ble_eq_true rfl, Nat.le_of_ble_eq_true rfl⟩) (m_preS hK hM) rfl rfl hl.1 rfl (lv_room (Nat.le_of_ble_eq_true rfl)) dX6_hourOf_161 ⟨Nat.le_of_ble_eq_true rfl, Nat.le_of_ble_eq_true rfl⟩) hL (fun H locs hM hL => ?_)
              refine m_iast hx hb hK hM hL h dX6_hourOf_164 (fun t65 H locs h hM hL => ?_)
              obtain ⟨v66, ev66⟩ : ∃ y : Int32, y = x3 + (1 : Int32) := ⟨_, rfl⟩
              have h := vl_at ev66 h
              refine lv_iinc (v := v66) (lv' := [(3, .int v66), (4, .int v49), (0, .ref h0), (1, .int x1), (2, .int x2)]) hx hb dX6_hourOf_165 hl (k := 4) rfl (by rw [ev66, kI_1]) (by decide) rfl (fun ls hl => ?_)
              refine lv_goto (tgt := 12) hx hb dX6_hourOf_168 (by decide) ?_
              exact ih _ _ _ _ _ h _ _ _ hM hL (lv_sub hl [2, 3, 4, 0] rfl)
          · have h := (if_neg c52).symm.trans h
            refine lv_iload_n hx hb dX6_hourOf_51 rfl (lv_at hl 2 rfl) ?_
            refine lv_iconst hx hb dX6_hourOf_52 kI_1 ?_
            refine lv_aload_n hx hb dX6_hourOf_53 rfl (lv_at hl 1 rfl) ?_
            refine m_getR (ci := 5) hx hb hU6 hown hK hM rfl 4 (by decide) w2 h dX6_hourOf_54 (fun r67 gr67 h => ?_)
            refine lv_iconst hx hb dX6_hourOf_57 kI_3 ?_
            refine lv_iload_n hx hb dX6_hourOf_58 rfl (lv_at hl 4 rfl) ?_
            refine lv_imul hx hb dX6_hourOf_59 ?_
            refine lv_iconst hx hb dX6_hourOf_60 kI_1 ?_
            refine lv_iadd hx hb dX6_hourOf_61 ?_
            refine m_iald hx hb hK hM h dX6_hourOf_62 (fun v68 gv68 h => ?_)
            refine lv_ishl hx hb dX6_hourOf_63 ?_
            refine lv_ior hx hb dX6_hourOf_64 ?_
            refine lv_topi (fun v69 ev69 => ?_)
            have h := vl_at ev69 h
            refine lv_istore_n (lv' := [(1, .int v69), (4, .int v49), (0, .ref h0), (2, .int x2), (3, .int x3)]) hx hb dX6_hourOf_65 rfl hl (by decide) rfl (fun ls hl => ?_)
            refine lv_aload_n hx hb dX6_hourOf_66 rfl (lv_at hl 2 rfl) ?_
            refine lv_dup hx hb dX6_hourOf_67 rfl ?_
            refine m_getI (ci := 5) hx hb hU6 hown hK hM rfl 7 (by decide) w4 h dX6_hourOf_68 (fun v70 gv70 h => ?_)
            refine lv_iconst hx hb dX6_hourOf_71 kI_1 ?_
            refine lv_aload_n hx hb dX6_hourOf_72 rfl (lv_at hl 2 rfl) ?_
            refine m_getR (ci := 5) hx hb hU6 hown hK hM rfl 4 (by decide) w2 h dX6_hourOf_73 (fun r71 gr71 h => ?_)
            refine lv_iconst hx hb dX6_hourOf_76 kI_3 ?_
            refine lv_iload_n hx hb dX6_hourOf_77 rfl (lv_at hl 4 rfl) ?_
            refine lv_imul hx hb dX6_hourOf_78 ?_
            refine lv_iconst hx hb dX6_hourOf_79 kI_1 ?_
            refine lv_iadd hx hb dX6_hourOf_80 ?_
            refine m_iald hx hb hK hM h dX6_hourOf_81 (fun v72 gv72 h => ?_)
            refine lv_ishl hx hb dX6_hourOf_82 ?_
            refine lv_ior hx hb dX6_hourOf_83 ?_
            refine m_put (ci := 5) hx hb hU6 tyX6 tyX6_ok nmX6 hown hK hM hL rfl 7 (by decide) w4 rfl rfl rfl h dX6_hourOf_84 (fun t73 H locs h hM hL => ?_)
            refine lv_aload_n hx hb dX6_hourOf_87 rfl (lv_at hl 2 rfl) ?_
            refine m_getR (ci := 5) hx hb hU6 hown hK hM rfl 4 (by decide) w2 h dX6_hourOf_88 (fun r74 gr74 h => ?_)
            refine lv_iconst hx hb dX6_hourOf_91 kI_3 ?_
            refine lv_iload_n hx hb dX6_hourOf_92 rfl (lv_at hl 4 rfl) ?_
            refine lv_imul hx hb dX6_hourOf_93 ?_
            refine lv_iconst hx hb dX6_hourOf_94 kI_m1 ?_
            refine m_iast hx hb hK hM hL h dX6_hourOf_95 (fun t75 H locs h hM hL => ?_)
            refine lv_goto (tgt := 165) hx hb dX6_hourOf_96 (by decide) ?_
            obtain ⟨v76, ev76⟩ : ∃ y : Int32, y = x3 + (1 : Int32) := ⟨_, rfl⟩
            have h := vl_at ev76 h
            refine lv_iinc (v := v76) (lv' := [(3, .int v76), (1, .int v69), (4, .int v49), (0, .ref h0), (2, .int x2)]) hx hb dX6_hourOf_165 hl (k := 4) rfl (by rw [ev76, kI_1]) (by decide) rfl (fun ls hl => ?_)
            refine lv_goto (tgt := 12) hx hb dX6_hourOf_168 (by decide) ?_
            exact ih _ _ _ _ _ h _ _ _ hM hL (lv_sub hl [3, 1, 4, 0] rfl)
  rw [f_X6_hourOf.eq_1] at h
  refine lv_iconst hx hb dX6_hourOf_0 kI_0 ?_
  refine lv_istore_n (lv' := [(1, .int (0 : Int32)), (0, .ref h0)]) hx hb dX6_hourOf_1 rfl hl (by decide) rfl (fun ls hl => ?_)
  refine lv_aload_n hx hb dX6_hourOf_2 rfl (lv_at hl 1 rfl) ?_
  refine m_getI (ci := 5) hx hb hU6 hown hK hM rfl 8 (by decide) w1 h dX6_hourOf_3 (fun v77 gv77 h => ?_)
  refine lv_bipush hx hb dX6_hourOf_6 kB_6 ?_
  refine lv_irem hx hb dX6_hourOf_8 (by decide) ?_
  refine lv_topi (fun v78 ev78 => ?_)
  have h := vl_at ev78 h
  refine lv_istore_n (lv' := [(2, .int v78), (1, .int (0 : Int32)), (0, .ref h0)]) hx hb dX6_hourOf_9 rfl hl (by decide) rfl (fun ls hl => ?_)
  refine lv_iconst hx hb dX6_hourOf_10 kI_0 ?_
  refine lv_istore_n (lv' := [(3, .int (0 : Int32)), (2, .int v78), (1, .int (0 : Int32)), (0, .ref h0)]) hx hb dX6_hourOf_11 rfl hl (by decide) rfl (fun ls hl => ?_)
  refine hN12 _ _ _ _ _ _ h _ _ _ hM hL (lv_sub hl [3, 2, 1, 0] rfl)
abbrev rm_X6_hour : Room := { frames := 7, cells := 0, slots := 0, locals := 157 }
set_option maxHeartbeats 4000000 in
set_option maxRecDepth 100000 in
theorem c_X6_hour (l : Launch) (G : mG) {h0 : Nat} {σ : mS} {z : Int32 × mS} (h : f_X6_hour h0 σ = some z) : Met l yX6_hour wsX6_hour rm_X6_hour (va_Pc [.ref h0] (mB G σ)) (mQ G (.returned (some (.int z.1))) z.2) 0 0 (mF G) := by
  refine m_start (cc := cX6_hour) (maxL := 1) (ret := (some .int)) (by decide) rfl [.ref h0] (Nat.le_of_ble_eq_true rfl) ?_
  intro p e s m args below meth c ls hx hb hr hml hown hts hlocks hnm hK hM hl
  have hown : s.vm.findClass RX6 = some m.cls := hown
  have hnm : meth.name = "hour" := hnm
  obtain ⟨locs, hlocs⟩ : ∃ l : List Loc, l = [] := ⟨_, rfl⟩
  have hL : mL G locs := by rw [hlocs]; exact mL_nil G
  rw [← hlocs]
  generalize s.heap = H at hM ⊢
  have hl : lv_has ls 1 [(0, .ref h0)] := hl
  obtain ⟨Q, hQ⟩ : ∃ Q, Q = MQ below (mQ G (.returned (some (.int z.1))) z.2) args s 0 0 (mF G) := ⟨_, rfl⟩
  rw [← hQ]
  have hU6 : ∀ w ∈ wsX60, w.before args s = true := fun w h => hts w (List.mem_cons_of_mem _ (List.mem_append_right _ h))
  have w1 := (hts (.fieldLink RX6 93 "HandkerchiefsDroppedModel" "hours" "I") (List.mem_of_getElem? (i := 1) rfl))
  rw [f_X6_hour.eq_1] at h
  refine lv_aload_n hx hb dX6_hour_0 rfl (lv_at hl 0 rfl) ?_
  refine m_getI (ci := 5) hx hb hU6 hown hK hM rfl 8 (by decide) w1 h dX6_hour_1 (fun v5 gv5 h => ?_)
  refine lv_sipush hx hb dX6_hour_4 kS_999 ?_
  refine lv_icmp_ne (tgt := 15) hx hb dX6_hour_7 (by decide) (fun c6 => ?_) (fun c6 => ?_)
  · have h := (if_neg c6).symm.trans h
    refine lv_aload_n hx hb dX6_hour_15 rfl (lv_at hl 0 rfl) ?_
    obtain ⟨o7, h⟩ := oi_some h
    obtain ⟨q8, hq8, h⟩ := ob_some h
    refine m_calli (va_runV (As := []) (rest := []) ⟨hx, hb, hml, hown, hts⟩ (c_X6_hourOf l G hq8) (cwV 0 hts gX6_hour_X6_hourOf rfl rfl rfl hd_X6_hourOfv ⟨Nat.le_of_ble_eq_true rfl, Nat.le_of_ble_eq_true rfl⟩) (m_preV (ci := 5) hK hM rfl o7) rfl rfl hl.1 rfl (lv_room (Nat.le_of_ble_eq_true rfl)) dX6_hour_16 ⟨Nat.le_of_ble_eq_true rfl, Nat.le_of_ble_eq_true rfl⟩) hL (fun H locs hM hL => ?_)
    subst hQ
    have h := Option.some.inj h
    subst h
    exact m_iret hx hb hr hM hL dX6_hour_19 hlocks
  · have h := (if_pos c6).symm.trans h
    refine lv_bipush hx hb dX6_hour_10 kB_m3 ?_
    refine lv_goto (tgt := 19) hx hb dX6_hour_12 (by decide) ?_
    subst hQ
    have h := Option.some.inj h
    subst h
    exact m_iret hx hb hr hM hL dX6_hour_19 hlocks
abbrev rm_X6_burn : Room := { frames := 2, cells := 0, slots := 0, locals := 43 }
set_option maxHeartbeats 4000000 in
set_option maxRecDepth 100000 in
theorem c_X6_burn (l : Launch) (G : mG) {h0 : Nat} {x1 : Int32} {σ : mS} {z : Int32 × mS} (h : f_X6_burn h0 x1 σ = some z) : Met l yX6_burn wsX6_burn rm_X6_burn (va_Pc [.ref h0, .int x1] (mB G σ)) (mQ G (.returned (some (.int z.1))) z.2) 0 0 (mF G) := by
  refine m_start (cc := cX6_burn) (maxL := 2) (ret := (some .int)) (by decide) rfl [.ref h0, .int x1] (Nat.le_of_ble_eq_true rfl) ?_
  intro p e s m args below meth c ls hx hb hr hml hown hts hlocks hnm hK hM hl
  have hown : s.vm.findClass RX6 = some m.cls := hown
  have hnm : meth.name = "burn" := hnm
  obtain ⟨locs, hlocs⟩ : ∃ l : List Loc, l = [] := ⟨_, rfl⟩
  have hL : mL G locs := by rw [hlocs]; exact mL_nil G
  rw [← hlocs]
  generalize s.heap = H at hM ⊢
  have hl : lv_has ls 2 [(0, .ref h0), (1, .int x1)] := hl
  obtain ⟨Q, hQ⟩ : ∃ Q, Q = MQ below (mQ G (.returned (some (.int z.1))) z.2) args s 0 0 (mF G) := ⟨_, rfl⟩
  rw [← hQ]
  have hU6 : ∀ w ∈ wsX60, w.before args s = true := fun w h => hts w (List.mem_cons_of_mem _ (List.mem_append_right _ h))
  have w1 := (hts (.fieldLink RX6 19 "HandkerchiefsDroppedModel" "linens" "[I") (List.mem_of_getElem? (i := 1) rfl))
  rw [f_X6_burn.eq_1] at h
  refine lv_aload_n hx hb dX6_burn_0 rfl (lv_at hl 0 rfl) ?_
  refine lv_iload_n hx hb dX6_burn_1 rfl (lv_at hl 1 rfl) ?_
  obtain ⟨o8, h⟩ := oi_some h
  obtain ⟨q9, hq9, h⟩ := ob_some h
  refine m_calli (va_runV (As := [.int x1]) (rest := []) ⟨hx, hb, hml, hown, hts⟩ (c_X6_isLinen l G hq9) (cwV 1 hts gX6_burn_X6_isLinen rfl rfl rfl hd_X6_isLinenv ⟨Nat.le_of_ble_eq_true rfl, Nat.le_of_ble_eq_true rfl⟩) (m_preV (ci := 5) hK hM rfl o8) rfl rfl hl.1 rfl (lv_room (Nat.le_of_ble_eq_true rfl)) dX6_burn_2 ⟨Nat.le_of_ble_eq_true rfl, Nat.le_of_ble_eq_true rfl⟩) hL (fun H locs hM hL => ?_)
  refine lv_if_ne (tgt := 11) hx hb dX6_burn_5 (by decide) (fun c10 => ?_) (fun c10 => ?_)
  · have h := (if_neg c10).symm.trans h
    refine lv_aload_n hx hb dX6_burn_11 rfl (lv_at hl 0 rfl) ?_
    refine m_getR (ci := 5) hx hb hU6 hown hK hM rfl 4 (by decide) w1 h dX6_burn_12 (fun r11 gr11 h => ?_)
    refine lv_iconst hx hb dX6_burn_15 kI_3 ?_
    refine lv_iload_n hx hb dX6_burn_16 rfl (lv_at hl 1 rfl) ?_
    refine lv_imul hx hb dX6_burn_17 ?_
    refine lv_iconst hx hb dX6_burn_18 kI_m1 ?_
    refine m_iast hx hb hK hM hL h dX6_burn_19 (fun t12 H locs h hM hL => ?_)
    refine lv_aload_n hx hb dX6_burn_20 rfl (lv_at hl 0 rfl) ?_
    refine m_getR (ci := 5) hx hb hU6 hown hK hM rfl 4 (by decide) w1 h dX6_burn_21 (fun r13 gr13 h => ?_)
    refine lv_iconst hx hb dX6_burn_24 kI_3 ?_
    refine lv_iload_n hx hb dX6_burn_25 rfl (lv_at hl 1 rfl) ?_
    refine lv_imul hx hb dX6_burn_26 ?_
    refine lv_iconst hx hb dX6_burn_27 kI_1 ?_
    refine lv_iadd hx hb dX6_burn_28 ?_
    refine m_iald hx hb hK hM h dX6_burn_29 (fun v14 gv14 h => ?_)
    subst hQ
    have h := Option.some.inj h
    subst h
    exact m_iret hx hb hr hM hL dX6_burn_30 hlocks
  · have h := (if_pos c10).symm.trans h
    refine lv_bipush hx hb dX6_burn_8 kB_m6 ?_
    subst hQ
    have h := Option.some.inj h
    subst h
    exact m_iret hx hb hr hM hL dX6_burn_10 hlocks
abbrev rm_X6_keeps : Room := { frames := 0, cells := 0, slots := 0, locals := 0 }
set_option maxHeartbeats 4000000 in
set_option maxRecDepth 100000 in
theorem c_X6_keeps (l : Launch) (G : mG) {h0 : Nat} {σ : mS} {z : mS} (h : f_X6_keeps h0 σ = some z) : Met l yX6_keeps wsX6_keeps rm_X6_keeps (va_Pc [.ref h0] (mB G σ)) (mQ G (.returned none) z) 0 0 (mF G) := by
  refine m_start (cc := cX6_keeps) (maxL := 2) (ret := none) (by decide) rfl [.ref h0] (Nat.le_of_ble_eq_true rfl) ?_
  intro p e s m args below meth c ls hx hb hr hml hown hts hlocks hnm hK hM hl
  have hown : s.vm.findClass RX6 = some m.cls := hown
  have hnm : meth.name = "keeps" := hnm
  obtain ⟨locs, hlocs⟩ : ∃ l : List Loc, l = [] := ⟨_, rfl⟩
  have hL : mL G locs := by rw [hlocs]; exact mL_nil G
  rw [← hlocs]
  generalize s.heap = H at hM ⊢
  have hl : lv_has ls 2 [(0, .ref h0)] := hl
  obtain ⟨Q, hQ⟩ : ∃ Q, Q = MQ below (mQ G (.returned none) z) args s 0 0 (mF G) := ⟨_, rfl⟩
  rw [← hQ]
  have hU6 : ∀ w ∈ wsX60, w.before args s = true := fun w h => hts w (List.mem_cons_of_mem _ (List.mem_append_right _ h))
  have w1 := (hts (.fieldLink RX6 67 "HandkerchiefsDroppedModel" "kept" "[I") (List.mem_of_getElem? (i := 1) rfl))
  have w2 := (hts (.fieldLink RX6 16 "HandkerchiefsDroppedModel" "rows" "[I") (List.mem_of_getElem? (i := 2) rfl))
  have w3 := (hts (.fieldLink RX6 109 "HandkerchiefsDroppedModel" "admitted" "I") (List.mem_of_getElem? (i := 4) rfl))
  have w4 := (hts (.fieldLink RX6 93 "HandkerchiefsDroppedModel" "hours" "I") (List.mem_of_getElem? (i := 5) rfl))
  have w5 := (hts (.fieldLink RX6 19 "HandkerchiefsDroppedModel" "linens" "[I") (List.mem_of_getElem? (i := 3) rfl))
  have hN2 : ∀ (k28 : Nat → Int32 → mS → Option mS) (hk28 : ∀ (h0 : Nat) (x1 : Int32) (σ : mS), k28 h0 x1 σ = some z → ∀ (H : Heap) (locs : List Loc) (ls : Array Slot), mP G σ H → mL G locs → lv_has ls 2 [(0, .ref h0), (1, .int x1)] → W p l e rm_X6_keeps s m args below meth c H locs 0 0 Q (F0 m 28 ls [])) (n : Nat) (h0 : Nat) (x1 : Int32) (σ : mS), f_X6_keeps_2 k28 n h0 x1 σ = some z → ∀ (H : Heap) (locs : List Loc) (ls : Array Slot), mP G σ H → mL G locs → lv_has ls 2 [(0, .ref h0), (1, .int x1)] → W p l e rm_X6_keeps s m args below meth c H locs 0 0 Q (F0 m 2 ls []) := by
    intro k28 hk28 n
    induction n with
    | zero =>
      intro h0 x1 σ h
      exact nomatch (show (none : Option mS) = some z from h)
    | succ n ih =>
      intro h0 x1 σ h H locs ls hM hL hl
      rw [f_X6_keeps_2.eq_2] at h
      refine lv_iload_n hx hb dX6_keeps_2 rfl (lv_at hl 1 rfl) ?_
      refine lv_bipush hx hb dX6_keeps_3 kB_18 ?_
      refine lv_icmp_ge (tgt := 26) hx hb dX6_keeps_5 (by decide) (fun c19 => ?_) (fun c19 => ?_)
      · have h := (if_pos c19).symm.trans h
        refine lv_iconst hx hb dX6_keeps_26 kI_0 ?_
        refine lv_istore_n (lv' := [(1, .int (0 : Int32)), (0, .ref h0)]) hx hb dX6_keeps_27 rfl hl (by decide) rfl (fun ls hl => ?_)
        exact hk28 _ _ _ h _ _ _ hM hL (lv_sub hl [1, 0] rfl)
      · have h := (if_neg c19).symm.trans h
        refine lv_aload_n hx hb dX6_keeps_8 rfl (lv_at hl 0 rfl) ?_
        refine m_getR (ci := 5) hx hb hU6 hown hK hM rfl 33 (by decide) w1 h dX6_keeps_9 (fun r20 gr20 h => ?_)
        refine lv_iload_n hx hb dX6_keeps_12 rfl (lv_at hl 1 rfl) ?_
        refine lv_aload_n hx hb dX6_keeps_13 rfl (lv_at hl 0 rfl) ?_
        refine m_getR (ci := 5) hx hb hU6 hown hK hM rfl 3 (by decide) w2 h dX6_keeps_14 (fun r21 gr21 h => ?_)
        refine lv_iload_n hx hb dX6_keeps_17 rfl (lv_at hl 1 rfl) ?_
        refine m_iald hx hb hK hM h dX6_keeps_18 (fun v22 gv22 h => ?_)
        refine m_iast hx hb hK hM hL h dX6_keeps_19 (fun t23 H locs h hM hL => ?_)
        obtain ⟨v24, ev24⟩ : ∃ y : Int32, y = x1 + (1 : Int32) := ⟨_, rfl⟩
        have h := vl_at ev24 h
        refine lv_iinc (v := v24) (lv' := [(1, .int v24), (0, .ref h0)]) hx hb dX6_keeps_20 hl (k := 1) rfl (by rw [ev24, kI_1]) (by decide) rfl (fun ls hl => ?_)
        refine lv_goto (tgt := 2) hx hb dX6_keeps_23 (by decide) ?_
        exact ih _ _ _ h _ _ _ hM hL (lv_sub hl [1, 0] rfl)
  have hN28 : ∀ (n : Nat) (h0 : Nat) (x1 : Int32) (σ : mS), f_X6_keeps_28 n h0 x1 σ = some z → ∀ (H : Heap) (locs : List Loc) (ls : Array Slot), mP G σ H → mL G locs → lv_has ls 2 [(0, .ref h0), (1, .int x1)] → W p l e rm_X6_keeps s m args below meth c H locs 0 0 Q (F0 m 28 ls []) := by
    intro n
    induction n with
    | zero =>
      intro h0 x1 σ h
      exact nomatch (show (none : Option mS) = some z from h)
    | succ n ih =>
      intro h0 x1 σ h H locs ls hM hL hl
      rw [f_X6_keeps_28.eq_2] at h
      refine lv_iload_n hx hb dX6_keeps_28 rfl (lv_at hl 1 rfl) ?_
      refine lv_bipush hx hb dX6_keeps_29 kB_24 ?_
      refine lv_icmp_ge (tgt := 55) hx hb dX6_keeps_31 (by decide) (fun c25 => ?_) (fun c25 => ?_)
      · have h := (if_pos c25).symm.trans h
        refine lv_aload_n hx hb dX6_keeps_55 rfl (lv_at hl 0 rfl) ?_
        refine m_getR (ci := 5) hx hb hU6 hown hK hM rfl 33 (by decide) w1 h dX6_keeps_56 (fun r26 gr26 h => ?_)
        refine lv_bipush hx hb dX6_keeps_59 kB_42 ?_
        refine lv_aload_n hx hb dX6_keeps_61 rfl (lv_at hl 0 rfl) ?_
        refine m_getI (ci := 5) hx hb hU6 hown hK hM rfl 7 (by decide) w3 h dX6_keeps_62 (fun v27 gv27 h => ?_)
        refine m_iast hx hb hK hM hL h dX6_keeps_65 (fun t28 H locs h hM hL => ?_)
        refine lv_aload_n hx hb dX6_keeps_66 rfl (lv_at hl 0 rfl) ?_
        refine m_getR (ci := 5) hx hb hU6 hown hK hM rfl 33 (by decide) w1 h dX6_keeps_67 (fun r29 gr29 h => ?_)
        refine lv_bipush hx hb dX6_keeps_70 kB_43 ?_
        refine lv_aload_n hx hb dX6_keeps_72 rfl (lv_at hl 0 rfl) ?_
        refine m_getI (ci := 5) hx hb hU6 hown hK hM rfl 8 (by decide) w4 h dX6_keeps_73 (fun v30 gv30 h => ?_)
        refine m_iast hx hb hK hM hL h dX6_keeps_76 (fun t31 H locs h hM hL => ?_)
        subst hQ
        cases h
        exact m_vret hx hb hr hM hL dX6_keeps_77 hlocks
      · have h := (if_neg c25).symm.trans h
        refine lv_aload_n hx hb dX6_keeps_34 rfl (lv_at hl 0 rfl) ?_
        refine m_getR (ci := 5) hx hb hU6 hown hK hM rfl 33 (by decide) w1 h dX6_keeps_35 (fun r32 gr32 h => ?_)
        refine lv_bipush hx hb dX6_keeps_38 kB_18 ?_
        refine lv_iload_n hx hb dX6_keeps_40 rfl (lv_at hl 1 rfl) ?_
        refine lv_iadd hx hb dX6_keeps_41 ?_
        refine lv_aload_n hx hb dX6_keeps_42 rfl (lv_at hl 0 rfl) ?_
        refine m_getR (ci := 5) hx hb hU6 hown hK hM rfl 4 (by decide) w5 h dX6_keeps_43 (fun r33 gr33 h => ?_)
        refine lv_iload_n hx hb dX6_keeps_46 rfl (lv_at hl 1 rfl) ?_
        refine m_iald hx hb hK hM h dX6_keeps_47 (fun v34 gv34 h => ?_)
        refine m_iast hx hb hK hM hL h dX6_keeps_48 (fun t35 H locs h hM hL => ?_)
        obtain ⟨v36, ev36⟩ : ∃ y : Int32, y = x1 + (1 : Int32) := ⟨_, rfl⟩
        have h := vl_at ev36 h
        refine lv_iinc (v := v36) (lv' := [(1, .int v36), (0, .ref h0)]) hx hb dX6_keeps_49 hl (k := 1) rfl (by rw [ev36, kI_1]) (by decide) rfl (fun ls hl => ?_)
        refine lv_goto (tgt := 28) hx hb dX6_keeps_52 (by decide) ?_
        exact ih _ _ _ h _ _ _ hM hL (lv_sub hl [1, 0] rfl)
  rw [f_X6_keeps.eq_1] at h
  refine lv_iconst hx hb dX6_keeps_0 kI_0 ?_
  refine lv_istore_n (lv' := [(1, .int (0 : Int32)), (0, .ref h0)]) hx hb dX6_keeps_1 rfl hl (by decide) rfl (fun ls hl => ?_)
  refine hN2 _ (fun _ _ _ h H locs ls hM hL hl => hN28 _ _ _ _ h H locs ls hM hL hl) _ _ _ _ h _ _ _ hM hL (lv_sub hl [1, 0] rfl)
abbrev rm_X6_lays : Room := { frames := 0, cells := 0, slots := 0, locals := 0 }
set_option maxHeartbeats 4000000 in
set_option maxRecDepth 100000 in
theorem c_X6_lays (l : Launch) (G : mG) {h0 : Nat} {σ : mS} {z : mS} (h : f_X6_lays h0 σ = some z) : Met l yX6_lays wsX6_lays rm_X6_lays (va_Pc [.ref h0] (mB G σ)) (mQ G (.returned none) z) 0 0 (mF G) := by
  refine m_start (cc := cX6_lays) (maxL := 2) (ret := none) (by decide) rfl [.ref h0] (Nat.le_of_ble_eq_true rfl) ?_
  intro p e s m args below meth c ls hx hb hr hml hown hts hlocks hnm hK hM hl
  have hown : s.vm.findClass RX6 = some m.cls := hown
  have hnm : meth.name = "lays" := hnm
  obtain ⟨locs, hlocs⟩ : ∃ l : List Loc, l = [] := ⟨_, rfl⟩
  have hL : mL G locs := by rw [hlocs]; exact mL_nil G
  rw [← hlocs]
  generalize s.heap = H at hM ⊢
  have hl : lv_has ls 2 [(0, .ref h0)] := hl
  obtain ⟨Q, hQ⟩ : ∃ Q, Q = MQ below (mQ G (.returned none) z) args s 0 0 (mF G) := ⟨_, rfl⟩
  rw [← hQ]
  have hU6 : ∀ w ∈ wsX60, w.before args s = true := fun w h => hts w (List.mem_cons_of_mem _ (List.mem_append_right _ h))
  have w1 := (hts (.fieldLink RX6 16 "HandkerchiefsDroppedModel" "rows" "[I") (List.mem_of_getElem? (i := 1) rfl))
  have w2 := (hts (.fieldLink RX6 67 "HandkerchiefsDroppedModel" "kept" "[I") (List.mem_of_getElem? (i := 2) rfl))
  have w3 := (hts (.fieldLink RX6 109 "HandkerchiefsDroppedModel" "admitted" "I") (List.mem_of_getElem? (i := 4) rfl))
  have w4 := (hts (.fieldLink RX6 93 "HandkerchiefsDroppedModel" "hours" "I") (List.mem_of_getElem? (i := 5) rfl))
  have w5 := (hts (.fieldLink RX6 19 "HandkerchiefsDroppedModel" "linens" "[I") (List.mem_of_getElem? (i := 3) rfl))
  have hN2 : ∀ (k28 : Nat → Int32 → mS → Option mS) (hk28 : ∀ (h0 : Nat) (x1 : Int32) (σ : mS), k28 h0 x1 σ = some z → ∀ (H : Heap) (locs : List Loc) (ls : Array Slot), mP G σ H → mL G locs → lv_has ls 2 [(0, .ref h0), (1, .int x1)] → W p l e rm_X6_lays s m args below meth c H locs 0 0 Q (F0 m 28 ls [])) (n : Nat) (h0 : Nat) (x1 : Int32) (σ : mS), f_X6_lays_2 k28 n h0 x1 σ = some z → ∀ (H : Heap) (locs : List Loc) (ls : Array Slot), mP G σ H → mL G locs → lv_has ls 2 [(0, .ref h0), (1, .int x1)] → W p l e rm_X6_lays s m args below meth c H locs 0 0 Q (F0 m 2 ls []) := by
    intro k28 hk28 n
    induction n with
    | zero =>
      intro h0 x1 σ h
      exact nomatch (show (none : Option mS) = some z from h)
    | succ n ih =>
      intro h0 x1 σ h H locs ls hM hL hl
      rw [f_X6_lays_2.eq_2] at h
      refine lv_iload_n hx hb dX6_lays_2 rfl (lv_at hl 1 rfl) ?_
      refine lv_bipush hx hb dX6_lays_3 kB_18 ?_
      refine lv_icmp_ge (tgt := 26) hx hb dX6_lays_5 (by decide) (fun c19 => ?_) (fun c19 => ?_)
      · have h := (if_pos c19).symm.trans h
        refine lv_iconst hx hb dX6_lays_26 kI_0 ?_
        refine lv_istore_n (lv' := [(1, .int (0 : Int32)), (0, .ref h0)]) hx hb dX6_lays_27 rfl hl (by decide) rfl (fun ls hl => ?_)
        exact hk28 _ _ _ h _ _ _ hM hL (lv_sub hl [1, 0] rfl)
      · have h := (if_neg c19).symm.trans h
        refine lv_aload_n hx hb dX6_lays_8 rfl (lv_at hl 0 rfl) ?_
        refine m_getR (ci := 5) hx hb hU6 hown hK hM rfl 3 (by decide) w1 h dX6_lays_9 (fun r20 gr20 h => ?_)
        refine lv_iload_n hx hb dX6_lays_12 rfl (lv_at hl 1 rfl) ?_
        refine lv_aload_n hx hb dX6_lays_13 rfl (lv_at hl 0 rfl) ?_
        refine m_getR (ci := 5) hx hb hU6 hown hK hM rfl 33 (by decide) w2 h dX6_lays_14 (fun r21 gr21 h => ?_)
        refine lv_iload_n hx hb dX6_lays_17 rfl (lv_at hl 1 rfl) ?_
        refine m_iald hx hb hK hM h dX6_lays_18 (fun v22 gv22 h => ?_)
        refine m_iast hx hb hK hM hL h dX6_lays_19 (fun t23 H locs h hM hL => ?_)
        obtain ⟨v24, ev24⟩ : ∃ y : Int32, y = x1 + (1 : Int32) := ⟨_, rfl⟩
        have h := vl_at ev24 h
        refine lv_iinc (v := v24) (lv' := [(1, .int v24), (0, .ref h0)]) hx hb dX6_lays_20 hl (k := 1) rfl (by rw [ev24, kI_1]) (by decide) rfl (fun ls hl => ?_)
        refine lv_goto (tgt := 2) hx hb dX6_lays_23 (by decide) ?_
        exact ih _ _ _ h _ _ _ hM hL (lv_sub hl [1, 0] rfl)
  have hN28 : ∀ (n : Nat) (h0 : Nat) (x1 : Int32) (σ : mS), f_X6_lays_28 n h0 x1 σ = some z → ∀ (H : Heap) (locs : List Loc) (ls : Array Slot), mP G σ H → mL G locs → lv_has ls 2 [(0, .ref h0), (1, .int x1)] → W p l e rm_X6_lays s m args below meth c H locs 0 0 Q (F0 m 28 ls []) := by
    intro n
    induction n with
    | zero =>
      intro h0 x1 σ h
      exact nomatch (show (none : Option mS) = some z from h)
    | succ n ih =>
      intro h0 x1 σ h H locs ls hM hL hl
      rw [f_X6_lays_28.eq_2] at h
      refine lv_iload_n hx hb dX6_lays_28 rfl (lv_at hl 1 rfl) ?_
      refine lv_bipush hx hb dX6_lays_29 kB_24 ?_
      refine lv_icmp_ge (tgt := 55) hx hb dX6_lays_31 (by decide) (fun c25 => ?_) (fun c25 => ?_)
      · have h := (if_pos c25).symm.trans h
        refine lv_aload_n hx hb dX6_lays_55 rfl (lv_at hl 0 rfl) ?_
        refine lv_aload_n hx hb dX6_lays_56 rfl (lv_at hl 0 rfl) ?_
        refine m_getR (ci := 5) hx hb hU6 hown hK hM rfl 33 (by decide) w2 h dX6_lays_57 (fun r26 gr26 h => ?_)
        refine lv_bipush hx hb dX6_lays_60 kB_42 ?_
        refine m_iald hx hb hK hM h dX6_lays_62 (fun v27 gv27 h => ?_)
        refine m_put (ci := 5) hx hb hU6 tyX6 tyX6_ok nmX6 hown hK hM hL rfl 7 (by decide) w3 rfl rfl rfl h dX6_lays_63 (fun t28 H locs h hM hL => ?_)
        refine lv_aload_n hx hb dX6_lays_66 rfl (lv_at hl 0 rfl) ?_
        refine lv_aload_n hx hb dX6_lays_67 rfl (lv_at hl 0 rfl) ?_
        refine m_getR (ci := 5) hx hb hU6 hown hK hM rfl 33 (by decide) w2 h dX6_lays_68 (fun r29 gr29 h => ?_)
        refine lv_bipush hx hb dX6_lays_71 kB_43 ?_
        refine m_iald hx hb hK hM h dX6_lays_73 (fun v30 gv30 h => ?_)
        refine m_put (ci := 5) hx hb hU6 tyX6 tyX6_ok nmX6 hown hK hM hL rfl 8 (by decide) w4 rfl rfl rfl h dX6_lays_74 (fun t31 H locs h hM hL => ?_)
        subst hQ
        cases h
        exact m_vret hx hb hr hM hL dX6_lays_77 hlocks
      · have h := (if_neg c25).symm.trans h
        refine lv_aload_n hx hb dX6_lays_34 rfl (lv_at hl 0 rfl) ?_
        refine m_getR (ci := 5) hx hb hU6 hown hK hM rfl 4 (by decide) w5 h dX6_lays_35 (fun r32 gr32 h => ?_)
        refine lv_iload_n hx hb dX6_lays_38 rfl (lv_at hl 1 rfl) ?_
        refine lv_aload_n hx hb dX6_lays_39 rfl (lv_at hl 0 rfl) ?_
        refine m_getR (ci := 5) hx hb hU6 hown hK hM rfl 33 (by decide) w2 h dX6_lays_40 (fun r33 gr33 h => ?_)
        refine lv_bipush hx hb dX6_lays_43 kB_18 ?_
        refine lv_iload_n hx hb dX6_lays_45 rfl (lv_at hl 1 rfl) ?_
        refine lv_iadd hx hb dX6_lays_46 ?_
        refine m_iald hx hb hK hM h dX6_lays_47 (fun v34 gv34 h => ?_)
        refine m_iast hx hb hK hM hL h dX6_lays_48 (fun t35 H locs h hM hL => ?_)
        obtain ⟨v36, ev36⟩ : ∃ y : Int32, y = x1 + (1 : Int32) := ⟨_, rfl⟩
        have h := vl_at ev36 h
        refine lv_iinc (v := v36) (lv' := [(1, .int v36), (0, .ref h0)]) hx hb dX6_lays_49 hl (k := 1) rfl (by rw [ev36, kI_1]) (by decide) rfl (fun ls hl => ?_)
        refine lv_goto (tgt := 28) hx hb dX6_lays_52 (by decide) ?_
        exact ih _ _ _ h _ _ _ hM hL (lv_sub hl [1, 0] rfl)
  rw [f_X6_lays.eq_1] at h
  refine lv_iconst hx hb dX6_lays_0 kI_0 ?_
  refine lv_istore_n (lv' := [(1, .int (0 : Int32)), (0, .ref h0)]) hx hb dX6_lays_1 rfl hl (by decide) rfl (fun ls hl => ?_)
  refine hN2 _ (fun _ _ _ h H locs ls hM hL hl => hN28 _ _ _ _ h H locs ls hM hL hl) _ _ _ _ h _ _ _ hM hL (lv_sub hl [1, 0] rfl)
abbrev rm_X6_goes : Room := { frames := 7, cells := 0, slots := 0, locals := 157 }
set_option maxHeartbeats 4000000 in
set_option maxRecDepth 100000 in
theorem c_X6_goes (l : Launch) (G : mG) {h0 : Nat} {x1 : Int32} {σ : mS} {z : mS} (h : f_X6_goes h0 x1 σ = some z) : Met l yX6_goes wsX6_goes rm_X6_goes (va_Pc [.ref h0, .int x1] (mB G σ)) (mQ G (.returned none) z) 0 0 (mF G) := by
  refine m_start (cc := cX6_goes) (maxL := 3) (ret := none) (by decide) rfl [.ref h0, .int x1] (Nat.le_of_ble_eq_true rfl) ?_
  intro p e s m args below meth c ls hx hb hr hml hown hts hlocks hnm hK hM hl
  have hown : s.vm.findClass RX6 = some m.cls := hown
  have hnm : meth.name = "goes" := hnm
  obtain ⟨locs, hlocs⟩ : ∃ l : List Loc, l = [] := ⟨_, rfl⟩
  have hL : mL G locs := by rw [hlocs]; exact mL_nil G
  rw [← hlocs]
  generalize s.heap = H at hM ⊢
  have hl : lv_has ls 3 [(0, .ref h0), (1, .int x1)] := hl
  obtain ⟨Q, hQ⟩ : ∃ Q, Q = MQ below (mQ G (.returned none) z) args s 0 0 (mF G) := ⟨_, rfl⟩
  rw [← hQ]
  have hN2 : ∀ (n : Nat) (h0 : Nat) (x1 : Int32) (x2 : Int32) (σ : mS), f_X6_goes_2 n h0 x1 x2 σ = some z → ∀ (H : Heap) (locs : List Loc) (ls : Array Slot), mP G σ H → mL G locs → lv_has ls 3 [(0, .ref h0), (1, .int x1), (2, .int x2)] → W p l e rm_X6_goes s m args below meth c H locs 0 0 Q (F0 m 2 ls []) := by
    intro n
    induction n with
    | zero =>
      intro h0 x1 x2 σ h
      exact nomatch (show (none : Option mS) = some z from h)
    | succ n ih =>
      intro h0 x1 x2 σ h H locs ls hM hL hl
      rw [f_X6_goes_2.eq_2] at h
      refine lv_iload_n hx hb dX6_goes_2 rfl (lv_at hl 2 rfl) ?_
      refine lv_iload_n hx hb dX6_goes_3 rfl (lv_at hl 1 rfl) ?_
      refine lv_icmp_ge (tgt := 18) hx hb dX6_goes_4 (by decide) (fun c5 => ?_) (fun c5 => ?_)
      · have h := (if_pos c5).symm.trans h
        subst hQ
        cases h
        exact m_vret hx hb hr hM hL dX6_goes_18 hlocks
      · have h := (if_neg c5).symm.trans h
        refine lv_aload_n hx hb dX6_goes_7 rfl (lv_at hl 0 rfl) ?_
        obtain ⟨o6, h⟩ := oi_some h
        obtain ⟨q7, hq7, h⟩ := ob_some h
        refine m_calli (va_runV (As := []) (rest := []) ⟨hx, hb, hml, hown, hts⟩ (c_X6_hourOf l G hq7) (cwV 0 hts gX6_goes_X6_hourOf rfl rfl rfl hd_X6_hourOfv ⟨Nat.le_of_ble_eq_true rfl, Nat.le_of_ble_eq_true rfl⟩) (m_preV (ci := 5) hK hM rfl o6) rfl rfl hl.1 rfl (lv_room (Nat.le_of_ble_eq_true rfl)) dX6_goes_8 ⟨Nat.le_of_ble_eq_true rfl, Nat.le_of_ble_eq_true rfl⟩) hL (fun H locs hM hL => ?_)
        refine lv_pop hx hb dX6_goes_11 rfl ?_
        obtain ⟨v8, ev8⟩ : ∃ y : Int32, y = x2 + (1 : Int32) := ⟨_, rfl⟩
        have h := vl_at ev8 h
        refine lv_iinc (v := v8) (lv' := [(2, .int v8), (0, .ref h0), (1, .int x1)]) hx hb dX6_goes_12 hl (k := 2) rfl (by rw [ev8, kI_1]) (by decide) rfl (fun ls hl => ?_)
        refine lv_goto (tgt := 2) hx hb dX6_goes_15 (by decide) ?_
        exact ih _ _ _ _ h _ _ _ hM hL (lv_sub hl [1, 2, 0] rfl)
  rw [f_X6_goes.eq_1] at h
  refine lv_iconst hx hb dX6_goes_0 kI_0 ?_
  refine lv_istore_n (lv' := [(2, .int (0 : Int32)), (0, .ref h0), (1, .int x1)]) hx hb dX6_goes_1 rfl hl (by decide) rfl (fun ls hl => ?_)
  refine hN2 _ _ _ _ _ h _ _ _ hM hL (lv_sub hl [1, 2, 0] rfl)
abbrev rm_X6_run : Room := { frames := 8, cells := 0, slots := 0, locals := 179 }
set_option maxHeartbeats 4000000 in
set_option maxRecDepth 100000 in
theorem c_X6_run (l : Launch) (G : mG) {h0 : Nat} {x1 : Int32} {x2 : Int32} {σ : mS} {z : Int32 × mS} (h : f_X6_run h0 x1 x2 σ = some z) : Met l yX6_run wsX6_run rm_X6_run (va_Pc [.ref h0, .int x1, .int x2] (mB G σ)) (mQ G (.returned (some (.int z.1))) z.2) 0 0 (mF G) := by
  refine m_start (cc := cX6_run) (maxL := 4) (ret := (some .int)) (by decide) rfl [.ref h0, .int x1, .int x2] (Nat.le_of_ble_eq_true rfl) ?_
  intro p e s m args below meth c ls hx hb hr hml hown hts hlocks hnm hK hM hl
  have hown : s.vm.findClass RX6 = some m.cls := hown
  have hnm : meth.name = "run" := hnm
  obtain ⟨locs, hlocs⟩ : ∃ l : List Loc, l = [] := ⟨_, rfl⟩
  have hL : mL G locs := by rw [hlocs]; exact mL_nil G
  rw [← hlocs]
  generalize s.heap = H at hM ⊢
  have hl : lv_has ls 4 [(0, .ref h0), (1, .int x1), (2, .int x2)] := hl
  obtain ⟨Q, hQ⟩ : ∃ Q, Q = MQ below (mQ G (.returned (some (.int z.1))) z.2) args s 0 0 (mF G) := ⟨_, rfl⟩
  rw [← hQ]
  have hU6 : ∀ w ∈ wsX60, w.before args s = true := fun w h => hts w (List.mem_cons_of_mem _ (List.mem_append_right _ h))
  have w1 := (hts (.fieldLink RX6 78 "HandkerchiefsDroppedModel" "witnesses" "I") (List.mem_of_getElem? (i := 1) rfl))
  have w2 := (hts (.fieldLink RX6 16 "HandkerchiefsDroppedModel" "rows" "[I") (List.mem_of_getElem? (i := 3) rfl))
  have w3 := (hts (.fieldLink RX6 109 "HandkerchiefsDroppedModel" "admitted" "I") (List.mem_of_getElem? (i := 2) rfl))
  have hN104 : ∀ (h0 : Nat) (x3 : Int32) (σ : mS), f_X6_run_104 h0 x3 σ = some z → ∀ (H : Heap) (locs : List Loc) (ls : Array Slot), mP G σ H → mL G locs → lv_has ls 4 [(0, .ref h0), (3, .int x3)] → W p l e rm_X6_run s m args below meth c H locs 0 0 Q (F0 m 104 ls []) := by
    intro h0 x3 σ h H locs ls hM hL hl
    rw [f_X6_run_104.eq_1] at h
    refine lv_aload_n hx hb dX6_run_104 rfl (lv_at hl 0 rfl) ?_
    obtain ⟨o22, h⟩ := oi_some h
    obtain ⟨q23, hq23, h⟩ := ob_some h
    refine m_callv (va_runV (As := []) (rest := []) ⟨hx, hb, hml, hown, hts⟩ (c_X6_lays l G hq23) (cwV 0 hts gX6_run_X6_lays rfl rfl rfl hd_X6_laysv ⟨Nat.le_of_ble_eq_true rfl, Nat.le_of_ble_eq_true rfl⟩) (m_preV (ci := 5) hK hM rfl o22) rfl rfl hl.1 rfl (lv_room (Nat.le_of_ble_eq_true rfl)) dX6_run_105 ⟨Nat.le_of_ble_eq_true rfl, Nat.le_of_ble_eq_true rfl⟩) hL (fun H locs hM hL => ?_)
    refine lv_iload_n hx hb dX6_run_108 rfl (lv_at hl 1 rfl) ?_
    subst hQ
    have h := Option.some.inj h
    subst h
    exact m_iret hx hb hr hM hL dX6_run_109 hlocks
  have hN86 : ∀ (h0 : Nat) (s0 : Int32) (σ : mS), f_X6_run_86 h0 s0 σ = some z → ∀ (H : Heap) (locs : List Loc) (ls : Array Slot), mP G σ H → mL G locs → lv_has ls 4 [(0, .ref h0)] → W p l e rm_X6_run s m args below meth c H locs 0 0 Q (F0 m 86 ls [.int s0]) := by
    intro h0 s0 σ h H locs ls hM hL hl
    rw [f_X6_run_86.eq_1] at h
    refine lv_istore_n (lv' := [(3, .int s0), (0, .ref h0)]) hx hb dX6_run_86 rfl hl (by decide) rfl (fun ls hl => ?_)
    refine lv_goto (tgt := 104) hx hb dX6_run_87 (by decide) ?_
    refine hN104 _ _ _ h _ _ _ hM hL (lv_sub hl [1, 0] rfl)
  have hN39 : ∀ (h0 : Nat) (x1 : Int32) (x2 : Int32) (σ : mS), f_X6_run_39 h0 x1 x2 σ = some z → ∀ (H : Heap) (locs : List Loc) (ls : Array Slot), mP G σ H → mL G locs → lv_has ls 4 [(0, .ref h0), (1, .int x1), (2, .int x2)] → W p l e rm_X6_run s m args below meth c H locs 0 0 Q (F0 m 39 ls []) := by
    intro h0 x1 x2 σ h H locs ls hM hL hl
    rw [f_X6_run_39.eq_1] at h
    refine lv_aload_n hx hb dX6_run_39 rfl (lv_at hl 0 rfl) ?_
    obtain ⟨o24, h⟩ := oi_some h
    obtain ⟨q25, hq25, h⟩ := ob_some h
    refine m_callv (va_runV (As := []) (rest := []) ⟨hx, hb, hml, hown, hts⟩ (c_X6_keeps l G hq25) (cwV 0 hts gX6_run_X6_keeps rfl rfl rfl hd_X6_keepsv ⟨Nat.le_of_ble_eq_true rfl, Nat.le_of_ble_eq_true rfl⟩) (m_preV (ci := 5) hK hM rfl o24) rfl rfl hl.1 rfl (lv_room (Nat.le_of_ble_eq_true rfl)) dX6_run_40 ⟨Nat.le_of_ble_eq_true rfl, Nat.le_of_ble_eq_true rfl⟩) hL (fun H locs hM hL => ?_)
    refine lv_aload_n hx hb dX6_run_43 rfl (lv_at hl 0 rfl) ?_
    refine lv_iload_n hx hb dX6_run_44 rfl (lv_at hl 1 rfl) ?_
    obtain ⟨o26, h⟩ := oi_some h
    obtain ⟨q27, hq27, h⟩ := ob_some h
    refine m_callv (va_runV (As := [.int x1]) (rest := []) ⟨hx, hb, hml, hown, hts⟩ (c_X6_goes l G hq27) (cwV 1 hts gX6_run_X6_goes rfl rfl rfl hd_X6_goesv ⟨Nat.le_of_ble_eq_true rfl, Nat.le_of_ble_eq_true rfl⟩) (m_preV (ci := 5) hK hM rfl o26) rfl rfl hl.1 rfl (lv_room (Nat.le_of_ble_eq_true rfl)) dX6_run_45 ⟨Nat.le_of_ble_eq_true rfl, Nat.le_of_ble_eq_true rfl⟩) hL (fun H locs hM hL => ?_)
    refine lv_iconst hx hb dX6_run_48 kI_0 ?_
    refine lv_istore_n (lv' := [(3, .int (0 : Int32)), (0, .ref h0), (1, .int x1), (2, .int x2)]) hx hb dX6_run_49 rfl hl (by decide) rfl (fun ls hl => ?_)
    refine lv_iload_n hx hb dX6_run_50 rfl (lv_at hl 3 rfl) ?_
    refine lv_iconst hx hb dX6_run_51 kI_3 ?_
    refine lv_icmp_ge (tgt := 90) hx hb dX6_run_52 (by decide) (fun c28 => ?_) (fun c28 => ?_)
    · have h := (if_pos c28).symm.trans h
      refine lv_aload_n hx hb dX6_run_90 rfl (lv_at hl 1 rfl) ?_
      refine m_getR (ci := 5) hx hb hU6 hown hK hM rfl 3 (by decide) w2 h dX6_run_91 (fun r29 gr29 h => ?_)
      refine lv_iconst hx hb dX6_run_94 kI_3 ?_
      refine lv_iload_n hx hb dX6_run_95 rfl (lv_at hl 3 rfl) ?_
      refine lv_bipush hx hb dX6_run_96 kB_10 ?_
      refine lv_isub hx hb dX6_run_98 ?_
      refine lv_imul hx hb dX6_run_99 ?_
      refine lv_iconst hx hb dX6_run_100 kI_2 ?_
      refine lv_iadd hx hb dX6_run_101 ?_
      refine m_iald hx hb hK hM h dX6_run_102 (fun v30 gv30 h => ?_)
      refine lv_istore_n (lv' := [(3, .int v30), (0, .ref h0), (1, .int x1), (2, .int x2)]) hx hb dX6_run_103 rfl hl (by decide) rfl (fun ls hl => ?_)
      refine hN104 _ _ _ h _ _ _ hM hL (lv_sub hl [1, 0] rfl)
    · have h := (if_neg c28).symm.trans h
      refine lv_iload_n hx hb dX6_run_55 rfl (lv_at hl 3 rfl) ?_
      refine lv_if_ne (tgt := 66) hx hb dX6_run_56 (by decide) (fun c31 => ?_) (fun c31 => ?_)
      · have h := (if_neg c31).symm.trans h
        refine lv_iload_n hx hb dX6_run_66 rfl (lv_at hl 3 rfl) ?_
        refine lv_iconst hx hb dX6_run_67 kI_1 ?_
        refine lv_icmp_ne (tgt := 82) hx hb dX6_run_68 (by decide) (fun c32 => ?_) (fun c32 => ?_)
        · have h := (if_neg c32).symm.trans h
          refine lv_aload_n hx hb dX6_run_82 rfl (lv_at hl 1 rfl) ?_
          obtain ⟨o33, h⟩ := oi_some h
          obtain ⟨q34, hq34, h⟩ := ob_some h
          refine m_calli (va_runV (As := []) (rest := []) ⟨hx, hb, hml, hown, hts⟩ (c_X6_lying l G hq34) (cwV 0 hts gX6_run_X6_lying rfl rfl rfl hd_X6_lyingv ⟨Nat.le_of_ble_eq_true rfl, Nat.le_of_ble_eq_true rfl⟩) (m_preV (ci := 5) hK hM rfl o33) rfl rfl hl.1 rfl (lv_room (Nat.le_of_ble_eq_true rfl)) dX6_run_83 ⟨Nat.le_of_ble_eq_true rfl, Nat.le_of_ble_eq_true rfl⟩) hL (fun H locs hM hL => ?_)
          refine hN86 _ _ _ h _ _ _ hM hL (lv_sub hl [1] rfl)
        · have h := (if_pos c32).symm.trans h
          refine lv_aload_n hx hb dX6_run_71 rfl (lv_at hl 1 rfl) ?_
          refine lv_aload_n hx hb dX6_run_72 rfl (lv_at hl 1 rfl) ?_
          refine m_getI (ci := 5) hx hb hU6 hown hK hM rfl 7 (by decide) w3 h dX6_run_73 (fun v35 gv35 h => ?_)
          obtain ⟨o36, h⟩ := oi_some h
          obtain ⟨q37, hq37, h⟩ := ob_some h
          refine m_calli (va_runV (As := [.int v35]) (rest := []) ⟨hx, hb, hml, hown, hts⟩ (c_X6_verdictOf l G hq37) (cwV 1 hts gX6_run_X6_verdictOf rfl rfl rfl hd_X6_verdictOfv ⟨Nat.le_of_ble_eq_true rfl, Nat.le_of_ble_eq_true rfl⟩) (m_preV (ci := 5) hK hM rfl o36) rfl rfl hl.1 rfl (lv_room (Nat.le_of_ble_eq_true rfl)) dX6_run_76 ⟨Nat.le_of_ble_eq_true rfl, Nat.le_of_ble_eq_true rfl⟩) hL (fun H locs hM hL => ?_)
          refine lv_goto (tgt := 86) hx hb dX6_run_79 (by decide) ?_
          refine hN86 _ _ _ h _ _ _ hM hL (lv_sub hl [1] rfl)
      · have h := (if_pos c31).symm.trans h
        refine lv_aload_n hx hb dX6_run_59 rfl (lv_at hl 1 rfl) ?_
        refine m_getI (ci := 5) hx hb hU6 hown hK hM rfl 7 (by decide) w3 h dX6_run_60 (fun v38 gv38 h => ?_)
        refine lv_goto (tgt := 86) hx hb dX6_run_63 (by decide) ?_
        refine hN86 _ _ _ h _ _ _ hM hL (lv_sub hl [1] rfl)
  rw [f_X6_run.eq_1] at h
  refine lv_iload_n hx hb dX6_run_0 rfl (lv_at hl 1 rfl) ?_
  refine lv_iconst hx hb dX6_run_1 kI_0 ?_
  refine lv_bipush hx hb dX6_run_2 kB_40 ?_
  refine m_calli (va_runS (As := [.int x1, .int (0 : Int32), .int (40 : Int32)]) (rest := []) ⟨hx, hb, hml, hown, hts⟩ (c_X6_in l G x1 (0 : Int32) (40 : Int32)) (va_cwS 3 hts gX6_run_X6_in rfl rfl rfl hd_X6_in ⟨Nat.le_of_ble_eq_true rfl, Nat.le_of_ble_eq_true rfl⟩) (m_preS hK hM) rfl rfl hl.1 rfl (lv_room (Nat.le_of_ble_eq_true rfl)) dX6_run_4 ⟨Nat.le_of_ble_eq_true rfl, Nat.le_of_ble_eq_true rfl⟩) hL (fun H locs hM hL => ?_)
  refine lv_if_eq (tgt := 35) hx hb dX6_run_7 (by decide) (fun c39 => ?_) (fun c39 => ?_)
  · have h := (if_pos c39).symm.trans h
    refine lv_sipush hx hb dX6_run_35 kS_m5000 ?_
    subst hQ
    have h := Option.some.inj h
    subst h
    exact m_iret hx hb hr hM hL dX6_run_38 hlocks
  · have h := (if_neg c39).symm.trans h
    refine lv_iload_n hx hb dX6_run_10 rfl (lv_at hl 2 rfl) ?_
    refine lv_iconst hx hb dX6_run_11 kI_0 ?_
    refine lv_iconst hx hb dX6_run_12 kI_2 ?_
    refine m_calli (va_runS (As := [.int x2, .int (0 : Int32), .int (2 : Int32)]) (rest := []) ⟨hx, hb, hml, hown, hts⟩ (c_X6_in l G x2 (0 : Int32) (2 : Int32)) (va_cwS 3 hts gX6_run_X6_in rfl rfl rfl hd_X6_in ⟨Nat.le_of_ble_eq_true rfl, Nat.le_of_ble_eq_true rfl⟩) (m_preS hK hM) rfl rfl hl.1 rfl (lv_room (Nat.le_of_ble_eq_true rfl)) dX6_run_13 ⟨Nat.le_of_ble_eq_true rfl, Nat.le_of_ble_eq_true rfl⟩) hL (fun H locs hM hL => ?_)
    refine lv_if_ne (tgt := 39) hx hb dX6_run_16 (by decide) (fun c40 => ?_) (fun c40 => ?_)
    · have h := (if_neg c40).symm.trans h
      refine hN39 _ _ _ _ h _ _ _ hM hL (lv_sub hl [0, 1, 2] rfl)
    · have h := (if_pos c40).symm.trans h
      refine lv_iload_n hx hb dX6_run_19 rfl (lv_at hl 2 rfl) ?_
      refine lv_bipush hx hb dX6_run_20 kB_10 ?_
      refine lv_bipush hx hb dX6_run_22 kB_9 ?_
      refine lv_aload_n hx hb dX6_run_24 rfl (lv_at hl 0 rfl) ?_
      refine m_getI (ci := 5) hx hb hU6 hown hK hM rfl 0 (by decide) w1 h dX6_run_25 (fun v41 gv41 h => ?_)
      refine lv_iadd hx hb dX6_run_28 ?_
      refine m_calli (va_runS (As := [.int x2, .int (10 : Int32), .int ((9 : Int32) + v41)]) (rest := []) ⟨hx, hb, hml, hown, hts⟩ (c_X6_in l G x2 (10 : Int32) ((9 : Int32) + v41)) (va_cwS 3 hts gX6_run_X6_in rfl rfl rfl hd_X6_in ⟨Nat.le_of_ble_eq_true rfl, Nat.le_of_ble_eq_true rfl⟩) (m_preS hK hM) rfl rfl hl.1 rfl (lv_room (Nat.le_of_ble_eq_true rfl)) dX6_run_29 ⟨Nat.le_of_ble_eq_true rfl, Nat.le_of_ble_eq_true rfl⟩) hL (fun H locs hM hL => ?_)
      refine lv_if_ne (tgt := 39) hx hb dX6_run_32 (by decide) (fun c42 => ?_) (fun c42 => ?_)
      · have h := (if_neg c42).symm.trans h
        refine hN39 _ _ _ _ h _ _ _ hM hL (lv_sub hl [0, 1, 2] rfl)
      · have h := (if_pos c42).symm.trans h
        refine lv_sipush hx hb dX6_run_35 kS_m5000 ?_
        subst hQ
        have h := Option.some.inj h
        subst h
        exact m_iret hx hb hr hM hL dX6_run_38 hlocks
abbrev rm_X6_when : Room := { frames := 7, cells := 0, slots := 0, locals := 157 }
set_option maxHeartbeats 4000000 in
set_option maxRecDepth 100000 in
theorem c_X6_when (l : Launch) (G : mG) {h0 : Nat} {x1 : Int32} {σ : mS} {z : Int32 × mS} (h : f_X6_when h0 x1 σ = some z) : Met l yX6_when wsX6_when rm_X6_when (va_Pc [.ref h0, .int x1] (mB G σ)) (mQ G (.returned (some (.int z.1))) z.2) 0 0 (mF G) := by
  refine m_start (cc := cX6_when) (maxL := 5) (ret := (some .int)) (by decide) rfl [.ref h0, .int x1] (Nat.le_of_ble_eq_true rfl) ?_
  intro p e s m args below meth c ls hx hb hr hml hown hts hlocks hnm hK hM hl
  have hown : s.vm.findClass RX6 = some m.cls := hown
  have hnm : meth.name = "when" := hnm
  obtain ⟨locs, hlocs⟩ : ∃ l : List Loc, l = [] := ⟨_, rfl⟩
  have hL : mL G locs := by rw [hlocs]; exact mL_nil G
  rw [← hlocs]
  generalize s.heap = H at hM ⊢
  have hl : lv_has ls 5 [(0, .ref h0), (1, .int x1)] := hl
  obtain ⟨Q, hQ⟩ : ∃ Q, Q = MQ below (mQ G (.returned (some (.int z.1))) z.2) args s 0 0 (mF G) := ⟨_, rfl⟩
  rw [← hQ]
  have hU6 : ∀ w ∈ wsX60, w.before args s = true := fun w h => hts w (List.mem_cons_of_mem _ (List.mem_append_right _ h))
  have w1 := (hts (.fieldLink RX6 109 "HandkerchiefsDroppedModel" "admitted" "I") (List.mem_of_getElem? (i := 1) rfl))
  have hN75 : ∀ (k21 : Nat → Int32 → Int32 → Int32 → mS → Option (Int32 × mS)) (hk21 : ∀ (h0 : Nat) (x1 : Int32) (x2 : Int32) (x3 : Int32) (σ : mS), k21 h0 x1 x2 x3 σ = some z → ∀ (H : Heap) (locs : List Loc) (ls : Array Slot), mP G σ H → mL G locs → lv_has ls 5 [(0, .ref h0), (1, .int x1), (2, .int x2), (3, .int x3)] → W p l e rm_X6_when s m args below meth c H locs 0 0 Q (F0 m 21 ls [])) (h0 : Nat) (x1 : Int32) (x3 : Int32) (s0 : Int32) (σ : mS), f_X6_when_75 k21 h0 x1 x3 s0 σ = some z → ∀ (H : Heap) (locs : List Loc) (ls : Array Slot), mP G σ H → mL G locs → lv_has ls 5 [(0, .ref h0), (1, .int x1), (3, .int x3)] → W p l e rm_X6_when s m args below meth c H locs 0 0 Q (F0 m 75 ls [.int s0]) := by
    intro k21 hk21 h0 x1 x3 s0 σ h H locs ls hM hL hl
    rw [f_X6_when_75.eq_1] at h
    refine lv_istore (lv' := [(4, .int s0), (0, .ref h0), (1, .int x1), (3, .int x3)]) hx hb dX6_when_75 hl (by decide) rfl (fun ls hl => ?_)
    refine lv_iload hx hb dX6_when_77 (lv_at hl 0 rfl) ?_
    suffices hJ : ∀ (v22 : Int32) (ls : Array Slot), v22 = (if s0 = 0 then (-1 : Int32) else x3) → lv_has ls 5 [(0, .ref h0), (1, .int x1), (3, .int x3)] → W p l e rm_X6_when s m args below meth c H locs 0 0 Q (F0 m 87 ls [.int v22]) by
      refine lv_if_eq (tgt := 86) hx hb dX6_when_79 (by decide) (fun c21 => ?_) (fun c21 => ?_)
      · refine lv_iconst hx hb dX6_when_86 kI_m1 ?_
        exact hJ _ _ (((if_pos c21).trans rfl).symm) (lv_sub hl [1, 2, 3] rfl)
      · refine lv_iload_n hx hb dX6_when_82 rfl (lv_at hl 3 rfl) ?_
        refine lv_goto (tgt := 87) hx hb dX6_when_83 (by decide) ?_
        exact hJ _ _ (((if_neg c21).trans rfl).symm) (lv_sub hl [1, 2, 3] rfl)
    intro v22 ls ev22 hl
    have h := vl_at ev22 h
    refine lv_istore_n (lv' := [(2, .int v22), (0, .ref h0), (1, .int x1), (3, .int x3)]) hx hb dX6_when_87 rfl hl (by decide) rfl (fun ls hl => ?_)
    refine lv_aload_n hx hb dX6_when_88 rfl (lv_at hl 1 rfl) ?_
    obtain ⟨o23, h⟩ := oi_some h
    obtain ⟨q24, hq24, h⟩ := ob_some h
    refine m_calli (va_runV (As := []) (rest := []) ⟨hx, hb, hml, hown, hts⟩ (c_X6_hourOf l G hq24) (cwV 0 hts gX6_when_X6_hourOf rfl rfl rfl hd_X6_hourOfv ⟨Nat.le_of_ble_eq_true rfl, Nat.le_of_ble_eq_true rfl⟩) (m_preV (ci := 5) hK hM rfl o23) rfl rfl hl.1 rfl (lv_room (Nat.le_of_ble_eq_true rfl)) dX6_when_89 ⟨Nat.le_of_ble_eq_true rfl, Nat.le_of_ble_eq_true rfl⟩) hL (fun H locs hM hL => ?_)
    refine lv_pop hx hb dX6_when_92 rfl ?_
    obtain ⟨v25, ev25⟩ : ∃ y : Int32, y = x3 + (1 : Int32) := ⟨_, rfl⟩
    have h := vl_at ev25 h
    refine lv_iinc (v := v25) (lv' := [(3, .int v25), (2, .int v22), (0, .ref h0), (1, .int x1)]) hx hb dX6_when_93 hl (k := 3) rfl (by rw [ev25, kI_1]) (by decide) rfl (fun ls hl => ?_)
    refine lv_goto (tgt := 21) hx hb dX6_when_96 (by decide) ?_
    exact hk21 _ _ _ _ _ h _ _ _ hM hL (lv_sub hl [2, 3, 1, 0] rfl)
  have hN21 : ∀ (k99 : Nat → Int32 → mS → Option (Int32 × mS)) (hk99 : ∀ (h0 : Nat) (x2 : Int32) (σ : mS), k99 h0 x2 σ = some z → ∀ (H : Heap) (locs : List Loc) (ls : Array Slot), mP G σ H → mL G locs → lv_has ls 5 [(0, .ref h0), (2, .int x2)] → W p l e rm_X6_when s m args below meth c H locs 0 0 Q (F0 m 99 ls [])) (n : Nat) (h0 : Nat) (x1 : Int32) (x2 : Int32) (x3 : Int32) (σ : mS), f_X6_when_21 k99 n h0 x1 x2 x3 σ = some z → ∀ (H : Heap) (locs : List Loc) (ls : Array Slot), mP G σ H → mL G locs → lv_has ls 5 [(0, .ref h0), (1, .int x1), (2, .int x2), (3, .int x3)] → W p l e rm_X6_when s m args below meth c H locs 0 0 Q (F0 m 21 ls []) := by
    intro k99 hk99 n
    induction n with
    | zero =>
      intro h0 x1 x2 x3 σ h
      exact nomatch (show (none : Option (Int32 × mS)) = some z from h)
    | succ n ih =>
      intro h0 x1 x2 x3 σ h H locs ls hM hL hl
      rw [f_X6_when_21.eq_2] at h
      refine lv_iload_n hx hb dX6_when_21 rfl (lv_at hl 3 rfl) ?_
      refine lv_bipush hx hb dX6_when_22 kB_60 ?_
      refine lv_icmp_gt (tgt := 99) hx hb dX6_when_24 (by decide) (fun c26 => ?_) (fun c26 => ?_)
      · have h := (if_pos c26).symm.trans h
        exact hk99 _ _ _ h _ _ _ hM hL (lv_sub hl [0, 2] rfl)
      · have h := (if_neg c26).symm.trans h
        refine lv_iload_n hx hb dX6_when_27 rfl (lv_at hl 2 rfl) ?_
        refine lv_iconst hx hb dX6_when_28 kI_m1 ?_
        refine lv_icmp_ne (tgt := 99) hx hb dX6_when_29 (by decide) (fun c27 => ?_) (fun c27 => ?_)
        · have h := (if_neg c27).symm.trans h
          exact hk99 _ _ _ h _ _ _ hM hL (lv_sub hl [0, 2] rfl)
        · have h := (if_pos c27).symm.trans h
          refine lv_iload_n hx hb dX6_when_32 rfl (lv_at hl 1 rfl) ?_
          refine lv_iconst hx hb dX6_when_33 kI_m1 ?_
          refine lv_icmp_ne (tgt := 52) hx hb dX6_when_34 (by decide) (fun c28 => ?_) (fun c28 => ?_)
          · have h := (if_neg c28).symm.trans h
            refine lv_aload_n hx hb dX6_when_52 rfl (lv_at hl 0 rfl) ?_
            refine m_getI (ci := 5) hx hb hU6 hown hK hM rfl 7 (by decide) w1 h dX6_when_53 (fun v29 gv29 h => ?_)
            refine lv_iload_n hx hb dX6_when_56 rfl (lv_at hl 1 rfl) ?_
            refine lv_iconst hx hb dX6_when_57 kI_0 ?_
            refine lv_bipush hx hb dX6_when_58 kB_9 ?_
            refine m_calli (va_runS (As := [.int x1, .int (0 : Int32), .int (9 : Int32)]) (rest := [.int v29]) ⟨hx, hb, hml, hown, hts⟩ (c_X6_within l G x1 (0 : Int32) (9 : Int32)) (va_cwS 3 hts gX6_when_X6_within rfl rfl rfl hd_X6_within ⟨Nat.le_of_ble_eq_true rfl, Nat.le_of_ble_eq_true rfl⟩) (m_preS hK hM) rfl rfl hl.1 rfl (lv_room (Nat.le_of_ble_eq_true rfl)) dX6_when_60 ⟨Nat.le_of_ble_eq_true rfl, Nat.le_of_ble_eq_true rfl⟩) hL (fun H locs hM hL => ?_)
            refine lv_ishr hx hb dX6_when_63 ?_
            refine lv_iconst hx hb dX6_when_64 kI_1 ?_
            refine lv_iand hx hb dX6_when_65 ?_
            refine lv_iconst hx hb dX6_when_66 kI_1 ?_
            suffices hJ : ∀ (v31 : Int32) (ls : Array Slot), v31 = (if ((v29 >>> ((f_X6_within x1 (0 : Int32) (9 : Int32)) &&& 31)) &&& (1 : Int32)) = (1 : Int32) then (1 : Int32) else (0 : Int32)) → lv_has ls 5 [(0, .ref h0), (1, .int x1), (3, .int x3)] → W p l e rm_X6_when s m args below meth c H locs 0 0 Q (F0 m 75 ls [.int v31]) by
              refine lv_icmp_ne (tgt := 74) hx hb dX6_when_67 (by decide) (fun c30 => ?_) (fun c30 => ?_)
              · refine lv_iconst hx hb dX6_when_74 kI_0 ?_
                exact hJ _ _ (((if_neg c30).trans rfl).symm) (lv_sub hl [0, 1, 3] rfl)
              · refine lv_iconst hx hb dX6_when_70 kI_1 ?_
                refine lv_goto (tgt := 75) hx hb dX6_when_71 (by decide) ?_
                exact hJ _ _ (((if_pos c30).trans rfl).symm) (lv_sub hl [0, 1, 3] rfl)
            intro v31 ls ev31 hl
            have h := vl_at ev31 h
            refine hN75 _ (fun _ _ _ _ _ h H locs ls hM hL hl => ih _ _ _ _ _ h H locs ls hM hL hl) _ _ _ _ _ h _ _ _ hM hL (lv_sub hl [0, 1, 2] rfl)
          · have h := (if_pos c28).symm.trans h
            refine lv_aload_n hx hb dX6_when_37 rfl (lv_at hl 0 rfl) ?_
            obtain ⟨o32, h⟩ := oi_some h
            obtain ⟨q33, hq33, h⟩ := ob_some h
            refine m_calli (va_runV (As := []) (rest := []) ⟨hx, hb, hml, hown, hts⟩ (c_X6_lying l G hq33) (cwV 0 hts gX6_when_X6_lying rfl rfl rfl hd_X6_lyingv ⟨Nat.le_of_ble_eq_true rfl, Nat.le_of_ble_eq_true rfl⟩) (m_preV (ci := 5) hK hM rfl o32) rfl rfl hl.1 rfl (lv_room (Nat.le_of_ble_eq_true rfl)) dX6_when_38 ⟨Nat.le_of_ble_eq_true rfl, Nat.le_of_ble_eq_true rfl⟩) hL (fun H locs hM hL => ?_)
            suffices hJ : ∀ (v35 : Int32) (ls : Array Slot), v35 = (if q33 = 0 then (1 : Int32) else (0 : Int32)) → lv_has ls 5 [(0, .ref h0), (1, .int x1), (3, .int x3)] → W p l e rm_X6_when s m args below meth c H locs 0 0 Q (F0 m 75 ls [.int v35]) by
              refine lv_if_ne (tgt := 48) hx hb dX6_when_41 (by decide) (fun c34 => ?_) (fun c34 => ?_)
              · refine lv_iconst hx hb dX6_when_48 kI_0 ?_
                refine lv_goto (tgt := 75) hx hb dX6_when_49 (by decide) ?_
                exact hJ _ _ (((if_neg c34).trans rfl).symm) (lv_sub hl [0, 1, 3] rfl)
              · refine lv_iconst hx hb dX6_when_44 kI_1 ?_
                refine lv_goto (tgt := 75) hx hb dX6_when_45 (by decide) ?_
                exact hJ _ _ (((if_pos c34).trans rfl).symm) (lv_sub hl [0, 1, 3] rfl)
            intro v35 ls ev35 hl
            have h := vl_at ev35 h
            refine hN75 _ (fun _ _ _ _ _ h H locs ls hM hL hl => ih _ _ _ _ _ h H locs ls hM hL hl) _ _ _ _ _ h _ _ _ hM hL (lv_sub hl [0, 1, 2] rfl)
  rw [f_X6_when.eq_1] at h
  refine lv_iload_n hx hb dX6_when_0 rfl (lv_at hl 1 rfl) ?_
  refine lv_iconst hx hb dX6_when_1 kI_m1 ?_
  refine lv_bipush hx hb dX6_when_2 kB_9 ?_
  refine m_calli (va_runS (As := [.int x1, .int (-1 : Int32), .int (9 : Int32)]) (rest := []) ⟨hx, hb, hml, hown, hts⟩ (c_X6_in l G x1 (-1 : Int32) (9 : Int32)) (va_cwS 3 hts gX6_when_X6_in rfl rfl rfl hd_X6_in ⟨Nat.le_of_ble_eq_true rfl, Nat.le_of_ble_eq_true rfl⟩) (m_preS hK hM) rfl rfl hl.1 rfl (lv_room (Nat.le_of_ble_eq_true rfl)) dX6_when_4 ⟨Nat.le_of_ble_eq_true rfl, Nat.le_of_ble_eq_true rfl⟩) hL (fun H locs hM hL => ?_)
  refine lv_if_ne (tgt := 13) hx hb dX6_when_7 (by decide) (fun c36 => ?_) (fun c36 => ?_)
  · have h := (if_neg c36).symm.trans h
    refine lv_iconst hx hb dX6_when_13 kI_m1 ?_
    refine lv_istore_n (lv' := [(2, .int (-1 : Int32)), (0, .ref h0), (1, .int x1)]) hx hb dX6_when_14 rfl hl (by decide) rfl (fun ls hl => ?_)
    refine lv_aload_n hx hb dX6_when_15 rfl (lv_at hl 1 rfl) ?_
    obtain ⟨o37, h⟩ := oi_some h
    obtain ⟨q38, hq38, h⟩ := ob_some h
    refine m_callv (va_runV (As := []) (rest := []) ⟨hx, hb, hml, hown, hts⟩ (c_X6_keeps l G hq38) (cwV 0 hts gX6_when_X6_keeps rfl rfl rfl hd_X6_keepsv ⟨Nat.le_of_ble_eq_true rfl, Nat.le_of_ble_eq_true rfl⟩) (m_preV (ci := 5) hK hM rfl o37) rfl rfl hl.1 rfl (lv_room (Nat.le_of_ble_eq_true rfl)) dX6_when_16 ⟨Nat.le_of_ble_eq_true rfl, Nat.le_of_ble_eq_true rfl⟩) hL (fun H locs hM hL => ?_)
    refine lv_iconst hx hb dX6_when_19 kI_0 ?_
    refine lv_istore_n (lv' := [(3, .int (0 : Int32)), (2, .int (-1 : Int32)), (0, .ref h0), (1, .int x1)]) hx hb dX6_when_20 rfl hl (by decide) rfl (fun ls hl => ?_)
    refine hN21 _ ?_ _ _ _ _ _ _ h _ _ _ hM hL (lv_sub hl [2, 3, 1, 0] rfl)
    · intro h0 x2 σ h H locs ls hM hL hl
      refine lv_aload_n hx hb dX6_when_99 rfl (lv_at hl 0 rfl) ?_
      obtain ⟨o39, h⟩ := oi_some h
      obtain ⟨q40, hq40, h⟩ := ob_some h
      refine m_callv (va_runV (As := []) (rest := []) ⟨hx, hb, hml, hown, hts⟩ (c_X6_lays l G hq40) (cwV 0 hts gX6_when_X6_lays rfl rfl rfl hd_X6_laysv ⟨Nat.le_of_ble_eq_true rfl, Nat.le_of_ble_eq_true rfl⟩) (m_preV (ci := 5) hK hM rfl o39) rfl rfl hl.1 rfl (lv_room (Nat.le_of_ble_eq_true rfl)) dX6_when_100 ⟨Nat.le_of_ble_eq_true rfl, Nat.le_of_ble_eq_true rfl⟩) hL (fun H locs hM hL => ?_)
      refine lv_iload_n hx hb dX6_when_103 rfl (lv_at hl 1 rfl) ?_
      subst hQ
      have h := Option.some.inj h
      subst h
      exact m_iret hx hb hr hM hL dX6_when_104 hlocks
  · have h := (if_pos c36).symm.trans h
    refine lv_bipush hx hb dX6_when_10 kB_m7 ?_
    subst hQ
    have h := Option.some.inj h
    subst h
    exact m_iret hx hb hr hM hL dX6_when_12 hlocks
abbrev rm_X6_fateOf : Room := { frames := 7, cells := 0, slots := 0, locals := 157 }
set_option maxHeartbeats 4000000 in
set_option maxRecDepth 100000 in
theorem c_X6_fateOf (l : Launch) (G : mG) {h0 : Nat} {x1 : Int32} {σ : mS} {z : Int32 × mS} (h : f_X6_fateOf h0 x1 σ = some z) : Met l yX6_fateOf wsX6_fateOf rm_X6_fateOf (va_Pc [.ref h0, .int x1] (mB G σ)) (mQ G (.returned (some (.int z.1))) z.2) 0 0 (mF G) := by
  refine m_start (cc := cX6_fateOf) (maxL := 6) (ret := (some .int)) (by decide) rfl [.ref h0, .int x1] (Nat.le_of_ble_eq_true rfl) ?_
  intro p e s m args below meth c ls hx hb hr hml hown hts hlocks hnm hK hM hl
  have hown : s.vm.findClass RX6 = some m.cls := hown
  have hnm : meth.name = "fateOf" := hnm
  obtain ⟨locs, hlocs⟩ : ∃ l : List Loc, l = [] := ⟨_, rfl⟩
  have hL : mL G locs := by rw [hlocs]; exact mL_nil G
  rw [← hlocs]
  generalize s.heap = H at hM ⊢
  have hl : lv_has ls 6 [(0, .ref h0), (1, .int x1)] := hl
  obtain ⟨Q, hQ⟩ : ∃ Q, Q = MQ below (mQ G (.returned (some (.int z.1))) z.2) args s 0 0 (mF G) := ⟨_, rfl⟩
  rw [← hQ]
  have hU6 : ∀ w ∈ wsX60, w.before args s = true := fun w h => hts w (List.mem_cons_of_mem _ (List.mem_append_right _ h))
  have w1 := (hts (.fieldLink RX6 225 "HandkerchiefsDroppedModel" "fateHours" "I") (List.mem_of_getElem? (i := 1) rfl))
  have w2 := (hts (.fieldLink RX6 19 "HandkerchiefsDroppedModel" "linens" "[I") (List.mem_of_getElem? (i := 2) rfl))
  have w3 := (hts (.fieldLink RX6 93 "HandkerchiefsDroppedModel" "hours" "I") (List.mem_of_getElem? (i := 3) rfl))
  have hN11 : ∀ (n : Nat) (h0 : Nat) (x1 : Int32) (x2 : Int32) (σ : mS), f_X6_fateOf_11 n h0 x1 x2 σ = some z → ∀ (H : Heap) (locs : List Loc) (ls : Array Slot), mP G σ H → mL G locs → lv_has ls 6 [(0, .ref h0), (1, .int x1), (2, .int x2)] → W p l e rm_X6_fateOf s m args below meth c H locs 0 0 Q (F0 m 11 ls []) := by
    intro n
    induction n with
    | zero =>
      intro h0 x1 x2 σ h
      exact nomatch (show (none : Option (Int32 × mS)) = some z from h)
    | succ n ih =>
      intro h0 x1 x2 σ h H locs ls hM hL hl
      rw [f_X6_fateOf_11.eq_2] at h
      refine lv_aload_n hx hb dX6_fateOf_11 rfl (lv_at hl 0 rfl) ?_
      refine lv_iload_n hx hb dX6_fateOf_12 rfl (lv_at hl 1 rfl) ?_
      obtain ⟨o26, h⟩ := oi_some h
      obtain ⟨q27, hq27, h⟩ := ob_some h
      refine m_calli (va_runV (As := [.int x1]) (rest := []) ⟨hx, hb, hml, hown, hts⟩ (c_X6_isLinen l G hq27) (cwV 1 hts gX6_fateOf_X6_isLinen rfl rfl rfl hd_X6_isLinenv ⟨Nat.le_of_ble_eq_true rfl, Nat.le_of_ble_eq_true rfl⟩) (m_preV (ci := 5) hK hM rfl o26) rfl rfl hl.1 rfl (lv_room (Nat.le_of_ble_eq_true rfl)) dX6_fateOf_13 ⟨Nat.le_of_ble_eq_true rfl, Nat.le_of_ble_eq_true rfl⟩) hL (fun H locs hM hL => ?_)
      refine lv_if_eq (tgt := 98) hx hb dX6_fateOf_16 (by decide) (fun c28 => ?_) (fun c28 => ?_)
      · have h := (if_pos c28).symm.trans h
        refine lv_aload_n hx hb dX6_fateOf_98 rfl (lv_at hl 0 rfl) ?_
        obtain ⟨o29, h⟩ := oi_some h
        obtain ⟨q30, hq30, h⟩ := ob_some h
        refine m_callv (va_runV (As := []) (rest := []) ⟨hx, hb, hml, hown, hts⟩ (c_X6_lays l G hq30) (cwV 0 hts gX6_fateOf_X6_lays rfl rfl rfl hd_X6_laysv ⟨Nat.le_of_ble_eq_true rfl, Nat.le_of_ble_eq_true rfl⟩) (m_preV (ci := 5) hK hM rfl o29) rfl rfl hl.1 rfl (lv_room (Nat.le_of_ble_eq_true rfl)) dX6_fateOf_99 ⟨Nat.le_of_ble_eq_true rfl, Nat.le_of_ble_eq_true rfl⟩) hL (fun H locs hM hL => ?_)
        refine lv_iload_n hx hb dX6_fateOf_102 rfl (lv_at hl 2 rfl) ?_
        subst hQ
        have h := Option.some.inj h
        subst h
        exact m_iret hx hb hr hM hL dX6_fateOf_103 hlocks
      · have h := (if_neg c28).symm.trans h
        refine lv_aload_n hx hb dX6_fateOf_19 rfl (lv_at hl 0 rfl) ?_
        refine m_getR (ci := 5) hx hb hU6 hown hK hM rfl 4 (by decide) w2 h dX6_fateOf_20 (fun r31 gr31 h => ?_)
        refine lv_iconst hx hb dX6_fateOf_23 kI_3 ?_
        refine lv_iload_n hx hb dX6_fateOf_24 rfl (lv_at hl 1 rfl) ?_
        refine lv_imul hx hb dX6_fateOf_25 ?_
        refine lv_iconst hx hb dX6_fateOf_26 kI_2 ?_
        refine lv_iadd hx hb dX6_fateOf_27 ?_
        refine m_iald hx hb hK hM h dX6_fateOf_28 (fun v32 gv32 h => ?_)
        refine lv_istore_n (lv' := [(3, .int v32), (0, .ref h0), (1, .int x1), (2, .int x2)]) hx hb dX6_fateOf_29 rfl hl (by decide) rfl (fun ls hl => ?_)
        refine lv_aload_n hx hb dX6_fateOf_30 rfl (lv_at hl 1 rfl) ?_
        refine m_getI (ci := 5) hx hb hU6 hown hK hM rfl 8 (by decide) w3 h dX6_fateOf_31 (fun v33 gv33 h => ?_)
        refine lv_bipush hx hb dX6_fateOf_34 kB_6 ?_
        refine lv_irem hx hb dX6_fateOf_36 (by decide) ?_
        refine lv_topi (fun v34 ev34 => ?_)
        have h := vl_at ev34 h
        refine lv_istore (lv' := [(4, .int v34), (3, .int v32), (0, .ref h0), (1, .int x1), (2, .int x2)]) hx hb dX6_fateOf_37 hl (by decide) rfl (fun ls hl => ?_)
        refine lv_aload_n hx hb dX6_fateOf_39 rfl (lv_at hl 2 rfl) ?_
        obtain ⟨o35, h⟩ := oi_some h
        obtain ⟨q36, hq36, h⟩ := ob_some h
        refine m_calli (va_runV (As := []) (rest := []) ⟨hx, hb, hml, hown, hts⟩ (c_X6_hourOf l G hq36) (cwV 0 hts gX6_fateOf_X6_hourOf rfl rfl rfl hd_X6_hourOfv ⟨Nat.le_of_ble_eq_true rfl, Nat.le_of_ble_eq_true rfl⟩) (m_preV (ci := 5) hK hM rfl o35) rfl rfl hl.1 rfl (lv_room (Nat.le_of_ble_eq_true rfl)) dX6_fateOf_40 ⟨Nat.le_of_ble_eq_true rfl, Nat.le_of_ble_eq_true rfl⟩) hL (fun H locs hM hL => ?_)
        refine lv_pop hx hb dX6_fateOf_43 rfl ?_
        refine lv_aload_n hx hb dX6_fateOf_44 rfl (lv_at hl 2 rfl) ?_
        refine lv_dup hx hb dX6_fateOf_45 rfl ?_
        refine m_getI (ci := 5) hx hb hU6 hown hK hM rfl 34 (by decide) w1 h dX6_fateOf_46 (fun v37 gv37 h => ?_)
        refine lv_iconst hx hb dX6_fateOf_49 kI_1 ?_
        refine lv_iadd hx hb dX6_fateOf_50 ?_
        refine m_put (ci := 5) hx hb hU6 tyX6 tyX6_ok nmX6 hown hK hM hL rfl 34 (by decide) w1 rfl rfl rfl h dX6_fateOf_51 (fun t38 H locs h hM hL => ?_)
        refine lv_aload_n hx hb dX6_fateOf_54 rfl (lv_at hl 2 rfl) ?_
        refine lv_iload_n hx hb dX6_fateOf_55 rfl (lv_at hl 3 rfl) ?_
        obtain ⟨o39, h⟩ := oi_some h
        obtain ⟨q40, hq40, h⟩ := ob_some h
        refine m_calli (va_runV (As := [.int x1]) (rest := []) ⟨hx, hb, hml, hown, hts⟩ (c_X6_isLinen l G hq40) (cwV 1 hts gX6_fateOf_X6_isLinen rfl rfl rfl hd_X6_isLinenv ⟨Nat.le_of_ble_eq_true rfl, Nat.le_of_ble_eq_true rfl⟩) (m_preV (ci := 5) hK hM rfl o39) rfl rfl hl.1 rfl (lv_room (Nat.le_of_ble_eq_true rfl)) dX6_fateOf_56 ⟨Nat.le_of_ble_eq_true rfl, Nat.le_of_ble_eq_true rfl⟩) hL (fun H locs hM hL => ?_)
        suffices hJ : ∀ (v42 : Int32) (ls : Array Slot), v42 = (if q40 = 0 then (1 : Int32) else (0 : Int32)) → lv_has ls 6 [(0, .ref h0), (1, .int x1), (2, .int x2), (3, .int v32), (4, .int v34)] → W p l e rm_X6_fateOf s m args below meth c H locs 0 0 Q (F0 m 67 ls [.int v42]) by
          refine lv_if_ne (tgt := 66) hx hb dX6_fateOf_59 (by decide) (fun c41 => ?_) (fun c41 => ?_)
          · refine lv_iconst hx hb dX6_fateOf_66 kI_0 ?_
            exact hJ _ _ (((if_neg c41).trans rfl).symm) (lv_sub hl [2, 3, 4, 1, 0] rfl)
          · refine lv_iconst hx hb dX6_fateOf_62 kI_1 ?_
            refine lv_goto (tgt := 67) hx hb dX6_fateOf_63 (by decide) ?_
            exact hJ _ _ (((if_pos c41).trans rfl).symm) (lv_sub hl [2, 3, 4, 1, 0] rfl)
        intro v42 ls ev42 hl
        have h := vl_at ev42 h
        refine lv_istore (lv' := [(5, .int v42), (0, .ref h0), (1, .int x1), (2, .int x2), (3, .int v32), (4, .int v34)]) hx hb dX6_fateOf_67 hl (by decide) rfl (fun ls hl => ?_)
        refine lv_iload hx hb dX6_fateOf_69 (lv_at hl 0 rfl) ?_
        refine lv_if_eq (tgt := 95) hx hb dX6_fateOf_71 (by decide) (fun c43 => ?_) (fun c43 => ?_)
        · have h := (if_pos c43).symm.trans h
          refine lv_goto (tgt := 11) hx hb dX6_fateOf_95 (by decide) ?_
          exact ih _ _ _ _ h _ _ _ hM hL (lv_sub hl [1, 2, 3] rfl)
        · have h := (if_neg c43).symm.trans h
          refine lv_aload_n hx hb dX6_fateOf_74 rfl (lv_at hl 1 rfl) ?_
          refine m_getR (ci := 5) hx hb hU6 hown hK hM rfl 4 (by decide) w2 h dX6_fateOf_75 (fun r44 gr44 h => ?_)
          refine lv_iconst hx hb dX6_fateOf_78 kI_3 ?_
          refine lv_iload_n hx hb dX6_fateOf_79 rfl (lv_at hl 2 rfl) ?_
          refine lv_imul hx hb dX6_fateOf_80 ?_
          refine lv_iconst hx hb dX6_fateOf_81 kI_2 ?_
          refine lv_iadd hx hb dX6_fateOf_82 ?_
          refine m_iald hx hb hK hM h dX6_fateOf_83 (fun v45 gv45 h => ?_)
          refine lv_iload_n hx hb dX6_fateOf_84 rfl (lv_at hl 4 rfl) ?_
          suffices hJ : ∀ (v47 : Int32) (ls : Array Slot), v47 = (if v45 = v32 then v34 else (-1 : Int32)) → lv_has ls 6 [(0, .ref h0), (1, .int x1)] → W p l e rm_X6_fateOf s m args below meth c H locs 0 0 Q (F0 m 94 ls [.int v47]) by
            refine lv_icmp_ne (tgt := 93) hx hb dX6_fateOf_85 (by decide) (fun c46 => ?_) (fun c46 => ?_)
            · refine lv_iconst hx hb dX6_fateOf_93 kI_m1 ?_
              exact hJ _ _ (((if_neg c46).trans rfl).symm) (lv_sub hl [1, 2] rfl)
            · refine lv_iload hx hb dX6_fateOf_88 (lv_at hl 5 rfl) ?_
              refine lv_goto (tgt := 94) hx hb dX6_fateOf_90 (by decide) ?_
              exact hJ _ _ (((if_pos c46).trans rfl).symm) (lv_sub hl [1, 2] rfl)
          intro v47 ls ev47 hl
          have h := vl_at ev47 h
          refine lv_istore_n (lv' := [(2, .int v47), (0, .ref h0), (1, .int x1)]) hx hb dX6_fateOf_94 rfl hl (by decide) rfl (fun ls hl => ?_)
          refine lv_goto (tgt := 11) hx hb dX6_fateOf_95 (by decide) ?_
          exact ih _ _ _ _ h _ _ _ hM hL (lv_sub hl [1, 2, 0] rfl)
  rw [f_X6_fateOf.eq_1] at h
  refine lv_iconst hx hb dX6_fateOf_0 kI_m1 ?_
  refine lv_istore_n (lv' := [(2, .int (-1 : Int32)), (0, .ref h0), (1, .int x1)]) hx hb dX6_fateOf_1 rfl hl (by decide) rfl (fun ls hl => ?_)
  refine lv_aload_n hx hb dX6_fateOf_2 rfl (lv_at hl 1 rfl) ?_
  refine lv_iconst hx hb dX6_fateOf_3 kI_0 ?_
  refine m_put (ci := 5) hx hb hU6 tyX6 tyX6_ok nmX6 hown hK hM hL rfl 34 (by decide) w1 rfl rfl rfl h dX6_fateOf_4 (fun t48 H locs h hM hL => ?_)
  refine lv_aload_n hx hb dX6_fateOf_7 rfl (lv_at hl 1 rfl) ?_
  obtain ⟨o49, h⟩ := oi_some h
  obtain ⟨q50, hq50, h⟩ := ob_some h
  refine m_callv (va_runV (As := []) (rest := []) ⟨hx, hb, hml, hown, hts⟩ (c_X6_keeps l G hq50) (cwV 0 hts gX6_fateOf_X6_keeps rfl rfl rfl hd_X6_keepsv ⟨Nat.le_of_ble_eq_true rfl, Nat.le_of_ble_eq_true rfl⟩) (m_preV (ci := 5) hK hM rfl o49) rfl rfl hl.1 rfl (lv_room (Nat.le_of_ble_eq_true rfl)) dX6_fateOf_8 ⟨Nat.le_of_ble_eq_true rfl, Nat.le_of_ble_eq_true rfl⟩) hL (fun H locs hM hL => ?_)
  refine hN11 _ _ _ _ _ h _ _ _ hM hL (lv_sub hl [1, 2, 0] rfl)
abbrev rm_X6_fate : Room := { frames := 8, cells := 0, slots := 0, locals := 182 }
set_option maxHeartbeats 4000000 in
set_option maxRecDepth 100000 in
theorem c_X6_fate (l : Launch) (G : mG) {h0 : Nat} {x1 : Int32} {x2 : Int32} {σ : mS} {z : Int32 × mS} (h : f_X6_fate h0 x1 x2 σ = some z) : Met l yX6_fate wsX6_fate rm_X6_fate (va_Pc [.ref h0, .int x1, .int x2] (mB G σ)) (mQ G (.returned (some (.int z.1))) z.2) 0 0 (mF G) := by
  refine m_start (cc := cX6_fate) (maxL := 4) (ret := (some .int)) (by decide) rfl [.ref h0, .int x1, .int x2] (Nat.le_of_ble_eq_true rfl) ?_
  intro p e s m args below meth c ls hx hb hr hml hown hts hlocks hnm hK hM hl
  have hown : s.vm.findClass RX6 = some m.cls := hown
  have hnm : meth.name = "fate" := hnm
  obtain ⟨locs, hlocs⟩ : ∃ l : List Loc, l = [] := ⟨_, rfl⟩
  have hL : mL G locs := by rw [hlocs]; exact mL_nil G
  rw [← hlocs]
  generalize s.heap = H at hM ⊢
  have hl : lv_has ls 4 [(0, .ref h0), (1, .int x1), (2, .int x2)] := hl
  obtain ⟨Q, hQ⟩ : ∃ Q, Q = MQ below (mQ G (.returned (some (.int z.1))) z.2) args s 0 0 (mF G) := ⟨_, rfl⟩
  rw [← hQ]
  have hU6 : ∀ w ∈ wsX60, w.before args s = true := fun w h => hts w (List.mem_cons_of_mem _ (List.mem_append_right _ h))
  have w1 := (hts (.fieldLink RX6 225 "HandkerchiefsDroppedModel" "fateHours" "I") (List.mem_of_getElem? (i := 1) rfl))
  rw [f_X6_fate.eq_1] at h
  refine lv_aload_n hx hb dX6_fate_0 rfl (lv_at hl 0 rfl) ?_
  refine lv_iload_n hx hb dX6_fate_1 rfl (lv_at hl 1 rfl) ?_
  obtain ⟨o9, h⟩ := oi_some h
  obtain ⟨q10, hq10, h⟩ := ob_some h
  refine m_calli (va_runV (As := [.int x1]) (rest := []) ⟨hx, hb, hml, hown, hts⟩ (c_X6_isLinen l G hq10) (cwV 1 hts gX6_fate_X6_isLinen rfl rfl rfl hd_X6_isLinenv ⟨Nat.le_of_ble_eq_true rfl, Nat.le_of_ble_eq_true rfl⟩) (m_preV (ci := 5) hK hM rfl o9) rfl rfl hl.1 rfl (lv_room (Nat.le_of_ble_eq_true rfl)) dX6_fate_2 ⟨Nat.le_of_ble_eq_true rfl, Nat.le_of_ble_eq_true rfl⟩) hL (fun H locs hM hL => ?_)
  refine lv_if_ne (tgt := 11) hx hb dX6_fate_5 (by decide) (fun c11 => ?_) (fun c11 => ?_)
  · have h := (if_neg c11).symm.trans h
    refine lv_iload_n hx hb dX6_fate_11 rfl (lv_at hl 2 rfl) ?_
    refine lv_iconst hx hb dX6_fate_12 kI_0 ?_
    refine lv_iconst hx hb dX6_fate_13 kI_1 ?_
    refine m_calli (va_runS (As := [.int x2, .int (0 : Int32), .int (1 : Int32)]) (rest := []) ⟨hx, hb, hml, hown, hts⟩ (c_X6_in l G x2 (0 : Int32) (1 : Int32)) (va_cwS 3 hts gX6_fate_X6_in rfl rfl rfl hd_X6_in ⟨Nat.le_of_ble_eq_true rfl, Nat.le_of_ble_eq_true rfl⟩) (m_preS hK hM) rfl rfl hl.1 rfl (lv_room (Nat.le_of_ble_eq_true rfl)) dX6_fate_14 ⟨Nat.le_of_ble_eq_true rfl, Nat.le_of_ble_eq_true rfl⟩) hL (fun H locs hM hL => ?_)
    refine lv_if_ne (tgt := 23) hx hb dX6_fate_17 (by decide) (fun c12 => ?_) (fun c12 => ?_)
    · have h := (if_neg c12).symm.trans h
      refine lv_aload_n hx hb dX6_fate_23 rfl (lv_at hl 0 rfl) ?_
      refine lv_iload_n hx hb dX6_fate_24 rfl (lv_at hl 1 rfl) ?_
      obtain ⟨o13, h⟩ := oi_some h
      obtain ⟨q14, hq14, h⟩ := ob_some h
      refine m_calli (va_runV (As := [.int x1]) (rest := []) ⟨hx, hb, hml, hown, hts⟩ (c_X6_fateOf l G hq14) (cwV 1 hts gX6_fate_X6_fateOf rfl rfl rfl hd_X6_fateOfv ⟨Nat.le_of_ble_eq_true rfl, Nat.le_of_ble_eq_true rfl⟩) (m_preV (ci := 5) hK hM rfl o13) rfl rfl hl.1 rfl (lv_room (Nat.le_of_ble_eq_true rfl)) dX6_fate_25 ⟨Nat.le_of_ble_eq_true rfl, Nat.le_of_ble_eq_true rfl⟩) hL (fun H locs hM hL => ?_)
      refine lv_istore_n (lv' := [(3, .int q14.1), (0, .ref h0), (1, .int x1), (2, .int x2)]) hx hb dX6_fate_28 rfl hl (by decide) rfl (fun ls hl => ?_)
      refine lv_iload_n hx hb dX6_fate_29 rfl (lv_at hl 3 rfl) ?_
      refine lv_if_ne (tgt := 37) hx hb dX6_fate_30 (by decide) (fun c15 => ?_) (fun c15 => ?_)
      · have h := (if_neg c15).symm.trans h
        refine lv_aload_n hx hb dX6_fate_37 rfl (lv_at hl 1 rfl) ?_
        refine m_getI (ci := 5) hx hb hU6 hown hK hM rfl 34 (by decide) w1 h dX6_fate_38 (fun v16 gv16 h => ?_)
        subst hQ
        have h := Option.some.inj h
        subst h
        exact m_iret hx hb hr hM hL dX6_fate_41 hlocks
      · have h := (if_pos c15).symm.trans h
        refine lv_iload_n hx hb dX6_fate_33 rfl (lv_at hl 0 rfl) ?_
        refine lv_goto (tgt := 41) hx hb dX6_fate_34 (by decide) ?_
        subst hQ
        have h := Option.some.inj h
        subst h
        exact m_iret hx hb hr hM hL dX6_fate_41 hlocks
    · have h := (if_pos c12).symm.trans h
      refine lv_bipush hx hb dX6_fate_20 kB_m7 ?_
      subst hQ
      have h := Option.some.inj h
      subst h
      exact m_iret hx hb hr hM hL dX6_fate_22 hlocks
  · have h := (if_pos c11).symm.trans h
    refine lv_bipush hx hb dX6_fate_8 kB_m6 ?_
    subst hQ
    have h := Option.some.inj h
    subst h
    exact m_iret hx hb hr hM hL dX6_fate_10 hlocks
abbrev rm_X6_advise : Room := { frames := 8, cells := 0, slots := 0, locals := 179 }
set_option maxHeartbeats 4000000 in
set_option maxRecDepth 100000 in
theorem c_X6_advise (l : Launch) (G : mG) {h0 : Nat} {x1 : Int32} {x2 : Int32} {σ : mS} {z : Int32 × mS} (h : f_X6_advise h0 x1 x2 σ = some z) : Met l yX6_advise wsX6_advise rm_X6_advise (va_Pc [.ref h0, .int x1, .int x2] (mB G σ)) (mQ G (.returned (some (.int z.1))) z.2) 0 0 (mF G) := by
  refine m_start (cc := cX6_advise) (maxL := 7) (ret := (some .int)) (by decide) rfl [.ref h0, .int x1, .int x2] (Nat.le_of_ble_eq_true rfl) ?_
  intro p e s m args below meth c ls hx hb hr hml hown hts hlocks hnm hK hM hl
  have hown : s.vm.findClass RX6 = some m.cls := hown
  have hnm : meth.name = "advise" := hnm
  obtain ⟨locs, hlocs⟩ : ∃ l : List Loc, l = [] := ⟨_, rfl⟩
  have hL : mL G locs := by rw [hlocs]; exact mL_nil G
  rw [← hlocs]
  generalize s.heap = H at hM ⊢
  have hl : lv_has ls 7 [(0, .ref h0), (1, .int x1), (2, .int x2)] := hl
  obtain ⟨Q, hQ⟩ : ∃ Q, Q = MQ below (mQ G (.returned (some (.int z.1))) z.2) args s 0 0 (mF G) := ⟨_, rfl⟩
  rw [← hQ]
  have hU6 : ∀ w ∈ wsX60, w.before args s = true := fun w h => hts w (List.mem_cons_of_mem _ (List.mem_append_right _ h))
  have w1 := (hts (.fieldLink RX6 109 "HandkerchiefsDroppedModel" "admitted" "I") (List.mem_of_getElem? (i := 1) rfl))
  have w2 := (hts (.fieldLink RX6 78 "HandkerchiefsDroppedModel" "witnesses" "I") (List.mem_of_getElem? (i := 2) rfl))
  have hN51 : ∀ (n : Nat) (h0 : Nat) (x1 : Int32) (x2 : Int32) (x3 : Int32) (x4 : Int32) (x5 : Int32) (σ : mS), f_X6_advise_51 n h0 x1 x2 x3 x4 x5 σ = some z → ∀ (H : Heap) (locs : List Loc) (ls : Array Slot), mP G σ H → mL G locs → lv_has ls 7 [(0, .ref h0), (1, .int x1), (2, .int x2), (3, .int x3), (4, .int x4), (5, .int x5)] → W p l e rm_X6_advise s m args below meth c H locs 0 0 Q (F0 m 51 ls []) := by
    intro n
    induction n with
    | zero =>
      intro h0 x1 x2 x3 x4 x5 σ h
      exact nomatch (show (none : Option (Int32 × mS)) = some z from h)
    | succ n ih =>
      intro h0 x1 x2 x3 x4 x5 σ h H locs ls hM hL hl
      rw [f_X6_advise_51.eq_2] at h
      refine lv_iload hx hb dX6_advise_51 (lv_at hl 5 rfl) ?_
      refine lv_aload_n hx hb dX6_advise_53 rfl (lv_at hl 0 rfl) ?_
      refine m_getI (ci := 5) hx hb hU6 hown hK hM rfl 0 (by decide) w2 h dX6_advise_54 (fun v33 gv33 h => ?_)
      refine lv_icmp_ge (tgt := 131) hx hb dX6_advise_57 (by decide) (fun c34 => ?_) (fun c34 => ?_)
      · have h := (if_pos c34).symm.trans h
        refine lv_iload_n hx hb dX6_advise_131 rfl (lv_at hl 2 rfl) ?_
        refine lv_if_ne (tgt := 139) hx hb dX6_advise_132 (by decide) (fun c35 => ?_) (fun c35 => ?_)
        · have h := (if_neg c35).symm.trans h
          refine lv_iload hx hb dX6_advise_139 (lv_at hl 4 rfl) ?_
          subst hQ
          have h := Option.some.inj h
          subst h
          exact m_iret hx hb hr hM hL dX6_advise_141 hlocks
        · have h := (if_pos c35).symm.trans h
          refine lv_iload_n hx hb dX6_advise_135 rfl (lv_at hl 3 rfl) ?_
          refine lv_goto (tgt := 141) hx hb dX6_advise_136 (by decide) ?_
          subst hQ
          have h := Option.some.inj h
          subst h
          exact m_iret hx hb hr hM hL dX6_advise_141 hlocks
      · have h := (if_neg c34).symm.trans h
        refine lv_aload_n hx hb dX6_advise_60 rfl (lv_at hl 0 rfl) ?_
        refine lv_iload hx hb dX6_advise_61 (lv_at hl 5 rfl) ?_
        obtain ⟨o36, h⟩ := oi_some h
        obtain ⟨q37, hq37, h⟩ := ob_some h
        refine m_calli (va_runV (As := [.int x5]) (rest := []) ⟨hx, hb, hml, hown, hts⟩ (c_X6_can l G hq37) (cwV 1 hts gX6_advise_X6_can rfl rfl rfl hd_X6_canv ⟨Nat.le_of_ble_eq_true rfl, Nat.le_of_ble_eq_true rfl⟩) (m_preV (ci := 5) hK hM rfl o36) rfl rfl hl.1 rfl (lv_room (Nat.le_of_ble_eq_true rfl)) dX6_advise_63 ⟨Nat.le_of_ble_eq_true rfl, Nat.le_of_ble_eq_true rfl⟩) hL (fun H locs hM hL => ?_)
        refine lv_if_eq (tgt := 125) hx hb dX6_advise_66 (by decide) (fun c38 => ?_) (fun c38 => ?_)
        · have h := (if_pos c38).symm.trans h
          obtain ⟨v39, ev39⟩ : ∃ y : Int32, y = x5 + (1 : Int32) := ⟨_, rfl⟩
          have h := vl_at ev39 h
          refine lv_iinc (v := v39) (lv' := [(5, .int v39), (0, .ref h0), (1, .int x1), (2, .int x2), (3, .int x3), (4, .int x4)]) hx hb dX6_advise_125 hl (k := 5) rfl (by rw [ev39, kI_1]) (by decide) rfl (fun ls hl => ?_)
          refine lv_goto (tgt := 51) hx hb dX6_advise_128 (by decide) ?_
          exact ih _ _ _ _ _ _ _ h _ _ _ hM hL (lv_sub hl [1, 2, 3, 4, 5, 0] rfl)
        · have h := (if_neg c38).symm.trans h
          refine lv_aload_n hx hb dX6_advise_69 rfl (lv_at hl 0 rfl) ?_
          refine lv_iload hx hb dX6_advise_70 (lv_at hl 5 rfl) ?_
          obtain ⟨o40, h⟩ := oi_some h
          obtain ⟨q41, hq41, h⟩ := ob_some h
          refine m_calli (va_runV (As := [.int x5]) (rest := []) ⟨hx, hb, hml, hown, hts⟩ (c_X6_dropOf l G hq41) (cwV 1 hts gX6_advise_X6_dropOf rfl rfl rfl hd_X6_dropOfv ⟨Nat.le_of_ble_eq_true rfl, Nat.le_of_ble_eq_true rfl⟩) (m_preV (ci := 5) hK hM rfl o40) rfl rfl hl.1 rfl (lv_room (Nat.le_of_ble_eq_true rfl)) dX6_advise_72 ⟨Nat.le_of_ble_eq_true rfl, Nat.le_of_ble_eq_true rfl⟩) hL (fun H locs hM hL => ?_)
          refine lv_pop hx hb dX6_advise_75 rfl ?_
          refine lv_aload_n hx hb dX6_advise_76 rfl (lv_at hl 0 rfl) ?_
          refine lv_iload_n hx hb dX6_advise_77 rfl (lv_at hl 1 rfl) ?_
          obtain ⟨o42, h⟩ := oi_some h
          obtain ⟨q43, hq43, h⟩ := ob_some h
          refine m_callv (va_runV (As := [.int x1]) (rest := []) ⟨hx, hb, hml, hown, hts⟩ (c_X6_goes l G hq43) (cwV 1 hts gX6_advise_X6_goes rfl rfl rfl hd_X6_goesv ⟨Nat.le_of_ble_eq_true rfl, Nat.le_of_ble_eq_true rfl⟩) (m_preV (ci := 5) hK hM rfl o42) rfl rfl hl.1 rfl (lv_room (Nat.le_of_ble_eq_true rfl)) dX6_advise_78 ⟨Nat.le_of_ble_eq_true rfl, Nat.le_of_ble_eq_true rfl⟩) hL (fun H locs hM hL => ?_)
          refine lv_aload_n hx hb dX6_advise_81 rfl (lv_at hl 0 rfl) ?_
          refine lv_aload_n hx hb dX6_advise_82 rfl (lv_at hl 0 rfl) ?_
          refine m_getI (ci := 5) hx hb hU6 hown hK hM rfl 7 (by decide) w1 h dX6_advise_83 (fun v44 gv44 h => ?_)
          obtain ⟨o45, h⟩ := oi_some h
          obtain ⟨q46, hq46, h⟩ := ob_some h
          refine m_calli (va_runV (As := [.int v44]) (rest := []) ⟨hx, hb, hml, hown, hts⟩ (c_X6_verdictOf l G hq46) (cwV 1 hts gX6_advise_X6_verdictOf rfl rfl rfl hd_X6_verdictOfv ⟨Nat.le_of_ble_eq_true rfl, Nat.le_of_ble_eq_true rfl⟩) (m_preV (ci := 5) hK hM rfl o45) rfl rfl hl.1 rfl (lv_room (Nat.le_of_ble_eq_true rfl)) dX6_advise_86 ⟨Nat.le_of_ble_eq_true rfl, Nat.le_of_ble_eq_true rfl⟩) hL (fun H locs hM hL => ?_)
          refine lv_istore (lv' := [(6, .int q46), (0, .ref h0), (1, .int x1), (2, .int x2), (3, .int x3), (4, .int x4), (5, .int x5)]) hx hb dX6_advise_89 hl (by decide) rfl (fun ls hl => ?_)
          refine lv_aload_n hx hb dX6_advise_91 rfl (lv_at hl 1 rfl) ?_
          obtain ⟨o47, h⟩ := oi_some h
          obtain ⟨q48, hq48, h⟩ := ob_some h
          refine m_callv (va_runV (As := []) (rest := []) ⟨hx, hb, hml, hown, hts⟩ (c_X6_lays l G hq48) (cwV 0 hts gX6_advise_X6_lays rfl rfl rfl hd_X6_laysv ⟨Nat.le_of_ble_eq_true rfl, Nat.le_of_ble_eq_true rfl⟩) (m_preV (ci := 5) hK hM rfl o47) rfl rfl hl.1 rfl (lv_room (Nat.le_of_ble_eq_true rfl)) dX6_advise_92 ⟨Nat.le_of_ble_eq_true rfl, Nat.le_of_ble_eq_true rfl⟩) hL (fun H locs hM hL => ?_)
          refine lv_iload hx hb dX6_advise_95 (lv_at hl 0 rfl) ?_
          refine lv_iload hx hb dX6_advise_97 (lv_at hl 5 rfl) ?_
          suffices hJ : ∀ (v50 : Int32) (ls : Array Slot), v50 = (if q46 ≤ x4 then x3 else x5) → lv_has ls 7 [(0, .ref h0), (1, .int x1), (2, .int x2), (4, .int x4), (5, .int x5), (6, .int q46)] → W p l e rm_X6_advise s m args below meth c H locs 0 0 Q (F0 m 108 ls [.int v50]) by
            refine lv_icmp_le (tgt := 107) hx hb dX6_advise_99 (by decide) (fun c49 => ?_) (fun c49 => ?_)
            · refine lv_iload_n hx hb dX6_advise_107 rfl (lv_at hl 4 rfl) ?_
              exact hJ _ _ (((if_pos c49).trans rfl).symm) (lv_sub hl [1, 2, 3, 5, 6, 0] rfl)
            · refine lv_iload hx hb dX6_advise_102 (lv_at hl 6 rfl) ?_
              refine lv_goto (tgt := 108) hx hb dX6_advise_104 (by decide) ?_
              exact hJ _ _ (((if_neg c49).trans rfl).symm) (lv_sub hl [1, 2, 3, 5, 6, 0] rfl)
          intro v50 ls ev50 hl
          have h := vl_at ev50 h
          refine lv_istore_n (lv' := [(3, .int v50), (0, .ref h0), (1, .int x1), (2, .int x2), (4, .int x4), (5, .int x5), (6, .int q46)]) hx hb dX6_advise_108 rfl hl (by decide) rfl (fun ls hl => ?_)
          refine lv_iload hx hb dX6_advise_109 (lv_at hl 6 rfl) ?_
          refine lv_iload hx hb dX6_advise_111 (lv_at hl 4 rfl) ?_
          suffices hJ : ∀ (v52 : Int32) (ls : Array Slot), v52 = (if q46 ≤ x4 then x4 else q46) → lv_has ls 7 [(0, .ref h0), (1, .int x1), (2, .int x2), (3, .int v50), (5, .int x5)] → W p l e rm_X6_advise s m args below meth c H locs 0 0 Q (F0 m 123 ls [.int v52]) by
            refine lv_icmp_le (tgt := 121) hx hb dX6_advise_113 (by decide) (fun c51 => ?_) (fun c51 => ?_)
            · refine lv_iload hx hb dX6_advise_121 (lv_at hl 4 rfl) ?_
              exact hJ _ _ (((if_pos c51).trans rfl).symm) (lv_sub hl [1, 2, 3, 0, 5] rfl)
            · refine lv_iload hx hb dX6_advise_116 (lv_at hl 6 rfl) ?_
              refine lv_goto (tgt := 123) hx hb dX6_advise_118 (by decide) ?_
              exact hJ _ _ (((if_neg c51).trans rfl).symm) (lv_sub hl [1, 2, 3, 0, 5] rfl)
          intro v52 ls ev52 hl
          have h := vl_at ev52 h
          refine lv_istore (lv' := [(4, .int v52), (0, .ref h0), (1, .int x1), (2, .int x2), (3, .int v50), (5, .int x5)]) hx hb dX6_advise_123 hl (by decide) rfl (fun ls hl => ?_)
          obtain ⟨v53, ev53⟩ : ∃ y : Int32, y = x5 + (1 : Int32) := ⟨_, rfl⟩
          have h := vl_at ev53 h
          refine lv_iinc (v := v53) (lv' := [(5, .int v53), (4, .int v52), (0, .ref h0), (1, .int x1), (2, .int x2), (3, .int v50)]) hx hb dX6_advise_125 hl (k := 5) rfl (by rw [ev53, kI_1]) (by decide) rfl (fun ls hl => ?_)
          refine lv_goto (tgt := 51) hx hb dX6_advise_128 (by decide) ?_
          exact ih _ _ _ _ _ _ _ h _ _ _ hM hL (lv_sub hl [2, 3, 4, 5, 1, 0] rfl)
  rw [f_X6_advise.eq_1] at h
  refine lv_iload_n hx hb dX6_advise_0 rfl (lv_at hl 1 rfl) ?_
  refine lv_iconst hx hb dX6_advise_1 kI_0 ?_
  refine lv_bipush hx hb dX6_advise_2 kB_40 ?_
  refine m_calli (va_runS (As := [.int x1, .int (0 : Int32), .int (40 : Int32)]) (rest := []) ⟨hx, hb, hml, hown, hts⟩ (c_X6_in l G x1 (0 : Int32) (40 : Int32)) (va_cwS 3 hts gX6_advise_X6_in rfl rfl rfl hd_X6_in ⟨Nat.le_of_ble_eq_true rfl, Nat.le_of_ble_eq_true rfl⟩) (m_preS hK hM) rfl rfl hl.1 rfl (lv_room (Nat.le_of_ble_eq_true rfl)) dX6_advise_4 ⟨Nat.le_of_ble_eq_true rfl, Nat.le_of_ble_eq_true rfl⟩) hL (fun H locs hM hL => ?_)
  refine lv_if_eq (tgt := 19) hx hb dX6_advise_7 (by decide) (fun c54 => ?_) (fun c54 => ?_)
  · have h := (if_pos c54).symm.trans h
    refine lv_sipush hx hb dX6_advise_19 kS_m5000 ?_
    subst hQ
    have h := Option.some.inj h
    subst h
    exact m_iret hx hb hr hM hL dX6_advise_22 hlocks
  · have h := (if_neg c54).symm.trans h
    refine lv_iload_n hx hb dX6_advise_10 rfl (lv_at hl 2 rfl) ?_
    refine lv_iconst hx hb dX6_advise_11 kI_0 ?_
    refine lv_iconst hx hb dX6_advise_12 kI_1 ?_
    refine m_calli (va_runS (As := [.int x2, .int (0 : Int32), .int (1 : Int32)]) (rest := []) ⟨hx, hb, hml, hown, hts⟩ (c_X6_in l G x2 (0 : Int32) (1 : Int32)) (va_cwS 3 hts gX6_advise_X6_in rfl rfl rfl hd_X6_in ⟨Nat.le_of_ble_eq_true rfl, Nat.le_of_ble_eq_true rfl⟩) (m_preS hK hM) rfl rfl hl.1 rfl (lv_room (Nat.le_of_ble_eq_true rfl)) dX6_advise_13 ⟨Nat.le_of_ble_eq_true rfl, Nat.le_of_ble_eq_true rfl⟩) hL (fun H locs hM hL => ?_)
    refine lv_if_ne (tgt := 23) hx hb dX6_advise_16 (by decide) (fun c55 => ?_) (fun c55 => ?_)
    · have h := (if_neg c55).symm.trans h
      refine lv_iconst hx hb dX6_advise_23 kI_m1 ?_
      refine lv_istore_n (lv' := [(3, .int (-1 : Int32)), (0, .ref h0), (1, .int x1), (2, .int x2)]) hx hb dX6_advise_24 rfl hl (by decide) rfl (fun ls hl => ?_)
      refine lv_aload_n hx hb dX6_advise_25 rfl (lv_at hl 1 rfl) ?_
      obtain ⟨o56, h⟩ := oi_some h
      obtain ⟨q57, hq57, h⟩ := ob_some h
      refine m_callv (va_runV (As := []) (rest := []) ⟨hx, hb, hml, hown, hts⟩ (c_X6_keeps l G hq57) (cwV 0 hts gX6_advise_X6_keeps rfl rfl rfl hd_X6_keepsv ⟨Nat.le_of_ble_eq_true rfl, Nat.le_of_ble_eq_true rfl⟩) (m_preV (ci := 5) hK hM rfl o56) rfl rfl hl.1 rfl (lv_room (Nat.le_of_ble_eq_true rfl)) dX6_advise_26 ⟨Nat.le_of_ble_eq_true rfl, Nat.le_of_ble_eq_true rfl⟩) hL (fun H locs hM hL => ?_)
      refine lv_aload_n hx hb dX6_advise_29 rfl (lv_at hl 1 rfl) ?_
      refine lv_iload_n hx hb dX6_advise_30 rfl (lv_at hl 2 rfl) ?_
      obtain ⟨o58, h⟩ := oi_some h
      obtain ⟨q59, hq59, h⟩ := ob_some h
      refine m_callv (va_runV (As := [.int x1]) (rest := []) ⟨hx, hb, hml, hown, hts⟩ (c_X6_goes l G hq59) (cwV 1 hts gX6_advise_X6_goes rfl rfl rfl hd_X6_goesv ⟨Nat.le_of_ble_eq_true rfl, Nat.le_of_ble_eq_true rfl⟩) (m_preV (ci := 5) hK hM rfl o58) rfl rfl hl.1 rfl (lv_room (Nat.le_of_ble_eq_true rfl)) dX6_advise_31 ⟨Nat.le_of_ble_eq_true rfl, Nat.le_of_ble_eq_true rfl⟩) hL (fun H locs hM hL => ?_)
      refine lv_aload_n hx hb dX6_advise_34 rfl (lv_at hl 1 rfl) ?_
      refine lv_aload_n hx hb dX6_advise_35 rfl (lv_at hl 1 rfl) ?_
      refine m_getI (ci := 5) hx hb hU6 hown hK hM rfl 7 (by decide) w1 h dX6_advise_36 (fun v60 gv60 h => ?_)
      obtain ⟨o61, h⟩ := oi_some h
      obtain ⟨q62, hq62, h⟩ := ob_some h
      refine m_calli (va_runV (As := [.int v60]) (rest := []) ⟨hx, hb, hml, hown, hts⟩ (c_X6_verdictOf l G hq62) (cwV 1 hts gX6_advise_X6_verdictOf rfl rfl rfl hd_X6_verdictOfv ⟨Nat.le_of_ble_eq_true rfl, Nat.le_of_ble_eq_true rfl⟩) (m_preV (ci := 5) hK hM rfl o61) rfl rfl hl.1 rfl (lv_room (Nat.le_of_ble_eq_true rfl)) dX6_advise_39 ⟨Nat.le_of_ble_eq_true rfl, Nat.le_of_ble_eq_true rfl⟩) hL (fun H locs hM hL => ?_)
      refine lv_istore (lv' := [(4, .int q62), (3, .int (-1 : Int32)), (0, .ref h0), (1, .int x1), (2, .int x2)]) hx hb dX6_advise_42 hl (by decide) rfl (fun ls hl => ?_)
      refine lv_aload_n hx hb dX6_advise_44 rfl (lv_at hl 2 rfl) ?_
      obtain ⟨o63, h⟩ := oi_some h
      obtain ⟨q64, hq64, h⟩ := ob_some h
      refine m_callv (va_runV (As := []) (rest := []) ⟨hx, hb, hml, hown, hts⟩ (c_X6_lays l G hq64) (cwV 0 hts gX6_advise_X6_lays rfl rfl rfl hd_X6_laysv ⟨Nat.le_of_ble_eq_true rfl, Nat.le_of_ble_eq_true rfl⟩) (m_preV (ci := 5) hK hM rfl o63) rfl rfl hl.1 rfl (lv_room (Nat.le_of_ble_eq_true rfl)) dX6_advise_45 ⟨Nat.le_of_ble_eq_true rfl, Nat.le_of_ble_eq_true rfl⟩) hL (fun H locs hM hL => ?_)
      refine lv_iconst hx hb dX6_advise_48 kI_0 ?_
      refine lv_istore (lv' := [(5, .int (0 : Int32)), (4, .int q62), (3, .int (-1 : Int32)), (0, .ref h0), (1, .int x1), (2, .int x2)]) hx hb dX6_advise_49 hl (by decide) rfl (fun ls hl => ?_)
      refine hN51 _ _ _ _ _ _ _ _ h _ _ _ hM hL (lv_sub hl [3, 4, 5, 2, 1, 0] rfl)
    · have h := (if_pos c55).symm.trans h
      refine lv_sipush hx hb dX6_advise_19 kS_m5000 ?_
      subst hQ
      have h := Option.some.inj h
      subst h
      exact m_iret hx hb hr hM hL dX6_advise_22 hlocks
abbrev rm_X6_turn : Room := { frames := 1, cells := 0, slots := 0, locals := 23 }
set_option maxHeartbeats 4000000 in
set_option maxRecDepth 100000 in
theorem c_X6_turn (l : Launch) (G : mG) {h0 : Nat} {x1 : Int32} {σ : mS} {z : Int32} (h : f_X6_turn h0 x1 σ = some z) : Met l yX6_turn wsX6_turn rm_X6_turn (va_Pc [.ref h0, .int x1] (mB G σ)) (mQ G (.returned (some (.int z))) (σ)) 0 0 (mF G) := by
  refine m_start (cc := cX6_turn) (maxL := 7) (ret := (some .int)) (by decide) rfl [.ref h0, .int x1] (Nat.le_of_ble_eq_true rfl) ?_
  intro p e s m args below meth c ls hx hb hr hml hown hts hlocks hnm hK hM hl
  have hown : s.vm.findClass RX6 = some m.cls := hown
  have hnm : meth.name = "turn" := hnm
  obtain ⟨locs, hlocs⟩ : ∃ l : List Loc, l = [] := ⟨_, rfl⟩
  have hL : mL G locs := by rw [hlocs]; exact mL_nil G
  rw [← hlocs]
  generalize s.heap = H at hM ⊢
  have hl : lv_has ls 7 [(0, .ref h0), (1, .int x1)] := hl
  obtain ⟨Q, hQ⟩ : ∃ Q, Q = MQ below (mQ G (.returned (some (.int z))) (σ)) args s 0 0 (mF G) := ⟨_, rfl⟩
  rw [← hQ]
  have hU6 : ∀ w ∈ wsX60, w.before args s = true := fun w h => hts w (List.mem_cons_of_mem _ (List.mem_append_right _ h))
  have w1 := (hts (.fieldLink RX6 109 "HandkerchiefsDroppedModel" "admitted" "I") (List.mem_of_getElem? (i := 1) rfl))
  have hN75 : ∀ (k37 : Nat → Int32 → Int32 → Int32 → Int32 → Int32 → Option Int32) (hk37 : ∀ (h0 : Nat) (x1 : Int32) (x2 : Int32) (x3 : Int32) (x4 : Int32) (x5 : Int32), k37 h0 x1 x2 x3 x4 x5 = some z → ∀ (H : Heap) (locs : List Loc) (ls : Array Slot), mP G σ H → mL G locs → lv_has ls 7 [(0, .ref h0), (1, .int x1), (2, .int x2), (3, .int x3), (4, .int x4), (5, .int x5)] → W p l e rm_X6_turn s m args below meth c H locs 0 0 Q (F0 m 37 ls [])) (h0 : Nat) (x1 : Int32) (x2 : Int32) (x3 : Int32) (x4 : Int32) (x5 : Int32) (s0 : Int32), f_X6_turn_75 σ k37 h0 x1 x2 x3 x4 x5 s0 = some z → ∀ (H : Heap) (locs : List Loc) (ls : Array Slot), mP G σ H → mL G locs → lv_has ls 7 [(0, .ref h0), (1, .int x1), (2, .int x2), (3, .int x3), (4, .int x4), (5, .int x5)] → W p l e rm_X6_turn s m args below meth c H locs 0 0 Q (F0 m 75 ls [.int s0]) := by
    intro k37 hk37 h0 x1 x2 x3 x4 x5 s0 h H locs ls hM hL hl
    rw [f_X6_turn_75.eq_1] at h
    refine lv_istore (lv' := [(6, .int s0), (0, .ref h0), (1, .int x1), (2, .int x2), (3, .int x3), (4, .int x4), (5, .int x5)]) hx hb dX6_turn_75 hl (by decide) rfl (fun ls hl => ?_)
    refine lv_iload hx hb dX6_turn_77 (lv_at hl 0 rfl) ?_
    refine lv_if_eq (tgt := 115) hx hb dX6_turn_79 (by decide) (fun c27 => ?_) (fun c27 => ?_)
    · have h := (if_pos c27).symm.trans h
      obtain ⟨v28, ev28⟩ : ∃ y : Int32, y = x5 + (1 : Int32) := ⟨_, rfl⟩
      have h := vl_at ev28 h
      refine lv_iinc (v := v28) (lv' := [(5, .int v28), (6, .int s0), (0, .ref h0), (1, .int x1), (2, .int x2), (3, .int x3), (4, .int x4)]) hx hb dX6_turn_115 hl (k := 6) rfl (by rw [ev28, kI_1]) (by decide) rfl (fun ls hl => ?_)
      refine lv_goto (tgt := 37) hx hb dX6_turn_118 (by decide) ?_
      exact hk37 _ _ _ _ _ _ h _ _ _ hM hL (lv_sub hl [2, 3, 4, 5, 6, 0] rfl)
    · have h := (if_neg c27).symm.trans h
      refine lv_aload_n hx hb dX6_turn_82 rfl (lv_at hl 1 rfl) ?_
      refine lv_aload_n hx hb dX6_turn_83 rfl (lv_at hl 1 rfl) ?_
      refine m_getI (ci := 5) hx hb hU6 hown hK hM rfl 7 (by decide) w1 h dX6_turn_84 (fun v29 gv29 h => ?_)
      refine lv_iload hx hb dX6_turn_87 (lv_at hl 6 rfl) ?_
      refine lv_ior hx hb dX6_turn_89 ?_
      obtain ⟨o30, h⟩ := oi_some h
      obtain ⟨q31, hq31, h⟩ := ob_some h
      refine m_calli (va_runV (As := [.int (v29 ||| x5)]) (rest := []) ⟨hx, hb, hml, hown, hts⟩ (c_X6_verdictOf l G hq31) (cwV 1 hts gX6_turn_X6_verdictOf rfl rfl rfl hd_X6_verdictOfv ⟨Nat.le_of_ble_eq_true rfl, Nat.le_of_ble_eq_true rfl⟩) (m_preV (ci := 5) hK hM rfl o30) rfl rfl hl.1 rfl (lv_room (Nat.le_of_ble_eq_true rfl)) dX6_turn_90 ⟨Nat.le_of_ble_eq_true rfl, Nat.le_of_ble_eq_true rfl⟩) hL (fun H locs hM hL => ?_)
      suffices hJ : ∀ (v33 : Int32) (ls : Array Slot), v33 = (if q31 ≤ 0 then (0 : Int32) else (1 : Int32)) → lv_has ls 7 [(0, .ref h0), (1, .int x1), (2, .int x2), (3, .int x3), (4, .int x4), (5, .int x5)] → W p l e rm_X6_turn s m args below meth c H locs 0 0 Q (F0 m 101 ls [.int v33]) by
        refine lv_if_le (tgt := 100) hx hb dX6_turn_93 (by decide) (fun c32 => ?_) (fun c32 => ?_)
        · refine lv_iconst hx hb dX6_turn_100 kI_0 ?_
          exact hJ _ _ (((if_pos c32).trans rfl).symm) (lv_sub hl [1, 2, 3, 4, 5, 6] rfl)
        · refine lv_iconst hx hb dX6_turn_96 kI_1 ?_
          refine lv_goto (tgt := 101) hx hb dX6_turn_97 (by decide) ?_
          exact hJ _ _ (((if_neg c32).trans rfl).symm) (lv_sub hl [1, 2, 3, 4, 5, 6] rfl)
      intro v33 ls ev33 hl
      have h := vl_at ev33 h
      refine lv_iload_n hx hb dX6_turn_101 rfl (lv_at hl 2 rfl) ?_
      refine lv_icmp_eq (tgt := 115) hx hb dX6_turn_102 (by decide) (fun c34 => ?_) (fun c34 => ?_)
      · have h := (if_pos c34).symm.trans h
        obtain ⟨v35, ev35⟩ : ∃ y : Int32, y = x5 + (1 : Int32) := ⟨_, rfl⟩
        have h := vl_at ev35 h
        refine lv_iinc (v := v35) (lv' := [(5, .int v35), (0, .ref h0), (1, .int x1), (2, .int x2), (3, .int x3), (4, .int x4)]) hx hb dX6_turn_115 hl (k := 5) rfl (by rw [ev35, kI_1]) (by decide) rfl (fun ls hl => ?_)
        refine lv_goto (tgt := 37) hx hb dX6_turn_118 (by decide) ?_
        exact hk37 _ _ _ _ _ _ h _ _ _ hM hL (lv_sub hl [1, 2, 3, 4, 5, 0] rfl)
      · have h := (if_neg c34).symm.trans h
        refine lv_iload hx hb dX6_turn_105 (lv_at hl 5 rfl) ?_
        refine lv_istore_n (lv' := [(3, .int x5), (0, .ref h0), (1, .int x1), (2, .int x2), (4, .int x4), (5, .int x5)]) hx hb dX6_turn_107 rfl hl (by decide) rfl (fun ls hl => ?_)
        refine lv_iload hx hb dX6_turn_108 (lv_at hl 5 rfl) ?_
        obtain ⟨q36, hq36, h⟩ := ob_some h
        refine m_calli (va_runS (As := [.int x5]) (rest := []) ⟨hx, hb, hml, hown, hts⟩ (c_X6_onesOf l G hq36) (va_cwS 1 hts gX6_turn_X6_onesOf rfl rfl rfl hd_X6_onesOf ⟨Nat.le_of_ble_eq_true rfl, Nat.le_of_ble_eq_true rfl⟩) (m_preS hK hM) rfl rfl hl.1 rfl (lv_room (Nat.le_of_ble_eq_true rfl)) dX6_turn_110 ⟨Nat.le_of_ble_eq_true rfl, Nat.le_of_ble_eq_true rfl⟩) hL (fun H locs hM hL => ?_)
        refine lv_istore (lv' := [(4, .int q36), (3, .int x5), (0, .ref h0), (1, .int x1), (2, .int x2), (5, .int x5)]) hx hb dX6_turn_113 hl (by decide) rfl (fun ls hl => ?_)
        obtain ⟨v37, ev37⟩ : ∃ y : Int32, y = x5 + (1 : Int32) := ⟨_, rfl⟩
        have h := vl_at ev37 h
        refine lv_iinc (v := v37) (lv' := [(5, .int v37), (4, .int q36), (3, .int x5), (0, .ref h0), (1, .int x1), (2, .int x2)]) hx hb dX6_turn_115 hl (k := 5) rfl (by rw [ev37, kI_1]) (by decide) rfl (fun ls hl => ?_)
        refine lv_goto (tgt := 37) hx hb dX6_turn_118 (by decide) ?_
        exact hk37 _ _ _ _ _ _ h _ _ _ hM hL (lv_sub hl [3, 4, 5, 2, 1, 0] rfl)
  have hN37 : ∀ (n : Nat) (h0 : Nat) (x1 : Int32) (x2 : Int32) (x3 : Int32) (x4 : Int32) (x5 : Int32), f_X6_turn_37 σ n h0 x1 x2 x3 x4 x5 = some z → ∀ (H : Heap) (locs : List Loc) (ls : Array Slot), mP G σ H → mL G locs → lv_has ls 7 [(0, .ref h0), (1, .int x1), (2, .int x2), (3, .int x3), (4, .int x4), (5, .int x5)] → W p l e rm_X6_turn s m args below meth c H locs 0 0 Q (F0 m 37 ls []) := by
    intro n
    induction n with
    | zero =>
      intro h0 x1 x2 x3 x4 x5 h
      exact nomatch (show (none : Option Int32) = some z from h)
    | succ n ih =>
      intro h0 x1 x2 x3 x4 x5 h H locs ls hM hL hl
      rw [f_X6_turn_37.eq_2] at h
      refine lv_iload hx hb dX6_turn_37 (lv_at hl 5 rfl) ?_
      refine lv_sipush hx hb dX6_turn_39 kS_1023 ?_
      refine lv_icmp_gt (tgt := 121) hx hb dX6_turn_42 (by decide) (fun c38 => ?_) (fun c38 => ?_)
      · have h := (if_pos c38).symm.trans h
        refine lv_iload_n hx hb dX6_turn_121 rfl (lv_at hl 1 rfl) ?_
        refine lv_if_ne (tgt := 129) hx hb dX6_turn_122 (by decide) (fun c39 => ?_) (fun c39 => ?_)
        · have h := (if_neg c39).symm.trans h
          refine lv_iload hx hb dX6_turn_129 (lv_at hl 4 rfl) ?_
          subst hQ
          have h := Option.some.inj h
          subst h
          exact m_iret hx hb hr hM hL dX6_turn_131 hlocks
        · have h := (if_pos c39).symm.trans h
          refine lv_iload_n hx hb dX6_turn_125 rfl (lv_at hl 3 rfl) ?_
          refine lv_goto (tgt := 131) hx hb dX6_turn_126 (by decide) ?_
          subst hQ
          have h := Option.some.inj h
          subst h
          exact m_iret hx hb hr hM hL dX6_turn_131 hlocks
      · have h := (if_neg c38).symm.trans h
        refine lv_iload hx hb dX6_turn_45 (lv_at hl 5 rfl) ?_
        refine lv_aload_n hx hb dX6_turn_47 rfl (lv_at hl 0 rfl) ?_
        refine m_getI (ci := 5) hx hb hU6 hown hK hM rfl 7 (by decide) w1 h dX6_turn_48 (fun v40 gv40 h => ?_)
        refine lv_iand hx hb dX6_turn_51 ?_
        refine lv_if_ne (tgt := 115) hx hb dX6_turn_52 (by decide) (fun c41 => ?_) (fun c41 => ?_)
        · have h := (if_neg c41).symm.trans h
          obtain ⟨v42, ev42⟩ : ∃ y : Int32, y = x5 + (1 : Int32) := ⟨_, rfl⟩
          have h := vl_at ev42 h
          refine lv_iinc (v := v42) (lv' := [(5, .int v42), (0, .ref h0), (1, .int x1), (2, .int x2), (3, .int x3), (4, .int x4)]) hx hb dX6_turn_115 hl (k := 5) rfl (by rw [ev42, kI_1]) (by decide) rfl (fun ls hl => ?_)
          refine lv_goto (tgt := 37) hx hb dX6_turn_118 (by decide) ?_
          exact ih _ _ _ _ _ _ h _ _ _ hM hL (lv_sub hl [1, 2, 3, 4, 5, 0] rfl)
        · have h := (if_pos c41).symm.trans h
          refine lv_iload_n hx hb dX6_turn_55 rfl (lv_at hl 3 rfl) ?_
          refine lv_iconst hx hb dX6_turn_56 kI_m1 ?_
          refine lv_icmp_eq (tgt := 70) hx hb dX6_turn_57 (by decide) (fun c43 => ?_) (fun c43 => ?_)
          · have h := (if_pos c43).symm.trans h
            refine lv_iconst hx hb dX6_turn_70 kI_1 ?_
            refine lv_goto (tgt := 75) hx hb dX6_turn_71 (by decide) ?_
            refine hN75 _ (fun _ _ _ _ _ _ h H locs ls hM hL hl => ih _ _ _ _ _ _ h H locs ls hM hL hl) _ _ _ _ _ _ _ h _ _ _ hM hL (lv_sub hl [0, 1, 2, 3, 4, 5] rfl)
          · have h := (if_neg c43).symm.trans h
            refine lv_iload hx hb dX6_turn_60 (lv_at hl 5 rfl) ?_
            obtain ⟨q44, hq44, h⟩ := ob_some h
            refine m_calli (va_runS (As := [.int x5]) (rest := []) ⟨hx, hb, hml, hown, hts⟩ (c_X6_onesOf l G hq44) (va_cwS 1 hts gX6_turn_X6_onesOf rfl rfl rfl hd_X6_onesOf ⟨Nat.le_of_ble_eq_true rfl, Nat.le_of_ble_eq_true rfl⟩) (m_preS hK hM) rfl rfl hl.1 rfl (lv_room (Nat.le_of_ble_eq_true rfl)) dX6_turn_62 ⟨Nat.le_of_ble_eq_true rfl, Nat.le_of_ble_eq_true rfl⟩) hL (fun H locs hM hL => ?_)
            refine lv_iload hx hb dX6_turn_65 (lv_at hl 4 rfl) ?_
            suffices hJ : ∀ (v46 : Int32) (ls : Array Slot), v46 = (if x4 ≤ q44 then (0 : Int32) else (1 : Int32)) → lv_has ls 7 [(0, .ref h0), (1, .int x1), (2, .int x2), (3, .int x3), (4, .int x4), (5, .int x5)] → W p l e rm_X6_turn s m args below meth c H locs 0 0 Q (F0 m 75 ls [.int v46]) by
              refine lv_icmp_ge (tgt := 74) hx hb dX6_turn_67 (by decide) (fun c45 => ?_) (fun c45 => ?_)
              · refine lv_iconst hx hb dX6_turn_74 kI_0 ?_
                exact hJ _ _ (((if_pos c45).trans rfl).symm) (lv_sub hl [0, 1, 2, 3, 4, 5] rfl)
              · refine lv_iconst hx hb dX6_turn_70 kI_1 ?_
                refine lv_goto (tgt := 75) hx hb dX6_turn_71 (by decide) ?_
                exact hJ _ _ (((if_neg c45).trans rfl).symm) (lv_sub hl [0, 1, 2, 3, 4, 5] rfl)
            intro v46 ls ev46 hl
            have h := vl_at ev46 h
            refine hN75 _ (fun _ _ _ _ _ _ h H locs ls hM hL hl => ih _ _ _ _ _ _ h H locs ls hM hL hl) _ _ _ _ _ _ _ h _ _ _ hM hL (lv_sub hl [0, 1, 2, 3, 4, 5] rfl)
  rw [f_X6_turn.eq_1] at h
  refine lv_iload_n hx hb dX6_turn_0 rfl (lv_at hl 1 rfl) ?_
  refine lv_iconst hx hb dX6_turn_1 kI_0 ?_
  refine lv_iconst hx hb dX6_turn_2 kI_1 ?_
  refine m_calli (va_runS (As := [.int x1, .int (0 : Int32), .int (1 : Int32)]) (rest := []) ⟨hx, hb, hml, hown, hts⟩ (c_X6_in l G x1 (0 : Int32) (1 : Int32)) (va_cwS 3 hts gX6_turn_X6_in rfl rfl rfl hd_X6_in ⟨Nat.le_of_ble_eq_true rfl, Nat.le_of_ble_eq_true rfl⟩) (m_preS hK hM) rfl rfl hl.1 rfl (lv_room (Nat.le_of_ble_eq_true rfl)) dX6_turn_3 ⟨Nat.le_of_ble_eq_true rfl, Nat.le_of_ble_eq_true rfl⟩) hL (fun H locs hM hL => ?_)
  refine lv_if_ne (tgt := 12) hx hb dX6_turn_6 (by decide) (fun c47 => ?_) (fun c47 => ?_)
  · have h := (if_neg c47).symm.trans h
    refine lv_aload_n hx hb dX6_turn_12 rfl (lv_at hl 0 rfl) ?_
    refine lv_aload_n hx hb dX6_turn_13 rfl (lv_at hl 0 rfl) ?_
    refine m_getI (ci := 5) hx hb hU6 hown hK hM rfl 7 (by decide) w1 h dX6_turn_14 (fun v48 gv48 h => ?_)
    obtain ⟨o49, h⟩ := oi_some h
    obtain ⟨q50, hq50, h⟩ := ob_some h
    refine m_calli (va_runV (As := [.int v48]) (rest := []) ⟨hx, hb, hml, hown, hts⟩ (c_X6_verdictOf l G hq50) (cwV 1 hts gX6_turn_X6_verdictOf rfl rfl rfl hd_X6_verdictOfv ⟨Nat.le_of_ble_eq_true rfl, Nat.le_of_ble_eq_true rfl⟩) (m_preV (ci := 5) hK hM rfl o49) rfl rfl hl.1 rfl (lv_room (Nat.le_of_ble_eq_true rfl)) dX6_turn_17 ⟨Nat.le_of_ble_eq_true rfl, Nat.le_of_ble_eq_true rfl⟩) hL (fun H locs hM hL => ?_)
    suffices hJ : ∀ (v52 : Int32) (ls : Array Slot), v52 = (if q50 ≤ 0 then (0 : Int32) else (1 : Int32)) → lv_has ls 7 [(0, .ref h0), (1, .int x1)] → W p l e rm_X6_turn s m args below meth c H locs 0 0 Q (F0 m 28 ls [.int v52]) by
      refine lv_if_le (tgt := 27) hx hb dX6_turn_20 (by decide) (fun c51 => ?_) (fun c51 => ?_)
      · refine lv_iconst hx hb dX6_turn_27 kI_0 ?_
        exact hJ _ _ (((if_pos c51).trans rfl).symm) (lv_sub hl [0, 1] rfl)
      · refine lv_iconst hx hb dX6_turn_23 kI_1 ?_
        refine lv_goto (tgt := 28) hx hb dX6_turn_24 (by decide) ?_
        exact hJ _ _ (((if_neg c51).trans rfl).symm) (lv_sub hl [0, 1] rfl)
    intro v52 ls ev52 hl
    have h := vl_at ev52 h
    refine lv_istore_n (lv' := [(2, .int v52), (0, .ref h0), (1, .int x1)]) hx hb dX6_turn_28 rfl hl (by decide) rfl (fun ls hl => ?_)
    refine lv_iconst hx hb dX6_turn_29 kI_m1 ?_
    refine lv_istore_n (lv' := [(3, .int (-1 : Int32)), (2, .int v52), (0, .ref h0), (1, .int x1)]) hx hb dX6_turn_30 rfl hl (by decide) rfl (fun ls hl => ?_)
    refine lv_iconst hx hb dX6_turn_31 kI_m1 ?_
    refine lv_istore (lv' := [(4, .int (-1 : Int32)), (3, .int (-1 : Int32)), (2, .int v52), (0, .ref h0), (1, .int x1)]) hx hb dX6_turn_32 hl (by decide) rfl (fun ls hl => ?_)
    refine lv_iconst hx hb dX6_turn_34 kI_0 ?_
    refine lv_istore (lv' := [(5, .int (0 : Int32)), (4, .int (-1 : Int32)), (3, .int (-1 : Int32)), (2, .int v52), (0, .ref h0), (1, .int x1)]) hx hb dX6_turn_35 hl (by decide) rfl (fun ls hl => ?_)
    refine hN37 _ _ _ _ _ _ _ h _ _ _ hM hL (lv_sub hl [4, 5, 3, 2, 1, 0] rfl)
  · have h := (if_pos c47).symm.trans h
    refine lv_bipush hx hb dX6_turn_9 kB_m2 ?_
    subst hQ
    have h := Option.some.inj h
    subst h
    exact m_iret hx hb hr hM hL dX6_turn_11 hlocks
