abbrev rm_X6_in : Room := { frames := 0, cells := 0, slots := 0, locals := 0 }
theorem z_X6_in (x0 x1 x2 : Int32) : narrow .boolean (.int (f_X6_in x0 x1 x2)) = .int (f_X6_in x0 x1 x2) := by
  rw [f_X6_in.eq_1]
  try dsimp only [vl]
  (repeat' split) <;> first | rfl | apply z_X5_isBelow | apply z_X5_isByte
set_option maxHeartbeats 4000000 in
set_option maxRecDepth 100000 in
theorem c_X6_in (l : Launch) (G : mG) (x0 : Int32) (x1 : Int32) (x2 : Int32) {σ : mS} : Met l yX6_in wsX6_in rm_X6_in (va_Pc [.int x0, .int x1, .int x2] (mB G σ)) (mQ G (.returned (some (.int (f_X6_in x0 x1 x2)))) (σ)) 0 0 (mF G) := by
  obtain ⟨z, h⟩ : ∃ z, f_X6_in x0 x1 x2 = z := ⟨_, rfl⟩
  rw [h]
  refine m_start (cc := cX6_in) (maxL := 3) (ret := (some .boolean)) (by decide) rfl [.int x0, .int x1, .int x2] (Nat.le_of_ble_eq_true rfl) ?_
  intro p e s m args below meth c ls hx hb hr hml hown hts hlocks hnm hK hM hl
  have hown : s.vm.findClass RX6 = some m.cls := hown
  have hnm : meth.name = "in" := hnm
  obtain ⟨locs, hlocs⟩ : ∃ l : List Loc, l = [] := ⟨_, rfl⟩
  have hL : mL G locs := by rw [hlocs]; exact mL_nil G
  rw [← hlocs]
  generalize s.heap = H at hM ⊢
  have hl : lv_has ls 3 [(0, .int x0), (1, .int x1), (2, .int x2)] := hl
  obtain ⟨Q, hQ⟩ : ∃ Q, Q = MQ below (mQ G (.returned (some (.int z))) (σ)) args s 0 0 (mF G) := ⟨_, rfl⟩
  rw [← hQ]
  rw [f_X6_in.eq_1] at h
  refine lv_iload_n hx hb dX6_in_0 rfl (lv_at hl 0 rfl) ?_
  refine lv_iload_n hx hb dX6_in_1 rfl (lv_at hl 1 rfl) ?_
  refine lv_icmp_lt (tgt := 14) hx hb dX6_in_2 (by decide) (fun c3 => ?_) (fun c3 => ?_)
  · have h := (if_pos c3).symm.trans h
    refine lv_iconst hx hb dX6_in_14 kI_0 ?_
    subst hQ
    subst h
    exact m_zret (x := (0 : Int32)) hx hb hr rfl hM hL dX6_in_15 hlocks
  · have h := (if_neg c3).symm.trans h
    refine lv_iload_n hx hb dX6_in_5 rfl (lv_at hl 0 rfl) ?_
    refine lv_iload_n hx hb dX6_in_6 rfl (lv_at hl 2 rfl) ?_
    refine lv_icmp_gt (tgt := 14) hx hb dX6_in_7 (by decide) (fun c4 => ?_) (fun c4 => ?_)
    · have h := (if_pos c4).symm.trans h
      refine lv_iconst hx hb dX6_in_14 kI_0 ?_
      subst hQ
      subst h
      exact m_zret (x := (0 : Int32)) hx hb hr rfl hM hL dX6_in_15 hlocks
    · have h := (if_neg c4).symm.trans h
      refine lv_iconst hx hb dX6_in_10 kI_1 ?_
      refine lv_goto (tgt := 15) hx hb dX6_in_11 (by decide) ?_
      subst hQ
      subst h
      exact m_zret (x := (1 : Int32)) hx hb hr rfl hM hL dX6_in_15 hlocks
abbrev rm_X6_within : Room := { frames := 0, cells := 0, slots := 0, locals := 0 }
set_option maxHeartbeats 4000000 in
set_option maxRecDepth 100000 in
theorem c_X6_within (l : Launch) (G : mG) (x0 : Int32) (x1 : Int32) (x2 : Int32) {σ : mS} : Met l yX6_within wsX6_within rm_X6_within (va_Pc [.int x0, .int x1, .int x2] (mB G σ)) (mQ G (.returned (some (.int (f_X6_within x0 x1 x2)))) (σ)) 0 0 (mF G) := by
  obtain ⟨z, h⟩ : ∃ z, f_X6_within x0 x1 x2 = z := ⟨_, rfl⟩
  rw [h]
  refine m_start (cc := cX6_within) (maxL := 3) (ret := (some .int)) (by decide) rfl [.int x0, .int x1, .int x2] (Nat.le_of_ble_eq_true rfl) ?_
  intro p e s m args below meth c ls hx hb hr hml hown hts hlocks hnm hK hM hl
  have hown : s.vm.findClass RX6 = some m.cls := hown
  have hnm : meth.name = "within" := hnm
  obtain ⟨locs, hlocs⟩ : ∃ l : List Loc, l = [] := ⟨_, rfl⟩
  have hL : mL G locs := by rw [hlocs]; exact mL_nil G
  rw [← hlocs]
  generalize s.heap = H at hM ⊢
  have hl : lv_has ls 3 [(0, .int x0), (1, .int x1), (2, .int x2)] := hl
  obtain ⟨Q, hQ⟩ : ∃ Q, Q = MQ below (mQ G (.returned (some (.int z))) (σ)) args s 0 0 (mF G) := ⟨_, rfl⟩
  rw [← hQ]
  rw [f_X6_within.eq_1] at h
  refine lv_iload_n hx hb dX6_within_0 rfl (lv_at hl 0 rfl) ?_
  refine lv_iload_n hx hb dX6_within_1 rfl (lv_at hl 1 rfl) ?_
  refine lv_icmp_ge (tgt := 9) hx hb dX6_within_2 (by decide) (fun c3 => ?_) (fun c3 => ?_)
  · have h := (if_pos c3).symm.trans h
    refine lv_iload_n hx hb dX6_within_9 rfl (lv_at hl 0 rfl) ?_
    refine lv_iload_n hx hb dX6_within_10 rfl (lv_at hl 2 rfl) ?_
    refine lv_icmp_le (tgt := 18) hx hb dX6_within_11 (by decide) (fun c4 => ?_) (fun c4 => ?_)
    · have h := (if_pos c4).symm.trans h
      refine lv_iload_n hx hb dX6_within_18 rfl (lv_at hl 0 rfl) ?_
      subst hQ
      subst h
      exact m_iret hx hb hr hM hL dX6_within_19 hlocks
    · have h := (if_neg c4).symm.trans h
      refine lv_iload_n hx hb dX6_within_14 rfl (lv_at hl 2 rfl) ?_
      refine lv_goto (tgt := 19) hx hb dX6_within_15 (by decide) ?_
      subst hQ
      subst h
      exact m_iret hx hb hr hM hL dX6_within_19 hlocks
  · have h := (if_neg c3).symm.trans h
    refine lv_iload_n hx hb dX6_within_5 rfl (lv_at hl 1 rfl) ?_
    refine lv_goto (tgt := 19) hx hb dX6_within_6 (by decide) ?_
    subst hQ
    subst h
    exact m_iret hx hb hr hM hL dX6_within_19 hlocks
abbrev rm_X6_onesOf : Room := { frames := 0, cells := 0, slots := 0, locals := 0 }
set_option maxHeartbeats 4000000 in
set_option maxRecDepth 100000 in
theorem c_X6_onesOf (l : Launch) (G : mG) {x0 : Int32} {σ : mS} {z : Int32} (h : f_X6_onesOf x0 = some z) : Met l yX6_onesOf wsX6_onesOf rm_X6_onesOf (va_Pc [.int x0] (mB G σ)) (mQ G (.returned (some (.int z))) (σ)) 0 0 (mF G) := by
  refine m_start (cc := cX6_onesOf) (maxL := 3) (ret := (some .int)) (by decide) rfl [.int x0] (Nat.le_of_ble_eq_true rfl) ?_
  intro p e s m args below meth c ls hx hb hr hml hown hts hlocks hnm hK hM hl
  have hown : s.vm.findClass RX6 = some m.cls := hown
  have hnm : meth.name = "onesOf" := hnm
  obtain ⟨locs, hlocs⟩ : ∃ l : List Loc, l = [] := ⟨_, rfl⟩
  have hL : mL G locs := by rw [hlocs]; exact mL_nil G
  rw [← hlocs]
  generalize s.heap = H at hM ⊢
  have hl : lv_has ls 3 [(0, .int x0)] := hl
  obtain ⟨Q, hQ⟩ : ∃ Q, Q = MQ below (mQ G (.returned (some (.int z))) (σ)) args s 0 0 (mF G) := ⟨_, rfl⟩
  rw [← hQ]
  have hN4 : ∀ (n : Nat) (x0 : Int32) (x1 : Int32) (x2 : Int32), f_X6_onesOf_4 n x0 x1 x2 = some z → ∀ (H : Heap) (locs : List Loc) (ls : Array Slot), mP G σ H → mL G locs → lv_has ls 3 [(0, .int x0), (1, .int x1), (2, .int x2)] → W p l e rm_X6_onesOf s m args below meth c H locs 0 0 Q (F0 m 4 ls []) := by
    intro n
    induction n with
    | zero =>
      intro x0 x1 x2 h
      exact nomatch (show (none : Option Int32) = some z from h)
    | succ n ih =>
      intro x0 x1 x2 h H locs ls hM hL hl
      rw [f_X6_onesOf_4.eq_2] at h
      refine lv_iload_n hx hb dX6_onesOf_4 rfl (lv_at hl 2 rfl) ?_
      refine lv_bipush hx hb dX6_onesOf_5 kB_10 ?_
      refine lv_icmp_ge (tgt := 24) hx hb dX6_onesOf_7 (by decide) (fun c4 => ?_) (fun c4 => ?_)
      · have h := (if_pos c4).symm.trans h
        refine lv_iload_n hx hb dX6_onesOf_24 rfl (lv_at hl 1 rfl) ?_
        subst hQ
        have h := Option.some.inj h
        subst h
        exact m_iret hx hb hr hM hL dX6_onesOf_25 hlocks
      · have h := (if_neg c4).symm.trans h
        refine lv_iload_n hx hb dX6_onesOf_10 rfl (lv_at hl 1 rfl) ?_
        refine lv_iload_n hx hb dX6_onesOf_11 rfl (lv_at hl 0 rfl) ?_
        refine lv_iload_n hx hb dX6_onesOf_12 rfl (lv_at hl 2 rfl) ?_
        refine lv_ishr hx hb dX6_onesOf_13 ?_
        refine lv_iconst hx hb dX6_onesOf_14 kI_1 ?_
        refine lv_iand hx hb dX6_onesOf_15 ?_
        refine lv_iadd hx hb dX6_onesOf_16 ?_
        refine lv_topi (fun v5 ev5 => ?_)
        have h := vl_at ev5 h
        refine lv_istore_n (lv' := [(1, .int v5), (0, .int x0), (2, .int x2)]) hx hb dX6_onesOf_17 rfl hl (by decide) rfl (fun ls hl => ?_)
        obtain ⟨v6, ev6⟩ : ∃ y : Int32, y = x2 + (1 : Int32) := ⟨_, rfl⟩
        have h := vl_at ev6 h
        refine lv_iinc (v := v6) (lv' := [(2, .int v6), (1, .int v5), (0, .int x0)]) hx hb dX6_onesOf_18 hl (k := 2) rfl (by rw [ev6, kI_1]) (by decide) rfl (fun ls hl => ?_)
        refine lv_goto (tgt := 4) hx hb dX6_onesOf_21 (by decide) ?_
        exact ih _ _ _ h _ _ _ hM hL (lv_sub hl [2, 1, 0] rfl)
  rw [f_X6_onesOf.eq_1] at h
  refine lv_iconst hx hb dX6_onesOf_0 kI_0 ?_
  refine lv_istore_n (lv' := [(1, .int (0 : Int32)), (0, .int x0)]) hx hb dX6_onesOf_1 rfl hl (by decide) rfl (fun ls hl => ?_)
  refine lv_iconst hx hb dX6_onesOf_2 kI_0 ?_
  refine lv_istore_n (lv' := [(2, .int (0 : Int32)), (1, .int (0 : Int32)), (0, .int x0)]) hx hb dX6_onesOf_3 rfl hl (by decide) rfl (fun ls hl => ?_)
  refine hN4 _ _ _ _ h _ _ _ hM hL (lv_sub hl [2, 1, 0] rfl)
abbrev rm_X6_nthOf : Room := { frames := 0, cells := 0, slots := 0, locals := 0 }
set_option maxHeartbeats 4000000 in
set_option maxRecDepth 100000 in
theorem c_X6_nthOf (l : Launch) (G : mG) {x0 : Int32} {x1 : Int32} {σ : mS} {z : Int32} (h : f_X6_nthOf x0 x1 = some z) : Met l yX6_nthOf wsX6_nthOf rm_X6_nthOf (va_Pc [.int x0, .int x1] (mB G σ)) (mQ G (.returned (some (.int z))) (σ)) 0 0 (mF G) := by
  refine m_start (cc := cX6_nthOf) (maxL := 4) (ret := (some .int)) (by decide) rfl [.int x0, .int x1] (Nat.le_of_ble_eq_true rfl) ?_
  intro p e s m args below meth c ls hx hb hr hml hown hts hlocks hnm hK hM hl
  have hown : s.vm.findClass RX6 = some m.cls := hown
  have hnm : meth.name = "nthOf" := hnm
  obtain ⟨locs, hlocs⟩ : ∃ l : List Loc, l = [] := ⟨_, rfl⟩
  have hL : mL G locs := by rw [hlocs]; exact mL_nil G
  rw [← hlocs]
  generalize s.heap = H at hM ⊢
  have hl : lv_has ls 4 [(0, .int x0), (1, .int x1)] := hl
  obtain ⟨Q, hQ⟩ : ∃ Q, Q = MQ below (mQ G (.returned (some (.int z))) (σ)) args s 0 0 (mF G) := ⟨_, rfl⟩
  rw [← hQ]
  have hN4 : ∀ (n : Nat) (x0 : Int32) (x1 : Int32) (x2 : Int32) (x3 : Int32), f_X6_nthOf_4 n x0 x1 x2 x3 = some z → ∀ (H : Heap) (locs : List Loc) (ls : Array Slot), mP G σ H → mL G locs → lv_has ls 4 [(0, .int x0), (1, .int x1), (2, .int x2), (3, .int x3)] → W p l e rm_X6_nthOf s m args below meth c H locs 0 0 Q (F0 m 4 ls []) := by
    intro n
    induction n with
    | zero =>
      intro x0 x1 x2 x3 h
      exact nomatch (show (none : Option Int32) = some z from h)
    | succ n ih =>
      intro x0 x1 x2 x3 h H locs ls hM hL hl
      rw [f_X6_nthOf_4.eq_2] at h
      refine lv_iload_n hx hb dX6_nthOf_4 rfl (lv_at hl 3 rfl) ?_
      refine lv_bipush hx hb dX6_nthOf_5 kB_10 ?_
      refine lv_icmp_ge (tgt := 35) hx hb dX6_nthOf_7 (by decide) (fun c7 => ?_) (fun c7 => ?_)
      · have h := (if_pos c7).symm.trans h
        refine lv_iconst hx hb dX6_nthOf_35 kI_m1 ?_
        subst hQ
        have h := Option.some.inj h
        subst h
        exact m_iret hx hb hr hM hL dX6_nthOf_36 hlocks
      · have h := (if_neg c7).symm.trans h
        refine lv_iload_n hx hb dX6_nthOf_10 rfl (lv_at hl 0 rfl) ?_
        refine lv_iload_n hx hb dX6_nthOf_11 rfl (lv_at hl 3 rfl) ?_
        refine lv_ishr hx hb dX6_nthOf_12 ?_
        refine lv_iconst hx hb dX6_nthOf_13 kI_1 ?_
        refine lv_iand hx hb dX6_nthOf_14 ?_
        refine lv_iconst hx hb dX6_nthOf_15 kI_1 ?_
        refine lv_icmp_ne (tgt := 29) hx hb dX6_nthOf_16 (by decide) (fun c8 => ?_) (fun c8 => ?_)
        · have h := (if_neg c8).symm.trans h
          obtain ⟨v9, ev9⟩ : ∃ y : Int32, y = x3 + (1 : Int32) := ⟨_, rfl⟩
          have h := vl_at ev9 h
          refine lv_iinc (v := v9) (lv' := [(3, .int v9), (0, .int x0), (1, .int x1), (2, .int x2)]) hx hb dX6_nthOf_29 hl (k := 3) rfl (by rw [ev9, kI_1]) (by decide) rfl (fun ls hl => ?_)
          refine lv_goto (tgt := 4) hx hb dX6_nthOf_32 (by decide) ?_
          exact ih _ _ _ _ h _ _ _ hM hL (lv_sub hl [1, 2, 3, 0] rfl)
        · have h := (if_pos c8).symm.trans h
          refine lv_iload_n hx hb dX6_nthOf_19 rfl (lv_at hl 2 rfl) ?_
          refine lv_iload_n hx hb dX6_nthOf_20 rfl (lv_at hl 1 rfl) ?_
          refine lv_icmp_ne (tgt := 26) hx hb dX6_nthOf_21 (by decide) (fun c10 => ?_) (fun c10 => ?_)
          · have h := (if_neg c10).symm.trans h
            obtain ⟨v11, ev11⟩ : ∃ y : Int32, y = x2 + (1 : Int32) := ⟨_, rfl⟩
            have h := vl_at ev11 h
            refine lv_iinc (v := v11) (lv' := [(2, .int v11), (0, .int x0), (1, .int x1), (3, .int x3)]) hx hb dX6_nthOf_26 hl (k := 2) rfl (by rw [ev11, kI_1]) (by decide) rfl (fun ls hl => ?_)
            obtain ⟨v12, ev12⟩ : ∃ y : Int32, y = x3 + (1 : Int32) := ⟨_, rfl⟩
            have h := vl_at ev12 h
            refine lv_iinc (v := v12) (lv' := [(3, .int v12), (2, .int v11), (0, .int x0), (1, .int x1)]) hx hb dX6_nthOf_29 hl (k := 3) rfl (by rw [ev12, kI_1]) (by decide) rfl (fun ls hl => ?_)
            refine lv_goto (tgt := 4) hx hb dX6_nthOf_32 (by decide) ?_
            exact ih _ _ _ _ h _ _ _ hM hL (lv_sub hl [2, 3, 1, 0] rfl)
          · have h := (if_pos c10).symm.trans h
            refine lv_iload_n hx hb dX6_nthOf_24 rfl (lv_at hl 3 rfl) ?_
            subst hQ
            have h := Option.some.inj h
            subst h
            exact m_iret hx hb hr hM hL dX6_nthOf_25 hlocks
  rw [f_X6_nthOf.eq_1] at h
  refine lv_iconst hx hb dX6_nthOf_0 kI_0 ?_
  refine lv_istore_n (lv' := [(2, .int (0 : Int32)), (0, .int x0), (1, .int x1)]) hx hb dX6_nthOf_1 rfl hl (by decide) rfl (fun ls hl => ?_)
  refine lv_iconst hx hb dX6_nthOf_2 kI_0 ?_
  refine lv_istore_n (lv' := [(3, .int (0 : Int32)), (2, .int (0 : Int32)), (0, .int x0), (1, .int x1)]) hx hb dX6_nthOf_3 rfl hl (by decide) rfl (fun ls hl => ?_)
  refine hN4 _ _ _ _ _ h _ _ _ hM hL (lv_sub hl [2, 3, 1, 0] rfl)
abbrev rm_X6_isOne : Room := { frames := 1, cells := 0, slots := 0, locals := 22 }
set_option maxHeartbeats 4000000 in
set_option maxRecDepth 100000 in
theorem c_X6_isOne (l : Launch) (G : mG) {h0 : Nat} {x1 : Int32} {σ : mS} {z : Int32} (h : f_X6_isOne h0 x1 σ = some z) : Met l yX6_isOne wsX6_isOne rm_X6_isOne (va_Pc [.ref h0, .int x1] (mB G σ)) (mQ G (.returned (some (.int z))) (σ)) 0 0 (mF G) := by
  refine m_start (cc := cX6_isOne) (maxL := 2) (ret := (some .boolean)) (by decide) rfl [.ref h0, .int x1] (Nat.le_of_ble_eq_true rfl) ?_
  intro p e s m args below meth c ls hx hb hr hml hown hts hlocks hnm hK hM hl
  have hown : s.vm.findClass RX6 = some m.cls := hown
  have hnm : meth.name = "isOne" := hnm
  obtain ⟨locs, hlocs⟩ : ∃ l : List Loc, l = [] := ⟨_, rfl⟩
  have hL : mL G locs := by rw [hlocs]; exact mL_nil G
  rw [← hlocs]
  generalize s.heap = H at hM ⊢
  have hl : lv_has ls 2 [(0, .ref h0), (1, .int x1)] := hl
  obtain ⟨Q, hQ⟩ : ∃ Q, Q = MQ below (mQ G (.returned (some (.int z))) (σ)) args s 0 0 (mF G) := ⟨_, rfl⟩
  rw [← hQ]
  have hU6 : ∀ w ∈ wsX60, w.before args s = true := fun w h => hts w (List.mem_cons_of_mem _ (List.mem_append_right _ h))
  have w1 := (hts (.fieldLink RX6 78 "HandkerchiefsDroppedModel" "witnesses" "I") (List.mem_of_getElem? (i := 1) rfl))
  rw [f_X6_isOne.eq_1] at h
  refine lv_iload_n hx hb dX6_isOne_0 rfl (lv_at hl 1 rfl) ?_
  refine lv_iconst hx hb dX6_isOne_1 kI_0 ?_
  refine lv_aload_n hx hb dX6_isOne_2 rfl (lv_at hl 0 rfl) ?_
  refine m_getI (ci := 5) hx hb hU6 hown hK hM rfl 0 (by decide) w1 h dX6_isOne_3 (fun v2 gv2 h => ?_)
  refine lv_iconst hx hb dX6_isOne_6 kI_1 ?_
  refine lv_isub hx hb dX6_isOne_7 ?_
  refine m_calli (va_runS (As := [.int x1, .int (0 : Int32), .int (v2 - (1 : Int32))]) (rest := []) ⟨hx, hb, hml, hown, hts⟩ (c_X6_in l G x1 (0 : Int32) (v2 - (1 : Int32))) (va_cwS 3 hts gX6_isOne_X6_in rfl rfl rfl hd_X6_in ⟨Nat.le_of_ble_eq_true rfl, Nat.le_of_ble_eq_true rfl⟩) (m_preS hK hM) rfl rfl hl.1 rfl (lv_room (Nat.le_of_ble_eq_true rfl)) dX6_isOne_8 ⟨Nat.le_of_ble_eq_true rfl, Nat.le_of_ble_eq_true rfl⟩) hL (fun H locs hM hL => ?_)
  subst hQ
  have h := Option.some.inj h
  subst h
  exact m_zret (x := (f_X6_in x1 (0 : Int32) (v2 - (1 : Int32)))) hx hb hr (z_X6_in _ _ _) hM hL dX6_isOne_11 hlocks
abbrev rm_X6_isLinen : Room := { frames := 1, cells := 0, slots := 0, locals := 22 }
set_option maxHeartbeats 4000000 in
set_option maxRecDepth 100000 in
theorem c_X6_isLinen (l : Launch) (G : mG) {h0 : Nat} {x1 : Int32} {σ : mS} {z : Int32} (h : f_X6_isLinen h0 x1 σ = some z) : Met l yX6_isLinen wsX6_isLinen rm_X6_isLinen (va_Pc [.ref h0, .int x1] (mB G σ)) (mQ G (.returned (some (.int z))) (σ)) 0 0 (mF G) := by
  refine m_start (cc := cX6_isLinen) (maxL := 2) (ret := (some .boolean)) (by decide) rfl [.ref h0, .int x1] (Nat.le_of_ble_eq_true rfl) ?_
  intro p e s m args below meth c ls hx hb hr hml hown hts hlocks hnm hK hM hl
  have hown : s.vm.findClass RX6 = some m.cls := hown
  have hnm : meth.name = "isLinen" := hnm
  obtain ⟨locs, hlocs⟩ : ∃ l : List Loc, l = [] := ⟨_, rfl⟩
  have hL : mL G locs := by rw [hlocs]; exact mL_nil G
  rw [← hlocs]
  generalize s.heap = H at hM ⊢
  have hl : lv_has ls 2 [(0, .ref h0), (1, .int x1)] := hl
  obtain ⟨Q, hQ⟩ : ∃ Q, Q = MQ below (mQ G (.returned (some (.int z))) (σ)) args s 0 0 (mF G) := ⟨_, rfl⟩
  rw [← hQ]
  have hU6 : ∀ w ∈ wsX60, w.before args s = true := fun w h => hts w (List.mem_cons_of_mem _ (List.mem_append_right _ h))
  have w1 := (hts (.fieldLink RX6 19 "HandkerchiefsDroppedModel" "linens" "[I") (List.mem_of_getElem? (i := 1) rfl))
  rw [f_X6_isLinen.eq_1] at h
  refine lv_iload_n hx hb dX6_isLinen_0 rfl (lv_at hl 1 rfl) ?_
  refine lv_iconst hx hb dX6_isLinen_1 kI_0 ?_
  refine lv_bipush hx hb dX6_isLinen_2 kB_7 ?_
  refine m_calli (va_runS (As := [.int x1, .int (0 : Int32), .int (7 : Int32)]) (rest := []) ⟨hx, hb, hml, hown, hts⟩ (c_X6_in l G x1 (0 : Int32) (7 : Int32)) (va_cwS 3 hts gX6_isLinen_X6_in rfl rfl rfl hd_X6_in ⟨Nat.le_of_ble_eq_true rfl, Nat.le_of_ble_eq_true rfl⟩) (m_preS hK hM) rfl rfl hl.1 rfl (lv_room (Nat.le_of_ble_eq_true rfl)) dX6_isLinen_4 ⟨Nat.le_of_ble_eq_true rfl, Nat.le_of_ble_eq_true rfl⟩) hL (fun H locs hM hL => ?_)
  refine lv_if_eq (tgt := 32) hx hb dX6_isLinen_7 (by decide) (fun c5 => ?_) (fun c5 => ?_)
  · have h := (if_pos c5).symm.trans h
    refine lv_iconst hx hb dX6_isLinen_32 kI_0 ?_
    subst hQ
    have h := Option.some.inj h
    subst h
    exact m_zret (x := (0 : Int32)) hx hb hr rfl hM hL dX6_isLinen_33 hlocks
  · have h := (if_neg c5).symm.trans h
    refine lv_aload_n hx hb dX6_isLinen_10 rfl (lv_at hl 0 rfl) ?_
    refine m_getR (ci := 5) hx hb hU6 hown hK hM rfl 4 (by decide) w1 h dX6_isLinen_11 (fun r6 gr6 h => ?_)
    refine lv_iconst hx hb dX6_isLinen_14 kI_3 ?_
    refine lv_iload_n hx hb dX6_isLinen_15 rfl (lv_at hl 1 rfl) ?_
    refine lv_iconst hx hb dX6_isLinen_16 kI_0 ?_
    refine lv_bipush hx hb dX6_isLinen_17 kB_7 ?_
    refine m_calli (va_runS (As := [.int x1, .int (0 : Int32), .int (7 : Int32)]) (rest := [.int (3 : Int32), .ref r6]) ⟨hx, hb, hml, hown, hts⟩ (c_X6_within l G x1 (0 : Int32) (7 : Int32)) (va_cwS 3 hts gX6_isLinen_X6_within rfl rfl rfl hd_X6_within ⟨Nat.le_of_ble_eq_true rfl, Nat.le_of_ble_eq_true rfl⟩) (m_preS hK hM) rfl rfl hl.1 rfl (lv_room (Nat.le_of_ble_eq_true rfl)) dX6_isLinen_19 ⟨Nat.le_of_ble_eq_true rfl, Nat.le_of_ble_eq_true rfl⟩) hL (fun H locs hM hL => ?_)
    refine lv_imul hx hb dX6_isLinen_22 ?_
    refine m_iald hx hb hK hM h dX6_isLinen_23 (fun v7 gv7 h => ?_)
    refine lv_iconst hx hb dX6_isLinen_24 kI_m1 ?_
    refine lv_icmp_eq (tgt := 32) hx hb dX6_isLinen_25 (by decide) (fun c8 => ?_) (fun c8 => ?_)
    · have h := (if_pos c8).symm.trans h
      refine lv_iconst hx hb dX6_isLinen_32 kI_0 ?_
      subst hQ
      have h := Option.some.inj h
      subst h
      exact m_zret (x := (0 : Int32)) hx hb hr rfl hM hL dX6_isLinen_33 hlocks
    · have h := (if_neg c8).symm.trans h
      refine lv_iconst hx hb dX6_isLinen_28 kI_1 ?_
      refine lv_goto (tgt := 33) hx hb dX6_isLinen_29 (by decide) ?_
      subst hQ
      have h := Option.some.inj h
      subst h
      exact m_zret (x := (1 : Int32)) hx hb hr rfl hM hL dX6_isLinen_33 hlocks
abbrev rm_X6_lying : Room := { frames := 2, cells := 0, slots := 0, locals := 43 }
set_option maxHeartbeats 4000000 in
set_option maxRecDepth 100000 in
theorem c_X6_lying (l : Launch) (G : mG) {h0 : Nat} {σ : mS} {z : Int32} (h : f_X6_lying h0 σ = some z) : Met l yX6_lying wsX6_lying rm_X6_lying (va_Pc [.ref h0] (mB G σ)) (mQ G (.returned (some (.int z))) (σ)) 0 0 (mF G) := by
  refine m_start (cc := cX6_lying) (maxL := 3) (ret := (some .int)) (by decide) rfl [.ref h0] (Nat.le_of_ble_eq_true rfl) ?_
  intro p e s m args below meth c ls hx hb hr hml hown hts hlocks hnm hK hM hl
  have hown : s.vm.findClass RX6 = some m.cls := hown
  have hnm : meth.name = "lying" := hnm
  obtain ⟨locs, hlocs⟩ : ∃ l : List Loc, l = [] := ⟨_, rfl⟩
  have hL : mL G locs := by rw [hlocs]; exact mL_nil G
  rw [← hlocs]
  generalize s.heap = H at hM ⊢
  have hl : lv_has ls 3 [(0, .ref h0)] := hl
  obtain ⟨Q, hQ⟩ : ∃ Q, Q = MQ below (mQ G (.returned (some (.int z))) (σ)) args s 0 0 (mF G) := ⟨_, rfl⟩
  rw [← hQ]
  have hN4 : ∀ (n : Nat) (h0 : Nat) (x1 : Int32) (x2 : Int32), f_X6_lying_4 σ n h0 x1 x2 = some z → ∀ (H : Heap) (locs : List Loc) (ls : Array Slot), mP G σ H → mL G locs → lv_has ls 3 [(0, .ref h0), (1, .int x1), (2, .int x2)] → W p l e rm_X6_lying s m args below meth c H locs 0 0 Q (F0 m 4 ls []) := by
    intro n
    induction n with
    | zero =>
      intro h0 x1 x2 h
      exact nomatch (show (none : Option Int32) = some z from h)
    | succ n ih =>
      intro h0 x1 x2 h H locs ls hM hL hl
      rw [f_X6_lying_4.eq_2] at h
      refine lv_iload_n hx hb dX6_lying_4 rfl (lv_at hl 2 rfl) ?_
      refine lv_bipush hx hb dX6_lying_5 kB_8 ?_
      refine lv_icmp_ge (tgt := 32) hx hb dX6_lying_7 (by decide) (fun c8 => ?_) (fun c8 => ?_)
      · have h := (if_pos c8).symm.trans h
        refine lv_iload_n hx hb dX6_lying_32 rfl (lv_at hl 1 rfl) ?_
        subst hQ
        have h := Option.some.inj h
        subst h
        exact m_iret hx hb hr hM hL dX6_lying_33 hlocks
      · have h := (if_neg c8).symm.trans h
        refine lv_iload_n hx hb dX6_lying_10 rfl (lv_at hl 1 rfl) ?_
        refine lv_aload_n hx hb dX6_lying_11 rfl (lv_at hl 0 rfl) ?_
        refine lv_iload_n hx hb dX6_lying_12 rfl (lv_at hl 2 rfl) ?_
        obtain ⟨o9, h⟩ := oi_some h
        obtain ⟨q10, hq10, h⟩ := ob_some h
        refine m_calli (va_runV (As := [.int x2]) (rest := [.int x1]) ⟨hx, hb, hml, hown, hts⟩ (c_X6_isLinen l G hq10) (cwV 1 hts gX6_lying_X6_isLinen rfl rfl rfl hd_X6_isLinenv ⟨Nat.le_of_ble_eq_true rfl, Nat.le_of_ble_eq_true rfl⟩) (m_preV (ci := 5) hK hM rfl o9) rfl rfl hl.1 rfl (lv_room (Nat.le_of_ble_eq_true rfl)) dX6_lying_13 ⟨Nat.le_of_ble_eq_true rfl, Nat.le_of_ble_eq_true rfl⟩) hL (fun H locs hM hL => ?_)
        suffices hJ : ∀ (v12 : Int32) (ls : Array Slot), v12 = (if q10 = 0 then (0 : Int32) else (1 : Int32)) → lv_has ls 3 [(0, .ref h0), (2, .int x2)] → W p l e rm_X6_lying s m args below meth c H locs 0 0 Q (F0 m 24 ls [.int v12, .int x1]) by
          refine lv_if_eq (tgt := 23) hx hb dX6_lying_16 (by decide) (fun c11 => ?_) (fun c11 => ?_)
          · refine lv_iconst hx hb dX6_lying_23 kI_0 ?_
            exact hJ _ _ (((if_pos c11).trans rfl).symm) (lv_sub hl [0, 2] rfl)
          · refine lv_iconst hx hb dX6_lying_19 kI_1 ?_
            refine lv_goto (tgt := 24) hx hb dX6_lying_20 (by decide) ?_
            exact hJ _ _ (((if_neg c11).trans rfl).symm) (lv_sub hl [0, 2] rfl)
        intro v12 ls ev12 hl
        have h := vl_at ev12 h
        refine lv_iadd hx hb dX6_lying_24 ?_
        refine lv_topi (fun v13 ev13 => ?_)
        have h := vl_at ev13 h
        refine lv_istore_n (lv' := [(1, .int v13), (0, .ref h0), (2, .int x2)]) hx hb dX6_lying_25 rfl hl (by decide) rfl (fun ls hl => ?_)
        obtain ⟨v14, ev14⟩ : ∃ y : Int32, y = x2 + (1 : Int32) := ⟨_, rfl⟩
        have h := vl_at ev14 h
        refine lv_iinc (v := v14) (lv' := [(2, .int v14), (1, .int v13), (0, .ref h0)]) hx hb dX6_lying_26 hl (k := 2) rfl (by rw [ev14, kI_1]) (by decide) rfl (fun ls hl => ?_)
        refine lv_goto (tgt := 4) hx hb dX6_lying_29 (by decide) ?_
        exact ih _ _ _ h _ _ _ hM hL (lv_sub hl [2, 1, 0] rfl)
  rw [f_X6_lying.eq_1] at h
  refine lv_iconst hx hb dX6_lying_0 kI_0 ?_
  refine lv_istore_n (lv' := [(1, .int (0 : Int32)), (0, .ref h0)]) hx hb dX6_lying_1 rfl hl (by decide) rfl (fun ls hl => ?_)
  refine lv_iconst hx hb dX6_lying_2 kI_0 ?_
  refine lv_istore_n (lv' := [(2, .int (0 : Int32)), (1, .int (0 : Int32)), (0, .ref h0)]) hx hb dX6_lying_3 rfl hl (by decide) rfl (fun ls hl => ?_)
  refine hN4 _ _ _ _ h _ _ _ hM hL (lv_sub hl [2, 1, 0] rfl)
abbrev rm_X6_verdictOf : Room := { frames := 0, cells := 0, slots := 0, locals := 0 }
set_option maxHeartbeats 4000000 in
set_option maxRecDepth 100000 in
theorem c_X6_verdictOf (l : Launch) (G : mG) {h0 : Nat} {x1 : Int32} {σ : mS} {z : Int32} (h : f_X6_verdictOf h0 x1 σ = some z) : Met l yX6_verdictOf wsX6_verdictOf rm_X6_verdictOf (va_Pc [.ref h0, .int x1] (mB G σ)) (mQ G (.returned (some (.int z))) (σ)) 0 0 (mF G) := by
  refine m_start (cc := cX6_verdictOf) (maxL := 4) (ret := (some .int)) (by decide) rfl [.ref h0, .int x1] (Nat.le_of_ble_eq_true rfl) ?_
  intro p e s m args below meth c ls hx hb hr hml hown hts hlocks hnm hK hM hl
  have hown : s.vm.findClass RX6 = some m.cls := hown
  have hnm : meth.name = "verdictOf" := hnm
  obtain ⟨locs, hlocs⟩ : ∃ l : List Loc, l = [] := ⟨_, rfl⟩
  have hL : mL G locs := by rw [hlocs]; exact mL_nil G
  rw [← hlocs]
  generalize s.heap = H at hM ⊢
  have hl : lv_has ls 4 [(0, .ref h0), (1, .int x1)] := hl
  obtain ⟨Q, hQ⟩ : ∃ Q, Q = MQ below (mQ G (.returned (some (.int z))) (σ)) args s 0 0 (mF G) := ⟨_, rfl⟩
  rw [← hQ]
  have hU6 : ∀ w ∈ wsX60, w.before args s = true := fun w h => hts w (List.mem_cons_of_mem _ (List.mem_append_right _ h))
  have w1 := (hts (.fieldLink RX6 22 "HandkerchiefsDroppedModel" "weights" "[I") (List.mem_of_getElem? (i := 1) rfl))
  have hN4 : ∀ (n : Nat) (h0 : Nat) (x1 : Int32) (x2 : Int32) (x3 : Int32), f_X6_verdictOf_4 σ n h0 x1 x2 x3 = some z → ∀ (H : Heap) (locs : List Loc) (ls : Array Slot), mP G σ H → mL G locs → lv_has ls 4 [(0, .ref h0), (1, .int x1), (2, .int x2), (3, .int x3)] → W p l e rm_X6_verdictOf s m args below meth c H locs 0 0 Q (F0 m 4 ls []) := by
    intro n
    induction n with
    | zero =>
      intro h0 x1 x2 x3 h
      exact nomatch (show (none : Option Int32) = some z from h)
    | succ n ih =>
      intro h0 x1 x2 x3 h H locs ls hM hL hl
      rw [f_X6_verdictOf_4.eq_2] at h
      refine lv_iload_n hx hb dX6_verdictOf_4 rfl (lv_at hl 3 rfl) ?_
      refine lv_bipush hx hb dX6_verdictOf_5 kB_10 ?_
      refine lv_icmp_ge (tgt := 38) hx hb dX6_verdictOf_7 (by decide) (fun c9 => ?_) (fun c9 => ?_)
      · have h := (if_pos c9).symm.trans h
        refine lv_iload_n hx hb dX6_verdictOf_38 rfl (lv_at hl 2 rfl) ?_
        subst hQ
        have h := Option.some.inj h
        subst h
        exact m_iret hx hb hr hM hL dX6_verdictOf_39 hlocks
      · have h := (if_neg c9).symm.trans h
        refine lv_iload_n hx hb dX6_verdictOf_10 rfl (lv_at hl 2 rfl) ?_
        refine lv_iload_n hx hb dX6_verdictOf_11 rfl (lv_at hl 1 rfl) ?_
        refine lv_iload_n hx hb dX6_verdictOf_12 rfl (lv_at hl 3 rfl) ?_
        refine lv_ishr hx hb dX6_verdictOf_13 ?_
        refine lv_iconst hx hb dX6_verdictOf_14 kI_1 ?_
        refine lv_iand hx hb dX6_verdictOf_15 ?_
        refine lv_iconst hx hb dX6_verdictOf_16 kI_1 ?_
        refine lv_icmp_ne (tgt := 29) hx hb dX6_verdictOf_17 (by decide) (fun c10 => ?_) (fun c10 => ?_)
        · have h := (if_neg c10).symm.trans h
          refine lv_iconst hx hb dX6_verdictOf_29 kI_0 ?_
          refine lv_iadd hx hb dX6_verdictOf_30 ?_
          refine lv_topi (fun v11 ev11 => ?_)
          have h := vl_at ev11 h
          refine lv_istore_n (lv' := [(2, .int v11), (0, .ref h0), (1, .int x1), (3, .int x3)]) hx hb dX6_verdictOf_31 rfl hl (by decide) rfl (fun ls hl => ?_)
          obtain ⟨v12, ev12⟩ : ∃ y : Int32, y = x3 + (1 : Int32) := ⟨_, rfl⟩
          have h := vl_at ev12 h
          refine lv_iinc (v := v12) (lv' := [(3, .int v12), (2, .int v11), (0, .ref h0), (1, .int x1)]) hx hb dX6_verdictOf_32 hl (k := 3) rfl (by rw [ev12, kI_1]) (by decide) rfl (fun ls hl => ?_)
          refine lv_goto (tgt := 4) hx hb dX6_verdictOf_35 (by decide) ?_
          exact ih _ _ _ _ h _ _ _ hM hL (lv_sub hl [2, 3, 1, 0] rfl)
        · have h := (if_pos c10).symm.trans h
          refine lv_aload_n hx hb dX6_verdictOf_20 rfl (lv_at hl 0 rfl) ?_
          refine m_getR (ci := 5) hx hb hU6 hown hK hM rfl 5 (by decide) w1 h dX6_verdictOf_21 (fun r13 gr13 h => ?_)
          refine lv_iload_n hx hb dX6_verdictOf_24 rfl (lv_at hl 3 rfl) ?_
          refine m_iald hx hb hK hM h dX6_verdictOf_25 (fun v14 gv14 h => ?_)
          refine lv_goto (tgt := 30) hx hb dX6_verdictOf_26 (by decide) ?_
          refine lv_iadd hx hb dX6_verdictOf_30 ?_
          refine lv_topi (fun v15 ev15 => ?_)
          have h := vl_at ev15 h
          refine lv_istore_n (lv' := [(2, .int v15), (0, .ref h0), (1, .int x1), (3, .int x3)]) hx hb dX6_verdictOf_31 rfl hl (by decide) rfl (fun ls hl => ?_)
          obtain ⟨v16, ev16⟩ : ∃ y : Int32, y = x3 + (1 : Int32) := ⟨_, rfl⟩
          have h := vl_at ev16 h
          refine lv_iinc (v := v16) (lv' := [(3, .int v16), (2, .int v15), (0, .ref h0), (1, .int x1)]) hx hb dX6_verdictOf_32 hl (k := 3) rfl (by rw [ev16, kI_1]) (by decide) rfl (fun ls hl => ?_)
          refine lv_goto (tgt := 4) hx hb dX6_verdictOf_35 (by decide) ?_
          exact ih _ _ _ _ h _ _ _ hM hL (lv_sub hl [2, 3, 1, 0] rfl)
  rw [f_X6_verdictOf.eq_1] at h
  refine lv_iconst hx hb dX6_verdictOf_0 kI_0 ?_
  refine lv_istore_n (lv' := [(2, .int (0 : Int32)), (0, .ref h0), (1, .int x1)]) hx hb dX6_verdictOf_1 rfl hl (by decide) rfl (fun ls hl => ?_)
  refine lv_iconst hx hb dX6_verdictOf_2 kI_0 ?_
  refine lv_istore_n (lv' := [(3, .int (0 : Int32)), (2, .int (0 : Int32)), (0, .ref h0), (1, .int x1)]) hx hb dX6_verdictOf_3 rfl hl (by decide) rfl (fun ls hl => ?_)
  refine hN4 _ _ _ _ _ h _ _ _ hM hL (lv_sub hl [2, 3, 1, 0] rfl)
abbrev rm_X6_count : Room := { frames := 3, cells := 0, slots := 0, locals := 65 }
set_option maxHeartbeats 4000000 in
set_option maxRecDepth 100000 in
theorem c_X6_count (l : Launch) (G : mG) {h0 : Nat} {x1 : Int32} {σ : mS} {z : Int32} (h : f_X6_count h0 x1 σ = some z) : Met l yX6_count wsX6_count rm_X6_count (va_Pc [.ref h0, .int x1] (mB G σ)) (mQ G (.returned (some (.int z))) (σ)) 0 0 (mF G) := by
  refine m_start (cc := cX6_count) (maxL := 2) (ret := (some .int)) (by decide) rfl [.ref h0, .int x1] (Nat.le_of_ble_eq_true rfl) ?_
  intro p e s m args below meth c ls hx hb hr hml hown hts hlocks hnm hK hM hl
  have hown : s.vm.findClass RX6 = some m.cls := hown
  have hnm : meth.name = "count" := hnm
  obtain ⟨locs, hlocs⟩ : ∃ l : List Loc, l = [] := ⟨_, rfl⟩
  have hL : mL G locs := by rw [hlocs]; exact mL_nil G
  rw [← hlocs]
  generalize s.heap = H at hM ⊢
  have hl : lv_has ls 2 [(0, .ref h0), (1, .int x1)] := hl
  obtain ⟨Q, hQ⟩ : ∃ Q, Q = MQ below (mQ G (.returned (some (.int z))) (σ)) args s 0 0 (mF G) := ⟨_, rfl⟩
  rw [← hQ]
  have hU6 : ∀ w ∈ wsX60, w.before args s = true := fun w h => hts w (List.mem_cons_of_mem _ (List.mem_append_right _ h))
  have w1 := (hts (.fieldLink RX6 78 "HandkerchiefsDroppedModel" "witnesses" "I") (List.mem_of_getElem? (i := 1) rfl))
  have w2 := (hts (.fieldLink RX6 93 "HandkerchiefsDroppedModel" "hours" "I") (List.mem_of_getElem? (i := 2) rfl))
  have w3 := (hts (.fieldLink RX6 99 "HandkerchiefsDroppedModel" "texts" "I") (List.mem_of_getElem? (i := 3) rfl))
  have w4 := (hts (.fieldLink RX6 102 "HandkerchiefsDroppedModel" "rule" "I") (List.mem_of_getElem? (i := 4) rfl))
  have w5 := (hts (.fieldLink RX6 70 "HandkerchiefsDroppedModel" "taped" "I") (List.mem_of_getElem? (i := 5) rfl))
  rw [f_X6_count.eq_1] at h
  refine lv_iload_n hx hb dX6_count_0 rfl (lv_at hl 1 rfl) ?_
  by_cases c14 : x1 = (0 : Int32)
  · have h := (if_pos c14).symm.trans h
    refine m_tin (tgt := 40) (off := 39) hx hb c14 dX6_count_1 (by decide) (by decide) (by decide) (by decide) ?_
    refine lv_aload_n hx hb dX6_count_40 rfl (lv_at hl 0 rfl) ?_
    refine m_getI (ci := 5) hx hb hU6 hown hK hM rfl 0 (by decide) w1 h dX6_count_41 (fun v15 gv15 h => ?_)
    subst hQ
    have h := Option.some.inj h
    subst h
    exact m_iret hx hb hr hM hL dX6_count_44 hlocks
  have h := (if_neg c14).symm.trans h
  by_cases c16 : x1 = (1 : Int32)
  · have h := (if_pos c16).symm.trans h
    refine m_tin (tgt := 45) (off := 44) hx hb c16 dX6_count_1 (by decide) (by decide) (by decide) (by decide) ?_
    refine lv_aload_n hx hb dX6_count_45 rfl (lv_at hl 0 rfl) ?_
    refine m_getI (ci := 5) hx hb hU6 hown hK hM rfl 8 (by decide) w2 h dX6_count_46 (fun v17 gv17 h => ?_)
    subst hQ
    have h := Option.some.inj h
    subst h
    exact m_iret hx hb hr hM hL dX6_count_49 hlocks
  have h := (if_neg c16).symm.trans h
  by_cases c18 : x1 = (2 : Int32)
  · have h := (if_pos c18).symm.trans h
    refine m_tin (tgt := 50) (off := 49) hx hb c18 dX6_count_1 (by decide) (by decide) (by decide) (by decide) ?_
    refine lv_aload_n hx hb dX6_count_50 rfl (lv_at hl 0 rfl) ?_
    obtain ⟨o19, h⟩ := oi_some h
    obtain ⟨q20, hq20, h⟩ := ob_some h
    refine m_calli (va_runV (As := []) (rest := []) ⟨hx, hb, hml, hown, hts⟩ (c_X6_lying l G hq20) (cwV 0 hts gX6_count_X6_lying rfl rfl rfl hd_X6_lyingv ⟨Nat.le_of_ble_eq_true rfl, Nat.le_of_ble_eq_true rfl⟩) (m_preV (ci := 5) hK hM rfl o19) rfl rfl hl.1 rfl (lv_room (Nat.le_of_ble_eq_true rfl)) dX6_count_51 ⟨Nat.le_of_ble_eq_true rfl, Nat.le_of_ble_eq_true rfl⟩) hL (fun H locs hM hL => ?_)
    subst hQ
    have h := Option.some.inj h
    subst h
    exact m_iret hx hb hr hM hL dX6_count_54 hlocks
  have h := (if_neg c18).symm.trans h
  by_cases c21 : x1 = (3 : Int32)
  · have h := (if_pos c21).symm.trans h
    refine m_tin (tgt := 55) (off := 54) hx hb c21 dX6_count_1 (by decide) (by decide) (by decide) (by decide) ?_
    refine lv_aload_n hx hb dX6_count_55 rfl (lv_at hl 0 rfl) ?_
    refine m_getI (ci := 5) hx hb hU6 hown hK hM rfl 13 (by decide) w3 h dX6_count_56 (fun v22 gv22 h => ?_)
    subst hQ
    have h := Option.some.inj h
    subst h
    exact m_iret hx hb hr hM hL dX6_count_59 hlocks
  have h := (if_neg c21).symm.trans h
  by_cases c23 : x1 = (4 : Int32)
  · have h := (if_pos c23).symm.trans h
    refine m_tin (tgt := 60) (off := 59) hx hb c23 dX6_count_1 (by decide) (by decide) (by decide) (by decide) ?_
    refine lv_aload_n hx hb dX6_count_60 rfl (lv_at hl 0 rfl) ?_
    refine m_getI (ci := 5) hx hb hU6 hown hK hM rfl 14 (by decide) w4 h dX6_count_61 (fun v24 gv24 h => ?_)
    subst hQ
    have h := Option.some.inj h
    subst h
    exact m_iret hx hb hr hM hL dX6_count_64 hlocks
  have h := (if_neg c23).symm.trans h
  by_cases c25 : x1 = (5 : Int32)
  · have h := (if_pos c25).symm.trans h
    refine m_tin (tgt := 65) (off := 64) hx hb c25 dX6_count_1 (by decide) (by decide) (by decide) (by decide) ?_
    refine lv_aload_n hx hb dX6_count_65 rfl (lv_at hl 0 rfl) ?_
    refine m_getI (ci := 5) hx hb hU6 hown hK hM rfl 10 (by decide) w5 h dX6_count_66 (fun v26 gv26 h => ?_)
    subst hQ
    have h := Option.some.inj h
    subst h
    exact m_iret hx hb hr hM hL dX6_count_69 hlocks
  have h := (if_neg c25).symm.trans h
  refine lv_tableOut (tgt := 70) hx hb dX6_count_1 (by have q0 := lv_neT (a := 0) c14 (by decide); have q1 := lv_neT (a := 1) c16 (by decide); have q2 := lv_neT (a := 2) c18 (by decide); have q3 := lv_neT (a := 3) c21 (by decide); have q4 := lv_neT (a := 4) c23 (by decide); have q5 := lv_neT (a := 5) c25 (by decide); omega) (by decide) ?_
  refine lv_bipush hx hb dX6_count_70 kB_m2 ?_
  subst hQ
  have h := Option.some.inj h
  subst h
  exact m_iret hx hb hr hM hL dX6_count_72 hlocks
abbrev rm_X6_isThere : Room := { frames := 1, cells := 0, slots := 0, locals := 22 }
theorem z_X6_isThere (x0 x1 : Int32) : narrow .boolean (.int (f_X6_isThere x0 x1)) = .int (f_X6_isThere x0 x1) := by
  rw [f_X6_isThere.eq_1]
  try dsimp only [vl]
  (repeat' split) <;> first | rfl | apply z_X6_in | apply z_X5_isBelow | apply z_X5_isByte
set_option maxHeartbeats 4000000 in
set_option maxRecDepth 100000 in
theorem c_X6_isThere (l : Launch) (G : mG) (x0 : Int32) (x1 : Int32) {σ : mS} : Met l yX6_isThere wsX6_isThere rm_X6_isThere (va_Pc [.int x0, .int x1] (mB G σ)) (mQ G (.returned (some (.int (f_X6_isThere x0 x1)))) (σ)) 0 0 (mF G) := by
  obtain ⟨z, h⟩ : ∃ z, f_X6_isThere x0 x1 = z := ⟨_, rfl⟩
  rw [h]
  refine m_start (cc := cX6_isThere) (maxL := 2) (ret := (some .boolean)) (by decide) rfl [.int x0, .int x1] (Nat.le_of_ble_eq_true rfl) ?_
  intro p e s m args below meth c ls hx hb hr hml hown hts hlocks hnm hK hM hl
  have hown : s.vm.findClass RX6 = some m.cls := hown
  have hnm : meth.name = "isThere" := hnm
  obtain ⟨locs, hlocs⟩ : ∃ l : List Loc, l = [] := ⟨_, rfl⟩
  have hL : mL G locs := by rw [hlocs]; exact mL_nil G
  rw [← hlocs]
  generalize s.heap = H at hM ⊢
  have hl : lv_has ls 2 [(0, .int x0), (1, .int x1)] := hl
  obtain ⟨Q, hQ⟩ : ∃ Q, Q = MQ below (mQ G (.returned (some (.int z))) (σ)) args s 0 0 (mF G) := ⟨_, rfl⟩
  rw [← hQ]
  rw [f_X6_isThere.eq_1] at h
  refine lv_iload_n hx hb dX6_isThere_0 rfl (lv_at hl 0 rfl) ?_
  refine lv_if_ne (tgt := 14) hx hb dX6_isThere_1 (by decide) (fun c4 => ?_) (fun c4 => ?_)
  · have h := (if_neg c4).symm.trans h
    refine lv_iload_n hx hb dX6_isThere_14 rfl (lv_at hl 0 rfl) ?_
    refine lv_iconst hx hb dX6_isThere_15 kI_1 ?_
    refine lv_icmp_ne (tgt := 28) hx hb dX6_isThere_16 (by decide) (fun c5 => ?_) (fun c5 => ?_)
    · have h := (if_neg c5).symm.trans h
      refine lv_iconst hx hb dX6_isThere_28 kI_1 ?_
      refine lv_goto (tgt := 33) hx hb dX6_isThere_29 (by decide) ?_
      subst hQ
      subst h
      exact m_zret (x := (1 : Int32)) hx hb hr rfl hM hL dX6_isThere_33 hlocks
    · have h := (if_pos c5).symm.trans h
      refine lv_iload_n hx hb dX6_isThere_19 rfl (lv_at hl 1 rfl) ?_
      refine lv_iconst hx hb dX6_isThere_20 kI_0 ?_
      refine lv_iconst hx hb dX6_isThere_21 kI_5 ?_
      refine m_calli (va_runS (As := [.int x1, .int (0 : Int32), .int (5 : Int32)]) (rest := []) ⟨hx, hb, hml, hown, hts⟩ (c_X6_in l G x1 (0 : Int32) (5 : Int32)) (va_cwS 3 hts gX6_isThere_X6_in rfl rfl rfl hd_X6_in ⟨Nat.le_of_ble_eq_true rfl, Nat.le_of_ble_eq_true rfl⟩) (m_preS hK hM) rfl rfl hl.1 rfl (lv_room (Nat.le_of_ble_eq_true rfl)) dX6_isThere_22 ⟨Nat.le_of_ble_eq_true rfl, Nat.le_of_ble_eq_true rfl⟩) hL (fun H locs hM hL => ?_)
      refine lv_if_eq (tgt := 32) hx hb dX6_isThere_25 (by decide) (fun c6 => ?_) (fun c6 => ?_)
      · have h := (if_pos c6).symm.trans h
        refine lv_iconst hx hb dX6_isThere_32 kI_0 ?_
        subst hQ
        subst h
        exact m_zret (x := (0 : Int32)) hx hb hr rfl hM hL dX6_isThere_33 hlocks
      · have h := (if_neg c6).symm.trans h
        refine lv_iconst hx hb dX6_isThere_28 kI_1 ?_
        refine lv_goto (tgt := 33) hx hb dX6_isThere_29 (by decide) ?_
        subst hQ
        subst h
        exact m_zret (x := (1 : Int32)) hx hb hr rfl hM hL dX6_isThere_33 hlocks
  · have h := (if_pos c4).symm.trans h
    refine lv_iload_n hx hb dX6_isThere_4 rfl (lv_at hl 1 rfl) ?_
    refine lv_iconst hx hb dX6_isThere_5 kI_0 ?_
    refine lv_bipush hx hb dX6_isThere_6 kB_9 ?_
    refine m_calli (va_runS (As := [.int x1, .int (0 : Int32), .int (9 : Int32)]) (rest := []) ⟨hx, hb, hml, hown, hts⟩ (c_X6_in l G x1 (0 : Int32) (9 : Int32)) (va_cwS 3 hts gX6_isThere_X6_in rfl rfl rfl hd_X6_in ⟨Nat.le_of_ble_eq_true rfl, Nat.le_of_ble_eq_true rfl⟩) (m_preS hK hM) rfl rfl hl.1 rfl (lv_room (Nat.le_of_ble_eq_true rfl)) dX6_isThere_8 ⟨Nat.le_of_ble_eq_true rfl, Nat.le_of_ble_eq_true rfl⟩) hL (fun H locs hM hL => ?_)
    refine lv_goto (tgt := 33) hx hb dX6_isThere_11 (by decide) ?_
    subst hQ
    subst h
    exact m_zret (x := (f_X6_in x1 (0 : Int32) (9 : Int32))) hx hb hr (z_X6_in _ _ _) hM hL dX6_isThere_33 hlocks
abbrev rm_X6_court : Room := { frames := 2, cells := 0, slots := 0, locals := 43 }
set_option maxHeartbeats 4000000 in
set_option maxRecDepth 100000 in
theorem c_X6_court (l : Launch) (G : mG) {h0 : Nat} {x1 : Int32} {x2 : Int32} {x3 : Int32} {σ : mS} {z : Int32 × mS} (h : f_X6_court h0 x1 x2 x3 σ = some z) : Met l yX6_court wsX6_court rm_X6_court (va_Pc [.ref h0, .int x1, .int x2, .int x3] (mB G σ)) (mQ G (.returned (some (.int z.1))) z.2) 0 0 (mF G) := by
  refine m_start (cc := cX6_court) (maxL := 6) (ret := (some .int)) (by decide) rfl [.ref h0, .int x1, .int x2, .int x3] (Nat.le_of_ble_eq_true rfl) ?_
  intro p e s m args below meth c ls hx hb hr hml hown hts hlocks hnm hK hM hl
  have hown : s.vm.findClass RX6 = some m.cls := hown
  have hnm : meth.name = "court" := hnm
  obtain ⟨locs, hlocs⟩ : ∃ l : List Loc, l = [] := ⟨_, rfl⟩
  have hL : mL G locs := by rw [hlocs]; exact mL_nil G
  rw [← hlocs]
  generalize s.heap = H at hM ⊢
  have hl : lv_has ls 6 [(0, .ref h0), (1, .int x1), (2, .int x2), (3, .int x3)] := hl
  obtain ⟨Q, hQ⟩ : ∃ Q, Q = MQ below (mQ G (.returned (some (.int z.1))) z.2) args s 0 0 (mF G) := ⟨_, rfl⟩
  rw [← hQ]
  have hU6 : ∀ w ∈ wsX60, w.before args s = true := fun w h => hts w (List.mem_cons_of_mem _ (List.mem_append_right _ h))
  have w1 := (hts (.fieldLink RX6 22 "HandkerchiefsDroppedModel" "weights" "[I") (List.mem_of_getElem? (i := 1) rfl))
  have w2 := (hts (.fieldLink RX6 25 "HandkerchiefsDroppedModel" "keen" "[I") (List.mem_of_getElem? (i := 2) rfl))
  have w3 := (hts (.fieldLink RX6 93 "HandkerchiefsDroppedModel" "hours" "I") (List.mem_of_getElem? (i := 3) rfl))
  have w4 := (hts (.fieldLink RX6 109 "HandkerchiefsDroppedModel" "admitted" "I") (List.mem_of_getElem? (i := 4) rfl))
  rw [f_X6_court.eq_1] at h
  refine lv_iload_n hx hb dX6_court_0 rfl (lv_at hl 1 rfl) ?_
  refine lv_iconst hx hb dX6_court_1 kI_0 ?_
  refine lv_iconst hx hb dX6_court_2 kI_3 ?_
  refine m_calli (va_runS (As := [.int x1, .int (0 : Int32), .int (3 : Int32)]) (rest := []) ⟨hx, hb, hml, hown, hts⟩ (c_X6_in l G x1 (0 : Int32) (3 : Int32)) (va_cwS 3 hts gX6_court_X6_in rfl rfl rfl hd_X6_in ⟨Nat.le_of_ble_eq_true rfl, Nat.le_of_ble_eq_true rfl⟩) (m_preS hK hM) rfl rfl hl.1 rfl (lv_room (Nat.le_of_ble_eq_true rfl)) dX6_court_3 ⟨Nat.le_of_ble_eq_true rfl, Nat.le_of_ble_eq_true rfl⟩) hL (fun H locs hM hL => ?_)
  refine lv_if_eq (tgt := 17) hx hb dX6_court_6 (by decide) (fun c24 => ?_) (fun c24 => ?_)
  · have h := (if_pos c24).symm.trans h
    refine lv_sipush hx hb dX6_court_17 kS_m5000 ?_
    subst hQ
    have h := Option.some.inj h
    subst h
    exact m_iret hx hb hr hM hL dX6_court_20 hlocks
  · have h := (if_neg c24).symm.trans h
    refine lv_iload_n hx hb dX6_court_9 rfl (lv_at hl 1 rfl) ?_
    refine lv_iload_n hx hb dX6_court_10 rfl (lv_at hl 2 rfl) ?_
    refine m_calli (va_runS (As := [.int x1, .int x2]) (rest := []) ⟨hx, hb, hml, hown, hts⟩ (c_X6_isThere l G x1 x2) (va_cwS 2 hts gX6_court_X6_isThere rfl rfl rfl hd_X6_isThere ⟨Nat.le_of_ble_eq_true rfl, Nat.le_of_ble_eq_true rfl⟩) (m_preS hK hM) rfl rfl hl.1 rfl (lv_room (Nat.le_of_ble_eq_true rfl)) dX6_court_11 ⟨Nat.le_of_ble_eq_true rfl, Nat.le_of_ble_eq_true rfl⟩) hL (fun H locs hM hL => ?_)
    refine lv_if_ne (tgt := 21) hx hb dX6_court_14 (by decide) (fun c25 => ?_) (fun c25 => ?_)
    · have h := (if_neg c25).symm.trans h
      refine lv_iload_n hx hb dX6_court_21 rfl (lv_at hl 1 rfl) ?_
      refine lv_iconst hx hb dX6_court_22 kI_2 ?_
      suffices hJ : ∀ (v28 : Int32) (ls : Array Slot), v28 = (if (2 : Int32) ≤ x1 then if x1 = (2 : Int32) then (999 : Int32) else (1023 : Int32) else (99 : Int32)) → lv_has ls 6 [(0, .ref h0), (1, .int x1), (2, .int x2), (3, .int x3)] → W p l e rm_X6_court s m args below meth c H locs 0 0 Q (F0 m 45 ls [.int v28]) by
        refine lv_icmp_ge (tgt := 31) hx hb dX6_court_23 (by decide) (fun c26 => ?_) (fun c26 => ?_)
        · refine lv_iload_n hx hb dX6_court_31 rfl (lv_at hl 1 rfl) ?_
          refine lv_iconst hx hb dX6_court_32 kI_2 ?_
          refine lv_icmp_ne (tgt := 42) hx hb dX6_court_33 (by decide) (fun c27 => ?_) (fun c27 => ?_)
          · refine lv_sipush hx hb dX6_court_42 kS_1023 ?_
            exact hJ _ _ (((if_pos c26).trans ((if_neg c27).trans rfl)).symm) (lv_sub hl [0, 1, 2, 3] rfl)
          · refine lv_sipush hx hb dX6_court_36 kS_999 ?_
            refine lv_goto (tgt := 45) hx hb dX6_court_39 (by decide) ?_
            exact hJ _ _ (((if_pos c26).trans ((if_pos c27).trans rfl)).symm) (lv_sub hl [0, 1, 2, 3] rfl)
        · refine lv_bipush hx hb dX6_court_26 kB_99 ?_
          refine lv_goto (tgt := 45) hx hb dX6_court_28 (by decide) ?_
          exact hJ _ _ (((if_neg c26).trans rfl).symm) (lv_sub hl [0, 1, 2, 3] rfl)
      intro v28 ls ev28 hl
      have h := vl_at ev28 h
      refine lv_istore (lv' := [(4, .int v28), (0, .ref h0), (1, .int x1), (2, .int x2), (3, .int x3)]) hx hb dX6_court_45 hl (by decide) rfl (fun ls hl => ?_)
      refine lv_iload_n hx hb dX6_court_47 rfl (lv_at hl 4 rfl) ?_
      refine lv_iload_n hx hb dX6_court_48 rfl (lv_at hl 2 rfl) ?_
      suffices hJ : ∀ (v30 : Int32) (ls : Array Slot), v30 = (if x1 = 0 then (-99 : Int32) else (0 : Int32)) → lv_has ls 6 [(0, .ref h0), (1, .int x1), (2, .int x2), (3, .int x3), (4, .int v28)] → W p l e rm_X6_court s m args below meth c H locs 0 0 Q (F0 m 58 ls [.int v30, .int x3]) by
        refine lv_if_ne (tgt := 57) hx hb dX6_court_49 (by decide) (fun c29 => ?_) (fun c29 => ?_)
        · refine lv_iconst hx hb dX6_court_57 kI_0 ?_
          exact hJ _ _ (((if_neg c29).trans rfl).symm) (lv_sub hl [1, 2, 3, 4, 0] rfl)
        · refine lv_bipush hx hb dX6_court_52 kB_m99 ?_
          refine lv_goto (tgt := 58) hx hb dX6_court_54 (by decide) ?_
          exact hJ _ _ (((if_pos c29).trans rfl).symm) (lv_sub hl [1, 2, 3, 4, 0] rfl)
      intro v30 ls ev30 hl
      have h := vl_at ev30 h
      refine lv_iload hx hb dX6_court_58 (lv_at hl 4 rfl) ?_
      refine m_calli (va_runS (As := [.int x3, .int v30, .int v28]) (rest := []) ⟨hx, hb, hml, hown, hts⟩ (c_X6_in l G x3 v30 v28) (va_cwS 3 hts gX6_court_X6_in rfl rfl rfl hd_X6_in ⟨Nat.le_of_ble_eq_true rfl, Nat.le_of_ble_eq_true rfl⟩) (m_preS hK hM) rfl rfl hl.1 rfl (lv_room (Nat.le_of_ble_eq_true rfl)) dX6_court_60 ⟨Nat.le_of_ble_eq_true rfl, Nat.le_of_ble_eq_true rfl⟩) hL (fun H locs hM hL => ?_)
      refine lv_if_ne (tgt := 70) hx hb dX6_court_63 (by decide) (fun c31 => ?_) (fun c31 => ?_)
      · have h := (if_neg c31).symm.trans h
        refine lv_iconst hx hb dX6_court_70 kI_0 ?_
        refine lv_istore (lv' := [(5, .int (0 : Int32)), (0, .ref h0), (1, .int x1), (2, .int x2), (3, .int x3), (4, .int v28)]) hx hb dX6_court_71 hl (by decide) rfl (fun ls hl => ?_)
        refine lv_iload_n hx hb dX6_court_73 rfl (lv_at hl 2 rfl) ?_
        by_cases c32 : x1 = (0 : Int32)
        · have h := (if_pos c32).symm.trans h
          refine m_tin (tgt := 100) (off := 26) hx hb c32 dX6_court_74 (by decide) (by decide) (by decide) (by decide) ?_
          refine lv_aload_n hx hb dX6_court_100 rfl (lv_at hl 1 rfl) ?_
          refine m_getR (ci := 5) hx hb hU6 hown hK hM rfl 5 (by decide) w1 h dX6_court_101 (fun r33 gr33 h => ?_)
          refine lv_iload_n hx hb dX6_court_104 rfl (lv_at hl 3 rfl) ?_
          refine m_iald hx hb hK hM h dX6_court_105 (fun v34 gv34 h => ?_)
          refine lv_istore (lv' := [(5, .int v34), (0, .ref h0), (1, .int x1), (2, .int x2), (3, .int x3), (4, .int v28)]) hx hb dX6_court_106 hl (by decide) rfl (fun ls hl => ?_)
          refine lv_aload_n hx hb dX6_court_108 rfl (lv_at hl 1 rfl) ?_
          refine m_getR (ci := 5) hx hb hU6 hown hK hM rfl 5 (by decide) w1 h dX6_court_109 (fun r35 gr35 h => ?_)
          refine lv_iload_n hx hb dX6_court_112 rfl (lv_at hl 3 rfl) ?_
          refine lv_iload_n hx hb dX6_court_113 rfl (lv_at hl 4 rfl) ?_
          refine m_iast hx hb hK hM hL h dX6_court_114 (fun t36 H locs h hM hL => ?_)
          refine lv_goto (tgt := 161) hx hb dX6_court_115 (by decide) ?_
          refine lv_iload hx hb dX6_court_161 (lv_at hl 0 rfl) ?_
          subst hQ
          have h := Option.some.inj h
          subst h
          exact m_iret hx hb hr hM hL dX6_court_163 hlocks
        have h := (if_neg c32).symm.trans h
        by_cases c37 : x1 = (1 : Int32)
        · have h := (if_pos c37).symm.trans h
          refine m_tin (tgt := 118) (off := 44) hx hb c37 dX6_court_74 (by decide) (by decide) (by decide) (by decide) ?_
          refine lv_aload_n hx hb dX6_court_118 rfl (lv_at hl 1 rfl) ?_
          refine m_getR (ci := 5) hx hb hU6 hown hK hM rfl 6 (by decide) w2 h dX6_court_119 (fun r38 gr38 h => ?_)
          refine lv_iload_n hx hb dX6_court_122 rfl (lv_at hl 3 rfl) ?_
          refine m_iald hx hb hK hM h dX6_court_123 (fun v39 gv39 h => ?_)
          refine lv_istore (lv' := [(5, .int v39), (0, .ref h0), (1, .int x1), (2, .int x2), (3, .int x3), (4, .int v28)]) hx hb dX6_court_124 hl (by decide) rfl (fun ls hl => ?_)
          refine lv_aload_n hx hb dX6_court_126 rfl (lv_at hl 1 rfl) ?_
          refine m_getR (ci := 5) hx hb hU6 hown hK hM rfl 6 (by decide) w2 h dX6_court_127 (fun r40 gr40 h => ?_)
          refine lv_iload_n hx hb dX6_court_130 rfl (lv_at hl 3 rfl) ?_
          refine lv_iload_n hx hb dX6_court_131 rfl (lv_at hl 4 rfl) ?_
          refine m_iast hx hb hK hM hL h dX6_court_132 (fun t41 H locs h hM hL => ?_)
          refine lv_goto (tgt := 161) hx hb dX6_court_133 (by decide) ?_
          refine lv_iload hx hb dX6_court_161 (lv_at hl 0 rfl) ?_
          subst hQ
          have h := Option.some.inj h
          subst h
          exact m_iret hx hb hr hM hL dX6_court_163 hlocks
        have h := (if_neg c37).symm.trans h
        by_cases c42 : x1 = (2 : Int32)
        · have h := (if_pos c42).symm.trans h
          refine m_tin (tgt := 136) (off := 62) hx hb c42 dX6_court_74 (by decide) (by decide) (by decide) (by decide) ?_
          refine lv_aload_n hx hb dX6_court_136 rfl (lv_at hl 1 rfl) ?_
          refine m_getI (ci := 5) hx hb hU6 hown hK hM rfl 8 (by decide) w3 h dX6_court_137 (fun v43 gv43 h => ?_)
          refine lv_istore (lv' := [(5, .int v43), (0, .ref h0), (1, .int x1), (2, .int x2), (3, .int x3), (4, .int v28)]) hx hb dX6_court_140 hl (by decide) rfl (fun ls hl => ?_)
          refine lv_aload_n hx hb dX6_court_142 rfl (lv_at hl 1 rfl) ?_
          refine lv_iload_n hx hb dX6_court_143 rfl (lv_at hl 4 rfl) ?_
          refine m_put (ci := 5) hx hb hU6 tyX6 tyX6_ok nmX6 hown hK hM hL rfl 8 (by decide) w3 rfl rfl rfl h dX6_court_144 (fun t44 H locs h hM hL => ?_)
          refine lv_goto (tgt := 161) hx hb dX6_court_147 (by decide) ?_
          refine lv_iload hx hb dX6_court_161 (lv_at hl 0 rfl) ?_
          subst hQ
          have h := Option.some.inj h
          subst h
          exact m_iret hx hb hr hM hL dX6_court_163 hlocks
        have h := (if_neg c42).symm.trans h
        refine lv_tableOut (tgt := 150) hx hb dX6_court_74 (by have q0 := lv_neT (a := 0) c32 (by decide); have q1 := lv_neT (a := 1) c37 (by decide); have q2 := lv_neT (a := 2) c42 (by decide); omega) (by decide) ?_
        refine lv_aload_n hx hb dX6_court_150 rfl (lv_at hl 1 rfl) ?_
        refine m_getI (ci := 5) hx hb hU6 hown hK hM rfl 7 (by decide) w4 h dX6_court_151 (fun v45 gv45 h => ?_)
        refine lv_istore (lv' := [(5, .int v45), (0, .ref h0), (1, .int x1), (2, .int x2), (3, .int x3), (4, .int v28)]) hx hb dX6_court_154 hl (by decide) rfl (fun ls hl => ?_)
        refine lv_aload_n hx hb dX6_court_156 rfl (lv_at hl 1 rfl) ?_
        refine lv_iload_n hx hb dX6_court_157 rfl (lv_at hl 4 rfl) ?_
        refine m_put (ci := 5) hx hb hU6 tyX6 tyX6_ok nmX6 hown hK hM hL rfl 7 (by decide) w4 rfl rfl rfl h dX6_court_158 (fun t46 H locs h hM hL => ?_)
        refine lv_iload hx hb dX6_court_161 (lv_at hl 0 rfl) ?_
        subst hQ
        have h := Option.some.inj h
        subst h
        exact m_iret hx hb hr hM hL dX6_court_163 hlocks
      · have h := (if_pos c31).symm.trans h
        refine lv_sipush hx hb dX6_court_66 kS_m7000 ?_
        subst hQ
        have h := Option.some.inj h
        subst h
        exact m_iret hx hb hr hM hL dX6_court_69 hlocks
    · have h := (if_pos c25).symm.trans h
      refine lv_sipush hx hb dX6_court_17 kS_m5000 ?_
      subst hQ
      have h := Option.some.inj h
      subst h
      exact m_iret hx hb hr hM hL dX6_court_20 hlocks
abbrev rm_X6_bench : Room := { frames := 2, cells := 0, slots := 0, locals := 43 }
set_option maxHeartbeats 4000000 in
set_option maxRecDepth 100000 in
theorem c_X6_bench (l : Launch) (G : mG) {h0 : Nat} {x1 : Int32} {x2 : Int32} {σ : mS} {z : Int32} (h : f_X6_bench h0 x1 x2 σ = some z) : Met l yX6_bench wsX6_bench rm_X6_bench (va_Pc [.ref h0, .int x1, .int x2] (mB G σ)) (mQ G (.returned (some (.int z))) (σ)) 0 0 (mF G) := by
  refine m_start (cc := cX6_bench) (maxL := 3) (ret := (some .int)) (by decide) rfl [.ref h0, .int x1, .int x2] (Nat.le_of_ble_eq_true rfl) ?_
  intro p e s m args below meth c ls hx hb hr hml hown hts hlocks hnm hK hM hl
  have hown : s.vm.findClass RX6 = some m.cls := hown
  have hnm : meth.name = "bench" := hnm
  obtain ⟨locs, hlocs⟩ : ∃ l : List Loc, l = [] := ⟨_, rfl⟩
  have hL : mL G locs := by rw [hlocs]; exact mL_nil G
  rw [← hlocs]
  generalize s.heap = H at hM ⊢
  have hl : lv_has ls 3 [(0, .ref h0), (1, .int x1), (2, .int x2)] := hl
  obtain ⟨Q, hQ⟩ : ∃ Q, Q = MQ below (mQ G (.returned (some (.int z))) (σ)) args s 0 0 (mF G) := ⟨_, rfl⟩
  rw [← hQ]
  have hU6 : ∀ w ∈ wsX60, w.before args s = true := fun w h => hts w (List.mem_cons_of_mem _ (List.mem_append_right _ h))
  have w1 := (hts (.fieldLink RX6 22 "HandkerchiefsDroppedModel" "weights" "[I") (List.mem_of_getElem? (i := 1) rfl))
  have w2 := (hts (.fieldLink RX6 25 "HandkerchiefsDroppedModel" "keen" "[I") (List.mem_of_getElem? (i := 2) rfl))
  have w3 := (hts (.fieldLink RX6 109 "HandkerchiefsDroppedModel" "admitted" "I") (List.mem_of_getElem? (i := 3) rfl))
  have w4 := (hts (.fieldLink RX6 93 "HandkerchiefsDroppedModel" "hours" "I") (List.mem_of_getElem? (i := 4) rfl))
  rw [f_X6_bench.eq_1] at h
  refine lv_iload_n hx hb dX6_bench_0 rfl (lv_at hl 1 rfl) ?_
  refine lv_iconst hx hb dX6_bench_1 kI_0 ?_
  refine lv_iconst hx hb dX6_bench_2 kI_4 ?_
  refine m_calli (va_runS (As := [.int x1, .int (0 : Int32), .int (4 : Int32)]) (rest := []) ⟨hx, hb, hml, hown, hts⟩ (c_X6_in l G x1 (0 : Int32) (4 : Int32)) (va_cwS 3 hts gX6_bench_X6_in rfl rfl rfl hd_X6_in ⟨Nat.le_of_ble_eq_true rfl, Nat.le_of_ble_eq_true rfl⟩) (m_preS hK hM) rfl rfl hl.1 rfl (lv_room (Nat.le_of_ble_eq_true rfl)) dX6_bench_3 ⟨Nat.le_of_ble_eq_true rfl, Nat.le_of_ble_eq_true rfl⟩) hL (fun H locs hM hL => ?_)
  refine lv_if_eq (tgt := 17) hx hb dX6_bench_6 (by decide) (fun c16 => ?_) (fun c16 => ?_)
  · have h := (if_pos c16).symm.trans h
    refine lv_sipush hx hb dX6_bench_17 kS_m5000 ?_
    subst hQ
    have h := Option.some.inj h
    subst h
    exact m_iret hx hb hr hM hL dX6_bench_20 hlocks
  · have h := (if_neg c16).symm.trans h
    refine lv_iload_n hx hb dX6_bench_9 rfl (lv_at hl 1 rfl) ?_
    refine lv_iload_n hx hb dX6_bench_10 rfl (lv_at hl 2 rfl) ?_
    refine m_calli (va_runS (As := [.int x1, .int x2]) (rest := []) ⟨hx, hb, hml, hown, hts⟩ (c_X6_isThere l G x1 x2) (va_cwS 2 hts gX6_bench_X6_isThere rfl rfl rfl hd_X6_isThere ⟨Nat.le_of_ble_eq_true rfl, Nat.le_of_ble_eq_true rfl⟩) (m_preS hK hM) rfl rfl hl.1 rfl (lv_room (Nat.le_of_ble_eq_true rfl)) dX6_bench_11 ⟨Nat.le_of_ble_eq_true rfl, Nat.le_of_ble_eq_true rfl⟩) hL (fun H locs hM hL => ?_)
    refine lv_if_ne (tgt := 21) hx hb dX6_bench_14 (by decide) (fun c17 => ?_) (fun c17 => ?_)
    · have h := (if_neg c17).symm.trans h
      refine lv_iload_n hx hb dX6_bench_21 rfl (lv_at hl 1 rfl) ?_
      by_cases c18 : x1 = (0 : Int32)
      · have h := (if_pos c18).symm.trans h
        refine m_tin (tgt := 52) (off := 30) hx hb c18 dX6_bench_22 (by decide) (by decide) (by decide) (by decide) ?_
        refine lv_aload_n hx hb dX6_bench_52 rfl (lv_at hl 0 rfl) ?_
        refine m_getR (ci := 5) hx hb hU6 hown hK hM rfl 5 (by decide) w1 h dX6_bench_53 (fun r19 gr19 h => ?_)
        refine lv_iload_n hx hb dX6_bench_56 rfl (lv_at hl 2 rfl) ?_
        refine m_iald hx hb hK hM h dX6_bench_57 (fun v20 gv20 h => ?_)
        subst hQ
        have h := Option.some.inj h
        subst h
        exact m_iret hx hb hr hM hL dX6_bench_58 hlocks
      have h := (if_neg c18).symm.trans h
      by_cases c21 : x1 = (1 : Int32)
      · have h := (if_pos c21).symm.trans h
        refine m_tin (tgt := 59) (off := 37) hx hb c21 dX6_bench_22 (by decide) (by decide) (by decide) (by decide) ?_
        refine lv_aload_n hx hb dX6_bench_59 rfl (lv_at hl 0 rfl) ?_
        refine m_getR (ci := 5) hx hb hU6 hown hK hM rfl 6 (by decide) w2 h dX6_bench_60 (fun r22 gr22 h => ?_)
        refine lv_iload_n hx hb dX6_bench_63 rfl (lv_at hl 2 rfl) ?_
        refine m_iald hx hb hK hM h dX6_bench_64 (fun v23 gv23 h => ?_)
        subst hQ
        have h := Option.some.inj h
        subst h
        exact m_iret hx hb hr hM hL dX6_bench_65 hlocks
      have h := (if_neg c21).symm.trans h
      by_cases c24 : x1 = (2 : Int32)
      · have h := (if_pos c24).symm.trans h
        refine m_tin (tgt := 66) (off := 44) hx hb c24 dX6_bench_22 (by decide) (by decide) (by decide) (by decide) ?_
        refine lv_aload_n hx hb dX6_bench_66 rfl (lv_at hl 0 rfl) ?_
        refine m_getI (ci := 5) hx hb hU6 hown hK hM rfl 7 (by decide) w3 h dX6_bench_67 (fun v25 gv25 h => ?_)
        subst hQ
        have h := Option.some.inj h
        subst h
        exact m_iret hx hb hr hM hL dX6_bench_70 hlocks
      have h := (if_neg c24).symm.trans h
      by_cases c26 : x1 = (3 : Int32)
      · have h := (if_pos c26).symm.trans h
        refine m_tin (tgt := 71) (off := 49) hx hb c26 dX6_bench_22 (by decide) (by decide) (by decide) (by decide) ?_
        refine lv_aload_n hx hb dX6_bench_71 rfl (lv_at hl 0 rfl) ?_
        refine lv_aload_n hx hb dX6_bench_72 rfl (lv_at hl 0 rfl) ?_
        refine m_getI (ci := 5) hx hb hU6 hown hK hM rfl 7 (by decide) w3 h dX6_bench_73 (fun v27 gv27 h => ?_)
        obtain ⟨o28, h⟩ := oi_some h
        obtain ⟨q29, hq29, h⟩ := ob_some h
        refine m_calli (va_runV (As := [.int v27]) (rest := []) ⟨hx, hb, hml, hown, hts⟩ (c_X6_verdictOf l G hq29) (cwV 1 hts gX6_bench_X6_verdictOf rfl rfl rfl hd_X6_verdictOfv ⟨Nat.le_of_ble_eq_true rfl, Nat.le_of_ble_eq_true rfl⟩) (m_preV (ci := 5) hK hM rfl o28) rfl rfl hl.1 rfl (lv_room (Nat.le_of_ble_eq_true rfl)) dX6_bench_76 ⟨Nat.le_of_ble_eq_true rfl, Nat.le_of_ble_eq_true rfl⟩) hL (fun H locs hM hL => ?_)
        subst hQ
        have h := Option.some.inj h
        subst h
        exact m_iret hx hb hr hM hL dX6_bench_79 hlocks
      have h := (if_neg c26).symm.trans h
      refine lv_tableOut (tgt := 80) hx hb dX6_bench_22 (by have q0 := lv_neT (a := 0) c18 (by decide); have q1 := lv_neT (a := 1) c21 (by decide); have q2 := lv_neT (a := 2) c24 (by decide); have q3 := lv_neT (a := 3) c26 (by decide); omega) (by decide) ?_
      refine lv_aload_n hx hb dX6_bench_80 rfl (lv_at hl 0 rfl) ?_
      refine m_getI (ci := 5) hx hb hU6 hown hK hM rfl 8 (by decide) w4 h dX6_bench_81 (fun v30 gv30 h => ?_)
      refine lv_bipush hx hb dX6_bench_84 kB_6 ?_
      refine lv_irem hx hb dX6_bench_86 (by decide) ?_
      subst hQ
      have h := Option.some.inj h
      subst h
      exact m_iret hx hb hr hM hL dX6_bench_87 hlocks
    · have h := (if_pos c17).symm.trans h
      refine lv_sipush hx hb dX6_bench_17 kS_m5000 ?_
      subst hQ
      have h := Option.some.inj h
      subst h
      exact m_iret hx hb hr hM hL dX6_bench_20 hlocks
abbrev rm_X6_isByte : Room := { frames := 1, cells := 0, slots := 0, locals := 22 }
theorem z_X6_isByte (x0 : Int32) : narrow .boolean (.int (f_X6_isByte x0)) = .int (f_X6_isByte x0) := by
  rw [f_X6_isByte.eq_1]
  try dsimp only [vl]
  (repeat' split) <;> first | rfl | apply z_X6_in | apply z_X5_isBelow | apply z_X5_isByte
set_option maxHeartbeats 4000000 in
set_option maxRecDepth 100000 in
theorem c_X6_isByte (l : Launch) (G : mG) (x0 : Int32) {σ : mS} : Met l yX6_isByte wsX6_isByte rm_X6_isByte (va_Pc [.int x0] (mB G σ)) (mQ G (.returned (some (.int (f_X6_isByte x0)))) (σ)) 0 0 (mF G) := by
  obtain ⟨z, h⟩ : ∃ z, f_X6_isByte x0 = z := ⟨_, rfl⟩
  rw [h]
  refine m_start (cc := cX6_isByte) (maxL := 1) (ret := (some .boolean)) (by decide) rfl [.int x0] (Nat.le_of_ble_eq_true rfl) ?_
  intro p e s m args below meth c ls hx hb hr hml hown hts hlocks hnm hK hM hl
  have hown : s.vm.findClass RX6 = some m.cls := hown
  have hnm : meth.name = "isByte" := hnm
  obtain ⟨locs, hlocs⟩ : ∃ l : List Loc, l = [] := ⟨_, rfl⟩
  have hL : mL G locs := by rw [hlocs]; exact mL_nil G
  rw [← hlocs]
  generalize s.heap = H at hM ⊢
  have hl : lv_has ls 1 [(0, .int x0)] := hl
  obtain ⟨Q, hQ⟩ : ∃ Q, Q = MQ below (mQ G (.returned (some (.int z))) (σ)) args s 0 0 (mF G) := ⟨_, rfl⟩
  rw [← hQ]
  rw [f_X6_isByte.eq_1] at h
  refine lv_iload_n hx hb dX6_isByte_0 rfl (lv_at hl 0 rfl) ?_
  refine lv_iconst hx hb dX6_isByte_1 kI_0 ?_
  refine lv_sipush hx hb dX6_isByte_2 kS_255 ?_
  refine m_calli (va_runS (As := [.int x0, .int (0 : Int32), .int (255 : Int32)]) (rest := []) ⟨hx, hb, hml, hown, hts⟩ (c_X6_in l G x0 (0 : Int32) (255 : Int32)) (va_cwS 3 hts gX6_isByte_X6_in rfl rfl rfl hd_X6_in ⟨Nat.le_of_ble_eq_true rfl, Nat.le_of_ble_eq_true rfl⟩) (m_preS hK hM) rfl rfl hl.1 rfl (lv_room (Nat.le_of_ble_eq_true rfl)) dX6_isByte_5 ⟨Nat.le_of_ble_eq_true rfl, Nat.le_of_ble_eq_true rfl⟩) hL (fun H locs hM hL => ?_)
  subst hQ
  subst h
  exact m_zret (x := (f_X6_in x0 (0 : Int32) (255 : Int32))) hx hb hr (z_X6_in _ _ _) hM hL dX6_isByte_8 hlocks
abbrev rm_X6_feed : Room := { frames := 2, cells := 0, slots := 0, locals := 42 }
set_option maxHeartbeats 4000000 in
set_option maxRecDepth 100000 in
theorem c_X6_feed (l : Launch) (G : mG) {h0 : Nat} {x1 : Int32} {x2 : Int32} {x3 : Int32} {x4 : Int32} {x5 : Int32} {x6 : Int32} {σ : mS} {z : Int32 × mS} (h : f_X6_feed h0 x1 x2 x3 x4 x5 x6 σ = some z) : Met l yX6_feed wsX6_feed rm_X6_feed (va_Pc [.ref h0, .int x1, .int x2, .int x3, .int x4, .int x5, .int x6] (mB G σ)) (mQ G (.returned (some (.int z.1))) z.2) 0 0 (mF G) := by
  refine m_start (cc := cX6_feed) (maxL := 8) (ret := (some .int)) (by decide) rfl [.ref h0, .int x1, .int x2, .int x3, .int x4, .int x5, .int x6] (Nat.le_of_ble_eq_true rfl) ?_
  intro p e s m args below meth c ls hx hb hr hml hown hts hlocks hnm hK hM hl
  have hown : s.vm.findClass RX6 = some m.cls := hown
  have hnm : meth.name = "feed" := hnm
  obtain ⟨locs, hlocs⟩ : ∃ l : List Loc, l = [] := ⟨_, rfl⟩
  have hL : mL G locs := by rw [hlocs]; exact mL_nil G
  rw [← hlocs]
  generalize s.heap = H at hM ⊢
  have hl : lv_has ls 8 [(0, .ref h0), (1, .int x1), (2, .int x2), (3, .int x3), (4, .int x4), (5, .int x5), (6, .int x6)] := hl
  obtain ⟨Q, hQ⟩ : ∃ Q, Q = MQ below (mQ G (.returned (some (.int z.1))) z.2) args s 0 0 (mF G) := ⟨_, rfl⟩
  rw [← hQ]
  have hU6 : ∀ w ∈ wsX60, w.before args s = true := fun w h => hts w (List.mem_cons_of_mem _ (List.mem_append_right _ h))
  have w1 := (hts (.fieldLink RX6 70 "HandkerchiefsDroppedModel" "taped" "I") (List.mem_of_getElem? (i := 1) rfl))
  have w2 := (hts (.fieldLink RX6 28 "HandkerchiefsDroppedModel" "tape" "[I") (List.mem_of_getElem? (i := 2) rfl))
  have hN68 : ∀ (n : Nat) (h0 : Nat) (x1 : Int32) (x2 : Int32) (x3 : Int32) (x4 : Int32) (x5 : Int32) (x6 : Int32) (x7 : Int32) (σ : mS), f_X6_feed_68 n h0 x1 x2 x3 x4 x5 x6 x7 σ = some z → ∀ (H : Heap) (locs : List Loc) (ls : Array Slot), mP G σ H → mL G locs → lv_has ls 8 [(0, .ref h0), (1, .int x1), (2, .int x2), (3, .int x3), (4, .int x4), (5, .int x5), (6, .int x6), (7, .int x7)] → W p l e rm_X6_feed s m args below meth c H locs 0 0 Q (F0 m 68 ls []) := by
    intro n
    induction n with
    | zero =>
      intro h0 x1 x2 x3 x4 x5 x6 x7 σ h
      exact nomatch (show (none : Option (Int32 × mS)) = some z from h)
    | succ n ih =>
      intro h0 x1 x2 x3 x4 x5 x6 x7 σ h H locs ls hM hL hl
      rw [f_X6_feed_68.eq_2] at h
      refine lv_iload hx hb dX6_feed_68 (lv_at hl 7 rfl) ?_
      refine lv_iload_n hx hb dX6_feed_70 rfl (lv_at hl 1 rfl) ?_
      refine lv_icmp_ge (tgt := 142) hx hb dX6_feed_71 (by decide) (fun c22 => ?_) (fun c22 => ?_)
      · have h := (if_pos c22).symm.trans h
        refine lv_aload_n hx hb dX6_feed_142 rfl (lv_at hl 0 rfl) ?_
        refine m_getI (ci := 5) hx hb hU6 hown hK hM rfl 10 (by decide) w1 h dX6_feed_143 (fun v23 gv23 h => ?_)
        subst hQ
        have h := Option.some.inj h
        subst h
        exact m_iret hx hb hr hM hL dX6_feed_146 hlocks
      · have h := (if_neg c22).symm.trans h
        refine lv_aload_n hx hb dX6_feed_74 rfl (lv_at hl 0 rfl) ?_
        refine m_getR (ci := 5) hx hb hU6 hown hK hM rfl 9 (by decide) w2 h dX6_feed_75 (fun r24 gr24 h => ?_)
        refine lv_aload_n hx hb dX6_feed_78 rfl (lv_at hl 0 rfl) ?_
        refine m_getI (ci := 5) hx hb hU6 hown hK hM rfl 10 (by decide) w1 h dX6_feed_79 (fun v25 gv25 h => ?_)
        refine lv_iload hx hb dX6_feed_82 (lv_at hl 7 rfl) ?_
        suffices hJ : ∀ (v30 : Int32) (ls : Array Slot), v30 = (if x7 = 0 then x2 else if x7 = (1 : Int32) then x3 else if x7 = (2 : Int32) then x4 else if x7 = (3 : Int32) then x5 else x6) → lv_has ls 8 [(0, .ref h0), (1, .int x1), (2, .int x2), (3, .int x3), (4, .int x4), (5, .int x5), (6, .int x6), (7, .int x7)] → W p l e rm_X6_feed s m args below meth c H locs 0 0 Q (F0 m 125 ls [.int v30, .int v25, .ref r24]) by
          refine lv_if_ne (tgt := 91) hx hb dX6_feed_84 (by decide) (fun c26 => ?_) (fun c26 => ?_)
          · refine lv_iload hx hb dX6_feed_91 (lv_at hl 7 rfl) ?_
            refine lv_iconst hx hb dX6_feed_93 kI_1 ?_
            refine lv_icmp_ne (tgt := 101) hx hb dX6_feed_94 (by decide) (fun c27 => ?_) (fun c27 => ?_)
            · refine lv_iload hx hb dX6_feed_101 (lv_at hl 7 rfl) ?_
              refine lv_iconst hx hb dX6_feed_103 kI_2 ?_
              refine lv_icmp_ne (tgt := 112) hx hb dX6_feed_104 (by decide) (fun c28 => ?_) (fun c28 => ?_)
              · refine lv_iload hx hb dX6_feed_112 (lv_at hl 7 rfl) ?_
                refine lv_iconst hx hb dX6_feed_114 kI_3 ?_
                refine lv_icmp_ne (tgt := 123) hx hb dX6_feed_115 (by decide) (fun c29 => ?_) (fun c29 => ?_)
                · refine lv_iload hx hb dX6_feed_123 (lv_at hl 6 rfl) ?_
                  exact hJ _ _ (((if_neg c26).trans ((if_neg c27).trans ((if_neg c28).trans ((if_neg c29).trans rfl)))).symm) (lv_sub hl [0, 1, 2, 3, 4, 5, 6, 7] rfl)
                · refine lv_iload hx hb dX6_feed_118 (lv_at hl 5 rfl) ?_
                  refine lv_goto (tgt := 125) hx hb dX6_feed_120 (by decide) ?_
                  exact hJ _ _ (((if_neg c26).trans ((if_neg c27).trans ((if_neg c28).trans ((if_pos c29).trans rfl)))).symm) (lv_sub hl [0, 1, 2, 3, 4, 5, 6, 7] rfl)
              · refine lv_iload hx hb dX6_feed_107 (lv_at hl 4 rfl) ?_
                refine lv_goto (tgt := 125) hx hb dX6_feed_109 (by decide) ?_
                exact hJ _ _ (((if_neg c26).trans ((if_neg c27).trans ((if_pos c28).trans rfl))).symm) (lv_sub hl [0, 1, 2, 3, 4, 5, 6, 7] rfl)
            · refine lv_iload_n hx hb dX6_feed_97 rfl (lv_at hl 3 rfl) ?_
              refine lv_goto (tgt := 125) hx hb dX6_feed_98 (by decide) ?_
              exact hJ _ _ (((if_neg c26).trans ((if_pos c27).trans rfl)).symm) (lv_sub hl [0, 1, 2, 3, 4, 5, 6, 7] rfl)
          · refine lv_iload_n hx hb dX6_feed_87 rfl (lv_at hl 2 rfl) ?_
            refine lv_goto (tgt := 125) hx hb dX6_feed_88 (by decide) ?_
            exact hJ _ _ (((if_pos c26).trans rfl).symm) (lv_sub hl [0, 1, 2, 3, 4, 5, 6, 7] rfl)
        intro v30 ls ev30 hl
        have h := vl_at ev30 h
        refine m_iast hx hb hK hM hL h dX6_feed_125 (fun t31 H locs h hM hL => ?_)
        refine lv_aload_n hx hb dX6_feed_126 rfl (lv_at hl 0 rfl) ?_
        refine lv_dup hx hb dX6_feed_127 rfl ?_
        refine m_getI (ci := 5) hx hb hU6 hown hK hM rfl 10 (by decide) w1 h dX6_feed_128 (fun v32 gv32 h => ?_)
        refine lv_iconst hx hb dX6_feed_131 kI_1 ?_
        refine lv_iadd hx hb dX6_feed_132 ?_
        refine m_put (ci := 5) hx hb hU6 tyX6 tyX6_ok nmX6 hown hK hM hL rfl 10 (by decide) w1 rfl rfl rfl h dX6_feed_133 (fun t33 H locs h hM hL => ?_)
        obtain ⟨v34, ev34⟩ : ∃ y : Int32, y = x7 + (1 : Int32) := ⟨_, rfl⟩
        have h := vl_at ev34 h
        refine lv_iinc (v := v34) (lv' := [(7, .int v34), (0, .ref h0), (1, .int x1), (2, .int x2), (3, .int x3), (4, .int x4), (5, .int x5), (6, .int x6)]) hx hb dX6_feed_136 hl (k := 7) rfl (by rw [ev34, kI_1]) (by decide) rfl (fun ls hl => ?_)
        refine lv_goto (tgt := 68) hx hb dX6_feed_139 (by decide) ?_
        exact ih _ _ _ _ _ _ _ _ _ h _ _ _ hM hL (lv_sub hl [1, 2, 3, 4, 5, 6, 7, 0] rfl)
  rw [f_X6_feed.eq_1] at h
  refine lv_iload_n hx hb dX6_feed_0 rfl (lv_at hl 1 rfl) ?_
  refine lv_iconst hx hb dX6_feed_1 kI_1 ?_
  refine lv_iconst hx hb dX6_feed_2 kI_5 ?_
  refine m_calli (va_runS (As := [.int x1, .int (1 : Int32), .int (5 : Int32)]) (rest := []) ⟨hx, hb, hml, hown, hts⟩ (c_X6_in l G x1 (1 : Int32) (5 : Int32)) (va_cwS 3 hts gX6_feed_X6_in rfl rfl rfl hd_X6_in ⟨Nat.le_of_ble_eq_true rfl, Nat.le_of_ble_eq_true rfl⟩) (m_preS hK hM) rfl rfl hl.1 rfl (lv_room (Nat.le_of_ble_eq_true rfl)) dX6_feed_3 ⟨Nat.le_of_ble_eq_true rfl, Nat.le_of_ble_eq_true rfl⟩) hL (fun H locs hM hL => ?_)
  refine lv_if_eq (tgt := 47) hx hb dX6_feed_6 (by decide) (fun c35 => ?_) (fun c35 => ?_)
  · have h := (if_pos c35).symm.trans h
    refine lv_bipush hx hb dX6_feed_47 kB_m2 ?_
    subst hQ
    have h := Option.some.inj h
    subst h
    exact m_iret hx hb hr hM hL dX6_feed_49 hlocks
  · have h := (if_neg c35).symm.trans h
    refine lv_iload_n hx hb dX6_feed_9 rfl (lv_at hl 2 rfl) ?_
    refine m_calli (va_runS (As := [.int x2]) (rest := []) ⟨hx, hb, hml, hown, hts⟩ (c_X6_isByte l G x2) (va_cwS 1 hts gX6_feed_X6_isByte rfl rfl rfl hd_X6_isByte ⟨Nat.le_of_ble_eq_true rfl, Nat.le_of_ble_eq_true rfl⟩) (m_preS hK hM) rfl rfl hl.1 rfl (lv_room (Nat.le_of_ble_eq_true rfl)) dX6_feed_10 ⟨Nat.le_of_ble_eq_true rfl, Nat.le_of_ble_eq_true rfl⟩) hL (fun H locs hM hL => ?_)
    refine lv_if_eq (tgt := 47) hx hb dX6_feed_13 (by decide) (fun c36 => ?_) (fun c36 => ?_)
    · have h := (if_pos c36).symm.trans h
      refine lv_bipush hx hb dX6_feed_47 kB_m2 ?_
      subst hQ
      have h := Option.some.inj h
      subst h
      exact m_iret hx hb hr hM hL dX6_feed_49 hlocks
    · have h := (if_neg c36).symm.trans h
      refine lv_iload_n hx hb dX6_feed_16 rfl (lv_at hl 3 rfl) ?_
      refine m_calli (va_runS (As := [.int x3]) (rest := []) ⟨hx, hb, hml, hown, hts⟩ (c_X6_isByte l G x3) (va_cwS 1 hts gX6_feed_X6_isByte rfl rfl rfl hd_X6_isByte ⟨Nat.le_of_ble_eq_true rfl, Nat.le_of_ble_eq_true rfl⟩) (m_preS hK hM) rfl rfl hl.1 rfl (lv_room (Nat.le_of_ble_eq_true rfl)) dX6_feed_17 ⟨Nat.le_of_ble_eq_true rfl, Nat.le_of_ble_eq_true rfl⟩) hL (fun H locs hM hL => ?_)
      refine lv_if_eq (tgt := 47) hx hb dX6_feed_20 (by decide) (fun c37 => ?_) (fun c37 => ?_)
      · have h := (if_pos c37).symm.trans h
        refine lv_bipush hx hb dX6_feed_47 kB_m2 ?_
        subst hQ
        have h := Option.some.inj h
        subst h
        exact m_iret hx hb hr hM hL dX6_feed_49 hlocks
      · have h := (if_neg c37).symm.trans h
        refine lv_iload hx hb dX6_feed_23 (lv_at hl 4 rfl) ?_
        refine m_calli (va_runS (As := [.int x4]) (rest := []) ⟨hx, hb, hml, hown, hts⟩ (c_X6_isByte l G x4) (va_cwS 1 hts gX6_feed_X6_isByte rfl rfl rfl hd_X6_isByte ⟨Nat.le_of_ble_eq_true rfl, Nat.le_of_ble_eq_true rfl⟩) (m_preS hK hM) rfl rfl hl.1 rfl (lv_room (Nat.le_of_ble_eq_true rfl)) dX6_feed_25 ⟨Nat.le_of_ble_eq_true rfl, Nat.le_of_ble_eq_true rfl⟩) hL (fun H locs hM hL => ?_)
        refine lv_if_eq (tgt := 47) hx hb dX6_feed_28 (by decide) (fun c38 => ?_) (fun c38 => ?_)
        · have h := (if_pos c38).symm.trans h
          refine lv_bipush hx hb dX6_feed_47 kB_m2 ?_
          subst hQ
          have h := Option.some.inj h
          subst h
          exact m_iret hx hb hr hM hL dX6_feed_49 hlocks
        · have h := (if_neg c38).symm.trans h
          refine lv_iload hx hb dX6_feed_31 (lv_at hl 5 rfl) ?_
          refine m_calli (va_runS (As := [.int x5]) (rest := []) ⟨hx, hb, hml, hown, hts⟩ (c_X6_isByte l G x5) (va_cwS 1 hts gX6_feed_X6_isByte rfl rfl rfl hd_X6_isByte ⟨Nat.le_of_ble_eq_true rfl, Nat.le_of_ble_eq_true rfl⟩) (m_preS hK hM) rfl rfl hl.1 rfl (lv_room (Nat.le_of_ble_eq_true rfl)) dX6_feed_33 ⟨Nat.le_of_ble_eq_true rfl, Nat.le_of_ble_eq_true rfl⟩) hL (fun H locs hM hL => ?_)
          refine lv_if_eq (tgt := 47) hx hb dX6_feed_36 (by decide) (fun c39 => ?_) (fun c39 => ?_)
          · have h := (if_pos c39).symm.trans h
            refine lv_bipush hx hb dX6_feed_47 kB_m2 ?_
            subst hQ
            have h := Option.some.inj h
            subst h
            exact m_iret hx hb hr hM hL dX6_feed_49 hlocks
          · have h := (if_neg c39).symm.trans h
            refine lv_iload hx hb dX6_feed_39 (lv_at hl 6 rfl) ?_
            refine m_calli (va_runS (As := [.int x6]) (rest := []) ⟨hx, hb, hml, hown, hts⟩ (c_X6_isByte l G x6) (va_cwS 1 hts gX6_feed_X6_isByte rfl rfl rfl hd_X6_isByte ⟨Nat.le_of_ble_eq_true rfl, Nat.le_of_ble_eq_true rfl⟩) (m_preS hK hM) rfl rfl hl.1 rfl (lv_room (Nat.le_of_ble_eq_true rfl)) dX6_feed_41 ⟨Nat.le_of_ble_eq_true rfl, Nat.le_of_ble_eq_true rfl⟩) hL (fun H locs hM hL => ?_)
            refine lv_if_ne (tgt := 50) hx hb dX6_feed_44 (by decide) (fun c40 => ?_) (fun c40 => ?_)
            · have h := (if_neg c40).symm.trans h
              refine lv_aload_n hx hb dX6_feed_50 rfl (lv_at hl 0 rfl) ?_
              refine m_getI (ci := 5) hx hb hU6 hown hK hM rfl 10 (by decide) w1 h dX6_feed_51 (fun v41 gv41 h => ?_)
              refine lv_iload_n hx hb dX6_feed_54 rfl (lv_at hl 1 rfl) ?_
              refine lv_iadd hx hb dX6_feed_55 ?_
              refine lv_sipush hx hb dX6_feed_56 kS_160 ?_
              refine lv_icmp_le (tgt := 65) hx hb dX6_feed_59 (by decide) (fun c42 => ?_) (fun c42 => ?_)
              · have h := (if_pos c42).symm.trans h
                refine lv_iconst hx hb dX6_feed_65 kI_0 ?_
                refine lv_istore (lv' := [(7, .int (0 : Int32)), (0, .ref h0), (1, .int x1), (2, .int x2), (3, .int x3), (4, .int x4), (5, .int x5), (6, .int x6)]) hx hb dX6_feed_66 hl (by decide) rfl (fun ls hl => ?_)
                refine hN68 _ _ _ _ _ _ _ _ _ _ h _ _ _ hM hL (lv_sub hl [1, 2, 3, 4, 5, 6, 7, 0] rfl)
              · have h := (if_neg c42).symm.trans h
                refine lv_bipush hx hb dX6_feed_62 kB_m4 ?_
                subst hQ
                have h := Option.some.inj h
                subst h
                exact m_iret hx hb hr hM hL dX6_feed_64 hlocks
            · have h := (if_pos c40).symm.trans h
              refine lv_bipush hx hb dX6_feed_47 kB_m2 ?_
              subst hQ
              have h := Option.some.inj h
              subst h
              exact m_iret hx hb hr hM hL dX6_feed_49 hlocks
abbrev rm_X6_wordFrom : Room := { frames := 0, cells := 0, slots := 0, locals := 0 }
set_option maxHeartbeats 4000000 in
set_option maxRecDepth 100000 in
theorem c_X6_wordFrom (l : Launch) (G : mG) {h0 : Nat} {x1 : Int32} {x2 : Int32} {σ : mS} {z : Int32} (h : f_X6_wordFrom h0 x1 x2 σ = some z) : Met l yX6_wordFrom wsX6_wordFrom rm_X6_wordFrom (va_Pc [.ref h0, .int x1, .int x2] (mB G σ)) (mQ G (.returned (some (.int z))) (σ)) 0 0 (mF G) := by
  refine m_start (cc := cX6_wordFrom) (maxL := 6) (ret := (some .int)) (by decide) rfl [.ref h0, .int x1, .int x2] (Nat.le_of_ble_eq_true rfl) ?_
  intro p e s m args below meth c ls hx hb hr hml hown hts hlocks hnm hK hM hl
  have hown : s.vm.findClass RX6 = some m.cls := hown
  have hnm : meth.name = "wordFrom" := hnm
  obtain ⟨locs, hlocs⟩ : ∃ l : List Loc, l = [] := ⟨_, rfl⟩
  have hL : mL G locs := by rw [hlocs]; exact mL_nil G
  rw [← hlocs]
  generalize s.heap = H at hM ⊢
  have hl : lv_has ls 6 [(0, .ref h0), (1, .int x1), (2, .int x2)] := hl
  obtain ⟨Q, hQ⟩ : ∃ Q, Q = MQ below (mQ G (.returned (some (.int z))) (σ)) args s 0 0 (mF G) := ⟨_, rfl⟩
  rw [← hQ]
  have hU6 : ∀ w ∈ wsX60, w.before args s = true := fun w h => hts w (List.mem_cons_of_mem _ (List.mem_append_right _ h))
  have w1 := (hts (.fieldLink RX6 55 "HandkerchiefsDroppedModel" "words" "[I") (List.mem_of_getElem? (i := 1) rfl))
  have w2 := (hts (.fieldLink RX6 28 "HandkerchiefsDroppedModel" "tape" "[I") (List.mem_of_getElem? (i := 2) rfl))
  have hN72 : ∀ (k26 : Nat → Int32 → Int32 → Int32 → Int32 → Int32 → Option Int32) (hk26 : ∀ (h0 : Nat) (x1 : Int32) (x2 : Int32) (x3 : Int32) (x4 : Int32) (x5 : Int32), k26 h0 x1 x2 x3 x4 x5 = some z → ∀ (H : Heap) (locs : List Loc) (ls : Array Slot), mP G σ H → mL G locs → lv_has ls 6 [(0, .ref h0), (1, .int x1), (2, .int x2), (3, .int x3), (4, .int x4), (5, .int x5)] → W p l e rm_X6_wordFrom s m args below meth c H locs 0 0 Q (F0 m 26 ls [])) (h0 : Nat) (x1 : Int32) (x2 : Int32) (x3 : Int32) (x5 : Int32) (s0 : Int32) (s1 : Int32), f_X6_wordFrom_72 σ k26 h0 x1 x2 x3 x5 s0 s1 = some z → ∀ (H : Heap) (locs : List Loc) (ls : Array Slot), mP G σ H → mL G locs → lv_has ls 6 [(0, .ref h0), (1, .int x1), (2, .int x2), (3, .int x3), (5, .int x5)] → W p l e rm_X6_wordFrom s m args below meth c H locs 0 0 Q (F0 m 72 ls [.int s1, .int s0]) := by
    intro k26 hk26 h0 x1 x2 x3 x5 s0 s1 h H locs ls hM hL hl
    rw [f_X6_wordFrom_72.eq_1] at h
    suffices hJ : ∀ (v17 : Int32) (ls : Array Slot), v17 = (if s0 = s1 then (1 : Int32) else (0 : Int32)) → lv_has ls 6 [(0, .ref h0), (1, .int x1), (2, .int x2), (3, .int x3), (5, .int x5)] → W p l e rm_X6_wordFrom s m args below meth c H locs 0 0 Q (F0 m 80 ls [.int v17]) by
      refine lv_icmp_ne (tgt := 79) hx hb dX6_wordFrom_72 (by decide) (fun c16 => ?_) (fun c16 => ?_)
      · refine lv_iconst hx hb dX6_wordFrom_79 kI_0 ?_
        exact hJ _ _ (((if_neg c16).trans rfl).symm) (lv_sub hl [0, 1, 2, 3, 4] rfl)
      · refine lv_iconst hx hb dX6_wordFrom_75 kI_1 ?_
        refine lv_goto (tgt := 80) hx hb dX6_wordFrom_76 (by decide) ?_
        exact hJ _ _ (((if_pos c16).trans rfl).symm) (lv_sub hl [0, 1, 2, 3, 4] rfl)
    intro v17 ls ev17 hl
    have h := vl_at ev17 h
    refine lv_istore (lv' := [(4, .int v17), (0, .ref h0), (1, .int x1), (2, .int x2), (3, .int x3), (5, .int x5)]) hx hb dX6_wordFrom_80 hl (by decide) rfl (fun ls hl => ?_)
    obtain ⟨v18, ev18⟩ : ∃ y : Int32, y = x5 + (1 : Int32) := ⟨_, rfl⟩
    have h := vl_at ev18 h
    refine lv_iinc (v := v18) (lv' := [(5, .int v18), (4, .int v17), (0, .ref h0), (1, .int x1), (2, .int x2), (3, .int x3)]) hx hb dX6_wordFrom_82 hl (k := 5) rfl (by rw [ev18, kI_1]) (by decide) rfl (fun ls hl => ?_)
    refine lv_goto (tgt := 26) hx hb dX6_wordFrom_85 (by decide) ?_
    exact hk26 _ _ _ _ _ _ h _ _ _ hM hL (lv_sub hl [2, 3, 4, 5, 1, 0] rfl)
  have hN26 : ∀ (k88 : Nat → Int32 → Int32 → Int32 → Int32 → Option Int32) (hk88 : ∀ (h0 : Nat) (x1 : Int32) (x2 : Int32) (x3 : Int32) (x4 : Int32), k88 h0 x1 x2 x3 x4 = some z → ∀ (H : Heap) (locs : List Loc) (ls : Array Slot), mP G σ H → mL G locs → lv_has ls 6 [(0, .ref h0), (1, .int x1), (2, .int x2), (3, .int x3), (4, .int x4)] → W p l e rm_X6_wordFrom s m args below meth c H locs 0 0 Q (F0 m 88 ls [])) (n : Nat) (h0 : Nat) (x1 : Int32) (x2 : Int32) (x3 : Int32) (x4 : Int32) (x5 : Int32), f_X6_wordFrom_26 σ k88 n h0 x1 x2 x3 x4 x5 = some z → ∀ (H : Heap) (locs : List Loc) (ls : Array Slot), mP G σ H → mL G locs → lv_has ls 6 [(0, .ref h0), (1, .int x1), (2, .int x2), (3, .int x3), (4, .int x4), (5, .int x5)] → W p l e rm_X6_wordFrom s m args below meth c H locs 0 0 Q (F0 m 26 ls []) := by
    intro k88 hk88 n
    induction n with
    | zero =>
      intro h0 x1 x2 x3 x4 x5 h
      exact nomatch (show (none : Option Int32) = some z from h)
    | succ n ih =>
      intro h0 x1 x2 x3 x4 x5 h H locs ls hM hL hl
      rw [f_X6_wordFrom_26.eq_2] at h
      refine lv_iload hx hb dX6_wordFrom_26 (lv_at hl 5 rfl) ?_
      refine lv_bipush hx hb dX6_wordFrom_28 kB_8 ?_
      refine lv_icmp_ge (tgt := 88) hx hb dX6_wordFrom_30 (by decide) (fun c19 => ?_) (fun c19 => ?_)
      · have h := (if_pos c19).symm.trans h
        exact hk88 _ _ _ _ _ h _ _ _ hM hL (lv_sub hl [0, 1, 2, 3, 4] rfl)
      · have h := (if_neg c19).symm.trans h
        refine lv_iload hx hb dX6_wordFrom_33 (lv_at hl 4 rfl) ?_
        refine lv_if_eq (tgt := 88) hx hb dX6_wordFrom_35 (by decide) (fun c20 => ?_) (fun c20 => ?_)
        · have h := (if_pos c20).symm.trans h
          exact hk88 _ _ _ _ _ h _ _ _ hM hL (lv_sub hl [0, 1, 2, 3, 4] rfl)
        · have h := (if_neg c20).symm.trans h
          refine lv_aload_n hx hb dX6_wordFrom_38 rfl (lv_at hl 0 rfl) ?_
          refine m_getR (ci := 5) hx hb hU6 hown hK hM rfl 26 (by decide) w1 h dX6_wordFrom_39 (fun r21 gr21 h => ?_)
          refine lv_bipush hx hb dX6_wordFrom_42 kB_8 ?_
          refine lv_iload_n hx hb dX6_wordFrom_44 rfl (lv_at hl 3 rfl) ?_
          refine lv_imul hx hb dX6_wordFrom_45 ?_
          refine lv_iload hx hb dX6_wordFrom_46 (lv_at hl 5 rfl) ?_
          refine lv_iadd hx hb dX6_wordFrom_48 ?_
          refine m_iald hx hb hK hM h dX6_wordFrom_49 (fun v22 gv22 h => ?_)
          refine lv_iload_n hx hb dX6_wordFrom_50 rfl (lv_at hl 1 rfl) ?_
          refine lv_iload hx hb dX6_wordFrom_51 (lv_at hl 5 rfl) ?_
          refine lv_iadd hx hb dX6_wordFrom_53 ?_
          refine lv_iload_n hx hb dX6_wordFrom_54 rfl (lv_at hl 2 rfl) ?_
          refine lv_icmp_ge (tgt := 70) hx hb dX6_wordFrom_55 (by decide) (fun c23 => ?_) (fun c23 => ?_)
          · have h := (if_pos c23).symm.trans h
            refine lv_bipush hx hb dX6_wordFrom_70 kB_32 ?_
            refine hN72 _ (fun _ _ _ _ _ _ h H locs ls hM hL hl => ih _ _ _ _ _ _ h H locs ls hM hL hl) _ _ _ _ _ _ _ h _ _ _ hM hL (lv_sub hl [0, 1, 2, 3, 5] rfl)
          · have h := (if_neg c23).symm.trans h
            refine lv_aload_n hx hb dX6_wordFrom_58 rfl (lv_at hl 0 rfl) ?_
            refine m_getR (ci := 5) hx hb hU6 hown hK hM rfl 9 (by decide) w2 h dX6_wordFrom_59 (fun r24 gr24 h => ?_)
            refine lv_iload_n hx hb dX6_wordFrom_62 rfl (lv_at hl 1 rfl) ?_
            refine lv_iload hx hb dX6_wordFrom_63 (lv_at hl 5 rfl) ?_
            refine lv_iadd hx hb dX6_wordFrom_65 ?_
            refine m_iald hx hb hK hM h dX6_wordFrom_66 (fun v25 gv25 h => ?_)
            refine lv_goto (tgt := 72) hx hb dX6_wordFrom_67 (by decide) ?_
            refine hN72 _ (fun _ _ _ _ _ _ h H locs ls hM hL hl => ih _ _ _ _ _ _ h H locs ls hM hL hl) _ _ _ _ _ _ _ h _ _ _ hM hL (lv_sub hl [0, 1, 2, 3, 5] rfl)
  have hN2 : ∀ (n : Nat) (h0 : Nat) (x1 : Int32) (x2 : Int32) (x3 : Int32), f_X6_wordFrom_2 σ n h0 x1 x2 x3 = some z → ∀ (H : Heap) (locs : List Loc) (ls : Array Slot), mP G σ H → mL G locs → lv_has ls 6 [(0, .ref h0), (1, .int x1), (2, .int x2), (3, .int x3)] → W p l e rm_X6_wordFrom s m args below meth c H locs 0 0 Q (F0 m 2 ls []) := by
    intro n
    induction n with
    | zero =>
      intro h0 x1 x2 x3 h
      exact nomatch (show (none : Option Int32) = some z from h)
    | succ n ih =>
      intro h0 x1 x2 x3 h H locs ls hM hL hl
      rw [f_X6_wordFrom_2.eq_2] at h
      refine lv_iload_n hx hb dX6_wordFrom_2 rfl (lv_at hl 3 rfl) ?_
      refine lv_bipush hx hb dX6_wordFrom_3 kB_12 ?_
      refine lv_icmp_ge (tgt := 101) hx hb dX6_wordFrom_5 (by decide) (fun c26 => ?_) (fun c26 => ?_)
      · have h := (if_pos c26).symm.trans h
        refine lv_bipush hx hb dX6_wordFrom_101 kB_12 ?_
        subst hQ
        have h := Option.some.inj h
        subst h
        exact m_iret hx hb hr hM hL dX6_wordFrom_103 hlocks
      · have h := (if_neg c26).symm.trans h
        refine lv_iload_n hx hb dX6_wordFrom_8 rfl (lv_at hl 2 rfl) ?_
        refine lv_iload_n hx hb dX6_wordFrom_9 rfl (lv_at hl 1 rfl) ?_
        refine lv_isub hx hb dX6_wordFrom_10 ?_
        refine lv_bipush hx hb dX6_wordFrom_11 kB_8 ?_
        suffices hJ : ∀ (v28 : Int32) (ls : Array Slot), v28 = (if (8 : Int32) < (x2 - x1) then (0 : Int32) else (1 : Int32)) → lv_has ls 6 [(0, .ref h0), (1, .int x1), (2, .int x2), (3, .int x3)] → W p l e rm_X6_wordFrom s m args below meth c H locs 0 0 Q (F0 m 21 ls [.int v28]) by
          refine lv_icmp_gt (tgt := 20) hx hb dX6_wordFrom_13 (by decide) (fun c27 => ?_) (fun c27 => ?_)
          · refine lv_iconst hx hb dX6_wordFrom_20 kI_0 ?_
            exact hJ _ _ (((if_pos c27).trans rfl).symm) (lv_sub hl [0, 1, 2, 3] rfl)
          · refine lv_iconst hx hb dX6_wordFrom_16 kI_1 ?_
            refine lv_goto (tgt := 21) hx hb dX6_wordFrom_17 (by decide) ?_
            exact hJ _ _ (((if_neg c27).trans rfl).symm) (lv_sub hl [0, 1, 2, 3] rfl)
        intro v28 ls ev28 hl
        have h := vl_at ev28 h
        refine lv_istore (lv' := [(4, .int v28), (0, .ref h0), (1, .int x1), (2, .int x2), (3, .int x3)]) hx hb dX6_wordFrom_21 hl (by decide) rfl (fun ls hl => ?_)
        refine lv_iconst hx hb dX6_wordFrom_23 kI_0 ?_
        refine lv_istore (lv' := [(5, .int (0 : Int32)), (4, .int v28), (0, .ref h0), (1, .int x1), (2, .int x2), (3, .int x3)]) hx hb dX6_wordFrom_24 hl (by decide) rfl (fun ls hl => ?_)
        refine hN26 _ ?_ _ _ _ _ _ _ _ h _ _ _ hM hL (lv_sub hl [2, 3, 4, 5, 1, 0] rfl)
        · intro h0 x1 x2 x3 x4 h H locs ls hM hL hl
          refine lv_iload hx hb dX6_wordFrom_88 (lv_at hl 4 rfl) ?_
          refine lv_if_eq (tgt := 95) hx hb dX6_wordFrom_90 (by decide) (fun c29 => ?_) (fun c29 => ?_)
          · have h := (if_pos c29).symm.trans h
            obtain ⟨v30, ev30⟩ : ∃ y : Int32, y = x3 + (1 : Int32) := ⟨_, rfl⟩
            have h := vl_at ev30 h
            refine lv_iinc (v := v30) (lv' := [(3, .int v30), (0, .ref h0), (1, .int x1), (2, .int x2), (4, .int x4)]) hx hb dX6_wordFrom_95 hl (k := 3) rfl (by rw [ev30, kI_1]) (by decide) rfl (fun ls hl => ?_)
            refine lv_goto (tgt := 2) hx hb dX6_wordFrom_98 (by decide) ?_
            exact ih _ _ _ _ h _ _ _ hM hL (lv_sub hl [1, 2, 3, 0] rfl)
          · have h := (if_neg c29).symm.trans h
            refine lv_iload_n hx hb dX6_wordFrom_93 rfl (lv_at hl 3 rfl) ?_
            subst hQ
            have h := Option.some.inj h
            subst h
            exact m_iret hx hb hr hM hL dX6_wordFrom_94 hlocks
  rw [f_X6_wordFrom.eq_1] at h
  refine lv_iconst hx hb dX6_wordFrom_0 kI_0 ?_
  refine lv_istore_n (lv' := [(3, .int (0 : Int32)), (0, .ref h0), (1, .int x1), (2, .int x2)]) hx hb dX6_wordFrom_1 rfl hl (by decide) rfl (fun ls hl => ?_)
  refine hN2 _ _ _ _ _ h _ _ _ hM hL (lv_sub hl [1, 2, 3, 0] rfl)
abbrev rm_X6_next : Room := { frames := 1, cells := 0, slots := 0, locals := 25 }
set_option maxHeartbeats 4000000 in
set_option maxRecDepth 100000 in
theorem c_X6_next (l : Launch) (G : mG) {h0 : Nat} {σ : mS} {z : mS} (h : f_X6_next h0 σ = some z) : Met l yX6_next wsX6_next rm_X6_next (va_Pc [.ref h0] (mB G σ)) (mQ G (.returned none) z) 0 0 (mF G) := by
  refine m_start (cc := cX6_next) (maxL := 3) (ret := none) (by decide) rfl [.ref h0] (Nat.le_of_ble_eq_true rfl) ?_
  intro p e s m args below meth c ls hx hb hr hml hown hts hlocks hnm hK hM hl
  have hown : s.vm.findClass RX6 = some m.cls := hown
  have hnm : meth.name = "next" := hnm
  obtain ⟨locs, hlocs⟩ : ∃ l : List Loc, l = [] := ⟨_, rfl⟩
  have hL : mL G locs := by rw [hlocs]; exact mL_nil G
  rw [← hlocs]
  generalize s.heap = H at hM ⊢
  have hl : lv_has ls 3 [(0, .ref h0)] := hl
  obtain ⟨Q, hQ⟩ : ∃ Q, Q = MQ below (mQ G (.returned none) z) args s 0 0 (mF G) := ⟨_, rfl⟩
  rw [← hQ]
  have hU6 : ∀ w ∈ wsX60, w.before args s = true := fun w h => hts w (List.mem_cons_of_mem _ (List.mem_append_right _ h))
  have w1 := (hts (.fieldLink RX6 119 "HandkerchiefsDroppedModel" "at" "I") (List.mem_of_getElem? (i := 1) rfl))
  have w2 := (hts (.fieldLink RX6 70 "HandkerchiefsDroppedModel" "taped" "I") (List.mem_of_getElem? (i := 2) rfl))
  have w3 := (hts (.fieldLink RX6 28 "HandkerchiefsDroppedModel" "tape" "[I") (List.mem_of_getElem? (i := 3) rfl))
  have w4 := (hts (.fieldLink RX6 122 "HandkerchiefsDroppedModel" "begun" "I") (List.mem_of_getElem? (i := 4) rfl))
  have w5 := (hts (.fieldLink RX6 125 "HandkerchiefsDroppedModel" "token" "I") (List.mem_of_getElem? (i := 5) rfl))
  have w6 := (hts (.fieldLink RX6 128 "HandkerchiefsDroppedModel" "value" "I") (List.mem_of_getElem? (i := 6) rfl))
  have hN39 : ∀ (k0 : Nat → mS → Option mS) (hk0 : ∀ (h0 : Nat) (σ : mS), k0 h0 σ = some z → ∀ (H : Heap) (locs : List Loc) (ls : Array Slot), mP G σ H → mL G locs → lv_has ls 3 [(0, .ref h0)] → W p l e rm_X6_next s m args below meth c H locs 0 0 Q (F0 m 0 ls [])) (h0 : Nat) (σ : mS), f_X6_next_39 k0 h0 σ = some z → ∀ (H : Heap) (locs : List Loc) (ls : Array Slot), mP G σ H → mL G locs → lv_has ls 3 [(0, .ref h0)] → W p l e rm_X6_next s m args below meth c H locs 0 0 Q (F0 m 39 ls []) := by
    intro k0 hk0 h0 σ h H locs ls hM hL hl
    rw [f_X6_next_39.eq_1] at h
    refine lv_aload_n hx hb dX6_next_39 rfl (lv_at hl 0 rfl) ?_
    refine lv_dup hx hb dX6_next_40 rfl ?_
    refine m_getI (ci := 5) hx hb hU6 hown hK hM rfl 22 (by decide) w1 h dX6_next_41 (fun v80 gv80 h => ?_)
    refine lv_iconst hx hb dX6_next_44 kI_1 ?_
    refine lv_iadd hx hb dX6_next_45 ?_
    refine m_put (ci := 5) hx hb hU6 tyX6 tyX6_ok nmX6 hown hK hM hL rfl 22 (by decide) w1 rfl rfl rfl h dX6_next_46 (fun t81 H locs h hM hL => ?_)
    refine lv_goto (tgt := 0) hx hb dX6_next_49 (by decide) ?_
    exact hk0 _ _ h _ _ _ hM hL (lv_sub hl [0] rfl)
  have hN0 : ∀ (k52 : Nat → mS → Option mS) (hk52 : ∀ (h0 : Nat) (σ : mS), k52 h0 σ = some z → ∀ (H : Heap) (locs : List Loc) (ls : Array Slot), mP G σ H → mL G locs → lv_has ls 3 [(0, .ref h0)] → W p l e rm_X6_next s m args below meth c H locs 0 0 Q (F0 m 52 ls [])) (n : Nat) (h0 : Nat) (σ : mS), f_X6_next_0 k52 n h0 σ = some z → ∀ (H : Heap) (locs : List Loc) (ls : Array Slot), mP G σ H → mL G locs → lv_has ls 3 [(0, .ref h0)] → W p l e rm_X6_next s m args below meth c H locs 0 0 Q (F0 m 0 ls []) := by
    intro k52 hk52 n
    induction n with
    | zero =>
      intro h0 σ h
      exact nomatch (show (none : Option mS) = some z from h)
    | succ n ih =>
      intro h0 σ h H locs ls hM hL hl
      rw [f_X6_next_0.eq_2] at h
      refine lv_aload_n hx hb dX6_next_0 rfl (lv_at hl 0 rfl) ?_
      refine m_getI (ci := 5) hx hb hU6 hown hK hM rfl 22 (by decide) w1 h dX6_next_1 (fun v82 gv82 h => ?_)
      refine lv_aload_n hx hb dX6_next_4 rfl (lv_at hl 0 rfl) ?_
      refine m_getI (ci := 5) hx hb hU6 hown hK hM rfl 10 (by decide) w2 h dX6_next_5 (fun v83 gv83 h => ?_)
      refine lv_icmp_ge (tgt := 52) hx hb dX6_next_8 (by decide) (fun c84 => ?_) (fun c84 => ?_)
      · have h := (if_pos c84).symm.trans h
        exact hk52 _ _ h _ _ _ hM hL (lv_sub hl [0] rfl)
      · have h := (if_neg c84).symm.trans h
        refine lv_aload_n hx hb dX6_next_11 rfl (lv_at hl 0 rfl) ?_
        refine m_getR (ci := 5) hx hb hU6 hown hK hM rfl 9 (by decide) w3 h dX6_next_12 (fun r85 gr85 h => ?_)
        refine lv_aload_n hx hb dX6_next_15 rfl (lv_at hl 0 rfl) ?_
        refine m_getI (ci := 5) hx hb hU6 hown hK hM rfl 22 (by decide) w1 h dX6_next_16 (fun v86 gv86 h => ?_)
        refine m_iald hx hb hK hM h dX6_next_19 (fun v87 gv87 h => ?_)
        refine lv_bipush hx hb dX6_next_20 kB_32 ?_
        refine lv_icmp_eq (tgt := 39) hx hb dX6_next_22 (by decide) (fun c88 => ?_) (fun c88 => ?_)
        · have h := (if_pos c88).symm.trans h
          refine hN39 _ (fun _ _ h H locs ls hM hL hl => ih _ _ h H locs ls hM hL hl) _ _ h _ _ _ hM hL (lv_sub hl [0] rfl)
        · have h := (if_neg c88).symm.trans h
          refine lv_aload_n hx hb dX6_next_25 rfl (lv_at hl 0 rfl) ?_
          refine m_getR (ci := 5) hx hb hU6 hown hK hM rfl 9 (by decide) w3 h dX6_next_26 (fun r89 gr89 h => ?_)
          refine lv_aload_n hx hb dX6_next_29 rfl (lv_at hl 0 rfl) ?_
          refine m_getI (ci := 5) hx hb hU6 hown hK hM rfl 22 (by decide) w1 h dX6_next_30 (fun v90 gv90 h => ?_)
          refine m_iald hx hb hK hM h dX6_next_33 (fun v91 gv91 h => ?_)
          refine lv_bipush hx hb dX6_next_34 kB_10 ?_
          refine lv_icmp_ne (tgt := 52) hx hb dX6_next_36 (by decide) (fun c92 => ?_) (fun c92 => ?_)
          · have h := (if_neg c92).symm.trans h
            exact hk52 _ _ h _ _ _ hM hL (lv_sub hl [0] rfl)
          · have h := (if_pos c92).symm.trans h
            refine hN39 _ (fun _ _ h H locs ls hM hL hl => ih _ _ h H locs ls hM hL hl) _ _ h _ _ _ hM hL (lv_sub hl [0] rfl)
  have hN103 : ∀ (k146 : Nat → mS → Option mS) (hk146 : ∀ (h0 : Nat) (σ : mS), k146 h0 σ = some z → ∀ (H : Heap) (locs : List Loc) (ls : Array Slot), mP G σ H → mL G locs → lv_has ls 3 [(0, .ref h0)] → W p l e rm_X6_next s m args below meth c H locs 0 0 Q (F0 m 146 ls [])) (n : Nat) (h0 : Nat) (σ : mS), f_X6_next_103 k146 n h0 σ = some z → ∀ (H : Heap) (locs : List Loc) (ls : Array Slot), mP G σ H → mL G locs → lv_has ls 3 [(0, .ref h0)] → W p l e rm_X6_next s m args below meth c H locs 0 0 Q (F0 m 103 ls []) := by
    intro k146 hk146 n
    induction n with
    | zero =>
      intro h0 σ h
      exact nomatch (show (none : Option mS) = some z from h)
    | succ n ih =>
      intro h0 σ h H locs ls hM hL hl
      rw [f_X6_next_103.eq_2] at h
      refine lv_aload_n hx hb dX6_next_103 rfl (lv_at hl 0 rfl) ?_
      refine m_getI (ci := 5) hx hb hU6 hown hK hM rfl 22 (by decide) w1 h dX6_next_104 (fun v93 gv93 h => ?_)
      refine lv_aload_n hx hb dX6_next_107 rfl (lv_at hl 0 rfl) ?_
      refine m_getI (ci := 5) hx hb hU6 hown hK hM rfl 10 (by decide) w2 h dX6_next_108 (fun v94 gv94 h => ?_)
      refine lv_icmp_ge (tgt := 146) hx hb dX6_next_111 (by decide) (fun c95 => ?_) (fun c95 => ?_)
      · have h := (if_pos c95).symm.trans h
        exact hk146 _ _ h _ _ _ hM hL (lv_sub hl [0] rfl)
      · have h := (if_neg c95).symm.trans h
        refine lv_aload_n hx hb dX6_next_114 rfl (lv_at hl 0 rfl) ?_
        refine m_getR (ci := 5) hx hb hU6 hown hK hM rfl 9 (by decide) w3 h dX6_next_115 (fun r96 gr96 h => ?_)
        refine lv_aload_n hx hb dX6_next_118 rfl (lv_at hl 0 rfl) ?_
        refine m_getI (ci := 5) hx hb hU6 hown hK hM rfl 22 (by decide) w1 h dX6_next_119 (fun v97 gv97 h => ?_)
        refine m_iald hx hb hK hM h dX6_next_122 (fun v98 gv98 h => ?_)
        refine lv_bipush hx hb dX6_next_123 kB_97 ?_
        refine lv_bipush hx hb dX6_next_125 kB_122 ?_
        refine m_calli (va_runS (As := [.int v98, .int (97 : Int32), .int (122 : Int32)]) (rest := []) ⟨hx, hb, hml, hown, hts⟩ (c_X6_in l G v98 (97 : Int32) (122 : Int32)) (va_cwS 3 hts gX6_next_X6_in rfl rfl rfl hd_X6_in ⟨Nat.le_of_ble_eq_true rfl, Nat.le_of_ble_eq_true rfl⟩) (m_preS hK hM) rfl rfl hl.1 rfl (lv_room (Nat.le_of_ble_eq_true rfl)) dX6_next_127 ⟨Nat.le_of_ble_eq_true rfl, Nat.le_of_ble_eq_true rfl⟩) hL (fun H locs hM hL => ?_)
        refine lv_if_eq (tgt := 146) hx hb dX6_next_130 (by decide) (fun c99 => ?_) (fun c99 => ?_)
        · have h := (if_pos c99).symm.trans h
          exact hk146 _ _ h _ _ _ hM hL (lv_sub hl [0] rfl)
        · have h := (if_neg c99).symm.trans h
          refine lv_aload_n hx hb dX6_next_133 rfl (lv_at hl 0 rfl) ?_
          refine lv_dup hx hb dX6_next_134 rfl ?_
          refine m_getI (ci := 5) hx hb hU6 hown hK hM rfl 22 (by decide) w1 h dX6_next_135 (fun v100 gv100 h => ?_)
          refine lv_iconst hx hb dX6_next_138 kI_1 ?_
          refine lv_iadd hx hb dX6_next_139 ?_
          refine m_put (ci := 5) hx hb hU6 tyX6 tyX6_ok nmX6 hown hK hM hL rfl 22 (by decide) w1 rfl rfl rfl h dX6_next_140 (fun t101 H locs h hM hL => ?_)
          refine lv_goto (tgt := 103) hx hb dX6_next_143 (by decide) ?_
          exact ih _ _ h _ _ _ hM hL (lv_sub hl [0] rfl)
  have hN290 : ∀ (k230 : Nat → Int32 → mS → Option mS) (hk230 : ∀ (h0 : Nat) (x2 : Int32) (σ : mS), k230 h0 x2 σ = some z → ∀ (H : Heap) (locs : List Loc) (ls : Array Slot), mP G σ H → mL G locs → lv_has ls 3 [(0, .ref h0), (2, .int x2)] → W p l e rm_X6_next s m args below meth c H locs 0 0 Q (F0 m 230 ls [])) (h0 : Nat) (x2 : Int32) (s0 : Nat) (s1 : Int32) (σ : mS), f_X6_next_290 k230 h0 x2 s0 s1 σ = some z → ∀ (H : Heap) (locs : List Loc) (ls : Array Slot), mP G σ H → mL G locs → lv_has ls 3 [(0, .ref h0), (2, .int x2)] → W p l e rm_X6_next s m args below meth c H locs 0 0 Q (F0 m 290 ls [.int s1, .ref s0]) := by
    intro k230 hk230 h0 x2 s0 s1 σ h H locs ls hM hL hl
    rw [f_X6_next_290.eq_1] at h
    refine m_put (ci := 5) hx hb hU6 tyX6 tyX6_ok nmX6 hown hK hM hL rfl 25 (by decide) w6 rfl rfl rfl h dX6_next_290 (fun t102 H locs h hM hL => ?_)
    obtain ⟨v103, ev103⟩ : ∃ y : Int32, y = x2 + (1 : Int32) := ⟨_, rfl⟩
    have h := vl_at ev103 h
    refine lv_iinc (v := v103) (lv' := [(2, .int v103), (0, .ref h0)]) hx hb dX6_next_293 hl (k := 1) rfl (by rw [ev103, kI_1]) (by decide) rfl (fun ls hl => ?_)
    refine lv_aload_n hx hb dX6_next_296 rfl (lv_at hl 1 rfl) ?_
    refine lv_dup hx hb dX6_next_297 rfl ?_
    refine m_getI (ci := 5) hx hb hU6 hown hK hM rfl 22 (by decide) w1 h dX6_next_298 (fun v104 gv104 h => ?_)
    refine lv_iconst hx hb dX6_next_301 kI_1 ?_
    refine lv_iadd hx hb dX6_next_302 ?_
    refine m_put (ci := 5) hx hb hU6 tyX6 tyX6_ok nmX6 hown hK hM hL rfl 22 (by decide) w1 rfl rfl rfl h dX6_next_303 (fun t105 H locs h hM hL => ?_)
    refine lv_goto (tgt := 230) hx hb dX6_next_306 (by decide) ?_
    exact hk230 _ _ _ h _ _ _ hM hL (lv_sub hl [1, 0] rfl)
  have hN230 : ∀ (k309 : Nat → Int32 → mS → Option mS) (hk309 : ∀ (h0 : Nat) (x2 : Int32) (σ : mS), k309 h0 x2 σ = some z → ∀ (H : Heap) (locs : List Loc) (ls : Array Slot), mP G σ H → mL G locs → lv_has ls 3 [(0, .ref h0), (2, .int x2)] → W p l e rm_X6_next s m args below meth c H locs 0 0 Q (F0 m 309 ls [])) (n : Nat) (h0 : Nat) (x2 : Int32) (σ : mS), f_X6_next_230 k309 n h0 x2 σ = some z → ∀ (H : Heap) (locs : List Loc) (ls : Array Slot), mP G σ H → mL G locs → lv_has ls 3 [(0, .ref h0), (2, .int x2)] → W p l e rm_X6_next s m args below meth c H locs 0 0 Q (F0 m 230 ls []) := by
    intro k309 hk309 n
    induction n with
    | zero =>
      intro h0 x2 σ h
      exact nomatch (show (none : Option mS) = some z from h)
    | succ n ih =>
      intro h0 x2 σ h H locs ls hM hL hl
      rw [f_X6_next_230.eq_2] at h
      refine lv_aload_n hx hb dX6_next_230 rfl (lv_at hl 0 rfl) ?_
      refine m_getI (ci := 5) hx hb hU6 hown hK hM rfl 22 (by decide) w1 h dX6_next_231 (fun v106 gv106 h => ?_)
      refine lv_aload_n hx hb dX6_next_234 rfl (lv_at hl 0 rfl) ?_
      refine m_getI (ci := 5) hx hb hU6 hown hK hM rfl 10 (by decide) w2 h dX6_next_235 (fun v107 gv107 h => ?_)
      refine lv_icmp_ge (tgt := 309) hx hb dX6_next_238 (by decide) (fun c108 => ?_) (fun c108 => ?_)
      · have h := (if_pos c108).symm.trans h
        exact hk309 _ _ _ h _ _ _ hM hL (lv_sub hl [0, 1] rfl)
      · have h := (if_neg c108).symm.trans h
        refine lv_aload_n hx hb dX6_next_241 rfl (lv_at hl 0 rfl) ?_
        refine m_getR (ci := 5) hx hb hU6 hown hK hM rfl 9 (by decide) w3 h dX6_next_242 (fun r109 gr109 h => ?_)
        refine lv_aload_n hx hb dX6_next_245 rfl (lv_at hl 0 rfl) ?_
        refine m_getI (ci := 5) hx hb hU6 hown hK hM rfl 22 (by decide) w1 h dX6_next_246 (fun v110 gv110 h => ?_)
        refine m_iald hx hb hK hM h dX6_next_249 (fun v111 gv111 h => ?_)
        refine lv_bipush hx hb dX6_next_250 kB_48 ?_
        refine lv_bipush hx hb dX6_next_252 kB_57 ?_
        refine m_calli (va_runS (As := [.int v111, .int (48 : Int32), .int (57 : Int32)]) (rest := []) ⟨hx, hb, hml, hown, hts⟩ (c_X6_in l G v111 (48 : Int32) (57 : Int32)) (va_cwS 3 hts gX6_next_X6_in rfl rfl rfl hd_X6_in ⟨Nat.le_of_ble_eq_true rfl, Nat.le_of_ble_eq_true rfl⟩) (m_preS hK hM) rfl rfl hl.1 rfl (lv_room (Nat.le_of_ble_eq_true rfl)) dX6_next_254 ⟨Nat.le_of_ble_eq_true rfl, Nat.le_of_ble_eq_true rfl⟩) hL (fun H locs hM hL => ?_)
        refine lv_if_eq (tgt := 309) hx hb dX6_next_257 (by decide) (fun c112 => ?_) (fun c112 => ?_)
        · have h := (if_pos c112).symm.trans h
          exact hk309 _ _ _ h _ _ _ hM hL (lv_sub hl [0, 1] rfl)
        · have h := (if_neg c112).symm.trans h
          refine lv_aload_n hx hb dX6_next_260 rfl (lv_at hl 0 rfl) ?_
          refine lv_iload_n hx hb dX6_next_261 rfl (lv_at hl 1 rfl) ?_
          refine lv_iconst hx hb dX6_next_262 kI_4 ?_
          refine lv_icmp_ge (tgt := 289) hx hb dX6_next_263 (by decide) (fun c113 => ?_) (fun c113 => ?_)
          · have h := (if_pos c113).symm.trans h
            refine lv_iconst hx hb dX6_next_289 kI_0 ?_
            refine hN290 _ (fun _ _ _ h H locs ls hM hL hl => ih _ _ _ h H locs ls hM hL hl) _ _ _ _ _ h _ _ _ hM hL (lv_sub hl [0, 1] rfl)
          · have h := (if_neg c113).symm.trans h
            refine lv_bipush hx hb dX6_next_266 kB_10 ?_
            refine lv_aload_n hx hb dX6_next_268 rfl (lv_at hl 0 rfl) ?_
            refine m_getI (ci := 5) hx hb hU6 hown hK hM rfl 25 (by decide) w6 h dX6_next_269 (fun v114 gv114 h => ?_)
            refine lv_imul hx hb dX6_next_272 ?_
            refine lv_aload_n hx hb dX6_next_273 rfl (lv_at hl 0 rfl) ?_
            refine m_getR (ci := 5) hx hb hU6 hown hK hM rfl 9 (by decide) w3 h dX6_next_274 (fun r115 gr115 h => ?_)
            refine lv_aload_n hx hb dX6_next_277 rfl (lv_at hl 0 rfl) ?_
            refine m_getI (ci := 5) hx hb hU6 hown hK hM rfl 22 (by decide) w1 h dX6_next_278 (fun v116 gv116 h => ?_)
            refine m_iald hx hb hK hM h dX6_next_281 (fun v117 gv117 h => ?_)
            refine lv_iadd hx hb dX6_next_282 ?_
            refine lv_bipush hx hb dX6_next_283 kB_48 ?_
            refine lv_isub hx hb dX6_next_285 ?_
            refine lv_goto (tgt := 290) hx hb dX6_next_286 (by decide) ?_
            refine hN290 _ (fun _ _ _ h H locs ls hM hL hl => ih _ _ _ h H locs ls hM hL hl) _ _ _ _ _ h _ _ _ hM hL (lv_sub hl [0, 1] rfl)
  have hN379 : ∀ (h0 : Nat) (x1 : Int32) (s0 : Int32) (σ : mS), f_X6_next_379 h0 x1 s0 σ = some z → ∀ (H : Heap) (locs : List Loc) (ls : Array Slot), mP G σ H → mL G locs → lv_has ls 3 [(0, .ref h0), (1, .int x1)] → W p l e rm_X6_next s m args below meth c H locs 0 0 Q (F0 m 379 ls [.int s0]) := by
    intro h0 x1 s0 σ h H locs ls hM hL hl
    rw [f_X6_next_379.eq_1] at h
    refine lv_istore_n (lv' := [(2, .int s0), (0, .ref h0), (1, .int x1)]) hx hb dX6_next_379 rfl hl (by decide) rfl (fun ls hl => ?_)
    refine lv_aload_n hx hb dX6_next_380 rfl (lv_at hl 1 rfl) ?_
    refine lv_iload_n hx hb dX6_next_381 rfl (lv_at hl 0 rfl) ?_
    suffices hJ : ∀ (v119 : Int32) (ls : Array Slot), v119 = (if s0 = 0 then (-1 : Int32) else x1) → lv_has ls 3 [(0, .ref h0)] → W p l e rm_X6_next s m args below meth c H locs 0 0 Q (F0 m 390 ls [.int v119, .ref h0]) by
      refine lv_if_eq (tgt := 389) hx hb dX6_next_382 (by decide) (fun c118 => ?_) (fun c118 => ?_)
      · refine lv_iconst hx hb dX6_next_389 kI_m1 ?_
        exact hJ _ _ (((if_pos c118).trans rfl).symm) (lv_sub hl [1] rfl)
      · refine lv_iload_n hx hb dX6_next_385 rfl (lv_at hl 2 rfl) ?_
        refine lv_goto (tgt := 390) hx hb dX6_next_386 (by decide) ?_
        exact hJ _ _ (((if_neg c118).trans rfl).symm) (lv_sub hl [1] rfl)
    intro v119 ls ev119 hl
    have h := vl_at ev119 h
    refine m_put (ci := 5) hx hb hU6 tyX6 tyX6_ok nmX6 hown hK hM hL rfl 24 (by decide) w5 rfl rfl rfl h dX6_next_390 (fun t120 H locs h hM hL => ?_)
    refine lv_aload_n hx hb dX6_next_393 rfl (lv_at hl 0 rfl) ?_
    refine lv_dup hx hb dX6_next_394 rfl ?_
    refine m_getI (ci := 5) hx hb hU6 hown hK hM rfl 22 (by decide) w1 h dX6_next_395 (fun v121 gv121 h => ?_)
    refine lv_iconst hx hb dX6_next_398 kI_1 ?_
    refine lv_iadd hx hb dX6_next_399 ?_
    refine m_put (ci := 5) hx hb hU6 tyX6 tyX6_ok nmX6 hown hK hM hL rfl 22 (by decide) w1 rfl rfl rfl h dX6_next_400 (fun t122 H locs h hM hL => ?_)
    subst hQ
    cases h
    exact m_vret hx hb hr hM hL dX6_next_403 hlocks
  rw [f_X6_next.eq_1] at h
  refine hN0 _ ?_ _ _ _ h _ _ _ hM hL (lv_sub hl [0] rfl)
  · intro h0 σ h H locs ls hM hL hl
    refine lv_aload_n hx hb dX6_next_52 rfl (lv_at hl 0 rfl) ?_
    refine lv_aload_n hx hb dX6_next_53 rfl (lv_at hl 0 rfl) ?_
    refine m_getI (ci := 5) hx hb hU6 hown hK hM rfl 22 (by decide) w1 h dX6_next_54 (fun v123 gv123 h => ?_)
    refine m_put (ci := 5) hx hb hU6 tyX6 tyX6_ok nmX6 hown hK hM hL rfl 23 (by decide) w4 rfl rfl rfl h dX6_next_57 (fun t124 H locs h hM hL => ?_)
    refine lv_aload_n hx hb dX6_next_60 rfl (lv_at hl 0 rfl) ?_
    refine lv_iconst hx hb dX6_next_61 kI_0 ?_
    refine m_put (ci := 5) hx hb hU6 tyX6 tyX6_ok nmX6 hown hK hM hL rfl 24 (by decide) w5 rfl rfl rfl h dX6_next_62 (fun t125 H locs h hM hL => ?_)
    refine lv_aload_n hx hb dX6_next_65 rfl (lv_at hl 0 rfl) ?_
    refine lv_iconst hx hb dX6_next_66 kI_0 ?_
    refine m_put (ci := 5) hx hb hU6 tyX6 tyX6_ok nmX6 hown hK hM hL rfl 25 (by decide) w6 rfl rfl rfl h dX6_next_67 (fun t126 H locs h hM hL => ?_)
    refine lv_aload_n hx hb dX6_next_70 rfl (lv_at hl 0 rfl) ?_
    refine m_getI (ci := 5) hx hb hU6 hown hK hM rfl 22 (by decide) w1 h dX6_next_71 (fun v127 gv127 h => ?_)
    refine lv_aload_n hx hb dX6_next_74 rfl (lv_at hl 0 rfl) ?_
    refine m_getI (ci := 5) hx hb hU6 hown hK hM rfl 10 (by decide) w2 h dX6_next_75 (fun v128 gv128 h => ?_)
    refine lv_icmp_ne (tgt := 82) hx hb dX6_next_78 (by decide) (fun c129 => ?_) (fun c129 => ?_)
    · have h := (if_neg c129).symm.trans h
      refine lv_aload_n hx hb dX6_next_82 rfl (lv_at hl 0 rfl) ?_
      refine m_getR (ci := 5) hx hb hU6 hown hK hM rfl 9 (by decide) w3 h dX6_next_83 (fun r130 gr130 h => ?_)
      refine lv_aload_n hx hb dX6_next_86 rfl (lv_at hl 0 rfl) ?_
      refine m_getI (ci := 5) hx hb hU6 hown hK hM rfl 22 (by decide) w1 h dX6_next_87 (fun v131 gv131 h => ?_)
      refine m_iald hx hb hK hM h dX6_next_90 (fun v132 gv132 h => ?_)
      refine lv_istore_n (lv' := [(1, .int v132), (0, .ref h0)]) hx hb dX6_next_91 rfl hl (by decide) rfl (fun ls hl => ?_)
      refine lv_iload_n hx hb dX6_next_92 rfl (lv_at hl 0 rfl) ?_
      refine lv_bipush hx hb dX6_next_93 kB_97 ?_
      refine lv_bipush hx hb dX6_next_95 kB_122 ?_
      refine m_calli (va_runS (As := [.int v132, .int (97 : Int32), .int (122 : Int32)]) (rest := []) ⟨hx, hb, hml, hown, hts⟩ (c_X6_in l G v132 (97 : Int32) (122 : Int32)) (va_cwS 3 hts gX6_next_X6_in rfl rfl rfl hd_X6_in ⟨Nat.le_of_ble_eq_true rfl, Nat.le_of_ble_eq_true rfl⟩) (m_preS hK hM) rfl rfl hl.1 rfl (lv_room (Nat.le_of_ble_eq_true rfl)) dX6_next_97 ⟨Nat.le_of_ble_eq_true rfl, Nat.le_of_ble_eq_true rfl⟩) hL (fun H locs hM hL => ?_)
      refine lv_if_eq (tgt := 217) hx hb dX6_next_100 (by decide) (fun c133 => ?_) (fun c133 => ?_)
      · have h := (if_pos c133).symm.trans h
        refine lv_iload_n hx hb dX6_next_217 rfl (lv_at hl 0 rfl) ?_
        refine lv_bipush hx hb dX6_next_218 kB_48 ?_
        refine lv_bipush hx hb dX6_next_220 kB_57 ?_
        refine m_calli (va_runS (As := [.int v132, .int (48 : Int32), .int (57 : Int32)]) (rest := []) ⟨hx, hb, hml, hown, hts⟩ (c_X6_in l G v132 (48 : Int32) (57 : Int32)) (va_cwS 3 hts gX6_next_X6_in rfl rfl rfl hd_X6_in ⟨Nat.le_of_ble_eq_true rfl, Nat.le_of_ble_eq_true rfl⟩) (m_preS hK hM) rfl rfl hl.1 rfl (lv_room (Nat.le_of_ble_eq_true rfl)) dX6_next_222 ⟨Nat.le_of_ble_eq_true rfl, Nat.le_of_ble_eq_true rfl⟩) hL (fun H locs hM hL => ?_)
        refine lv_if_eq (tgt := 326) hx hb dX6_next_225 (by decide) (fun c134 => ?_) (fun c134 => ?_)
        · have h := (if_pos c134).symm.trans h
          refine lv_iload_n hx hb dX6_next_326 rfl (lv_at hl 0 rfl) ?_
          refine lv_bipush hx hb dX6_next_327 kB_40 ?_
          refine lv_icmp_eq (tgt := 374) hx hb dX6_next_329 (by decide) (fun c135 => ?_) (fun c135 => ?_)
          · have h := (if_pos c135).symm.trans h
            refine lv_iconst hx hb dX6_next_374 kI_1 ?_
            refine lv_goto (tgt := 379) hx hb dX6_next_375 (by decide) ?_
            refine hN379 _ _ _ _ h _ _ _ hM hL (lv_sub hl [1, 0] rfl)
          · have h := (if_neg c135).symm.trans h
            refine lv_iload_n hx hb dX6_next_332 rfl (lv_at hl 0 rfl) ?_
            refine lv_bipush hx hb dX6_next_333 kB_41 ?_
            suffices hJ : ∀ (v143 : Int32) (ls : Array Slot), v143 = (if v132 = (41 : Int32) then (1 : Int32) else if v132 = (59 : Int32) then (1 : Int32) else if v132 = (43 : Int32) then (1 : Int32) else if v132 = (45 : Int32) then (1 : Int32) else if v132 = (42 : Int32) then (1 : Int32) else if v132 = (60 : Int32) then (1 : Int32) else if v132 = (61 : Int32) then (1 : Int32) else (0 : Int32)) → lv_has ls 3 [(0, .ref h0), (1, .int v132)] → W p l e rm_X6_next s m args below meth c H locs 0 0 Q (F0 m 379 ls [.int v143]) by
              refine lv_icmp_eq (tgt := 374) hx hb dX6_next_335 (by decide) (fun c136 => ?_) (fun c136 => ?_)
              · refine lv_iconst hx hb dX6_next_374 kI_1 ?_
                refine lv_goto (tgt := 379) hx hb dX6_next_375 (by decide) ?_
                exact hJ _ _ (((if_pos c136).trans rfl).symm) (lv_sub hl [1, 0] rfl)
              · refine lv_iload_n hx hb dX6_next_338 rfl (lv_at hl 0 rfl) ?_
                refine lv_bipush hx hb dX6_next_339 kB_59 ?_
                refine lv_icmp_eq (tgt := 374) hx hb dX6_next_341 (by decide) (fun c137 => ?_) (fun c137 => ?_)
                · refine lv_iconst hx hb dX6_next_374 kI_1 ?_
                  refine lv_goto (tgt := 379) hx hb dX6_next_375 (by decide) ?_
                  exact hJ _ _ (((if_neg c136).trans ((if_pos c137).trans rfl)).symm) (lv_sub hl [1, 0] rfl)
                · refine lv_iload_n hx hb dX6_next_344 rfl (lv_at hl 0 rfl) ?_
                  refine lv_bipush hx hb dX6_next_345 kB_43 ?_
                  refine lv_icmp_eq (tgt := 374) hx hb dX6_next_347 (by decide) (fun c138 => ?_) (fun c138 => ?_)
                  · refine lv_iconst hx hb dX6_next_374 kI_1 ?_
                    refine lv_goto (tgt := 379) hx hb dX6_next_375 (by decide) ?_
                    exact hJ _ _ (((if_neg c136).trans ((if_neg c137).trans ((if_pos c138).trans rfl))).symm) (lv_sub hl [1, 0] rfl)
                  · refine lv_iload_n hx hb dX6_next_350 rfl (lv_at hl 0 rfl) ?_
                    refine lv_bipush hx hb dX6_next_351 kB_45 ?_
                    refine lv_icmp_eq (tgt := 374) hx hb dX6_next_353 (by decide) (fun c139 => ?_) (fun c139 => ?_)
                    · refine lv_iconst hx hb dX6_next_374 kI_1 ?_
                      refine lv_goto (tgt := 379) hx hb dX6_next_375 (by decide) ?_
                      exact hJ _ _ (((if_neg c136).trans ((if_neg c137).trans ((if_neg c138).trans ((if_pos c139).trans rfl)))).symm) (lv_sub hl [1, 0] rfl)
                    · refine lv_iload_n hx hb dX6_next_356 rfl (lv_at hl 0 rfl) ?_
                      refine lv_bipush hx hb dX6_next_357 kB_42 ?_
                      refine lv_icmp_eq (tgt := 374) hx hb dX6_next_359 (by decide) (fun c140 => ?_) (fun c140 => ?_)
                      · refine lv_iconst hx hb dX6_next_374 kI_1 ?_
                        refine lv_goto (tgt := 379) hx hb dX6_next_375 (by decide) ?_
                        exact hJ _ _ (((if_neg c136).trans ((if_neg c137).trans ((if_neg c138).trans ((if_neg c139).trans ((if_pos c140).trans rfl))))).symm) (lv_sub hl [1, 0] rfl)
                      · refine lv_iload_n hx hb dX6_next_362 rfl (lv_at hl 0 rfl) ?_
                        refine lv_bipush hx hb dX6_next_363 kB_60 ?_
                        refine lv_icmp_eq (tgt := 374) hx hb dX6_next_365 (by decide) (fun c141 => ?_) (fun c141 => ?_)
                        · refine lv_iconst hx hb dX6_next_374 kI_1 ?_
                          refine lv_goto (tgt := 379) hx hb dX6_next_375 (by decide) ?_
                          exact hJ _ _ (((if_neg c136).trans ((if_neg c137).trans ((if_neg c138).trans ((if_neg c139).trans ((if_neg c140).trans ((if_pos c141).trans rfl)))))).symm) (lv_sub hl [1, 0] rfl)
                        · refine lv_iload_n hx hb dX6_next_368 rfl (lv_at hl 0 rfl) ?_
                          refine lv_bipush hx hb dX6_next_369 kB_61 ?_
                          refine lv_icmp_ne (tgt := 378) hx hb dX6_next_371 (by decide) (fun c142 => ?_) (fun c142 => ?_)
                          · refine lv_iconst hx hb dX6_next_378 kI_0 ?_
                            exact hJ _ _ (((if_neg c136).trans ((if_neg c137).trans ((if_neg c138).trans ((if_neg c139).trans ((if_neg c140).trans ((if_neg c141).trans ((if_neg c142).trans rfl))))))).symm) (lv_sub hl [1, 0] rfl)
                          · refine lv_iconst hx hb dX6_next_374 kI_1 ?_
                            refine lv_goto (tgt := 379) hx hb dX6_next_375 (by decide) ?_
                            exact hJ _ _ (((if_neg c136).trans ((if_neg c137).trans ((if_neg c138).trans ((if_neg c139).trans ((if_neg c140).trans ((if_neg c141).trans ((if_pos c142).trans rfl))))))).symm) (lv_sub hl [1, 0] rfl)
            intro v143 ls ev143 hl
            have h := vl_at ev143 h
            refine hN379 _ _ _ _ h _ _ _ hM hL (lv_sub hl [0, 1] rfl)
        · have h := (if_neg c134).symm.trans h
          refine lv_iconst hx hb dX6_next_228 kI_0 ?_
          refine lv_istore_n (lv' := [(2, .int (0 : Int32)), (1, .int v132), (0, .ref h0)]) hx hb dX6_next_229 rfl hl (by decide) rfl (fun ls hl => ?_)
          refine hN230 _ ?_ _ _ _ _ h _ _ _ hM hL (lv_sub hl [2, 0] rfl)
          · intro h0 x2 σ h H locs ls hM hL hl
            refine lv_aload_n hx hb dX6_next_309 rfl (lv_at hl 0 rfl) ?_
            refine lv_iload_n hx hb dX6_next_310 rfl (lv_at hl 1 rfl) ?_
            refine lv_iconst hx hb dX6_next_311 kI_4 ?_
            suffices hJ : ∀ (v145 : Int32) (ls : Array Slot), v145 = (if x2 ≤ (4 : Int32) then (1 : Int32) else (-1 : Int32)) → lv_has ls 3 [] → W p l e rm_X6_next s m args below meth c H locs 0 0 Q (F0 m 320 ls [.int v145, .ref h0]) by
              refine lv_icmp_le (tgt := 319) hx hb dX6_next_312 (by decide) (fun c144 => ?_) (fun c144 => ?_)
              · refine lv_iconst hx hb dX6_next_319 kI_1 ?_
                exact hJ _ _ (((if_pos c144).trans rfl).symm) (lv_sub hl [] rfl)
              · refine lv_iconst hx hb dX6_next_315 kI_m1 ?_
                refine lv_goto (tgt := 320) hx hb dX6_next_316 (by decide) ?_
                exact hJ _ _ (((if_neg c144).trans rfl).symm) (lv_sub hl [] rfl)
            intro v145 ls ev145 hl
            have h := vl_at ev145 h
            refine m_put (ci := 5) hx hb hU6 tyX6 tyX6_ok nmX6 hown hK hM hL rfl 24 (by decide) w5 rfl rfl rfl h dX6_next_320 (fun t146 H locs h hM hL => ?_)
            refine lv_goto (tgt := 403) hx hb dX6_next_323 (by decide) ?_
            subst hQ
            cases h
            exact m_vret hx hb hr hM hL dX6_next_403 hlocks
      · have h := (if_neg c133).symm.trans h
        refine hN103 _ ?_ _ _ _ h _ _ _ hM hL (lv_sub hl [1] rfl)
        · intro h0 σ h H locs ls hM hL hl
          refine lv_aload_n hx hb dX6_next_146 rfl (lv_at hl 0 rfl) ?_
          refine lv_aload_n hx hb dX6_next_147 rfl (lv_at hl 0 rfl) ?_
          refine m_getI (ci := 5) hx hb hU6 hown hK hM rfl 23 (by decide) w4 h dX6_next_148 (fun v147 gv147 h => ?_)
          refine lv_aload_n hx hb dX6_next_151 rfl (lv_at hl 0 rfl) ?_
          refine m_getI (ci := 5) hx hb hU6 hown hK hM rfl 22 (by decide) w1 h dX6_next_152 (fun v148 gv148 h => ?_)
          obtain ⟨o149, h⟩ := oi_some h
          obtain ⟨q150, hq150, h⟩ := ob_some h
          refine m_calli (va_runV (As := [.int v147, .int v148]) (rest := []) ⟨hx, hb, hml, hown, hts⟩ (c_X6_wordFrom l G hq150) (cwV 2 hts gX6_next_X6_wordFrom rfl rfl rfl hd_X6_wordFromv ⟨Nat.le_of_ble_eq_true rfl, Nat.le_of_ble_eq_true rfl⟩) (m_preV (ci := 5) hK hM rfl o149) rfl rfl hl.1 rfl (lv_room (Nat.le_of_ble_eq_true rfl)) dX6_next_155 ⟨Nat.le_of_ble_eq_true rfl, Nat.le_of_ble_eq_true rfl⟩) hL (fun H locs hM hL => ?_)
          refine lv_istore_n (lv' := [(2, .int q150), (0, .ref h0)]) hx hb dX6_next_158 rfl hl (by decide) rfl (fun ls hl => ?_)
          refine lv_aload_n hx hb dX6_next_159 rfl (lv_at hl 1 rfl) ?_
          refine lv_iload_n hx hb dX6_next_160 rfl (lv_at hl 0 rfl) ?_
          refine lv_iconst hx hb dX6_next_161 kI_3 ?_
          suffices hJ : ∀ (v154 : Int32) (ls : Array Slot), v154 = (if (3 : Int32) ≤ q150 then if (9 : Int32) ≤ q150 then if q150 = (12 : Int32) then (-1 : Int32) else (((4 : Int32) + q150) - (9 : Int32)) else (2 : Int32) else (3 : Int32)) → lv_has ls 3 [(0, .ref h0), (2, .int q150)] → W p l e rm_X6_next s m args below meth c H locs 0 0 Q (F0 m 195 ls [.int v154, .ref h0]) by
            refine lv_icmp_ge (tgt := 169) hx hb dX6_next_162 (by decide) (fun c151 => ?_) (fun c151 => ?_)
            · refine lv_iload_n hx hb dX6_next_169 rfl (lv_at hl 0 rfl) ?_
              refine lv_bipush hx hb dX6_next_170 kB_9 ?_
              refine lv_icmp_ge (tgt := 179) hx hb dX6_next_172 (by decide) (fun c152 => ?_) (fun c152 => ?_)
              · refine lv_iload_n hx hb dX6_next_179 rfl (lv_at hl 0 rfl) ?_
                refine lv_bipush hx hb dX6_next_180 kB_12 ?_
                refine lv_icmp_ne (tgt := 189) hx hb dX6_next_182 (by decide) (fun c153 => ?_) (fun c153 => ?_)
                · refine lv_iconst hx hb dX6_next_189 kI_4 ?_
                  refine lv_iload_n hx hb dX6_next_190 rfl (lv_at hl 0 rfl) ?_
                  refine lv_iadd hx hb dX6_next_191 ?_
                  refine lv_bipush hx hb dX6_next_192 kB_9 ?_
                  refine lv_isub hx hb dX6_next_194 ?_
                  exact hJ _ _ (((if_pos c151).trans ((if_pos c152).trans ((if_neg c153).trans rfl))).symm) (lv_sub hl [1, 0] rfl)
                · refine lv_iconst hx hb dX6_next_185 kI_m1 ?_
                  refine lv_goto (tgt := 195) hx hb dX6_next_186 (by decide) ?_
                  exact hJ _ _ (((if_pos c151).trans ((if_pos c152).trans ((if_pos c153).trans rfl))).symm) (lv_sub hl [1, 0] rfl)
              · refine lv_iconst hx hb dX6_next_175 kI_2 ?_
                refine lv_goto (tgt := 195) hx hb dX6_next_176 (by decide) ?_
                exact hJ _ _ (((if_pos c151).trans ((if_neg c152).trans rfl)).symm) (lv_sub hl [1, 0] rfl)
            · refine lv_iconst hx hb dX6_next_165 kI_3 ?_
              refine lv_goto (tgt := 195) hx hb dX6_next_166 (by decide) ?_
              exact hJ _ _ (((if_neg c151).trans rfl).symm) (lv_sub hl [1, 0] rfl)
          intro v154 ls ev154 hl
          have h := vl_at ev154 h
          refine m_put (ci := 5) hx hb hU6 tyX6 tyX6_ok nmX6 hown hK hM hL rfl 24 (by decide) w5 rfl rfl rfl h dX6_next_195 (fun t155 H locs h hM hL => ?_)
          refine lv_aload_n hx hb dX6_next_198 rfl (lv_at hl 0 rfl) ?_
          refine lv_iload_n hx hb dX6_next_199 rfl (lv_at hl 1 rfl) ?_
          refine lv_iconst hx hb dX6_next_200 kI_3 ?_
          suffices hJ : ∀ (v157 : Int32) (ls : Array Slot), v157 = (if (3 : Int32) ≤ q150 then (q150 - (3 : Int32)) else q150) → lv_has ls 3 [] → W p l e rm_X6_next s m args below meth c H locs 0 0 Q (F0 m 211 ls [.int v157, .ref h0]) by
            refine lv_icmp_ge (tgt := 208) hx hb dX6_next_201 (by decide) (fun c156 => ?_) (fun c156 => ?_)
            · refine lv_iload_n hx hb dX6_next_208 rfl (lv_at hl 1 rfl) ?_
              refine lv_iconst hx hb dX6_next_209 kI_3 ?_
              refine lv_isub hx hb dX6_next_210 ?_
              exact hJ _ _ (((if_pos c156).trans rfl).symm) (lv_sub hl [] rfl)
            · refine lv_iload_n hx hb dX6_next_204 rfl (lv_at hl 1 rfl) ?_
              refine lv_goto (tgt := 211) hx hb dX6_next_205 (by decide) ?_
              exact hJ _ _ (((if_neg c156).trans rfl).symm) (lv_sub hl [] rfl)
          intro v157 ls ev157 hl
          have h := vl_at ev157 h
          refine m_put (ci := 5) hx hb hU6 tyX6 tyX6_ok nmX6 hown hK hM hL rfl 25 (by decide) w6 rfl rfl rfl h dX6_next_211 (fun t158 H locs h hM hL => ?_)
          refine lv_goto (tgt := 403) hx hb dX6_next_214 (by decide) ?_
          subst hQ
          cases h
          exact m_vret hx hb hr hM hL dX6_next_403 hlocks
    · have h := (if_pos c129).symm.trans h
      subst hQ
      cases h
      exact m_vret hx hb hr hM hL dX6_next_81 hlocks
abbrev rm_X6_rank : Room := { frames := 0, cells := 0, slots := 0, locals := 0 }
set_option maxHeartbeats 4000000 in
set_option maxRecDepth 100000 in
theorem c_X6_rank (l : Launch) (G : mG) (x0 : Int32) {σ : mS} : Met l yX6_rank wsX6_rank rm_X6_rank (va_Pc [.int x0] (mB G σ)) (mQ G (.returned (some (.int (f_X6_rank x0)))) (σ)) 0 0 (mF G) := by
  obtain ⟨z, h⟩ : ∃ z, f_X6_rank x0 = z := ⟨_, rfl⟩
  rw [h]
  refine m_start (cc := cX6_rank) (maxL := 1) (ret := (some .int)) (by decide) rfl [.int x0] (Nat.le_of_ble_eq_true rfl) ?_
  intro p e s m args below meth c ls hx hb hr hml hown hts hlocks hnm hK hM hl
  have hown : s.vm.findClass RX6 = some m.cls := hown
  have hnm : meth.name = "rank" := hnm
  obtain ⟨locs, hlocs⟩ : ∃ l : List Loc, l = [] := ⟨_, rfl⟩
  have hL : mL G locs := by rw [hlocs]; exact mL_nil G
  rw [← hlocs]
  generalize s.heap = H at hM ⊢
  have hl : lv_has ls 1 [(0, .int x0)] := hl
  obtain ⟨Q, hQ⟩ : ∃ Q, Q = MQ below (mQ G (.returned (some (.int z))) (σ)) args s 0 0 (mF G) := ⟨_, rfl⟩
  rw [← hQ]
  rw [f_X6_rank.eq_1] at h
  refine lv_iload_n hx hb dX6_rank_0 rfl (lv_at hl 0 rfl) ?_
  refine lv_if_ne (tgt := 8) hx hb dX6_rank_1 (by decide) (fun c8 => ?_) (fun c8 => ?_)
  · have h := (if_neg c8).symm.trans h
    refine lv_iload_n hx hb dX6_rank_8 rfl (lv_at hl 0 rfl) ?_
    refine lv_bipush hx hb dX6_rank_9 kB_11 ?_
    refine lv_icmp_ne (tgt := 18) hx hb dX6_rank_11 (by decide) (fun c9 => ?_) (fun c9 => ?_)
    · have h := (if_neg c9).symm.trans h
      refine lv_iload_n hx hb dX6_rank_18 rfl (lv_at hl 0 rfl) ?_
      refine lv_bipush hx hb dX6_rank_19 kB_12 ?_
      refine lv_icmp_ne (tgt := 28) hx hb dX6_rank_21 (by decide) (fun c10 => ?_) (fun c10 => ?_)
      · have h := (if_neg c10).symm.trans h
        refine lv_iload_n hx hb dX6_rank_28 rfl (lv_at hl 0 rfl) ?_
        refine lv_bipush hx hb dX6_rank_29 kB_13 ?_
        refine lv_icmp_ne (tgt := 38) hx hb dX6_rank_31 (by decide) (fun c11 => ?_) (fun c11 => ?_)
        · have h := (if_neg c11).symm.trans h
          refine lv_iload_n hx hb dX6_rank_38 rfl (lv_at hl 0 rfl) ?_
          refine lv_bipush hx hb dX6_rank_39 kB_15 ?_
          refine lv_icmp_gt (tgt := 48) hx hb dX6_rank_41 (by decide) (fun c12 => ?_) (fun c12 => ?_)
          · have h := (if_pos c12).symm.trans h
            refine lv_iload_n hx hb dX6_rank_48 rfl (lv_at hl 0 rfl) ?_
            refine lv_bipush hx hb dX6_rank_49 kB_17 ?_
            refine lv_icmp_gt (tgt := 58) hx hb dX6_rank_51 (by decide) (fun c13 => ?_) (fun c13 => ?_)
            · have h := (if_pos c13).symm.trans h
              refine lv_iload_n hx hb dX6_rank_58 rfl (lv_at hl 0 rfl) ?_
              refine lv_bipush hx hb dX6_rank_59 kB_18 ?_
              refine lv_icmp_ne (tgt := 69) hx hb dX6_rank_61 (by decide) (fun c14 => ?_) (fun c14 => ?_)
              · have h := (if_neg c14).symm.trans h
                refine lv_bipush hx hb dX6_rank_69 kB_7 ?_
                subst hQ
                subst h
                exact m_iret hx hb hr hM hL dX6_rank_71 hlocks
              · have h := (if_pos c14).symm.trans h
                refine lv_bipush hx hb dX6_rank_64 kB_6 ?_
                refine lv_goto (tgt := 71) hx hb dX6_rank_66 (by decide) ?_
                subst hQ
                subst h
                exact m_iret hx hb hr hM hL dX6_rank_71 hlocks
            · have h := (if_neg c13).symm.trans h
              refine lv_iconst hx hb dX6_rank_54 kI_5 ?_
              refine lv_goto (tgt := 71) hx hb dX6_rank_55 (by decide) ?_
              subst hQ
              subst h
              exact m_iret hx hb hr hM hL dX6_rank_71 hlocks
          · have h := (if_neg c12).symm.trans h
            refine lv_iconst hx hb dX6_rank_44 kI_4 ?_
            refine lv_goto (tgt := 71) hx hb dX6_rank_45 (by decide) ?_
            subst hQ
            subst h
            exact m_iret hx hb hr hM hL dX6_rank_71 hlocks
        · have h := (if_pos c11).symm.trans h
          refine lv_iconst hx hb dX6_rank_34 kI_3 ?_
          refine lv_goto (tgt := 71) hx hb dX6_rank_35 (by decide) ?_
          subst hQ
          subst h
          exact m_iret hx hb hr hM hL dX6_rank_71 hlocks
      · have h := (if_pos c10).symm.trans h
        refine lv_iconst hx hb dX6_rank_24 kI_2 ?_
        refine lv_goto (tgt := 71) hx hb dX6_rank_25 (by decide) ?_
        subst hQ
        subst h
        exact m_iret hx hb hr hM hL dX6_rank_71 hlocks
    · have h := (if_pos c9).symm.trans h
      refine lv_iconst hx hb dX6_rank_14 kI_1 ?_
      refine lv_goto (tgt := 71) hx hb dX6_rank_15 (by decide) ?_
      subst hQ
      subst h
      exact m_iret hx hb hr hM hL dX6_rank_71 hlocks
  · have h := (if_pos c8).symm.trans h
    refine lv_iconst hx hb dX6_rank_4 kI_0 ?_
    refine lv_goto (tgt := 71) hx hb dX6_rank_5 (by decide) ?_
    subst hQ
    subst h
    exact m_iret hx hb hr hM hL dX6_rank_71 hlocks
abbrev rm_X6_puts : Room := { frames := 0, cells := 0, slots := 0, locals := 0 }
set_option maxHeartbeats 4000000 in
set_option maxRecDepth 100000 in
theorem c_X6_puts (l : Launch) (G : mG) {h0 : Nat} {x1 : Int32} {σ : mS} {z : mS} (h : f_X6_puts h0 x1 σ = some z) : Met l yX6_puts wsX6_puts rm_X6_puts (va_Pc [.ref h0, .int x1] (mB G σ)) (mQ G (.returned none) z) 0 0 (mF G) := by
  refine m_start (cc := cX6_puts) (maxL := 2) (ret := none) (by decide) rfl [.ref h0, .int x1] (Nat.le_of_ble_eq_true rfl) ?_
  intro p e s m args below meth c ls hx hb hr hml hown hts hlocks hnm hK hM hl
  have hown : s.vm.findClass RX6 = some m.cls := hown
  have hnm : meth.name = "puts" := hnm
  obtain ⟨locs, hlocs⟩ : ∃ l : List Loc, l = [] := ⟨_, rfl⟩
  have hL : mL G locs := by rw [hlocs]; exact mL_nil G
  rw [← hlocs]
  generalize s.heap = H at hM ⊢
  have hl : lv_has ls 2 [(0, .ref h0), (1, .int x1)] := hl
  obtain ⟨Q, hQ⟩ : ∃ Q, Q = MQ below (mQ G (.returned none) z) args s 0 0 (mF G) := ⟨_, rfl⟩
  rw [← hQ]
  have hU6 : ∀ w ∈ wsX60, w.before args s = true := fun w h => hts w (List.mem_cons_of_mem _ (List.mem_append_right _ h))
  have w1 := (hts (.fieldLink RX6 31 "HandkerchiefsDroppedModel" "codes" "[I") (List.mem_of_getElem? (i := 1) rfl))
  have w2 := (hts (.fieldLink RX6 99 "HandkerchiefsDroppedModel" "texts" "I") (List.mem_of_getElem? (i := 2) rfl))
  have w3 := (hts (.fieldLink RX6 135 "HandkerchiefsDroppedModel" "out" "I") (List.mem_of_getElem? (i := 3) rfl))
  rw [f_X6_puts.eq_1] at h
  refine lv_aload_n hx hb dX6_puts_0 rfl (lv_at hl 0 rfl) ?_
  refine m_getR (ci := 5) hx hb hU6 hown hK hM rfl 11 (by decide) w1 h dX6_puts_1 (fun r7 gr7 h => ?_)
  refine lv_sipush hx hb dX6_puts_4 kS_200 ?_
  refine lv_aload_n hx hb dX6_puts_7 rfl (lv_at hl 0 rfl) ?_
  refine m_getI (ci := 5) hx hb hU6 hown hK hM rfl 13 (by decide) w2 h dX6_puts_8 (fun v8 gv8 h => ?_)
  refine lv_imul hx hb dX6_puts_11 ?_
  refine lv_aload_n hx hb dX6_puts_12 rfl (lv_at hl 0 rfl) ?_
  refine m_getI (ci := 5) hx hb hU6 hown hK hM rfl 30 (by decide) w3 h dX6_puts_13 (fun v9 gv9 h => ?_)
  refine lv_iadd hx hb dX6_puts_16 ?_
  refine lv_iload_n hx hb dX6_puts_17 rfl (lv_at hl 1 rfl) ?_
  refine m_iast hx hb hK hM hL h dX6_puts_18 (fun t10 H locs h hM hL => ?_)
  refine lv_aload_n hx hb dX6_puts_19 rfl (lv_at hl 0 rfl) ?_
  refine lv_dup hx hb dX6_puts_20 rfl ?_
  refine m_getI (ci := 5) hx hb hU6 hown hK hM rfl 30 (by decide) w3 h dX6_puts_21 (fun v11 gv11 h => ?_)
  refine lv_iconst hx hb dX6_puts_24 kI_1 ?_
  refine lv_iadd hx hb dX6_puts_25 ?_
  refine m_put (ci := 5) hx hb hU6 tyX6 tyX6_ok nmX6 hown hK hM hL rfl 30 (by decide) w3 rfl rfl rfl h dX6_puts_26 (fun t12 H locs h hM hL => ?_)
  subst hQ
  cases h
  exact m_vret hx hb hr hM hL dX6_puts_29 hlocks
abbrev rm_X6_unwinds : Room := { frames := 1, cells := 0, slots := 0, locals := 21 }
set_option maxHeartbeats 4000000 in
set_option maxRecDepth 100000 in
theorem c_X6_unwinds (l : Launch) (G : mG) {h0 : Nat} {x1 : Int32} {σ : mS} {z : mS} (h : f_X6_unwinds h0 x1 σ = some z) : Met l yX6_unwinds wsX6_unwinds rm_X6_unwinds (va_Pc [.ref h0, .int x1] (mB G σ)) (mQ G (.returned none) z) 0 0 (mF G) := by
  refine m_start (cc := cX6_unwinds) (maxL := 3) (ret := none) (by decide) rfl [.ref h0, .int x1] (Nat.le_of_ble_eq_true rfl) ?_
  intro p e s m args below meth c ls hx hb hr hml hown hts hlocks hnm hK hM hl
  have hown : s.vm.findClass RX6 = some m.cls := hown
  have hnm : meth.name = "unwinds" := hnm
  obtain ⟨locs, hlocs⟩ : ∃ l : List Loc, l = [] := ⟨_, rfl⟩
  have hL : mL G locs := by rw [hlocs]; exact mL_nil G
  rw [← hlocs]
  generalize s.heap = H at hM ⊢
  have hl : lv_has ls 3 [(0, .ref h0), (1, .int x1)] := hl
  obtain ⟨Q, hQ⟩ : ∃ Q, Q = MQ below (mQ G (.returned none) z) args s 0 0 (mF G) := ⟨_, rfl⟩
  rw [← hQ]
  have hU6 : ∀ w ∈ wsX60, w.before args s = true := fun w h => hts w (List.mem_cons_of_mem _ (List.mem_append_right _ h))
  have w1 := (hts (.fieldLink RX6 138 "HandkerchiefsDroppedModel" "heldMany" "I") (List.mem_of_getElem? (i := 1) rfl))
  have w2 := (hts (.fieldLink RX6 58 "HandkerchiefsDroppedModel" "held" "[I") (List.mem_of_getElem? (i := 2) rfl))
  have w3 := (hts (.fieldLink RX6 144 "HandkerchiefsDroppedModel" "opens" "I") (List.mem_of_getElem? (i := 3) rfl))
  have hN0 : ∀ (n : Nat) (h0 : Nat) (x1 : Int32) (σ : mS), f_X6_unwinds_0 n h0 x1 σ = some z → ∀ (H : Heap) (locs : List Loc) (ls : Array Slot), mP G σ H → mL G locs → lv_has ls 3 [(0, .ref h0), (1, .int x1)] → W p l e rm_X6_unwinds s m args below meth c H locs 0 0 Q (F0 m 0 ls []) := by
    intro n
    induction n with
    | zero =>
      intro h0 x1 σ h
      exact nomatch (show (none : Option mS) = some z from h)
    | succ n ih =>
      intro h0 x1 σ h H locs ls hM hL hl
      rw [f_X6_unwinds_0.eq_2] at h
      refine lv_aload_n hx hb dX6_unwinds_0 rfl (lv_at hl 0 rfl) ?_
      refine m_getI (ci := 5) hx hb hU6 hown hK hM rfl 28 (by decide) w1 h dX6_unwinds_1 (fun v19 gv19 h => ?_)
      refine lv_if_le (tgt := 79) hx hb dX6_unwinds_4 (by decide) (fun c20 => ?_) (fun c20 => ?_)
      · have h := (if_pos c20).symm.trans h
        subst hQ
        cases h
        exact m_vret hx hb hr hM hL dX6_unwinds_79 hlocks
      · have h := (if_neg c20).symm.trans h
        refine lv_aload_n hx hb dX6_unwinds_7 rfl (lv_at hl 0 rfl) ?_
        refine m_getR (ci := 5) hx hb hU6 hown hK hM rfl 27 (by decide) w2 h dX6_unwinds_8 (fun r21 gr21 h => ?_)
        refine lv_aload_n hx hb dX6_unwinds_11 rfl (lv_at hl 0 rfl) ?_
        refine m_getI (ci := 5) hx hb hU6 hown hK hM rfl 28 (by decide) w1 h dX6_unwinds_12 (fun v22 gv22 h => ?_)
        refine lv_iconst hx hb dX6_unwinds_15 kI_1 ?_
        refine lv_isub hx hb dX6_unwinds_16 ?_
        refine m_iald hx hb hK hM h dX6_unwinds_17 (fun v23 gv23 h => ?_)
        refine m_calli (va_runS (As := [.int v23]) (rest := []) ⟨hx, hb, hml, hown, hts⟩ (c_X6_rank l G v23) (va_cwS 1 hts gX6_unwinds_X6_rank rfl rfl rfl hd_X6_rank ⟨Nat.le_of_ble_eq_true rfl, Nat.le_of_ble_eq_true rfl⟩) (m_preS hK hM) rfl rfl hl.1 rfl (lv_room (Nat.le_of_ble_eq_true rfl)) dX6_unwinds_18 ⟨Nat.le_of_ble_eq_true rfl, Nat.le_of_ble_eq_true rfl⟩) hL (fun H locs hM hL => ?_)
        refine lv_iload_n hx hb dX6_unwinds_21 rfl (lv_at hl 1 rfl) ?_
        refine lv_icmp_lt (tgt := 79) hx hb dX6_unwinds_22 (by decide) (fun c24 => ?_) (fun c24 => ?_)
        · have h := (if_pos c24).symm.trans h
          subst hQ
          cases h
          exact m_vret hx hb hr hM hL dX6_unwinds_79 hlocks
        · have h := (if_neg c24).symm.trans h
          refine lv_aload_n hx hb dX6_unwinds_25 rfl (lv_at hl 0 rfl) ?_
          refine lv_dup hx hb dX6_unwinds_26 rfl ?_
          refine m_getI (ci := 5) hx hb hU6 hown hK hM rfl 28 (by decide) w1 h dX6_unwinds_27 (fun v25 gv25 h => ?_)
          refine lv_iconst hx hb dX6_unwinds_30 kI_1 ?_
          refine lv_isub hx hb dX6_unwinds_31 ?_
          refine m_put (ci := 5) hx hb hU6 tyX6 tyX6_ok nmX6 hown hK hM hL rfl 28 (by decide) w1 rfl rfl rfl h dX6_unwinds_32 (fun t26 H locs h hM hL => ?_)
          refine lv_aload_n hx hb dX6_unwinds_35 rfl (lv_at hl 0 rfl) ?_
          refine m_getR (ci := 5) hx hb hU6 hown hK hM rfl 27 (by decide) w2 h dX6_unwinds_36 (fun r27 gr27 h => ?_)
          refine lv_aload_n hx hb dX6_unwinds_39 rfl (lv_at hl 0 rfl) ?_
          refine m_getI (ci := 5) hx hb hU6 hown hK hM rfl 28 (by decide) w1 h dX6_unwinds_40 (fun v28 gv28 h => ?_)
          refine m_iald hx hb hK hM h dX6_unwinds_43 (fun v29 gv29 h => ?_)
          refine lv_istore_n (lv' := [(2, .int v29), (0, .ref h0), (1, .int x1)]) hx hb dX6_unwinds_44 rfl hl (by decide) rfl (fun ls hl => ?_)
          refine lv_aload_n hx hb dX6_unwinds_45 rfl (lv_at hl 1 rfl) ?_
          refine lv_dup hx hb dX6_unwinds_46 rfl ?_
          refine m_getI (ci := 5) hx hb hU6 hown hK hM rfl 29 (by decide) w3 h dX6_unwinds_47 (fun v30 gv30 h => ?_)
          refine lv_iload_n hx hb dX6_unwinds_50 rfl (lv_at hl 0 rfl) ?_
          refine lv_bipush hx hb dX6_unwinds_51 kB_13 ?_
          suffices hJ : ∀ (v33 : Int32) (ls : Array Slot), v33 = (if v29 = (13 : Int32) then (1 : Int32) else if v29 = (19 : Int32) then (1 : Int32) else (0 : Int32)) → lv_has ls 3 [(0, .ref h0), (1, .int x1), (2, .int v29)] → W p l e rm_X6_unwinds s m args below meth c H locs 0 0 Q (F0 m 67 ls [.int v33, .int v30, .ref h0]) by
            refine lv_icmp_eq (tgt := 62) hx hb dX6_unwinds_53 (by decide) (fun c31 => ?_) (fun c31 => ?_)
            · refine lv_iconst hx hb dX6_unwinds_62 kI_1 ?_
              refine lv_goto (tgt := 67) hx hb dX6_unwinds_63 (by decide) ?_
              exact hJ _ _ (((if_pos c31).trans rfl).symm) (lv_sub hl [1, 2, 0] rfl)
            · refine lv_iload_n hx hb dX6_unwinds_56 rfl (lv_at hl 0 rfl) ?_
              refine lv_bipush hx hb dX6_unwinds_57 kB_19 ?_
              refine lv_icmp_ne (tgt := 66) hx hb dX6_unwinds_59 (by decide) (fun c32 => ?_) (fun c32 => ?_)
              · refine lv_iconst hx hb dX6_unwinds_66 kI_0 ?_
                exact hJ _ _ (((if_neg c31).trans ((if_neg c32).trans rfl)).symm) (lv_sub hl [1, 2, 0] rfl)
              · refine lv_iconst hx hb dX6_unwinds_62 kI_1 ?_
                refine lv_goto (tgt := 67) hx hb dX6_unwinds_63 (by decide) ?_
                exact hJ _ _ (((if_neg c31).trans ((if_pos c32).trans rfl)).symm) (lv_sub hl [1, 2, 0] rfl)
          intro v33 ls ev33 hl
          have h := vl_at ev33 h
          refine lv_isub hx hb dX6_unwinds_67 ?_
          refine m_put (ci := 5) hx hb hU6 tyX6 tyX6_ok nmX6 hown hK hM hL rfl 29 (by decide) w3 rfl rfl rfl h dX6_unwinds_68 (fun t34 H locs h hM hL => ?_)
          refine lv_aload_n hx hb dX6_unwinds_71 rfl (lv_at hl 0 rfl) ?_
          refine lv_iload_n hx hb dX6_unwinds_72 rfl (lv_at hl 2 rfl) ?_
          obtain ⟨o35, h⟩ := oi_some h
          obtain ⟨q36, hq36, h⟩ := ob_some h
          refine m_callv (va_runV (As := [.int v29]) (rest := []) ⟨hx, hb, hml, hown, hts⟩ (c_X6_puts l G hq36) (cwV 1 hts gX6_unwinds_X6_puts rfl rfl rfl hd_X6_putsv ⟨Nat.le_of_ble_eq_true rfl, Nat.le_of_ble_eq_true rfl⟩) (m_preV (ci := 5) hK hM rfl o35) rfl rfl hl.1 rfl (lv_room (Nat.le_of_ble_eq_true rfl)) dX6_unwinds_73 ⟨Nat.le_of_ble_eq_true rfl, Nat.le_of_ble_eq_true rfl⟩) hL (fun H locs hM hL => ?_)
          refine lv_goto (tgt := 0) hx hb dX6_unwinds_76 (by decide) ?_
          exact ih _ _ _ h _ _ _ hM hL (lv_sub hl [0, 1] rfl)
  rw [f_X6_unwinds.eq_1] at h
  refine hN0 _ _ _ _ h _ _ _ hM hL (lv_sub hl [0, 1] rfl)
abbrev rm_X6_holds : Room := { frames := 0, cells := 0, slots := 0, locals := 0 }
set_option maxHeartbeats 4000000 in
set_option maxRecDepth 100000 in
theorem c_X6_holds (l : Launch) (G : mG) {h0 : Nat} {x1 : Int32} {σ : mS} {z : mS} (h : f_X6_holds h0 x1 σ = some z) : Met l yX6_holds wsX6_holds rm_X6_holds (va_Pc [.ref h0, .int x1] (mB G σ)) (mQ G (.returned none) z) 0 0 (mF G) := by
  refine m_start (cc := cX6_holds) (maxL := 2) (ret := none) (by decide) rfl [.ref h0, .int x1] (Nat.le_of_ble_eq_true rfl) ?_
  intro p e s m args below meth c ls hx hb hr hml hown hts hlocks hnm hK hM hl
  have hown : s.vm.findClass RX6 = some m.cls := hown
  have hnm : meth.name = "holds" := hnm
  obtain ⟨locs, hlocs⟩ : ∃ l : List Loc, l = [] := ⟨_, rfl⟩
  have hL : mL G locs := by rw [hlocs]; exact mL_nil G
  rw [← hlocs]
  generalize s.heap = H at hM ⊢
  have hl : lv_has ls 2 [(0, .ref h0), (1, .int x1)] := hl
  obtain ⟨Q, hQ⟩ : ∃ Q, Q = MQ below (mQ G (.returned none) z) args s 0 0 (mF G) := ⟨_, rfl⟩
  rw [← hQ]
  have hU6 : ∀ w ∈ wsX60, w.before args s = true := fun w h => hts w (List.mem_cons_of_mem _ (List.mem_append_right _ h))
  have w1 := (hts (.fieldLink RX6 58 "HandkerchiefsDroppedModel" "held" "[I") (List.mem_of_getElem? (i := 1) rfl))
  have w2 := (hts (.fieldLink RX6 138 "HandkerchiefsDroppedModel" "heldMany" "I") (List.mem_of_getElem? (i := 2) rfl))
  rw [f_X6_holds.eq_1] at h
  refine lv_aload_n hx hb dX6_holds_0 rfl (lv_at hl 0 rfl) ?_
  refine m_getR (ci := 5) hx hb hU6 hown hK hM rfl 27 (by decide) w1 h dX6_holds_1 (fun r6 gr6 h => ?_)
  refine lv_aload_n hx hb dX6_holds_4 rfl (lv_at hl 0 rfl) ?_
  refine m_getI (ci := 5) hx hb hU6 hown hK hM rfl 28 (by decide) w2 h dX6_holds_5 (fun v7 gv7 h => ?_)
  refine lv_iload_n hx hb dX6_holds_8 rfl (lv_at hl 1 rfl) ?_
  refine m_iast hx hb hK hM hL h dX6_holds_9 (fun t8 H locs h hM hL => ?_)
  refine lv_aload_n hx hb dX6_holds_10 rfl (lv_at hl 0 rfl) ?_
  refine lv_dup hx hb dX6_holds_11 rfl ?_
  refine m_getI (ci := 5) hx hb hU6 hown hK hM rfl 28 (by decide) w2 h dX6_holds_12 (fun v9 gv9 h => ?_)
  refine lv_iconst hx hb dX6_holds_15 kI_1 ?_
  refine lv_iadd hx hb dX6_holds_16 ?_
  refine m_put (ci := 5) hx hb hU6 tyX6 tyX6_ok nmX6 hown hK hM hL rfl 28 (by decide) w2 rfl rfl rfl h dX6_holds_17 (fun t10 H locs h hM hL => ?_)
  subst hQ
  cases h
  exact m_vret hx hb hr hM hL dX6_holds_20 hlocks
abbrev rm_X6_opensOne : Room := { frames := 1, cells := 0, slots := 0, locals := 21 }
set_option maxHeartbeats 4000000 in
set_option maxRecDepth 100000 in
theorem c_X6_opensOne (l : Launch) (G : mG) {h0 : Nat} {x1 : Int32} {σ : mS} {z : Int32 × mS} (h : f_X6_opensOne h0 x1 σ = some z) : Met l yX6_opensOne wsX6_opensOne rm_X6_opensOne (va_Pc [.ref h0, .int x1] (mB G σ)) (mQ G (.returned (some (.int z.1))) z.2) 0 0 (mF G) := by
  refine m_start (cc := cX6_opensOne) (maxL := 2) (ret := (some .boolean)) (by decide) rfl [.ref h0, .int x1] (Nat.le_of_ble_eq_true rfl) ?_
  intro p e s m args below meth c ls hx hb hr hml hown hts hlocks hnm hK hM hl
  have hown : s.vm.findClass RX6 = some m.cls := hown
  have hnm : meth.name = "opensOne" := hnm
  obtain ⟨locs, hlocs⟩ : ∃ l : List Loc, l = [] := ⟨_, rfl⟩
  have hL : mL G locs := by rw [hlocs]; exact mL_nil G
  rw [← hlocs]
  generalize s.heap = H at hM ⊢
  have hl : lv_has ls 2 [(0, .ref h0), (1, .int x1)] := hl
  obtain ⟨Q, hQ⟩ : ∃ Q, Q = MQ below (mQ G (.returned (some (.int z.1))) z.2) args s 0 0 (mF G) := ⟨_, rfl⟩
  rw [← hQ]
  have hU6 : ∀ w ∈ wsX60, w.before args s = true := fun w h => hts w (List.mem_cons_of_mem _ (List.mem_append_right _ h))
  have w1 := (hts (.fieldLink RX6 144 "HandkerchiefsDroppedModel" "opens" "I") (List.mem_of_getElem? (i := 1) rfl))
  rw [f_X6_opensOne.eq_1] at h
  refine lv_aload_n hx hb dX6_opensOne_0 rfl (lv_at hl 0 rfl) ?_
  refine m_getI (ci := 5) hx hb hU6 hown hK hM rfl 29 (by decide) w1 h dX6_opensOne_1 (fun v7 gv7 h => ?_)
  refine lv_iconst hx hb dX6_opensOne_4 kI_5 ?_
  refine lv_icmp_ne (tgt := 10) hx hb dX6_opensOne_5 (by decide) (fun c8 => ?_) (fun c8 => ?_)
  · have h := (if_neg c8).symm.trans h
    refine lv_aload_n hx hb dX6_opensOne_10 rfl (lv_at hl 0 rfl) ?_
    refine lv_dup hx hb dX6_opensOne_11 rfl ?_
    refine m_getI (ci := 5) hx hb hU6 hown hK hM rfl 29 (by decide) w1 h dX6_opensOne_12 (fun v9 gv9 h => ?_)
    refine lv_iconst hx hb dX6_opensOne_15 kI_1 ?_
    refine lv_iadd hx hb dX6_opensOne_16 ?_
    refine m_put (ci := 5) hx hb hU6 tyX6 tyX6_ok nmX6 hown hK hM hL rfl 29 (by decide) w1 rfl rfl rfl h dX6_opensOne_17 (fun t10 H locs h hM hL => ?_)
    refine lv_aload_n hx hb dX6_opensOne_20 rfl (lv_at hl 0 rfl) ?_
    refine lv_iload_n hx hb dX6_opensOne_21 rfl (lv_at hl 1 rfl) ?_
    obtain ⟨o11, h⟩ := oi_some h
    obtain ⟨q12, hq12, h⟩ := ob_some h
    refine m_callv (va_runV (As := [.int x1]) (rest := []) ⟨hx, hb, hml, hown, hts⟩ (c_X6_holds l G hq12) (cwV 1 hts gX6_opensOne_X6_holds rfl rfl rfl hd_X6_holdsv ⟨Nat.le_of_ble_eq_true rfl, Nat.le_of_ble_eq_true rfl⟩) (m_preV (ci := 5) hK hM rfl o11) rfl rfl hl.1 rfl (lv_room (Nat.le_of_ble_eq_true rfl)) dX6_opensOne_22 ⟨Nat.le_of_ble_eq_true rfl, Nat.le_of_ble_eq_true rfl⟩) hL (fun H locs hM hL => ?_)
    refine lv_iconst hx hb dX6_opensOne_25 kI_1 ?_
    subst hQ
    have h := Option.some.inj h
    subst h
    exact m_zret (x := (1 : Int32)) hx hb hr rfl hM hL dX6_opensOne_26 hlocks
  · have h := (if_pos c8).symm.trans h
    refine lv_iconst hx hb dX6_opensOne_8 kI_0 ?_
    subst hQ
    have h := Option.some.inj h
    subst h
    exact m_zret (x := (0 : Int32)) hx hb hr rfl hM hL dX6_opensOne_9 hlocks
abbrev rm_X6_between : Room := { frames := 2, cells := 0, slots := 0, locals := 43 }
set_option maxHeartbeats 4000000 in
set_option maxRecDepth 100000 in
theorem c_X6_between (l : Launch) (G : mG) {h0 : Nat} {x1 : Int32} {σ : mS} {z : Int32 × mS} (h : f_X6_between h0 x1 σ = some z) : Met l yX6_between wsX6_between rm_X6_between (va_Pc [.ref h0, .int x1] (mB G σ)) (mQ G (.returned (some (.int z.1))) z.2) 0 0 (mF G) := by
  refine m_start (cc := cX6_between) (maxL := 2) (ret := (some .boolean)) (by decide) rfl [.ref h0, .int x1] (Nat.le_of_ble_eq_true rfl) ?_
  intro p e s m args below meth c ls hx hb hr hml hown hts hlocks hnm hK hM hl
  have hown : s.vm.findClass RX6 = some m.cls := hown
  have hnm : meth.name = "between" := hnm
  obtain ⟨locs, hlocs⟩ : ∃ l : List Loc, l = [] := ⟨_, rfl⟩
  have hL : mL G locs := by rw [hlocs]; exact mL_nil G
  rw [← hlocs]
  generalize s.heap = H at hM ⊢
  have hl : lv_has ls 2 [(0, .ref h0), (1, .int x1)] := hl
  obtain ⟨Q, hQ⟩ : ∃ Q, Q = MQ below (mQ G (.returned (some (.int z.1))) z.2) args s 0 0 (mF G) := ⟨_, rfl⟩
  rw [← hQ]
  have hU6 : ∀ w ∈ wsX60, w.before args s = true := fun w h => hts w (List.mem_cons_of_mem _ (List.mem_append_right _ h))
  have w1 := (hts (.fieldLink RX6 138 "HandkerchiefsDroppedModel" "heldMany" "I") (List.mem_of_getElem? (i := 1) rfl))
  have w2 := (hts (.fieldLink RX6 58 "HandkerchiefsDroppedModel" "held" "[I") (List.mem_of_getElem? (i := 2) rfl))
  have hN55 : ∀ (h0 : Nat) (x1 : Int32) (σ : mS), f_X6_between_55 h0 x1 σ = some z → ∀ (H : Heap) (locs : List Loc) (ls : Array Slot), mP G σ H → mL G locs → lv_has ls 2 [(0, .ref h0), (1, .int x1)] → W p l e rm_X6_between s m args below meth c H locs 0 0 Q (F0 m 55 ls []) := by
    intro h0 x1 σ h H locs ls hM hL hl
    rw [f_X6_between_55.eq_1] at h
    refine lv_aload_n hx hb dX6_between_55 rfl (lv_at hl 0 rfl) ?_
    refine lv_iload_n hx hb dX6_between_56 rfl (lv_at hl 1 rfl) ?_
    obtain ⟨o13, h⟩ := oi_some h
    obtain ⟨q14, hq14, h⟩ := ob_some h
    refine m_callv (va_runV (As := [.int x1]) (rest := []) ⟨hx, hb, hml, hown, hts⟩ (c_X6_holds l G hq14) (cwV 1 hts gX6_between_X6_holds rfl rfl rfl hd_X6_holdsv ⟨Nat.le_of_ble_eq_true rfl, Nat.le_of_ble_eq_true rfl⟩) (m_preV (ci := 5) hK hM rfl o13) rfl rfl hl.1 rfl (lv_room (Nat.le_of_ble_eq_true rfl)) dX6_between_57 ⟨Nat.le_of_ble_eq_true rfl, Nat.le_of_ble_eq_true rfl⟩) hL (fun H locs hM hL => ?_)
    refine lv_iconst hx hb dX6_between_60 kI_1 ?_
    subst hQ
    have h := Option.some.inj h
    subst h
    exact m_zret (x := (1 : Int32)) hx hb hr rfl hM hL dX6_between_61 hlocks
  have hN17 : ∀ (h0 : Nat) (x1 : Int32) (s0 : Nat) (s1 : Int32) (σ : mS), f_X6_between_17 h0 x1 s0 s1 σ = some z → ∀ (H : Heap) (locs : List Loc) (ls : Array Slot), mP G σ H → mL G locs → lv_has ls 2 [(0, .ref h0), (1, .int x1)] → W p l e rm_X6_between s m args below meth c H locs 0 0 Q (F0 m 17 ls [.int s1, .ref s0]) := by
    intro h0 x1 s0 s1 σ h H locs ls hM hL hl
    rw [f_X6_between_17.eq_1] at h
    obtain ⟨o15, h⟩ := oi_some h
    obtain ⟨q16, hq16, h⟩ := ob_some h
    refine m_callv (va_runV (As := [.int s1]) (rest := []) ⟨hx, hb, hml, hown, hts⟩ (c_X6_unwinds l G hq16) (cwV 1 hts gX6_between_X6_unwinds rfl rfl rfl hd_X6_unwindsv ⟨Nat.le_of_ble_eq_true rfl, Nat.le_of_ble_eq_true rfl⟩) (m_preV (ci := 5) hK hM rfl o15) rfl rfl hl.1 rfl (lv_room (Nat.le_of_ble_eq_true rfl)) dX6_between_17 ⟨Nat.le_of_ble_eq_true rfl, Nat.le_of_ble_eq_true rfl⟩) hL (fun H locs hM hL => ?_)
    refine lv_iload_n hx hb dX6_between_20 rfl (lv_at hl 1 rfl) ?_
    refine m_calli (va_runS (As := [.int x1]) (rest := []) ⟨hx, hb, hml, hown, hts⟩ (c_X6_rank l G x1) (va_cwS 1 hts gX6_between_X6_rank rfl rfl rfl hd_X6_rank ⟨Nat.le_of_ble_eq_true rfl, Nat.le_of_ble_eq_true rfl⟩) (m_preS hK hM) rfl rfl hl.1 rfl (lv_room (Nat.le_of_ble_eq_true rfl)) dX6_between_21 ⟨Nat.le_of_ble_eq_true rfl, Nat.le_of_ble_eq_true rfl⟩) hL (fun H locs hM hL => ?_)
    refine lv_iconst hx hb dX6_between_24 kI_4 ?_
    refine lv_icmp_ne (tgt := 55) hx hb dX6_between_25 (by decide) (fun c17 => ?_) (fun c17 => ?_)
    · have h := (if_neg c17).symm.trans h
      refine hN55 _ _ _ h _ _ _ hM hL (lv_sub hl [0, 1] rfl)
    · have h := (if_pos c17).symm.trans h
      refine lv_aload_n hx hb dX6_between_28 rfl (lv_at hl 0 rfl) ?_
      refine m_getI (ci := 5) hx hb hU6 hown hK hM rfl 28 (by decide) w1 h dX6_between_29 (fun v18 gv18 h => ?_)
      refine lv_if_le (tgt := 55) hx hb dX6_between_32 (by decide) (fun c19 => ?_) (fun c19 => ?_)
      · have h := (if_pos c19).symm.trans h
        refine hN55 _ _ _ h _ _ _ hM hL (lv_sub hl [0, 1] rfl)
      · have h := (if_neg c19).symm.trans h
        refine lv_aload_n hx hb dX6_between_35 rfl (lv_at hl 0 rfl) ?_
        refine m_getR (ci := 5) hx hb hU6 hown hK hM rfl 27 (by decide) w2 h dX6_between_36 (fun r20 gr20 h => ?_)
        refine lv_aload_n hx hb dX6_between_39 rfl (lv_at hl 0 rfl) ?_
        refine m_getI (ci := 5) hx hb hU6 hown hK hM rfl 28 (by decide) w1 h dX6_between_40 (fun v21 gv21 h => ?_)
        refine lv_iconst hx hb dX6_between_43 kI_1 ?_
        refine lv_isub hx hb dX6_between_44 ?_
        refine m_iald hx hb hK hM h dX6_between_45 (fun v22 gv22 h => ?_)
        refine m_calli (va_runS (As := [.int v22]) (rest := []) ⟨hx, hb, hml, hown, hts⟩ (c_X6_rank l G v22) (va_cwS 1 hts gX6_between_X6_rank rfl rfl rfl hd_X6_rank ⟨Nat.le_of_ble_eq_true rfl, Nat.le_of_ble_eq_true rfl⟩) (m_preS hK hM) rfl rfl hl.1 rfl (lv_room (Nat.le_of_ble_eq_true rfl)) dX6_between_46 ⟨Nat.le_of_ble_eq_true rfl, Nat.le_of_ble_eq_true rfl⟩) hL (fun H locs hM hL => ?_)
        refine lv_iconst hx hb dX6_between_49 kI_4 ?_
        refine lv_icmp_ne (tgt := 55) hx hb dX6_between_50 (by decide) (fun c23 => ?_) (fun c23 => ?_)
        · have h := (if_neg c23).symm.trans h
          refine hN55 _ _ _ h _ _ _ hM hL (lv_sub hl [0, 1] rfl)
        · have h := (if_pos c23).symm.trans h
          refine lv_iconst hx hb dX6_between_53 kI_0 ?_
          subst hQ
          have h := Option.some.inj h
          subst h
          exact m_zret (x := (0 : Int32)) hx hb hr rfl hM hL dX6_between_54 hlocks
  rw [f_X6_between.eq_1] at h
  refine lv_aload_n hx hb dX6_between_0 rfl (lv_at hl 0 rfl) ?_
  refine lv_iload_n hx hb dX6_between_1 rfl (lv_at hl 1 rfl) ?_
  refine m_calli (va_runS (As := [.int x1]) (rest := [.ref h0]) ⟨hx, hb, hml, hown, hts⟩ (c_X6_rank l G x1) (va_cwS 1 hts gX6_between_X6_rank rfl rfl rfl hd_X6_rank ⟨Nat.le_of_ble_eq_true rfl, Nat.le_of_ble_eq_true rfl⟩) (m_preS hK hM) rfl rfl hl.1 rfl (lv_room (Nat.le_of_ble_eq_true rfl)) dX6_between_2 ⟨Nat.le_of_ble_eq_true rfl, Nat.le_of_ble_eq_true rfl⟩) hL (fun H locs hM hL => ?_)
  refine lv_iconst hx hb dX6_between_5 kI_4 ?_
  refine lv_icmp_ne (tgt := 13) hx hb dX6_between_6 (by decide) (fun c24 => ?_) (fun c24 => ?_)
  · have h := (if_neg c24).symm.trans h
    refine lv_iload_n hx hb dX6_between_13 rfl (lv_at hl 1 rfl) ?_
    refine m_calli (va_runS (As := [.int x1]) (rest := [.ref h0]) ⟨hx, hb, hml, hown, hts⟩ (c_X6_rank l G x1) (va_cwS 1 hts gX6_between_X6_rank rfl rfl rfl hd_X6_rank ⟨Nat.le_of_ble_eq_true rfl, Nat.le_of_ble_eq_true rfl⟩) (m_preS hK hM) rfl rfl hl.1 rfl (lv_room (Nat.le_of_ble_eq_true rfl)) dX6_between_14 ⟨Nat.le_of_ble_eq_true rfl, Nat.le_of_ble_eq_true rfl⟩) hL (fun H locs hM hL => ?_)
    refine hN17 _ _ _ _ _ h _ _ _ hM hL (lv_sub hl [0, 1] rfl)
  · have h := (if_pos c24).symm.trans h
    refine lv_iconst hx hb dX6_between_9 kI_5 ?_
    refine lv_goto (tgt := 17) hx hb dX6_between_10 (by decide) ?_
    refine hN17 _ _ _ _ _ h _ _ _ hM hL (lv_sub hl [0, 1] rfl)
