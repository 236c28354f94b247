abbrev rm_X4_lawRead : Room := { frames := 11, cells := 2, slots := 164, locals := 422 }
set_option maxHeartbeats 4000000 in
set_option maxRecDepth 100000 in
theorem c_X4_lawRead (l : Launch) (G : mG) {h0 : Nat} {x1 : Int32} {σ : mS} {z : Nat × mS} (h : f_X4_lawRead h0 x1 σ = some z) : Met l yX4_lawRead wsX4_lawRead rm_X4_lawRead (va_Pc [.ref h0, .int x1] (mB G σ)) (mQ G (.returned (some (.ref z.1))) z.2) 2 164 (mF G) := by
  refine m_start (cc := cX4_lawRead) (maxL := 2) (ret := (some (.object "HandkerchiefsDropped$Law"))) (by decide) rfl [.ref h0, .int x1] (Nat.le_of_ble_eq_true rfl) ?_
  intro p e s m args below meth c ls hx hb hr hml hown hts hlocks hnm hK hM hl
  have hown : s.vm.findClass RX4 = some m.cls := hown
  have hnm : meth.name = "lawRead" := hnm
  obtain ⟨locs, hlocs⟩ : ∃ l : List Loc, l = [] := ⟨_, rfl⟩
  have hL : mL G locs := by rw [hlocs]; exact mL_nil G
  rw [← hlocs]
  generalize s.heap = H at hM ⊢
  have hl : lv_has ls 2 [(0, .ref h0), (1, .int x1)] := hl
  obtain ⟨Q, hQ⟩ : ∃ Q, Q = MQ below (mQ G (.returned (some (.ref z.1))) z.2) args s 2 164 (mF G) := ⟨_, rfl⟩
  rw [← hQ]
  have hU2 : ∀ w ∈ wsX20, w.before args s = true := fun w h => hts w (List.mem_cons_of_mem _ (List.mem_append_left _ (List.mem_append_right _ h)))
  have w1 := (hts (.classLink RX4 47 RX2) (List.mem_of_getElem? (i := 1) rfl))
  have w2 := (hts (.instantiable RX2 4) (List.mem_of_getElem? (i := 2) rfl))
  have w3 := (hts (.initialized RX2) (List.mem_of_getElem? (i := 3) rfl))
  have hU4 : ∀ w ∈ wsX40, w.before args s = true := fun w h => hts w (List.mem_cons_of_mem _ (List.mem_append_right _ h))
  have w5 := (hts (.fieldLink RX4 15 "HandkerchiefsDropped$Tape" "code" "[I") (List.mem_of_getElem? (i := 4) rfl))
  have w6 := (hts (.fieldLink RX4 28 "HandkerchiefsDropped$Tape" "used" "I") (List.mem_of_getElem? (i := 5) rfl))
  have w7 := (hts (.fieldLink RX4 18 "HandkerchiefsDropped$Tape" "starts" "[I") (List.mem_of_getElem? (i := 6) rfl))
  have w8 := (hts (.methodLink RX4 55 yX2_init) (List.mem_of_getElem? (i := 26) rfl))
  have w9 := (hts (.instanceMethod yX2_init) (List.mem_of_getElem? (i := 27) rfl))
  rw [f_X4_lawRead.eq_1] at h
  refine m_new (ci := 1) hx hb hU2 tyX2 tyX2_ok hown w1 w2 w3 hK hM rfl hfs_X2 (Nat.le_of_ble_eq_true rfl) (Nat.le_of_ble_eq_true rfl) dX4_lawRead_0 (fun H hM => ?_)
  obtain ⟨t11, et11⟩ : ∃ t, t = nO (σ) 1 df_X2 := ⟨_, rfl⟩
  have h := vl_at et11 h
  have hM : mP G t11 H := by rw [et11]; exact hM
  obtain ⟨r12, er12⟩ : ∃ r : Nat, r = (σ).1 := ⟨_, rfl⟩
  have h := vl_at er12 h
  rw [← er12]
  refine lv_dup hx hb dX4_lawRead_3 rfl ?_
  refine lv_iload_n hx hb dX4_lawRead_4 rfl (lv_at hl 1 rfl) ?_
  refine lv_aload_n hx hb dX4_lawRead_5 rfl (lv_at hl 0 rfl) ?_
  refine m_getR (ci := 3) hx hb hU4 hown hK hM rfl 1 (by decide) w5 h dX4_lawRead_6 (fun r13 gr13 h => ?_)
  refine lv_aload_n hx hb dX4_lawRead_9 rfl (lv_at hl 0 rfl) ?_
  refine m_getI (ci := 3) hx hb hU4 hown hK hM rfl 8 (by decide) w6 h dX4_lawRead_10 (fun v14 gv14 h => ?_)
  obtain ⟨q15, hq15, h⟩ := ob_some h
  refine m_callr (va_runS (As := [.ref r13, .int v14]) (rest := [.int x1, .ref r12, .ref r12]) ⟨hx, hb, hml, hown, hts⟩ (c_copyOf l G hq15) (va_cwS 2 hts gX4_lawRead_J7_copyOf_59c91 rfl rfl rfl hd_J7_copyOf ⟨Nat.le_of_ble_eq_true rfl, Nat.le_of_ble_eq_true rfl⟩) (m_preS hK hM) rfl rfl hl.1 rfl (lv_room (Nat.le_of_ble_eq_true rfl)) dX4_lawRead_13 ⟨Nat.le_of_ble_eq_true rfl, Nat.le_of_ble_eq_true rfl⟩) hL (fun H locs hM hL => ?_)
  refine lv_aload_n hx hb dX4_lawRead_16 rfl (lv_at hl 0 rfl) ?_
  refine m_getR (ci := 3) hx hb hU4 hown hK hM rfl 2 (by decide) w7 h dX4_lawRead_17 (fun r16 gr16 h => ?_)
  refine lv_iconst hx hb dX4_lawRead_20 kI_1 ?_
  refine m_iald hx hb hK hM h dX4_lawRead_21 (fun v17 gv17 h => ?_)
  refine lv_aload_n hx hb dX4_lawRead_22 rfl (lv_at hl 0 rfl) ?_
  refine m_getR (ci := 3) hx hb hU4 hown hK hM rfl 2 (by decide) w7 h dX4_lawRead_23 (fun r18 gr18 h => ?_)
  refine lv_iconst hx hb dX4_lawRead_26 kI_2 ?_
  refine m_iald hx hb hK hM h dX4_lawRead_27 (fun v19 gv19 h => ?_)
  obtain ⟨q20, hq20, h⟩ := ob_some h
  refine m_callv (va_runI (As := [.int x1, .ref q15.1, .int v17, .int v19]) (rest := [.ref r12]) ⟨hx, hb, hml, hown, hts⟩ (c_X2_init l G hq20) (cwI 4 hts gX4_lawRead_X2_init rfl rfl rfl w3 w8 w9 rfl hd_X2_init ⟨Nat.le_of_ble_eq_true rfl, Nat.le_of_ble_eq_true rfl⟩) (m_preS hK hM) rfl rfl hl.1 rfl (lv_room (Nat.le_of_ble_eq_true rfl)) dX4_lawRead_28 ⟨Nat.le_of_ble_eq_true rfl, Nat.le_of_ble_eq_true rfl⟩) hL (fun H locs hM hL => ?_)
  subst hQ
  have h := Option.some.inj h
  subst h
  exact m_aret hx hb hr (Or.inl ⟨_, rfl⟩) hM hL dX4_lawRead_31 hlocks
