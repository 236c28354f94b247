abbrev rm_J3_checkIndex : Room := { frames := 0, cells := 0, slots := 0, locals := 0 }
set_option maxHeartbeats 4000000 in
set_option maxRecDepth 100000 in
theorem c_J3_checkIndexN (l : Launch) (G : mG) {x0 : Int32} {x1 : Int32} {σ : mS} {z : Int32} (h : f_J3_checkIndex x0 x1 = some z) : Met l yJ3_checkIndex_8e157 wsJ3_checkIndex_8e157 rm_J3_checkIndex (va_Pc [.int x0, .int x1, .null] (mB G σ)) (mQ G (.returned (some (.int z))) (σ)) 0 0 (mF G) := by
  refine m_start (cc := cJ3_checkIndex_8e157) (maxL := 3) (ret := (some .int)) (by decide) rfl [.int x0, .int x1, .null] (Nat.le_of_ble_eq_true rfl) ?_
  intro p e s m args below meth c ls hx hb hr hml hown hts hlocks hnm hK hM hl
  have hown : s.vm.findClass RJ3 = some m.cls := hown
  have hnm : meth.name = "checkIndex" := hnm
  obtain ⟨locs, hlocs⟩ : ∃ l : List Loc, l = [] := ⟨_, rfl⟩
  have hL : mL G locs := by rw [hlocs]; exact mL_nil G
  rw [← hlocs]
  generalize s.heap = H at hM ⊢
  have hl : lv_has ls 3 [(0, .int x0), (1, .int x1), (2, .null)] := hl
  obtain ⟨Q, hQ⟩ : ∃ Q, Q = MQ below (mQ G (.returned (some (.int z))) (σ)) args s 0 0 (mF G) := ⟨_, rfl⟩
  rw [← hQ]
  rw [f_J3_checkIndex.eq_1] at h
  refine lv_iload_n hx hb dJ3_checkIndex_8e157_0 rfl (lv_at hl 0 rfl) ?_
  refine lv_if_lt (tgt := 9) hx hb dJ3_checkIndex_8e157_1 (by decide) (fun c3 => ?_) (fun c3 => ?_)
  · have h := (if_pos c3).symm.trans h
    exact nomatch (show (none : Option Int32) = some z from h)
  · have h := (if_neg c3).symm.trans h
    refine lv_iload_n hx hb dJ3_checkIndex_8e157_4 rfl (lv_at hl 0 rfl) ?_
    refine lv_iload_n hx hb dJ3_checkIndex_8e157_5 rfl (lv_at hl 1 rfl) ?_
    refine lv_icmp_lt (tgt := 16) hx hb dJ3_checkIndex_8e157_6 (by decide) (fun c4 => ?_) (fun c4 => ?_)
    · have h := (if_pos c4).symm.trans h
      refine lv_iload_n hx hb dJ3_checkIndex_8e157_16 rfl (lv_at hl 0 rfl) ?_
      subst hQ
      have h := Option.some.inj h
      subst h
      exact m_iret hx hb hr hM hL dJ3_checkIndex_8e157_17 hlocks
    · have h := (if_neg c4).symm.trans h
      exact nomatch (show (none : Option Int32) = some z from h)
set_option maxHeartbeats 4000000 in
set_option maxRecDepth 100000 in
theorem c_J3_checkIndexR (l : Launch) (G : mG) (f : Nat) {x0 : Int32} {x1 : Int32} {σ : mS} {z : Int32} (h : f_J3_checkIndex x0 x1 = some z) : Met l yJ3_checkIndex_8e157 wsJ3_checkIndex_8e157 rm_J3_checkIndex (va_Pc [.int x0, .int x1, .ref f] (mB G σ)) (mQ G (.returned (some (.int z))) (σ)) 0 0 (mF G) := by
  refine m_start (cc := cJ3_checkIndex_8e157) (maxL := 3) (ret := (some .int)) (by decide) rfl [.int x0, .int x1, .ref f] (Nat.le_of_ble_eq_true rfl) ?_
  intro p e s m args below meth c ls hx hb hr hml hown hts hlocks hnm hK hM hl
  have hown : s.vm.findClass RJ3 = some m.cls := hown
  have hnm : meth.name = "checkIndex" := hnm
  obtain ⟨locs, hlocs⟩ : ∃ l : List Loc, l = [] := ⟨_, rfl⟩
  have hL : mL G locs := by rw [hlocs]; exact mL_nil G
  rw [← hlocs]
  generalize s.heap = H at hM ⊢
  have hl : lv_has ls 3 [(0, .int x0), (1, .int x1), (2, .ref f)] := hl
  obtain ⟨Q, hQ⟩ : ∃ Q, Q = MQ below (mQ G (.returned (some (.int z))) (σ)) args s 0 0 (mF G) := ⟨_, rfl⟩
  rw [← hQ]
  rw [f_J3_checkIndex.eq_1] at h
  refine lv_iload_n hx hb dJ3_checkIndex_8e157_0 rfl (lv_at hl 0 rfl) ?_
  refine lv_if_lt (tgt := 9) hx hb dJ3_checkIndex_8e157_1 (by decide) (fun c3 => ?_) (fun c3 => ?_)
  · have h := (if_pos c3).symm.trans h
    exact nomatch (show (none : Option Int32) = some z from h)
  · have h := (if_neg c3).symm.trans h
    refine lv_iload_n hx hb dJ3_checkIndex_8e157_4 rfl (lv_at hl 0 rfl) ?_
    refine lv_iload_n hx hb dJ3_checkIndex_8e157_5 rfl (lv_at hl 1 rfl) ?_
    refine lv_icmp_lt (tgt := 16) hx hb dJ3_checkIndex_8e157_6 (by decide) (fun c4 => ?_) (fun c4 => ?_)
    · have h := (if_pos c4).symm.trans h
      refine lv_iload_n hx hb dJ3_checkIndex_8e157_16 rfl (lv_at hl 0 rfl) ?_
      subst hQ
      have h := Option.some.inj h
      subst h
      exact m_iret hx hb hr hM hL dJ3_checkIndex_8e157_17 hlocks
    · have h := (if_neg c4).symm.trans h
      exact nomatch (show (none : Option Int32) = some z from h)
abbrev rm_J0_checkIndex : Room := { frames := 1, cells := 0, slots := 0, locals := 22 }
set_option maxHeartbeats 4000000 in
set_option maxRecDepth 100000 in
theorem c_J0_checkIndex (l : Launch) (G : mG) {x0 : Int32} {x1 : Int32} {σ : mS} {z : Unit} (h : f_J0_checkIndex x0 x1 = some z) : Met l yJ0_checkIndex_df160 wsJ0_checkIndex_df160 rm_J0_checkIndex (va_Pc [.int x0, .int x1] (mB G σ)) (mQ G (.returned none) (σ)) 0 0 (mF G) := by
  refine m_start (cc := cJ0_checkIndex_df160) (maxL := 2) (ret := none) (by decide) rfl [.int x0, .int x1] (Nat.le_of_ble_eq_true rfl) ?_
  intro p e s m args below meth c ls hx hb hr hml hown hts hlocks hnm hK hM hl
  have hown : s.vm.findClass RJ0 = some m.cls := hown
  have hnm : meth.name = "checkIndex" := hnm
  obtain ⟨locs, hlocs⟩ : ∃ l : List Loc, l = [] := ⟨_, rfl⟩
  have hL : mL G locs := by rw [hlocs]; exact mL_nil G
  rw [← hlocs]
  have hM0 := hM
  generalize s.heap = H at hM ⊢
  have hl : lv_has ls 2 [(0, .int x0), (1, .int x1)] := hl
  obtain ⟨Q, hQ⟩ : ∃ Q, Q = MQ below (mQ G (.returned none) (σ)) args s 0 0 (mF G) := ⟨_, rfl⟩
  rw [← hQ]
  have w0 := (hts (.fieldLink RJ0 1053 "jdk/internal/util/Preconditions" "SIOOBE_FORMATTER" "Ljava/util/function/BiFunction;") (List.mem_of_getElem? (i := 1) rfl))
  rw [f_J0_checkIndex.eq_1] at h
  refine lv_iload_n hx hb dJ0_checkIndex_df160_0 rfl (lv_at hl 0 rfl) ?_
  refine lv_iload_n hx hb dJ0_checkIndex_df160_1 rfl (lv_at hl 1 rfl) ?_
  refine m_ksi hx hb hown hK hM0 hM hL w0 dJ0_checkIndex_df160_2 ?_
  obtain ⟨q2, hq2, h⟩ := ob_some h
  rcases G.2.2.2.2.2.2 with _ | f
  · refine m_calli (va_runS (As := [.int x0, .int x1, .null]) (rest := []) ⟨hx, hb, hml, hown, hts⟩ (c_J3_checkIndexN l G hq2) (va_cwS 3 hts gJ0_checkIndex_df160_J3_checkIndex_8e157 rfl rfl rfl hd_J3_checkIndex ⟨Nat.le_of_ble_eq_true rfl, Nat.le_of_ble_eq_true rfl⟩) (m_preS hK hM) rfl rfl hl.1 rfl (lv_room (Nat.le_of_ble_eq_true rfl)) dJ0_checkIndex_df160_5 ⟨Nat.le_of_ble_eq_true rfl, Nat.le_of_ble_eq_true rfl⟩) hL (fun H locs hM hL => ?_)
    refine lv_pop hx hb dJ0_checkIndex_df160_8 rfl ?_
    subst hQ
    cases h
    exact m_vret hx hb hr hM hL dJ0_checkIndex_df160_9 hlocks
  · refine m_calli (va_runS (As := [.int x0, .int x1, .ref f]) (rest := []) ⟨hx, hb, hml, hown, hts⟩ (c_J3_checkIndexR l G f hq2) (va_cwS 3 hts gJ0_checkIndex_df160_J3_checkIndex_8e157 rfl rfl rfl hd_J3_checkIndex ⟨Nat.le_of_ble_eq_true rfl, Nat.le_of_ble_eq_true rfl⟩) (m_preS hK hM) rfl rfl hl.1 rfl (lv_room (Nat.le_of_ble_eq_true rfl)) dJ0_checkIndex_df160_5 ⟨Nat.le_of_ble_eq_true rfl, Nat.le_of_ble_eq_true rfl⟩) hL (fun H locs hM hL => ?_)
    refine lv_pop hx hb dJ0_checkIndex_df160_8 rfl ?_
    subst hQ
    cases h
    exact m_vret hx hb hr hM hL dJ0_checkIndex_df160_9 hlocks
abbrev rm_J1_canEncode : Room := { frames := 0, cells := 0, slots := 0, locals := 0 }
theorem z_J1_canEncode (x0 : Int32) : narrow .boolean (.int (f_J1_canEncode x0)) = .int (f_J1_canEncode x0) := by
  rw [f_J1_canEncode.eq_1]
  try dsimp only [vl]
  (repeat' split) <;> first | rfl | apply z_X5_isBelow
set_option maxHeartbeats 4000000 in
set_option maxRecDepth 100000 in
theorem c_J1_canEncode (l : Launch) (G : mG) (x0 : Int32) {σ : mS} : Met l yJ1_canEncode_9a6ad wsJ1_canEncode_9a6ad rm_J1_canEncode (va_Pc [.int x0] (mB G σ)) (mQ G (.returned (some (.int (f_J1_canEncode x0)))) (σ)) 0 0 (mF G) := by
  obtain ⟨z, h⟩ : ∃ z, f_J1_canEncode x0 = z := ⟨_, rfl⟩
  rw [h]
  refine m_start (cc := cJ1_canEncode_9a6ad) (maxL := 1) (ret := (some .boolean)) (by decide) rfl [.int x0] (Nat.le_of_ble_eq_true rfl) ?_
  intro p e s m args below meth c ls hx hb hr hml hown hts hlocks hnm hK hM hl
  have hown : s.vm.findClass RJ1 = some m.cls := hown
  have hnm : meth.name = "canEncode" := hnm
  obtain ⟨locs, hlocs⟩ : ∃ l : List Loc, l = [] := ⟨_, rfl⟩
  have hL : mL G locs := by rw [hlocs]; exact mL_nil G
  rw [← hlocs]
  generalize s.heap = H at hM ⊢
  have hl : lv_has ls 1 [(0, .int x0)] := hl
  obtain ⟨Q, hQ⟩ : ∃ Q, Q = MQ below (mQ G (.returned (some (.int z))) (σ)) args s 0 0 (mF G) := ⟨_, rfl⟩
  rw [← hQ]
  rw [f_J1_canEncode.eq_1] at h
  refine lv_iload_n hx hb dJ1_canEncode_9a6ad_0 rfl (lv_at hl 0 rfl) ?_
  refine lv_if_lt (tgt := 15) hx hb dJ1_canEncode_9a6ad_1 (by decide) (fun c3 => ?_) (fun c3 => ?_)
  · have h := (if_pos c3).symm.trans h
    refine lv_iconst hx hb dJ1_canEncode_9a6ad_15 kI_0 ?_
    subst hQ
    subst h
    exact m_zret (x := (0 : Int32)) hx hb hr rfl hM hL dJ1_canEncode_9a6ad_16 hlocks
  · have h := (if_neg c3).symm.trans h
    refine lv_iload_n hx hb dJ1_canEncode_9a6ad_4 rfl (lv_at hl 0 rfl) ?_
    refine lv_sipush hx hb dJ1_canEncode_9a6ad_5 kS_255 ?_
    refine lv_icmp_gt (tgt := 15) hx hb dJ1_canEncode_9a6ad_8 (by decide) (fun c4 => ?_) (fun c4 => ?_)
    · have h := (if_pos c4).symm.trans h
      refine lv_iconst hx hb dJ1_canEncode_9a6ad_15 kI_0 ?_
      subst hQ
      subst h
      exact m_zret (x := (0 : Int32)) hx hb hr rfl hM hL dJ1_canEncode_9a6ad_16 hlocks
    · have h := (if_neg c4).symm.trans h
      refine lv_iconst hx hb dJ1_canEncode_9a6ad_11 kI_1 ?_
      refine lv_goto (tgt := 16) hx hb dJ1_canEncode_9a6ad_12 (by decide) ?_
      subst hQ
      subst h
      exact m_zret (x := (1 : Int32)) hx hb hr rfl hM hL dJ1_canEncode_9a6ad_16 hlocks
abbrev rm_J0_coder_k0 : Room := { frames := 0, cells := 0, slots := 0, locals := 0 }
set_option maxHeartbeats 4000000 in
set_option maxRecDepth 100000 in
theorem c_J0_coder_k0 (l : Launch) (G : mG)  {σ : mS} : Met l yJ0_coder_7d493 wsJ0_coder_7d493 rm_J0_coder_k0 (va_Pc [.ref (G.2.2.2.2.1 0)] (mB G σ)) (mQ G (.returned (some (.int (f_J0_coder_k0 )))) (σ)) 0 0 (mF G) := by
  obtain ⟨z, h⟩ : ∃ z, f_J0_coder_k0  = z := ⟨_, rfl⟩
  rw [h]
  refine m_start (cc := cJ0_coder_7d493) (maxL := 1) (ret := (some .byte)) (by decide) rfl [.ref (G.2.2.2.2.1 0)] (Nat.le_of_ble_eq_true rfl) ?_
  intro p e s m args below meth c ls hx hb hr hml hown hts hlocks hnm hK hM hl
  have hown : s.vm.findClass RJ0 = some m.cls := hown
  have hnm : meth.name = "coder" := hnm
  obtain ⟨locs, hlocs⟩ : ∃ l : List Loc, l = [] := ⟨_, rfl⟩
  have hL : mL G locs := by rw [hlocs]; exact mL_nil G
  rw [← hlocs]
  have hM0 := hM
  generalize s.heap = H at hM ⊢
  have hl : lv_has ls 1 [(0, .ref (G.2.2.2.2.1 0))] := hl
  obtain ⟨Q, hQ⟩ : ∃ Q, Q = MQ below (mQ G (.returned (some (.int z))) (σ)) args s 0 0 (mF G) := ⟨_, rfl⟩
  rw [← hQ]
  have w0 := (hts (.fieldLink RJ0 38 "java/lang/String" "COMPACT_STRINGS" "Z") (List.mem_of_getElem? (i := 1) rfl))
  have w1 := (hts (.fieldLink RJ0 15 "java/lang/String" "coder" "B") (List.mem_of_getElem? (i := 2) rfl))
  rw [f_J0_coder_k0.eq_1] at h
  refine m_kcs hx hb hown hK hM0 hM hL w0 dJ0_coder_7d493_0 ?_
  refine lv_if_eq (tgt := 13) hx hb dJ0_coder_7d493_3 (by decide) (fun c2 => ?_) (fun c2 => ?_)
  · exact absurd c2 (by decide)
  refine lv_aload_n hx hb dJ0_coder_7d493_6 rfl (lv_at hl 0 rfl) ?_
  refine m_kcod 0 (by decide) hx hb hown hK hM0 hM hL w1 dJ0_coder_7d493_7 ?_
  refine lv_goto (tgt := 14) hx hb dJ0_coder_7d493_10 (by decide) ?_
  subst hQ
  subst h
  exact m_zret (x := (0 : Int32)) hx hb hr rfl hM hL dJ0_coder_7d493_14 hlocks
abbrev rm_J0_coder_k1 : Room := { frames := 0, cells := 0, slots := 0, locals := 0 }
set_option maxHeartbeats 4000000 in
set_option maxRecDepth 100000 in
theorem c_J0_coder_k1 (l : Launch) (G : mG)  {σ : mS} : Met l yJ0_coder_7d493 wsJ0_coder_7d493 rm_J0_coder_k1 (va_Pc [.ref (G.2.2.2.2.1 1)] (mB G σ)) (mQ G (.returned (some (.int (f_J0_coder_k1 )))) (σ)) 0 0 (mF G) := by
  obtain ⟨z, h⟩ : ∃ z, f_J0_coder_k1  = z := ⟨_, rfl⟩
  rw [h]
  refine m_start (cc := cJ0_coder_7d493) (maxL := 1) (ret := (some .byte)) (by decide) rfl [.ref (G.2.2.2.2.1 1)] (Nat.le_of_ble_eq_true rfl) ?_
  intro p e s m args below meth c ls hx hb hr hml hown hts hlocks hnm hK hM hl
  have hown : s.vm.findClass RJ0 = some m.cls := hown
  have hnm : meth.name = "coder" := hnm
  obtain ⟨locs, hlocs⟩ : ∃ l : List Loc, l = [] := ⟨_, rfl⟩
  have hL : mL G locs := by rw [hlocs]; exact mL_nil G
  rw [← hlocs]
  have hM0 := hM
  generalize s.heap = H at hM ⊢
  have hl : lv_has ls 1 [(0, .ref (G.2.2.2.2.1 1))] := hl
  obtain ⟨Q, hQ⟩ : ∃ Q, Q = MQ below (mQ G (.returned (some (.int z))) (σ)) args s 0 0 (mF G) := ⟨_, rfl⟩
  rw [← hQ]
  have w0 := (hts (.fieldLink RJ0 38 "java/lang/String" "COMPACT_STRINGS" "Z") (List.mem_of_getElem? (i := 1) rfl))
  have w1 := (hts (.fieldLink RJ0 15 "java/lang/String" "coder" "B") (List.mem_of_getElem? (i := 2) rfl))
  rw [f_J0_coder_k1.eq_1] at h
  refine m_kcs hx hb hown hK hM0 hM hL w0 dJ0_coder_7d493_0 ?_
  refine lv_if_eq (tgt := 13) hx hb dJ0_coder_7d493_3 (by decide) (fun c2 => ?_) (fun c2 => ?_)
  · exact absurd c2 (by decide)
  refine lv_aload_n hx hb dJ0_coder_7d493_6 rfl (lv_at hl 0 rfl) ?_
  refine m_kcod 1 (by decide) hx hb hown hK hM0 hM hL w1 dJ0_coder_7d493_7 ?_
  refine lv_goto (tgt := 14) hx hb dJ0_coder_7d493_10 (by decide) ?_
  subst hQ
  subst h
  exact m_zret (x := (0 : Int32)) hx hb hr rfl hM hL dJ0_coder_7d493_14 hlocks
abbrev rm_J0_isLatin1_k0 : Room := { frames := 0, cells := 0, slots := 0, locals := 0 }
set_option maxHeartbeats 4000000 in
set_option maxRecDepth 100000 in
theorem c_J0_isLatin1_k0 (l : Launch) (G : mG)  {σ : mS} : Met l yJ0_isLatin1_aae02 wsJ0_isLatin1_aae02 rm_J0_isLatin1_k0 (va_Pc [.ref (G.2.2.2.2.1 0)] (mB G σ)) (mQ G (.returned (some (.int (f_J0_isLatin1_k0 )))) (σ)) 0 0 (mF G) := by
  obtain ⟨z, h⟩ : ∃ z, f_J0_isLatin1_k0  = z := ⟨_, rfl⟩
  rw [h]
  refine m_start (cc := cJ0_isLatin1_aae02) (maxL := 1) (ret := (some .boolean)) (by decide) rfl [.ref (G.2.2.2.2.1 0)] (Nat.le_of_ble_eq_true rfl) ?_
  intro p e s m args below meth c ls hx hb hr hml hown hts hlocks hnm hK hM hl
  have hown : s.vm.findClass RJ0 = some m.cls := hown
  have hnm : meth.name = "isLatin1" := hnm
  obtain ⟨locs, hlocs⟩ : ∃ l : List Loc, l = [] := ⟨_, rfl⟩
  have hL : mL G locs := by rw [hlocs]; exact mL_nil G
  rw [← hlocs]
  have hM0 := hM
  generalize s.heap = H at hM ⊢
  have hl : lv_has ls 1 [(0, .ref (G.2.2.2.2.1 0))] := hl
  obtain ⟨Q, hQ⟩ : ∃ Q, Q = MQ below (mQ G (.returned (some (.int z))) (σ)) args s 0 0 (mF G) := ⟨_, rfl⟩
  rw [← hQ]
  have w0 := (hts (.fieldLink RJ0 38 "java/lang/String" "COMPACT_STRINGS" "Z") (List.mem_of_getElem? (i := 1) rfl))
  have w1 := (hts (.fieldLink RJ0 15 "java/lang/String" "coder" "B") (List.mem_of_getElem? (i := 2) rfl))
  rw [f_J0_isLatin1_k0.eq_1] at h
  refine m_kcs hx hb hown hK hM0 hM hL w0 dJ0_isLatin1_aae02_0 ?_
  refine lv_if_eq (tgt := 17) hx hb dJ0_isLatin1_aae02_3 (by decide) (fun c3 => ?_) (fun c3 => ?_)
  · exact absurd c3 (by decide)
  refine lv_aload_n hx hb dJ0_isLatin1_aae02_6 rfl (lv_at hl 0 rfl) ?_
  refine m_kcod 0 (by decide) hx hb hown hK hM0 hM hL w1 dJ0_isLatin1_aae02_7 ?_
  refine lv_if_ne (tgt := 17) hx hb dJ0_isLatin1_aae02_10 (by decide) (fun c4 => ?_) (fun c4 => ?_)
  · exact absurd c4 (by decide)
  refine lv_iconst hx hb dJ0_isLatin1_aae02_13 kI_1 ?_
  refine lv_goto (tgt := 18) hx hb dJ0_isLatin1_aae02_14 (by decide) ?_
  subst hQ
  subst h
  exact m_zret (x := (1 : Int32)) hx hb hr rfl hM hL dJ0_isLatin1_aae02_18 hlocks
abbrev rm_J0_isLatin1_k1 : Room := { frames := 0, cells := 0, slots := 0, locals := 0 }
set_option maxHeartbeats 4000000 in
set_option maxRecDepth 100000 in
theorem c_J0_isLatin1_k1 (l : Launch) (G : mG)  {σ : mS} : Met l yJ0_isLatin1_aae02 wsJ0_isLatin1_aae02 rm_J0_isLatin1_k1 (va_Pc [.ref (G.2.2.2.2.1 1)] (mB G σ)) (mQ G (.returned (some (.int (f_J0_isLatin1_k1 )))) (σ)) 0 0 (mF G) := by
  obtain ⟨z, h⟩ : ∃ z, f_J0_isLatin1_k1  = z := ⟨_, rfl⟩
  rw [h]
  refine m_start (cc := cJ0_isLatin1_aae02) (maxL := 1) (ret := (some .boolean)) (by decide) rfl [.ref (G.2.2.2.2.1 1)] (Nat.le_of_ble_eq_true rfl) ?_
  intro p e s m args below meth c ls hx hb hr hml hown hts hlocks hnm hK hM hl
  have hown : s.vm.findClass RJ0 = some m.cls := hown
  have hnm : meth.name = "isLatin1" := hnm
  obtain ⟨locs, hlocs⟩ : ∃ l : List Loc, l = [] := ⟨_, rfl⟩
  have hL : mL G locs := by rw [hlocs]; exact mL_nil G
  rw [← hlocs]
  have hM0 := hM
  generalize s.heap = H at hM ⊢
  have hl : lv_has ls 1 [(0, .ref (G.2.2.2.2.1 1))] := hl
  obtain ⟨Q, hQ⟩ : ∃ Q, Q = MQ below (mQ G (.returned (some (.int z))) (σ)) args s 0 0 (mF G) := ⟨_, rfl⟩
  rw [← hQ]
  have w0 := (hts (.fieldLink RJ0 38 "java/lang/String" "COMPACT_STRINGS" "Z") (List.mem_of_getElem? (i := 1) rfl))
  have w1 := (hts (.fieldLink RJ0 15 "java/lang/String" "coder" "B") (List.mem_of_getElem? (i := 2) rfl))
  rw [f_J0_isLatin1_k1.eq_1] at h
  refine m_kcs hx hb hown hK hM0 hM hL w0 dJ0_isLatin1_aae02_0 ?_
  refine lv_if_eq (tgt := 17) hx hb dJ0_isLatin1_aae02_3 (by decide) (fun c3 => ?_) (fun c3 => ?_)
  · exact absurd c3 (by decide)
  refine lv_aload_n hx hb dJ0_isLatin1_aae02_6 rfl (lv_at hl 0 rfl) ?_
  refine m_kcod 1 (by decide) hx hb hown hK hM0 hM hL w1 dJ0_isLatin1_aae02_7 ?_
  refine lv_if_ne (tgt := 17) hx hb dJ0_isLatin1_aae02_10 (by decide) (fun c4 => ?_) (fun c4 => ?_)
  · exact absurd c4 (by decide)
  refine lv_iconst hx hb dJ0_isLatin1_aae02_13 kI_1 ?_
  refine lv_goto (tgt := 18) hx hb dJ0_isLatin1_aae02_14 (by decide) ?_
  subst hQ
  subst h
  exact m_zret (x := (1 : Int32)) hx hb hr rfl hM hL dJ0_isLatin1_aae02_18 hlocks
abbrev rm_J0_length_k0 : Room := { frames := 1, cells := 0, slots := 0, locals := 20 }
set_option maxHeartbeats 4000000 in
set_option maxRecDepth 100000 in
theorem c_J0_length_k0 (l : Launch) (G : mG)  {σ : mS} : Met l yJ0_length_8abf5 wsJ0_length_8abf5 rm_J0_length_k0 (va_Pc [.ref (G.2.2.2.2.1 0)] (mB G σ)) (mQ G (.returned (some (.int (f_J0_length_k0 )))) (σ)) 0 0 (mF G) := by
  obtain ⟨z, h⟩ : ∃ z, f_J0_length_k0  = z := ⟨_, rfl⟩
  rw [h]
  refine m_start (cc := cJ0_length_8abf5) (maxL := 1) (ret := (some .int)) (by decide) rfl [.ref (G.2.2.2.2.1 0)] (Nat.le_of_ble_eq_true rfl) ?_
  intro p e s m args below meth c ls hx hb hr hml hown hts hlocks hnm hK hM hl
  have hown : s.vm.findClass RJ0 = some m.cls := hown
  have hnm : meth.name = "length" := hnm
  obtain ⟨locs, hlocs⟩ : ∃ l : List Loc, l = [] := ⟨_, rfl⟩
  have hL : mL G locs := by rw [hlocs]; exact mL_nil G
  rw [← hlocs]
  have hM0 := hM
  generalize s.heap = H at hM ⊢
  have hl : lv_has ls 1 [(0, .ref (G.2.2.2.2.1 0))] := hl
  obtain ⟨Q, hQ⟩ : ∃ Q, Q = MQ below (mQ G (.returned (some (.int z))) (σ)) args s 0 0 (mF G) := ⟨_, rfl⟩
  rw [← hQ]
  have w0 := (hts (.fieldLink RJ0 9 "java/lang/String" "value" "[B") (List.mem_of_getElem? (i := 1) rfl))
  rw [f_J0_length_k0.eq_1] at h
  refine lv_aload_n hx hb dJ0_length_8abf5_0 rfl (lv_at hl 0 rfl) ?_
  refine m_kval 0 (by decide) hx hb hown hK hM0 hM hL w0 dJ0_length_8abf5_1 ?_
  refine m_klen 0 (by decide) hx hb hK hM0 hM hL (show Int32.ofNat ([8, 65].getD 0 0) = (8 : Int32) by decide) dJ0_length_8abf5_4 ?_
  refine lv_aload_n hx hb dJ0_length_8abf5_5 rfl (lv_at hl 0 rfl) ?_
  refine m_calli (va_runV (As := []) (rest := [.int (8 : Int32)]) ⟨hx, hb, hml, hown, hts⟩ (c_J0_coder_k0 l G) (cwV 0 hts gJ0_length_8abf5_J0_coder_7d493 rfl rfl rfl hd_J0_coderv ⟨Nat.le_of_ble_eq_true rfl, Nat.le_of_ble_eq_true rfl⟩) (m_preK hK hM 0 (by decide)) rfl rfl hl.1 rfl (lv_room (Nat.le_of_ble_eq_true rfl)) dJ0_length_8abf5_6 ⟨Nat.le_of_ble_eq_true rfl, Nat.le_of_ble_eq_true rfl⟩) hL (fun H locs hM hL => ?_)
  rw [e_f_J0_coder_k0]
  refine lv_ishr hx hb dJ0_length_8abf5_9 ?_
  subst hQ
  subst h
  exact m_iret hx hb hr hM hL dJ0_length_8abf5_10 hlocks
abbrev rm_J0_length_k1 : Room := { frames := 1, cells := 0, slots := 0, locals := 20 }
set_option maxHeartbeats 4000000 in
set_option maxRecDepth 100000 in
theorem c_J0_length_k1 (l : Launch) (G : mG)  {σ : mS} : Met l yJ0_length_8abf5 wsJ0_length_8abf5 rm_J0_length_k1 (va_Pc [.ref (G.2.2.2.2.1 1)] (mB G σ)) (mQ G (.returned (some (.int (f_J0_length_k1 )))) (σ)) 0 0 (mF G) := by
  obtain ⟨z, h⟩ : ∃ z, f_J0_length_k1  = z := ⟨_, rfl⟩
  rw [h]
  refine m_start (cc := cJ0_length_8abf5) (maxL := 1) (ret := (some .int)) (by decide) rfl [.ref (G.2.2.2.2.1 1)] (Nat.le_of_ble_eq_true rfl) ?_
  intro p e s m args below meth c ls hx hb hr hml hown hts hlocks hnm hK hM hl
  have hown : s.vm.findClass RJ0 = some m.cls := hown
  have hnm : meth.name = "length" := hnm
  obtain ⟨locs, hlocs⟩ : ∃ l : List Loc, l = [] := ⟨_, rfl⟩
  have hL : mL G locs := by rw [hlocs]; exact mL_nil G
  rw [← hlocs]
  have hM0 := hM
  generalize s.heap = H at hM ⊢
  have hl : lv_has ls 1 [(0, .ref (G.2.2.2.2.1 1))] := hl
  obtain ⟨Q, hQ⟩ : ∃ Q, Q = MQ below (mQ G (.returned (some (.int z))) (σ)) args s 0 0 (mF G) := ⟨_, rfl⟩
  rw [← hQ]
  have w0 := (hts (.fieldLink RJ0 9 "java/lang/String" "value" "[B") (List.mem_of_getElem? (i := 1) rfl))
  rw [f_J0_length_k1.eq_1] at h
  refine lv_aload_n hx hb dJ0_length_8abf5_0 rfl (lv_at hl 0 rfl) ?_
  refine m_kval 1 (by decide) hx hb hown hK hM0 hM hL w0 dJ0_length_8abf5_1 ?_
  refine m_klen 1 (by decide) hx hb hK hM0 hM hL (show Int32.ofNat ([8, 65].getD 1 0) = (65 : Int32) by decide) dJ0_length_8abf5_4 ?_
  refine lv_aload_n hx hb dJ0_length_8abf5_5 rfl (lv_at hl 0 rfl) ?_
  refine m_calli (va_runV (As := []) (rest := [.int (65 : Int32)]) ⟨hx, hb, hml, hown, hts⟩ (c_J0_coder_k1 l G) (cwV 0 hts gJ0_length_8abf5_J0_coder_7d493 rfl rfl rfl hd_J0_coderv ⟨Nat.le_of_ble_eq_true rfl, Nat.le_of_ble_eq_true rfl⟩) (m_preK hK hM 1 (by decide)) rfl rfl hl.1 rfl (lv_room (Nat.le_of_ble_eq_true rfl)) dJ0_length_8abf5_6 ⟨Nat.le_of_ble_eq_true rfl, Nat.le_of_ble_eq_true rfl⟩) hL (fun H locs hM hL => ?_)
  rw [e_f_J0_coder_k1]
  refine lv_ishr hx hb dJ0_length_8abf5_9 ?_
  subst hQ
  subst h
  exact m_iret hx hb hr hM hL dJ0_length_8abf5_10 hlocks
abbrev rm_J1_charAt_k1 : Room := { frames := 2, cells := 0, slots := 0, locals := 43 }
set_option maxHeartbeats 4000000 in
set_option maxRecDepth 100000 in
theorem c_J1_charAt_k1 (l : Launch) (G : mG) {x1 : Int32} {σ : mS} {z : Int32} (h : f_J1_charAt_k1 x1 = some z) : Met l yJ1_charAt_3b067 wsJ1_charAt_3b067 rm_J1_charAt_k1 (va_Pc [.ref (G.2.2.2.2.2.1 1), .int x1] (mB G σ)) (mQ G (.returned (some (.int z))) (σ)) 0 0 (mF G) := by
  refine m_start (cc := cJ1_charAt_3b067) (maxL := 2) (ret := (some .char)) (by decide) rfl [.ref (G.2.2.2.2.2.1 1), .int x1] (Nat.le_of_ble_eq_true rfl) ?_
  intro p e s m args below meth c ls hx hb hr hml hown hts hlocks hnm hK hM hl
  have hown : s.vm.findClass RJ1 = some m.cls := hown
  have hnm : meth.name = "charAt" := hnm
  obtain ⟨locs, hlocs⟩ : ∃ l : List Loc, l = [] := ⟨_, rfl⟩
  have hL : mL G locs := by rw [hlocs]; exact mL_nil G
  rw [← hlocs]
  have hM0 := hM
  generalize s.heap = H at hM ⊢
  have hl : lv_has ls 2 [(0, .ref (G.2.2.2.2.2.1 1)), (1, .int x1)] := hl
  obtain ⟨Q, hQ⟩ : ∃ Q, Q = MQ below (mQ G (.returned (some (.int z))) (σ)) args s 0 0 (mF G) := ⟨_, rfl⟩
  rw [← hQ]
  rw [f_J1_charAt_k1.eq_1] at h
  refine lv_iload_n hx hb dJ1_charAt_3b067_0 rfl (lv_at hl 1 rfl) ?_
  refine lv_aload_n hx hb dJ1_charAt_3b067_1 rfl (lv_at hl 0 rfl) ?_
  refine m_klen 1 (by decide) hx hb hK hM0 hM hL (show Int32.ofNat ([8, 65].getD 1 0) = (65 : Int32) by decide) dJ1_charAt_3b067_2 ?_
  obtain ⟨q3, hq3, h⟩ := ob_some h
  refine m_callv (va_runS (As := [.int x1, .int (65 : Int32)]) (rest := []) ⟨hx, hb, hml, hown, hts⟩ (c_J0_checkIndex l G hq3) (va_cwS 2 hts gJ1_charAt_3b067_J0_checkIndex_df160 rfl rfl rfl hd_J0_checkIndex ⟨Nat.le_of_ble_eq_true rfl, Nat.le_of_ble_eq_true rfl⟩) (m_preS hK hM) rfl rfl hl.1 rfl (lv_room (Nat.le_of_ble_eq_true rfl)) dJ1_charAt_3b067_3 ⟨Nat.le_of_ble_eq_true rfl, Nat.le_of_ble_eq_true rfl⟩) hL (fun H locs hM hL => ?_)
  refine lv_aload_n hx hb dJ1_charAt_3b067_6 rfl (lv_at hl 0 rfl) ?_
  refine lv_iload_n hx hb dJ1_charAt_3b067_7 rfl (lv_at hl 1 rfl) ?_
  refine m_kbld 1 (by decide) hx hb hK hM0 hM hL h dJ1_charAt_3b067_8 (fun v4 h => ?_)
  refine lv_sipush hx hb dJ1_charAt_3b067_9 kS_255 ?_
  refine lv_iand hx hb dJ1_charAt_3b067_12 ?_
  refine lv_i2c hx hb dJ1_charAt_3b067_13 rfl ?_
  subst hQ
  have h := Option.some.inj h
  subst h
  exact m_zret (x := ((v4 &&& (255 : Int32)).toUInt32 % 65536).toInt32) hx hb hr (pk_nc _) hM hL dJ1_charAt_3b067_14 hlocks
abbrev rm_J0_charAt_k1 : Room := { frames := 3, cells := 0, slots := 0, locals := 64 }
set_option maxHeartbeats 4000000 in
set_option maxRecDepth 100000 in
theorem c_J0_charAt_k1 (l : Launch) (G : mG) {x1 : Int32} {σ : mS} {z : Int32} (h : f_J0_charAt_k1 x1 = some z) : Met l yJ0_charAt_5068e wsJ0_charAt_5068e rm_J0_charAt_k1 (va_Pc [.ref (G.2.2.2.2.1 1), .int x1] (mB G σ)) (mQ G (.returned (some (.int z))) (σ)) 0 0 (mF G) := by
  refine m_start (cc := cJ0_charAt_5068e) (maxL := 2) (ret := (some .char)) (by decide) rfl [.ref (G.2.2.2.2.1 1), .int x1] (Nat.le_of_ble_eq_true rfl) ?_
  intro p e s m args below meth c ls hx hb hr hml hown hts hlocks hnm hK hM hl
  have hown : s.vm.findClass RJ0 = some m.cls := hown
  have hnm : meth.name = "charAt" := hnm
  obtain ⟨locs, hlocs⟩ : ∃ l : List Loc, l = [] := ⟨_, rfl⟩
  have hL : mL G locs := by rw [hlocs]; exact mL_nil G
  rw [← hlocs]
  have hM0 := hM
  generalize s.heap = H at hM ⊢
  have hl : lv_has ls 2 [(0, .ref (G.2.2.2.2.1 1)), (1, .int x1)] := hl
  obtain ⟨Q, hQ⟩ : ∃ Q, Q = MQ below (mQ G (.returned (some (.int z))) (σ)) args s 0 0 (mF G) := ⟨_, rfl⟩
  rw [← hQ]
  have w0 := (hts (.fieldLink RJ0 9 "java/lang/String" "value" "[B") (List.mem_of_getElem? (i := 1) rfl))
  rw [f_J0_charAt_k1.eq_1] at h
  refine lv_aload_n hx hb dJ0_charAt_5068e_0 rfl (lv_at hl 0 rfl) ?_
  refine m_calli (va_runV (As := []) (rest := []) ⟨hx, hb, hml, hown, hts⟩ (c_J0_isLatin1_k1 l G) (cwV 0 hts gJ0_charAt_5068e_J0_isLatin1_aae02 rfl rfl rfl hd_J0_isLatin1v ⟨Nat.le_of_ble_eq_true rfl, Nat.le_of_ble_eq_true rfl⟩) (m_preK hK hM 1 (by decide)) rfl rfl hl.1 rfl (lv_room (Nat.le_of_ble_eq_true rfl)) dJ0_charAt_5068e_1 ⟨Nat.le_of_ble_eq_true rfl, Nat.le_of_ble_eq_true rfl⟩) hL (fun H locs hM hL => ?_)
  rw [e_f_J0_isLatin1_k1]
  refine lv_if_eq (tgt := 16) hx hb dJ0_charAt_5068e_4 (by decide) (fun c4 => ?_) (fun c4 => ?_)
  · exact absurd c4 (by decide)
  refine lv_aload_n hx hb dJ0_charAt_5068e_7 rfl (lv_at hl 0 rfl) ?_
  refine m_kval 1 (by decide) hx hb hown hK hM0 hM hL w0 dJ0_charAt_5068e_8 ?_
  refine lv_iload_n hx hb dJ0_charAt_5068e_11 rfl (lv_at hl 1 rfl) ?_
  obtain ⟨q5, hq5, h⟩ := ob_some h
  refine m_calli (va_runS (As := [.ref (G.2.2.2.2.2.1 1), .int x1]) (rest := []) ⟨hx, hb, hml, hown, hts⟩ (c_J1_charAt_k1 l G hq5) (va_cwS 2 hts gJ0_charAt_5068e_J1_charAt_3b067 rfl rfl rfl hd_J1_charAt ⟨Nat.le_of_ble_eq_true rfl, Nat.le_of_ble_eq_true rfl⟩) (m_preS hK hM) rfl rfl hl.1 rfl (lv_room (Nat.le_of_ble_eq_true rfl)) dJ0_charAt_5068e_12 ⟨Nat.le_of_ble_eq_true rfl, Nat.le_of_ble_eq_true rfl⟩) hL (fun H locs hM hL => ?_)
  obtain ⟨n6, h⟩ := oi_some h
  subst hQ
  have h := Option.some.inj h
  subst h
  exact m_zret (x := q5) hx hb hr (zc_of n6) hM hL dJ0_charAt_5068e_15 hlocks
abbrev rm_J1_indexOfChar_k0 : Room := { frames := 0, cells := 0, slots := 0, locals := 0 }
set_option maxHeartbeats 4000000 in
set_option maxRecDepth 100000 in
theorem c_J1_indexOfChar_k0 (l : Launch) (G : mG) {x1 : Int32} {x2 : Int32} {x3 : Int32} {σ : mS} {z : Int32} (h : f_J1_indexOfChar_k0 x1 x2 x3 = some z) : Met l yJ1_indexOfChar_4cfef wsJ1_indexOfChar_4cfef rm_J1_indexOfChar_k0 (va_Pc [.ref (G.2.2.2.2.2.1 0), .int x1, .int x2, .int x3] (mB G σ)) (mQ G (.returned (some (.int z))) (σ)) 0 0 (mF G) := by
  refine m_start (cc := cJ1_indexOfChar_4cfef) (maxL := 6) (ret := (some .int)) (by decide) rfl [.ref (G.2.2.2.2.2.1 0), .int x1, .int x2, .int x3] (Nat.le_of_ble_eq_true rfl) ?_
  intro p e s m args below meth c ls hx hb hr hml hown hts hlocks hnm hK hM hl
  have hown : s.vm.findClass RJ1 = some m.cls := hown
  have hnm : meth.name = "indexOfChar" := hnm
  obtain ⟨locs, hlocs⟩ : ∃ l : List Loc, l = [] := ⟨_, rfl⟩
  have hL : mL G locs := by rw [hlocs]; exact mL_nil G
  rw [← hlocs]
  have hM0 := hM
  generalize s.heap = H at hM ⊢
  have hl : lv_has ls 6 [(0, .ref (G.2.2.2.2.2.1 0)), (1, .int x1), (2, .int x2), (3, .int x3)] := hl
  obtain ⟨Q, hQ⟩ : ∃ Q, Q = MQ below (mQ G (.returned (some (.int z))) (σ)) args s 0 0 (mF G) := ⟨_, rfl⟩
  rw [← hQ]
  have hN7 : ∀ (n : Nat) (x3 : Int32) (x4 : Int32) (x5 : Int32), f_J1_indexOfChar_k0_7 n x3 x4 x5 = some z → ∀ (H : Heap) (locs : List Loc) (ls : Array Slot), mP G σ H → mL G locs → lv_has ls 6 [(0, .ref (G.2.2.2.2.2.1 0)), (3, .int x3), (4, .int x4), (5, .int x5)] → W p l e rm_J1_indexOfChar_k0 s m args below meth c H locs 0 0 Q (F0 m 7 ls []) := by
    intro n
    induction n with
    | zero =>
      intro x3 x4 x5 h
      exact nomatch (show (none : Option Int32) = some z from h)
    | succ n ih =>
      intro x3 x4 x5 h H locs ls hM hL hl
      rw [f_J1_indexOfChar_k0_7.eq_2] at h
      refine lv_iload hx hb dJ1_indexOfChar_4cfef_7 (lv_at hl 3 rfl) ?_
      refine lv_iload_n hx hb dJ1_indexOfChar_4cfef_9 rfl (lv_at hl 1 rfl) ?_
      refine lv_icmp_ge (tgt := 31) hx hb dJ1_indexOfChar_4cfef_10 (by decide) (fun c5 => ?_) (fun c5 => ?_)
      · have h := (if_pos c5).symm.trans h
        refine lv_iconst hx hb dJ1_indexOfChar_4cfef_31 kI_m1 ?_
        subst hQ
        have h := Option.some.inj h
        subst h
        exact m_iret hx hb hr hM hL dJ1_indexOfChar_4cfef_32 hlocks
      · have h := (if_neg c5).symm.trans h
        refine lv_aload_n hx hb dJ1_indexOfChar_4cfef_13 rfl (lv_at hl 0 rfl) ?_
        refine lv_iload hx hb dJ1_indexOfChar_4cfef_14 (lv_at hl 3 rfl) ?_
        refine m_kbld 0 (by decide) hx hb hK hM0 hM hL h dJ1_indexOfChar_4cfef_16 (fun v6 h => ?_)
        refine lv_iload hx hb dJ1_indexOfChar_4cfef_17 (lv_at hl 2 rfl) ?_
        refine lv_icmp_ne (tgt := 25) hx hb dJ1_indexOfChar_4cfef_19 (by decide) (fun c7 => ?_) (fun c7 => ?_)
        · have h := (if_neg c7).symm.trans h
          obtain ⟨v8, ev8⟩ : ∃ y : Int32, y = x5 + (1 : Int32) := ⟨_, rfl⟩
          have h := vl_at ev8 h
          refine lv_iinc (v := v8) (lv' := [(5, .int v8), (0, .ref (G.2.2.2.2.2.1 0)), (3, .int x3), (4, .int x4)]) hx hb dJ1_indexOfChar_4cfef_25 hl (k := 3) rfl (by rw [ev8, kI_1]) (by decide) rfl (fun ls hl => ?_)
          refine lv_goto (tgt := 7) hx hb dJ1_indexOfChar_4cfef_28 (by decide) ?_
          exact ih _ _ _ h _ _ _ hM hL (lv_sub hl [1, 2, 3, 0] rfl)
        · have h := (if_pos c7).symm.trans h
          refine lv_iload hx hb dJ1_indexOfChar_4cfef_22 (lv_at hl 3 rfl) ?_
          subst hQ
          have h := Option.some.inj h
          subst h
          exact m_iret hx hb hr hM hL dJ1_indexOfChar_4cfef_24 hlocks
  rw [f_J1_indexOfChar_k0.eq_1] at h
  refine lv_iload_n hx hb dJ1_indexOfChar_4cfef_0 rfl (lv_at hl 1 rfl) ?_
  refine lv_i2b hx hb dJ1_indexOfChar_4cfef_1 rfl ?_
  refine lv_istore (lv' := [(4, .int x1.toInt8.toInt32), (0, .ref (G.2.2.2.2.2.1 0)), (1, .int x1), (2, .int x2), (3, .int x3)]) hx hb dJ1_indexOfChar_4cfef_2 hl (by decide) rfl (fun ls hl => ?_)
  refine lv_iload_n hx hb dJ1_indexOfChar_4cfef_4 rfl (lv_at hl 3 rfl) ?_
  refine lv_istore (lv' := [(5, .int x2), (4, .int x1.toInt8.toInt32), (0, .ref (G.2.2.2.2.2.1 0)), (1, .int x1), (2, .int x2), (3, .int x3)]) hx hb dJ1_indexOfChar_4cfef_5 hl (by decide) rfl (fun ls hl => ?_)
  refine hN7 _ _ _ _ h _ _ _ hM hL (lv_sub hl [2, 5, 1, 0] rfl)
abbrev rm_J1_indexOf_k0 : Room := { frames := 1, cells := 0, slots := 0, locals := 30 }
set_option maxHeartbeats 4000000 in
set_option maxRecDepth 100000 in
theorem c_J1_indexOf_k0 (l : Launch) (G : mG) {x1 : Int32} {x2 : Int32} {x3 : Int32} {σ : mS} {z : Int32} (h : f_J1_indexOf_k0 x1 x2 x3 = some z) : Met l yJ1_indexOf_4cfef wsJ1_indexOf_4cfef rm_J1_indexOf_k0 (va_Pc [.ref (G.2.2.2.2.2.1 0), .int x1, .int x2, .int x3] (mB G σ)) (mQ G (.returned (some (.int z))) (σ)) 0 0 (mF G) := by
  refine m_start (cc := cJ1_indexOf_4cfef) (maxL := 4) (ret := (some .int)) (by decide) rfl [.ref (G.2.2.2.2.2.1 0), .int x1, .int x2, .int x3] (Nat.le_of_ble_eq_true rfl) ?_
  intro p e s m args below meth c ls hx hb hr hml hown hts hlocks hnm hK hM hl
  have hown : s.vm.findClass RJ1 = some m.cls := hown
  have hnm : meth.name = "indexOf" := hnm
  obtain ⟨locs, hlocs⟩ : ∃ l : List Loc, l = [] := ⟨_, rfl⟩
  have hL : mL G locs := by rw [hlocs]; exact mL_nil G
  rw [← hlocs]
  have hM0 := hM
  generalize s.heap = H at hM ⊢
  have hl : lv_has ls 4 [(0, .ref (G.2.2.2.2.2.1 0)), (1, .int x1), (2, .int x2), (3, .int x3)] := hl
  obtain ⟨Q, hQ⟩ : ∃ Q, Q = MQ below (mQ G (.returned (some (.int z))) (σ)) args s 0 0 (mF G) := ⟨_, rfl⟩
  rw [← hQ]
  have w0 := (hts (.methodLink RJ1 92 Lib.Math.max.name) (List.mem_of_getElem? (i := 1) rfl))
  have w1 := (hts (.static Lib.Math.max.name) (List.mem_of_getElem? (i := 2) rfl))
  have w2 := (hts (.initialized "java/lang/Math") (List.mem_of_getElem? (i := 3) rfl))
  have w3 := (hts (.code Lib.Math.max.name Lib.Math.max.code 2 (some .int)) (List.mem_of_getElem? (i := 4) rfl))
  have w4 := (hts (.methodLink RJ1 38 Lib.Math.min.name) (List.mem_of_getElem? (i := 5) rfl))
  have w5 := (hts (.static Lib.Math.min.name) (List.mem_of_getElem? (i := 6) rfl))
  have w6 := (hts (.code Lib.Math.min.name Lib.Math.min.code 2 (some .int)) (List.mem_of_getElem? (i := 7) rfl))
  rw [f_J1_indexOf_k0.eq_1] at h
  refine lv_iload_n hx hb dJ1_indexOf_4cfef_0 rfl (lv_at hl 1 rfl) ?_
  refine m_calli (va_runS (As := [.int x1]) (rest := []) ⟨hx, hb, hml, hown, hts⟩ (c_J1_canEncode l G x1) (va_cwS 1 hts gJ1_indexOf_4cfef_J1_canEncode_9a6ad rfl rfl rfl hd_J1_canEncode ⟨Nat.le_of_ble_eq_true rfl, Nat.le_of_ble_eq_true rfl⟩) (m_preS hK hM) rfl rfl hl.1 rfl (lv_room (Nat.le_of_ble_eq_true rfl)) dJ1_indexOf_4cfef_1 ⟨Nat.le_of_ble_eq_true rfl, Nat.le_of_ble_eq_true rfl⟩) hL (fun H locs hM hL => ?_)
  refine lv_if_ne (tgt := 9) hx hb dJ1_indexOf_4cfef_4 (by decide) (fun c6 => ?_) (fun c6 => ?_)
  · have h := (if_neg c6).symm.trans h
    refine lv_iload_n hx hb dJ1_indexOf_4cfef_9 rfl (lv_at hl 2 rfl) ?_
    refine lv_iconst hx hb dJ1_indexOf_4cfef_10 kI_0 ?_
    refine va_mmax hx hb (hml.trans hl.1.symm) hown w0 w1 w2 w3 (Nat.le_of_ble_eq_true rfl) (Nat.le_of_ble_eq_true rfl) (Nat.le_of_ble_eq_true rfl) (Nat.le_of_ble_eq_true rfl) dJ1_indexOf_4cfef_11 ?_
    refine lv_topi (fun v7 ev7 => ?_)
    have h := vl_at ev7 h
    refine lv_istore_n (lv' := [(2, .int v7), (0, .ref (G.2.2.2.2.2.1 0)), (1, .int x1), (3, .int x3)]) hx hb dJ1_indexOf_4cfef_14 rfl hl (by decide) rfl (fun ls hl => ?_)
    refine lv_iload_n hx hb dJ1_indexOf_4cfef_15 rfl (lv_at hl 3 rfl) ?_
    refine lv_aload_n hx hb dJ1_indexOf_4cfef_16 rfl (lv_at hl 1 rfl) ?_
    refine m_klen 0 (by decide) hx hb hK hM0 hM hL (show Int32.ofNat ([8, 65].getD 0 0) = (8 : Int32) by decide) dJ1_indexOf_4cfef_17 ?_
    refine va_mmin hx hb (hml.trans hl.1.symm) hown w4 w5 w2 w6 (Nat.le_of_ble_eq_true rfl) (Nat.le_of_ble_eq_true rfl) (Nat.le_of_ble_eq_true rfl) (Nat.le_of_ble_eq_true rfl) dJ1_indexOf_4cfef_18 ?_
    refine lv_topi (fun v8 ev8 => ?_)
    have h := vl_at ev8 h
    refine lv_istore_n (lv' := [(3, .int v8), (2, .int v7), (0, .ref (G.2.2.2.2.2.1 0)), (1, .int x1)]) hx hb dJ1_indexOf_4cfef_21 rfl hl (by decide) rfl (fun ls hl => ?_)
    refine lv_iload_n hx hb dJ1_indexOf_4cfef_22 rfl (lv_at hl 1 rfl) ?_
    refine lv_iload_n hx hb dJ1_indexOf_4cfef_23 rfl (lv_at hl 0 rfl) ?_
    refine lv_icmp_lt (tgt := 29) hx hb dJ1_indexOf_4cfef_24 (by decide) (fun c9 => ?_) (fun c9 => ?_)
    · have h := (if_pos c9).symm.trans h
      refine lv_aload_n hx hb dJ1_indexOf_4cfef_29 rfl (lv_at hl 2 rfl) ?_
      refine lv_iload_n hx hb dJ1_indexOf_4cfef_30 rfl (lv_at hl 3 rfl) ?_
      refine lv_iload_n hx hb dJ1_indexOf_4cfef_31 rfl (lv_at hl 1 rfl) ?_
      refine lv_iload_n hx hb dJ1_indexOf_4cfef_32 rfl (lv_at hl 0 rfl) ?_
      obtain ⟨q10, hq10, h⟩ := ob_some h
      refine m_calli (va_runS (As := [.ref (G.2.2.2.2.2.1 0), .int x1, .int v7, .int v8]) (rest := []) ⟨hx, hb, hml, hown, hts⟩ (c_J1_indexOfChar_k0 l G hq10) (va_cwS 4 hts gJ1_indexOf_4cfef_J1_indexOfChar_4cfef rfl rfl rfl hd_J1_indexOfChar ⟨Nat.le_of_ble_eq_true rfl, Nat.le_of_ble_eq_true rfl⟩) (m_preS hK hM) rfl rfl hl.1 rfl (lv_room (Nat.le_of_ble_eq_true rfl)) dJ1_indexOf_4cfef_33 ⟨Nat.le_of_ble_eq_true rfl, Nat.le_of_ble_eq_true rfl⟩) hL (fun H locs hM hL => ?_)
      subst hQ
      have h := Option.some.inj h
      subst h
      exact m_iret hx hb hr hM hL dJ1_indexOf_4cfef_36 hlocks
    · have h := (if_neg c9).symm.trans h
      refine lv_iconst hx hb dJ1_indexOf_4cfef_27 kI_m1 ?_
      subst hQ
      have h := Option.some.inj h
      subst h
      exact m_iret hx hb hr hM hL dJ1_indexOf_4cfef_28 hlocks
  · have h := (if_pos c6).symm.trans h
    refine lv_iconst hx hb dJ1_indexOf_4cfef_7 kI_m1 ?_
    subst hQ
    have h := Option.some.inj h
    subst h
    exact m_iret hx hb hr hM hL dJ1_indexOf_4cfef_8 hlocks
abbrev rm_J0_indexOf2_k0 : Room := { frames := 2, cells := 0, slots := 0, locals := 53 }
set_option maxHeartbeats 4000000 in
set_option maxRecDepth 100000 in
theorem c_J0_indexOf2_k0 (l : Launch) (G : mG) {x1 : Int32} {x2 : Int32} {σ : mS} {z : Int32} (h : f_J0_indexOf2_k0 x1 x2 = some z) : Met l yJ0_indexOf_7cf53 wsJ0_indexOf_7cf53 rm_J0_indexOf2_k0 (va_Pc [.ref (G.2.2.2.2.1 0), .int x1, .int x2] (mB G σ)) (mQ G (.returned (some (.int z))) (σ)) 0 0 (mF G) := by
  refine m_start (cc := cJ0_indexOf_7cf53) (maxL := 3) (ret := (some .int)) (by decide) rfl [.ref (G.2.2.2.2.1 0), .int x1, .int x2] (Nat.le_of_ble_eq_true rfl) ?_
  intro p e s m args below meth c ls hx hb hr hml hown hts hlocks hnm hK hM hl
  have hown : s.vm.findClass RJ0 = some m.cls := hown
  have hnm : meth.name = "indexOf" := hnm
  obtain ⟨locs, hlocs⟩ : ∃ l : List Loc, l = [] := ⟨_, rfl⟩
  have hL : mL G locs := by rw [hlocs]; exact mL_nil G
  rw [← hlocs]
  have hM0 := hM
  generalize s.heap = H at hM ⊢
  have hl : lv_has ls 3 [(0, .ref (G.2.2.2.2.1 0)), (1, .int x1), (2, .int x2)] := hl
  obtain ⟨Q, hQ⟩ : ∃ Q, Q = MQ below (mQ G (.returned (some (.int z))) (σ)) args s 0 0 (mF G) := ⟨_, rfl⟩
  rw [← hQ]
  have w0 := (hts (.fieldLink RJ0 9 "java/lang/String" "value" "[B") (List.mem_of_getElem? (i := 1) rfl))
  rw [f_J0_indexOf2_k0.eq_1] at h
  refine lv_aload_n hx hb dJ0_indexOf_7cf53_0 rfl (lv_at hl 0 rfl) ?_
  refine m_calli (va_runV (As := []) (rest := []) ⟨hx, hb, hml, hown, hts⟩ (c_J0_isLatin1_k0 l G) (cwV 0 hts gJ0_indexOf_7cf53_J0_isLatin1_aae02 rfl rfl rfl hd_J0_isLatin1v ⟨Nat.le_of_ble_eq_true rfl, Nat.le_of_ble_eq_true rfl⟩) (m_preK hK hM 0 (by decide)) rfl rfl hl.1 rfl (lv_room (Nat.le_of_ble_eq_true rfl)) dJ0_indexOf_7cf53_1 ⟨Nat.le_of_ble_eq_true rfl, Nat.le_of_ble_eq_true rfl⟩) hL (fun H locs hM hL => ?_)
  rw [e_f_J0_isLatin1_k0]
  refine lv_if_eq (tgt := 23) hx hb dJ0_indexOf_7cf53_4 (by decide) (fun c3 => ?_) (fun c3 => ?_)
  · exact absurd c3 (by decide)
  refine lv_aload_n hx hb dJ0_indexOf_7cf53_7 rfl (lv_at hl 0 rfl) ?_
  refine m_kval 0 (by decide) hx hb hown hK hM0 hM hL w0 dJ0_indexOf_7cf53_8 ?_
  refine lv_iload_n hx hb dJ0_indexOf_7cf53_11 rfl (lv_at hl 1 rfl) ?_
  refine lv_iload_n hx hb dJ0_indexOf_7cf53_12 rfl (lv_at hl 2 rfl) ?_
  refine lv_aload_n hx hb dJ0_indexOf_7cf53_13 rfl (lv_at hl 0 rfl) ?_
  refine m_calli (va_runV (As := []) (rest := [.int x2, .int x1, .ref (G.2.2.2.2.2.1 0)]) ⟨hx, hb, hml, hown, hts⟩ (c_J0_length_k0 l G) (cwV 0 hts gJ0_indexOf_7cf53_J0_length_8abf5 rfl rfl rfl hd_J0_lengthv ⟨Nat.le_of_ble_eq_true rfl, Nat.le_of_ble_eq_true rfl⟩) (m_preK hK hM 0 (by decide)) rfl rfl hl.1 rfl (lv_room (Nat.le_of_ble_eq_true rfl)) dJ0_indexOf_7cf53_14 ⟨Nat.le_of_ble_eq_true rfl, Nat.le_of_ble_eq_true rfl⟩) hL (fun H locs hM hL => ?_)
  rw [e_f_J0_length_k0]
  obtain ⟨q4, hq4, h⟩ := ob_some h
  refine m_calli (va_runS (As := [.ref (G.2.2.2.2.2.1 0), .int x1, .int x2, .int (8 : Int32)]) (rest := []) ⟨hx, hb, hml, hown, hts⟩ (c_J1_indexOf_k0 l G hq4) (va_cwS 4 hts gJ0_indexOf_7cf53_J1_indexOf_4cfef rfl rfl rfl hd_J1_indexOf ⟨Nat.le_of_ble_eq_true rfl, Nat.le_of_ble_eq_true rfl⟩) (m_preS hK hM) rfl rfl hl.1 rfl (lv_room (Nat.le_of_ble_eq_true rfl)) dJ0_indexOf_7cf53_17 ⟨Nat.le_of_ble_eq_true rfl, Nat.le_of_ble_eq_true rfl⟩) hL (fun H locs hM hL => ?_)
  refine lv_goto (tgt := 36) hx hb dJ0_indexOf_7cf53_20 (by decide) ?_
  subst hQ
  have h := Option.some.inj h
  subst h
  exact m_iret hx hb hr hM hL dJ0_indexOf_7cf53_36 hlocks
abbrev rm_J0_indexOf_k0 : Room := { frames := 3, cells := 0, slots := 0, locals := 75 }
set_option maxHeartbeats 4000000 in
set_option maxRecDepth 100000 in
theorem c_J0_indexOf_k0 (l : Launch) (G : mG) {x1 : Int32} {σ : mS} {z : Int32} (h : f_J0_indexOf_k0 x1 = some z) : Met l yJ0_indexOf_0f7a4 wsJ0_indexOf_0f7a4 rm_J0_indexOf_k0 (va_Pc [.ref (G.2.2.2.2.1 0), .int x1] (mB G σ)) (mQ G (.returned (some (.int z))) (σ)) 0 0 (mF G) := by
  refine m_start (cc := cJ0_indexOf_0f7a4) (maxL := 2) (ret := (some .int)) (by decide) rfl [.ref (G.2.2.2.2.1 0), .int x1] (Nat.le_of_ble_eq_true rfl) ?_
  intro p e s m args below meth c ls hx hb hr hml hown hts hlocks hnm hK hM hl
  have hown : s.vm.findClass RJ0 = some m.cls := hown
  have hnm : meth.name = "indexOf" := hnm
  obtain ⟨locs, hlocs⟩ : ∃ l : List Loc, l = [] := ⟨_, rfl⟩
  have hL : mL G locs := by rw [hlocs]; exact mL_nil G
  rw [← hlocs]
  have hM0 := hM
  generalize s.heap = H at hM ⊢
  have hl : lv_has ls 2 [(0, .ref (G.2.2.2.2.1 0)), (1, .int x1)] := hl
  obtain ⟨Q, hQ⟩ : ∃ Q, Q = MQ below (mQ G (.returned (some (.int z))) (σ)) args s 0 0 (mF G) := ⟨_, rfl⟩
  rw [← hQ]
  rw [f_J0_indexOf_k0.eq_1] at h
  refine lv_aload_n hx hb dJ0_indexOf_0f7a4_0 rfl (lv_at hl 0 rfl) ?_
  refine lv_iload_n hx hb dJ0_indexOf_0f7a4_1 rfl (lv_at hl 1 rfl) ?_
  refine lv_iconst hx hb dJ0_indexOf_0f7a4_2 kI_0 ?_
  obtain ⟨q2, hq2, h⟩ := ob_some h
  refine m_calli (va_runV (As := [.int x1, .int (0 : Int32)]) (rest := []) ⟨hx, hb, hml, hown, hts⟩ (c_J0_indexOf2_k0 l G hq2) (cwV 2 hts gJ0_indexOf_0f7a4_J0_indexOf_7cf53 rfl rfl rfl hd_J0_indexOf2v ⟨Nat.le_of_ble_eq_true rfl, Nat.le_of_ble_eq_true rfl⟩) (m_preK hK hM 0 (by decide)) rfl rfl hl.1 rfl (lv_room (Nat.le_of_ble_eq_true rfl)) dJ0_indexOf_0f7a4_3 ⟨Nat.le_of_ble_eq_true rfl, Nat.le_of_ble_eq_true rfl⟩) hL (fun H locs hM hL => ?_)
  subst hQ
  have h := Option.some.inj h
  subst h
  exact m_iret hx hb hr hM hL dJ0_indexOf_0f7a4_6 hlocks
