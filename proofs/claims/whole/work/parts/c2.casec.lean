set_option maxHeartbeats 4000000 in
theorem cs_when {p : Program} {l : Launch} {e : Env} {s : State} {m : MethodId} {below : List Frame} {meth : Method} {c : Code} {bs L : Nat} {xs : Nat → Int32} {G : mG} {b r : Nat} {S : XS} {O : MS} {μ : mS} {H : Heap} {locs : List Loc} {cells slots : Nat} {Q : State → Prop} {ls : Array Slot} {x3 : Int32} (C : LCtx p s m meth c bs L xs G) (hl : lv_has ls 4 [(0, .ref bs), (1, .ref b), (2, .ref r), (3, .int x3)]) (h6 : hin6 x3 L) (R : Rlw b r S O μ) (hM : mP G (Wd b r S O μ) H) (hL : mL G locs) (hc : cells + 2 ≤ 600000) (hs : slots + 164 ≤ 7302250) (K : LNext p l e s m bs below meth c G b r ls cells slots Q) : W p l e room_1 s m #[Value.ref bs] below meth c H locs cells slots Q (F0 m 734 ls []) := by
  obtain ⟨hx, hb, hml, hown, hts, hX, hbl, hbA, hK⟩ := C.get
  obtain ⟨i1, i2, i3, i4, i5, i6⟩ := h6
  have lm := R.lm
  obtain ⟨v, S', O', μ', e1, e2, R'⟩ := (k_when (xs (x3 + 1).toNatClampNeg) : Call b r _ _) S O μ R
  have hS := C.S hM hL
  refine lv_aload_n hx hb dL_law_734 rfl (lv_at hl 1 rfl) ?_
  refine lv_aload_n hx hb dL_law_735 rfl (lv_at hl 0 rfl) ?_
  refine lv_iload_n hx hb dL_law_736 rfl (lv_at hl 3 rfl) ?_
  refine lv_iconst (v := 1) hx hb dL_law_737 (by decide) ?_
  refine lv_iadd hx hb dL_law_738 ?_
  refine va_sld hx hb hX hbl hbA hS i1 dL_law_739 ?_
  refine m_calli (va_runV (As := [.int (xs (x3 + 1).toNatClampNeg)]) (rest := []) ⟨hx, hb, hml, hown, hts⟩ (c_X5_when l G e1) (cwV 1 hts gl_X5_when rfl rfl rfl hdl_X5_when ⟨Nat.le_of_ble_eq_true rfl, Nat.le_of_ble_eq_true rfl⟩) (m_preV (ci := 4) hK hM rfl isO5) rfl rfl hl.1 rfl (lv_room (Nat.le_of_ble_eq_true rfl)) dL_law_740 ⟨by show cells + _ ≤ 600000; omega, by show slots + _ ≤ 7302250; omega⟩) hL (fun H locs hM hL => ?_)
  have hM : mP G (Wd b r S' O μ') H := hM
  have hS := C.S hM hL
  refine lv_aload_n hx hb dL_law_743 rfl (lv_at hl 2 rfl) ?_
  refine lv_aload_n hx hb dL_law_744 rfl (lv_at hl 0 rfl) ?_
  refine lv_iload_n hx hb dL_law_745 rfl (lv_at hl 3 rfl) ?_
  refine lv_iconst (v := 1) hx hb dL_law_746 (by decide) ?_
  refine lv_iadd hx hb dL_law_747 ?_
  refine va_sld hx hb hX hbl hbA hS i1 dL_law_748 ?_
  refine m_calli (va_runV (As := [.int (xs (x3 + 1).toNatClampNeg)]) (rest := [.int v]) ⟨hx, hb, hml, hown, hts⟩ (c_X6_when l G e2) (cwV 1 hts gl_X6_when rfl rfl rfl hdl_X6_when ⟨Nat.le_of_ble_eq_true rfl, Nat.le_of_ble_eq_true rfl⟩) (m_preV (ci := 5) hK hM rfl (isO6 lm)) rfl rfl hl.1 rfl (lv_room (Nat.le_of_ble_eq_true rfl)) dL_law_749 ⟨by show cells + 0 + _ ≤ 600000; omega, by show slots + 0 + _ ≤ 7302250; omega⟩) hL (fun H locs hM hL => ?_)
  have hM : mP G (Wd b r S' O' μ') H := hM
  refine lv_icmp_eq (tgt := 1515) hx hb dL_law_752 (by decide) (fun _ => ?_) (fun q => absurd rfl q)
  exact K _ _ _ _ _ _ _ R' hM hL (by omega) (by omega)
set_option maxHeartbeats 4000000 in
theorem cs_fate {p : Program} {l : Launch} {e : Env} {s : State} {m : MethodId} {below : List Frame} {meth : Method} {c : Code} {bs L : Nat} {xs : Nat → Int32} {G : mG} {b r : Nat} {S : XS} {O : MS} {μ : mS} {H : Heap} {locs : List Loc} {cells slots : Nat} {Q : State → Prop} {ls : Array Slot} {x3 : Int32} (C : LCtx p s m meth c bs L xs G) (hl : lv_has ls 4 [(0, .ref bs), (1, .ref b), (2, .ref r), (3, .int x3)]) (h6 : hin6 x3 L) (R : Rlw b r S O μ) (hM : mP G (Wd b r S O μ) H) (hL : mL G locs) (hc : cells + 2 ≤ 600000) (hs : slots + 164 ≤ 7302250) (K : LNext p l e s m bs below meth c G b r ls cells slots Q) : W p l e room_1 s m #[Value.ref bs] below meth c H locs cells slots Q (F0 m 757 ls []) := by
  obtain ⟨hx, hb, hml, hown, hts, hX, hbl, hbA, hK⟩ := C.get
  obtain ⟨i1, i2, i3, i4, i5, i6⟩ := h6
  have lm := R.lm
  obtain ⟨v, S', O', μ', e1, e2, R'⟩ := (k_fate (xs (x3 + 1).toNatClampNeg) (xs (x3 + 2).toNatClampNeg) : Call b r _ _) S O μ R
  have hS := C.S hM hL
  refine lv_aload_n hx hb dL_law_757 rfl (lv_at hl 1 rfl) ?_
  refine lv_aload_n hx hb dL_law_758 rfl (lv_at hl 0 rfl) ?_
  refine lv_iload_n hx hb dL_law_759 rfl (lv_at hl 3 rfl) ?_
  refine lv_iconst (v := 1) hx hb dL_law_760 (by decide) ?_
  refine lv_iadd hx hb dL_law_761 ?_
  refine va_sld hx hb hX hbl hbA hS i1 dL_law_762 ?_
  refine lv_aload_n hx hb dL_law_763 rfl (lv_at hl 0 rfl) ?_
  refine lv_iload_n hx hb dL_law_764 rfl (lv_at hl 3 rfl) ?_
  refine lv_iconst (v := 2) hx hb dL_law_765 (by decide) ?_
  refine lv_iadd hx hb dL_law_766 ?_
  refine va_sld hx hb hX hbl hbA hS i2 dL_law_767 ?_
  refine m_calli (va_runV (As := [.int (xs (x3 + 1).toNatClampNeg), .int (xs (x3 + 2).toNatClampNeg)]) (rest := []) ⟨hx, hb, hml, hown, hts⟩ (c_X5_fate l G e1) (cwV 2 hts gl_X5_fate rfl rfl rfl hdl_X5_fate ⟨Nat.le_of_ble_eq_true rfl, Nat.le_of_ble_eq_true rfl⟩) (m_preV (ci := 4) hK hM rfl isO5) rfl rfl hl.1 rfl (lv_room (Nat.le_of_ble_eq_true rfl)) dL_law_768 ⟨by show cells + _ ≤ 600000; omega, by show slots + _ ≤ 7302250; omega⟩) hL (fun H locs hM hL => ?_)
  have hM : mP G (Wd b r S' O μ') H := hM
  have hS := C.S hM hL
  refine lv_aload_n hx hb dL_law_771 rfl (lv_at hl 2 rfl) ?_
  refine lv_aload_n hx hb dL_law_772 rfl (lv_at hl 0 rfl) ?_
  refine lv_iload_n hx hb dL_law_773 rfl (lv_at hl 3 rfl) ?_
  refine lv_iconst (v := 1) hx hb dL_law_774 (by decide) ?_
  refine lv_iadd hx hb dL_law_775 ?_
  refine va_sld hx hb hX hbl hbA hS i1 dL_law_776 ?_
  refine lv_aload_n hx hb dL_law_777 rfl (lv_at hl 0 rfl) ?_
  refine lv_iload_n hx hb dL_law_778 rfl (lv_at hl 3 rfl) ?_
  refine lv_iconst (v := 2) hx hb dL_law_779 (by decide) ?_
  refine lv_iadd hx hb dL_law_780 ?_
  refine va_sld hx hb hX hbl hbA hS i2 dL_law_781 ?_
  refine m_calli (va_runV (As := [.int (xs (x3 + 1).toNatClampNeg), .int (xs (x3 + 2).toNatClampNeg)]) (rest := [.int v]) ⟨hx, hb, hml, hown, hts⟩ (c_X6_fate l G e2) (cwV 2 hts gl_X6_fate rfl rfl rfl hdl_X6_fate ⟨Nat.le_of_ble_eq_true rfl, Nat.le_of_ble_eq_true rfl⟩) (m_preV (ci := 5) hK hM rfl (isO6 lm)) rfl rfl hl.1 rfl (lv_room (Nat.le_of_ble_eq_true rfl)) dL_law_782 ⟨by show cells + 0 + _ ≤ 600000; omega, by show slots + 0 + _ ≤ 7302250; omega⟩) hL (fun H locs hM hL => ?_)
  have hM : mP G (Wd b r S' O' μ') H := hM
  refine lv_icmp_eq (tgt := 1515) hx hb dL_law_785 (by decide) (fun _ => ?_) (fun q => absurd rfl q)
  exact K _ _ _ _ _ _ _ R' hM hL (by omega) (by omega)
set_option maxHeartbeats 4000000 in
theorem cs_advise {p : Program} {l : Launch} {e : Env} {s : State} {m : MethodId} {below : List Frame} {meth : Method} {c : Code} {bs L : Nat} {xs : Nat → Int32} {G : mG} {b r : Nat} {S : XS} {O : MS} {μ : mS} {H : Heap} {locs : List Loc} {cells slots : Nat} {Q : State → Prop} {ls : Array Slot} {x3 : Int32} (C : LCtx p s m meth c bs L xs G) (hl : lv_has ls 4 [(0, .ref bs), (1, .ref b), (2, .ref r), (3, .int x3)]) (h6 : hin6 x3 L) (R : Rlw b r S O μ) (hM : mP G (Wd b r S O μ) H) (hL : mL G locs) (hc : cells + 2 ≤ 600000) (hs : slots + 164 ≤ 7302250) (K : LNext p l e s m bs below meth c G b r ls cells slots Q) : W p l e room_1 s m #[Value.ref bs] below meth c H locs cells slots Q (F0 m 790 ls []) := by
  obtain ⟨hx, hb, hml, hown, hts, hX, hbl, hbA, hK⟩ := C.get
  obtain ⟨i1, i2, i3, i4, i5, i6⟩ := h6
  have lm := R.lm
  obtain ⟨v, S', O', μ', e1, e2, R'⟩ := (k_advise (xs (x3 + 1).toNatClampNeg) (xs (x3 + 2).toNatClampNeg) : Call b r _ _) S O μ R
  have hS := C.S hM hL
  refine lv_aload_n hx hb dL_law_790 rfl (lv_at hl 1 rfl) ?_
  refine lv_aload_n hx hb dL_law_791 rfl (lv_at hl 0 rfl) ?_
  refine lv_iload_n hx hb dL_law_792 rfl (lv_at hl 3 rfl) ?_
  refine lv_iconst (v := 1) hx hb dL_law_793 (by decide) ?_
  refine lv_iadd hx hb dL_law_794 ?_
  refine va_sld hx hb hX hbl hbA hS i1 dL_law_795 ?_
  refine lv_aload_n hx hb dL_law_796 rfl (lv_at hl 0 rfl) ?_
  refine lv_iload_n hx hb dL_law_797 rfl (lv_at hl 3 rfl) ?_
  refine lv_iconst (v := 2) hx hb dL_law_798 (by decide) ?_
  refine lv_iadd hx hb dL_law_799 ?_
  refine va_sld hx hb hX hbl hbA hS i2 dL_law_800 ?_
  refine m_calli (va_runV (As := [.int (xs (x3 + 1).toNatClampNeg), .int (xs (x3 + 2).toNatClampNeg)]) (rest := []) ⟨hx, hb, hml, hown, hts⟩ (c_X5_advise l G e1) (cwV 2 hts gl_X5_advise rfl rfl rfl hdl_X5_advise ⟨Nat.le_of_ble_eq_true rfl, Nat.le_of_ble_eq_true rfl⟩) (m_preV (ci := 4) hK hM rfl isO5) rfl rfl hl.1 rfl (lv_room (Nat.le_of_ble_eq_true rfl)) dL_law_801 ⟨by show cells + _ ≤ 600000; omega, by show slots + _ ≤ 7302250; omega⟩) hL (fun H locs hM hL => ?_)
  have hM : mP G (Wd b r S' O μ') H := hM
  have hS := C.S hM hL
  refine lv_aload_n hx hb dL_law_804 rfl (lv_at hl 2 rfl) ?_
  refine lv_aload_n hx hb dL_law_805 rfl (lv_at hl 0 rfl) ?_
  refine lv_iload_n hx hb dL_law_806 rfl (lv_at hl 3 rfl) ?_
  refine lv_iconst (v := 1) hx hb dL_law_807 (by decide) ?_
  refine lv_iadd hx hb dL_law_808 ?_
  refine va_sld hx hb hX hbl hbA hS i1 dL_law_809 ?_
  refine lv_aload_n hx hb dL_law_810 rfl (lv_at hl 0 rfl) ?_
  refine lv_iload_n hx hb dL_law_811 rfl (lv_at hl 3 rfl) ?_
  refine lv_iconst (v := 2) hx hb dL_law_812 (by decide) ?_
  refine lv_iadd hx hb dL_law_813 ?_
  refine va_sld hx hb hX hbl hbA hS i2 dL_law_814 ?_
  refine m_calli (va_runV (As := [.int (xs (x3 + 1).toNatClampNeg), .int (xs (x3 + 2).toNatClampNeg)]) (rest := [.int v]) ⟨hx, hb, hml, hown, hts⟩ (c_X6_advise l G e2) (cwV 2 hts gl_X6_advise rfl rfl rfl hdl_X6_advise ⟨Nat.le_of_ble_eq_true rfl, Nat.le_of_ble_eq_true rfl⟩) (m_preV (ci := 5) hK hM rfl (isO6 lm)) rfl rfl hl.1 rfl (lv_room (Nat.le_of_ble_eq_true rfl)) dL_law_815 ⟨by show cells + 0 + _ ≤ 600000; omega, by show slots + 0 + _ ≤ 7302250; omega⟩) hL (fun H locs hM hL => ?_)
  have hM : mP G (Wd b r S' O' μ') H := hM
  refine lv_icmp_eq (tgt := 1515) hx hb dL_law_818 (by decide) (fun _ => ?_) (fun q => absurd rfl q)
  exact K _ _ _ _ _ _ _ R' hM hL (by omega) (by omega)
set_option maxHeartbeats 4000000 in
theorem cs_turn {p : Program} {l : Launch} {e : Env} {s : State} {m : MethodId} {below : List Frame} {meth : Method} {c : Code} {bs L : Nat} {xs : Nat → Int32} {G : mG} {b r : Nat} {S : XS} {O : MS} {μ : mS} {H : Heap} {locs : List Loc} {cells slots : Nat} {Q : State → Prop} {ls : Array Slot} {x3 : Int32} (C : LCtx p s m meth c bs L xs G) (hl : lv_has ls 4 [(0, .ref bs), (1, .ref b), (2, .ref r), (3, .int x3)]) (h6 : hin6 x3 L) (R : Rlw b r S O μ) (hM : mP G (Wd b r S O μ) H) (hL : mL G locs) (hc : cells + 2 ≤ 600000) (hs : slots + 164 ≤ 7302250) (K : LNext p l e s m bs below meth c G b r ls cells slots Q) : W p l e room_1 s m #[Value.ref bs] below meth c H locs cells slots Q (F0 m 823 ls []) := by
  obtain ⟨hx, hb, hml, hown, hts, hX, hbl, hbA, hK⟩ := C.get
  obtain ⟨i1, i2, i3, i4, i5, i6⟩ := h6
  have lm := R.lm
  obtain ⟨v, e1, e2⟩ := (k_turn (xs (x3 + 1).toNatClampNeg) : CallR b r _ _) S O μ R
  have hS := C.S hM hL
  refine lv_aload_n hx hb dL_law_823 rfl (lv_at hl 1 rfl) ?_
  refine lv_aload_n hx hb dL_law_824 rfl (lv_at hl 0 rfl) ?_
  refine lv_iload_n hx hb dL_law_825 rfl (lv_at hl 3 rfl) ?_
  refine lv_iconst (v := 1) hx hb dL_law_826 (by decide) ?_
  refine lv_iadd hx hb dL_law_827 ?_
  refine va_sld hx hb hX hbl hbA hS i1 dL_law_828 ?_
  refine m_calli (va_runV (As := [.int (xs (x3 + 1).toNatClampNeg)]) (rest := []) ⟨hx, hb, hml, hown, hts⟩ (c_X5_turn l G e1) (cwV 1 hts gl_X5_turn rfl rfl rfl hdl_X5_turn ⟨Nat.le_of_ble_eq_true rfl, Nat.le_of_ble_eq_true rfl⟩) (m_preV (ci := 4) hK hM rfl isO5) rfl rfl hl.1 rfl (lv_room (Nat.le_of_ble_eq_true rfl)) dL_law_829 ⟨by show cells + _ ≤ 600000; omega, by show slots + _ ≤ 7302250; omega⟩) hL (fun H locs hM hL => ?_)
  have hM : mP G (Wd b r S O μ) H := hM
  have hS := C.S hM hL
  refine lv_aload_n hx hb dL_law_832 rfl (lv_at hl 2 rfl) ?_
  refine lv_aload_n hx hb dL_law_833 rfl (lv_at hl 0 rfl) ?_
  refine lv_iload_n hx hb dL_law_834 rfl (lv_at hl 3 rfl) ?_
  refine lv_iconst (v := 1) hx hb dL_law_835 (by decide) ?_
  refine lv_iadd hx hb dL_law_836 ?_
  refine va_sld hx hb hX hbl hbA hS i1 dL_law_837 ?_
  refine m_calli (va_runV (As := [.int (xs (x3 + 1).toNatClampNeg)]) (rest := [.int v]) ⟨hx, hb, hml, hown, hts⟩ (c_X6_turn l G e2) (cwV 1 hts gl_X6_turn rfl rfl rfl hdl_X6_turn ⟨Nat.le_of_ble_eq_true rfl, Nat.le_of_ble_eq_true rfl⟩) (m_preV (ci := 5) hK hM rfl (isO6 lm)) rfl rfl hl.1 rfl (lv_room (Nat.le_of_ble_eq_true rfl)) dL_law_838 ⟨by show cells + 0 + _ ≤ 600000; omega, by show slots + 0 + _ ≤ 7302250; omega⟩) hL (fun H locs hM hL => ?_)
  have hM : mP G (Wd b r S O μ) H := hM
  refine lv_icmp_eq (tgt := 1515) hx hb dL_law_841 (by decide) (fun _ => ?_) (fun q => absurd rfl q)
  exact K _ _ _ _ _ _ _ R hM hL (by omega) (by omega)
set_option maxHeartbeats 4000000 in
theorem cs_gallant {p : Program} {l : Launch} {e : Env} {s : State} {m : MethodId} {below : List Frame} {meth : Method} {c : Code} {bs L : Nat} {xs : Nat → Int32} {G : mG} {b r : Nat} {S : XS} {O : MS} {μ : mS} {H : Heap} {locs : List Loc} {cells slots : Nat} {Q : State → Prop} {ls : Array Slot} {x3 : Int32} (C : LCtx p s m meth c bs L xs G) (hl : lv_has ls 4 [(0, .ref bs), (1, .ref b), (2, .ref r), (3, .int x3)]) (h6 : hin6 x3 L) (R : Rlw b r S O μ) (hM : mP G (Wd b r S O μ) H) (hL : mL G locs) (hc : cells + 2 ≤ 600000) (hs : slots + 164 ≤ 7302250) (K : LNext p l e s m bs below meth c G b r ls cells slots Q) : W p l e room_1 s m #[Value.ref bs] below meth c H locs cells slots Q (F0 m 846 ls []) := by
  obtain ⟨hx, hb, hml, hown, hts, hX, hbl, hbA, hK⟩ := C.get
  obtain ⟨i1, i2, i3, i4, i5, i6⟩ := h6
  have lm := R.lm
  obtain ⟨v, S', O', μ', e1, e2, R'⟩ := (k_gallant (xs (x3 + 1).toNatClampNeg) (xs (x3 + 2).toNatClampNeg) : Call b r _ _) S O μ R
  have hS := C.S hM hL
  refine lv_aload_n hx hb dL_law_846 rfl (lv_at hl 1 rfl) ?_
  refine lv_aload_n hx hb dL_law_847 rfl (lv_at hl 0 rfl) ?_
  refine lv_iload_n hx hb dL_law_848 rfl (lv_at hl 3 rfl) ?_
  refine lv_iconst (v := 1) hx hb dL_law_849 (by decide) ?_
  refine lv_iadd hx hb dL_law_850 ?_
  refine va_sld hx hb hX hbl hbA hS i1 dL_law_851 ?_
  refine lv_aload_n hx hb dL_law_852 rfl (lv_at hl 0 rfl) ?_
  refine lv_iload_n hx hb dL_law_853 rfl (lv_at hl 3 rfl) ?_
  refine lv_iconst (v := 2) hx hb dL_law_854 (by decide) ?_
  refine lv_iadd hx hb dL_law_855 ?_
  refine va_sld hx hb hX hbl hbA hS i2 dL_law_856 ?_
  refine m_calli (va_runV (As := [.int (xs (x3 + 1).toNatClampNeg), .int (xs (x3 + 2).toNatClampNeg)]) (rest := []) ⟨hx, hb, hml, hown, hts⟩ (c_X5_gallant l G e1) (cwV 2 hts gl_X5_gallant rfl rfl rfl hdl_X5_gallant ⟨Nat.le_of_ble_eq_true rfl, Nat.le_of_ble_eq_true rfl⟩) (m_preV (ci := 4) hK hM rfl isO5) rfl rfl hl.1 rfl (lv_room (Nat.le_of_ble_eq_true rfl)) dL_law_857 ⟨by show cells + _ ≤ 600000; omega, by show slots + _ ≤ 7302250; omega⟩) hL (fun H locs hM hL => ?_)
  have hM : mP G (Wd b r S' O μ') H := hM
  have hS := C.S hM hL
  refine lv_aload_n hx hb dL_law_860 rfl (lv_at hl 2 rfl) ?_
  refine lv_aload_n hx hb dL_law_861 rfl (lv_at hl 0 rfl) ?_
  refine lv_iload_n hx hb dL_law_862 rfl (lv_at hl 3 rfl) ?_
  refine lv_iconst (v := 1) hx hb dL_law_863 (by decide) ?_
  refine lv_iadd hx hb dL_law_864 ?_
  refine va_sld hx hb hX hbl hbA hS i1 dL_law_865 ?_
  refine lv_aload_n hx hb dL_law_866 rfl (lv_at hl 0 rfl) ?_
  refine lv_iload_n hx hb dL_law_867 rfl (lv_at hl 3 rfl) ?_
  refine lv_iconst (v := 2) hx hb dL_law_868 (by decide) ?_
  refine lv_iadd hx hb dL_law_869 ?_
  refine va_sld hx hb hX hbl hbA hS i2 dL_law_870 ?_
  refine m_calli (va_runV (As := [.int (xs (x3 + 1).toNatClampNeg), .int (xs (x3 + 2).toNatClampNeg)]) (rest := [.int v]) ⟨hx, hb, hml, hown, hts⟩ (c_X6_gallant l G e2) (cwV 2 hts gl_X6_gallant rfl rfl rfl hdl_X6_gallant ⟨Nat.le_of_ble_eq_true rfl, Nat.le_of_ble_eq_true rfl⟩) (m_preV (ci := 5) hK hM rfl (isO6 lm)) rfl rfl hl.1 rfl (lv_room (Nat.le_of_ble_eq_true rfl)) dL_law_871 ⟨by show cells + 0 + _ ≤ 600000; omega, by show slots + 0 + _ ≤ 7302250; omega⟩) hL (fun H locs hM hL => ?_)
  have hM : mP G (Wd b r S' O' μ') H := hM
  refine lv_icmp_eq (tgt := 1515) hx hb dL_law_874 (by decide) (fun _ => ?_) (fun q => absurd rfl q)
  exact K _ _ _ _ _ _ _ R' hM hL (by omega) (by omega)
set_option maxHeartbeats 4000000 in
theorem cs_cast {p : Program} {l : Launch} {e : Env} {s : State} {m : MethodId} {below : List Frame} {meth : Method} {c : Code} {bs L : Nat} {xs : Nat → Int32} {G : mG} {b r : Nat} {S : XS} {O : MS} {μ : mS} {H : Heap} {locs : List Loc} {cells slots : Nat} {Q : State → Prop} {ls : Array Slot} {x3 : Int32} (C : LCtx p s m meth c bs L xs G) (hl : lv_has ls 4 [(0, .ref bs), (1, .ref b), (2, .ref r), (3, .int x3)]) (h6 : hin6 x3 L) (R : Rlw b r S O μ) (hM : mP G (Wd b r S O μ) H) (hL : mL G locs) (hc : cells + 2 ≤ 600000) (hs : slots + 164 ≤ 7302250) (K : LNext p l e s m bs below meth c G b r ls cells slots Q) : W p l e room_1 s m #[Value.ref bs] below meth c H locs cells slots Q (F0 m 879 ls []) := by
  obtain ⟨hx, hb, hml, hown, hts, hX, hbl, hbA, hK⟩ := C.get
  obtain ⟨i1, i2, i3, i4, i5, i6⟩ := h6
  have lm := R.lm
  obtain ⟨v, S', O', μ', e1, e2, R'⟩ := (k_cast (xs (x3 + 1).toNatClampNeg) (xs (x3 + 2).toNatClampNeg) : Call b r _ _) S O μ R
  have hS := C.S hM hL
  refine lv_aload_n hx hb dL_law_879 rfl (lv_at hl 1 rfl) ?_
  refine lv_aload_n hx hb dL_law_880 rfl (lv_at hl 0 rfl) ?_
  refine lv_iload_n hx hb dL_law_881 rfl (lv_at hl 3 rfl) ?_
  refine lv_iconst (v := 1) hx hb dL_law_882 (by decide) ?_
  refine lv_iadd hx hb dL_law_883 ?_
  refine va_sld hx hb hX hbl hbA hS i1 dL_law_884 ?_
  refine lv_aload_n hx hb dL_law_885 rfl (lv_at hl 0 rfl) ?_
  refine lv_iload_n hx hb dL_law_886 rfl (lv_at hl 3 rfl) ?_
  refine lv_iconst (v := 2) hx hb dL_law_887 (by decide) ?_
  refine lv_iadd hx hb dL_law_888 ?_
  refine va_sld hx hb hX hbl hbA hS i2 dL_law_889 ?_
  refine m_calli (va_runV (As := [.int (xs (x3 + 1).toNatClampNeg), .int (xs (x3 + 2).toNatClampNeg)]) (rest := []) ⟨hx, hb, hml, hown, hts⟩ (c_X5_cast l G e1) (cwV 2 hts gl_X5_cast rfl rfl rfl hdl_X5_cast ⟨Nat.le_of_ble_eq_true rfl, Nat.le_of_ble_eq_true rfl⟩) (m_preV (ci := 4) hK hM rfl isO5) rfl rfl hl.1 rfl (lv_room (Nat.le_of_ble_eq_true rfl)) dL_law_890 ⟨by show cells + _ ≤ 600000; omega, by show slots + _ ≤ 7302250; omega⟩) hL (fun H locs hM hL => ?_)
  have hM : mP G (Wd b r S' O μ') H := hM
  have hS := C.S hM hL
  refine lv_aload_n hx hb dL_law_893 rfl (lv_at hl 2 rfl) ?_
  refine lv_aload_n hx hb dL_law_894 rfl (lv_at hl 0 rfl) ?_
  refine lv_iload_n hx hb dL_law_895 rfl (lv_at hl 3 rfl) ?_
  refine lv_iconst (v := 1) hx hb dL_law_896 (by decide) ?_
  refine lv_iadd hx hb dL_law_897 ?_
  refine va_sld hx hb hX hbl hbA hS i1 dL_law_898 ?_
  refine lv_aload_n hx hb dL_law_899 rfl (lv_at hl 0 rfl) ?_
  refine lv_iload_n hx hb dL_law_900 rfl (lv_at hl 3 rfl) ?_
  refine lv_iconst (v := 2) hx hb dL_law_901 (by decide) ?_
  refine lv_iadd hx hb dL_law_902 ?_
  refine va_sld hx hb hX hbl hbA hS i2 dL_law_903 ?_
  refine m_calli (va_runV (As := [.int (xs (x3 + 1).toNatClampNeg), .int (xs (x3 + 2).toNatClampNeg)]) (rest := [.int v]) ⟨hx, hb, hml, hown, hts⟩ (c_X6_cast l G e2) (cwV 2 hts gl_X6_cast rfl rfl rfl hdl_X6_cast ⟨Nat.le_of_ble_eq_true rfl, Nat.le_of_ble_eq_true rfl⟩) (m_preV (ci := 5) hK hM rfl (isO6 lm)) rfl rfl hl.1 rfl (lv_room (Nat.le_of_ble_eq_true rfl)) dL_law_904 ⟨by show cells + 0 + _ ≤ 600000; omega, by show slots + 0 + _ ≤ 7302250; omega⟩) hL (fun H locs hM hL => ?_)
  have hM : mP G (Wd b r S' O' μ') H := hM
  refine lv_icmp_eq (tgt := 1515) hx hb dL_law_907 (by decide) (fun _ => ?_) (fun q => absurd rfl q)
  exact K _ _ _ _ _ _ _ R' hM hL (by omega) (by omega)
set_option maxHeartbeats 4000000 in
theorem cs_mean {p : Program} {l : Launch} {e : Env} {s : State} {m : MethodId} {below : List Frame} {meth : Method} {c : Code} {bs L : Nat} {xs : Nat → Int32} {G : mG} {b r : Nat} {S : XS} {O : MS} {μ : mS} {H : Heap} {locs : List Loc} {cells slots : Nat} {Q : State → Prop} {ls : Array Slot} {x3 : Int32} (C : LCtx p s m meth c bs L xs G) (hl : lv_has ls 4 [(0, .ref bs), (1, .ref b), (2, .ref r), (3, .int x3)]) (h6 : hin6 x3 L) (R : Rlw b r S O μ) (hM : mP G (Wd b r S O μ) H) (hL : mL G locs) (hc : cells + 2 ≤ 600000) (hs : slots + 164 ≤ 7302250) (K : LNext p l e s m bs below meth c G b r ls cells slots Q) : W p l e room_1 s m #[Value.ref bs] below meth c H locs cells slots Q (F0 m 912 ls []) := by
  obtain ⟨hx, hb, hml, hown, hts, hX, hbl, hbA, hK⟩ := C.get
  obtain ⟨i1, i2, i3, i4, i5, i6⟩ := h6
  have lm := R.lm
  obtain ⟨v, e1, e2⟩ := (k_mean (xs (x3 + 1).toNatClampNeg) : CallR b r _ _) S O μ R
  have hS := C.S hM hL
  refine lv_aload_n hx hb dL_law_912 rfl (lv_at hl 1 rfl) ?_
  refine lv_aload_n hx hb dL_law_913 rfl (lv_at hl 0 rfl) ?_
  refine lv_iload_n hx hb dL_law_914 rfl (lv_at hl 3 rfl) ?_
  refine lv_iconst (v := 1) hx hb dL_law_915 (by decide) ?_
  refine lv_iadd hx hb dL_law_916 ?_
  refine va_sld hx hb hX hbl hbA hS i1 dL_law_917 ?_
  refine m_calll (va_runV (As := [.int (xs (x3 + 1).toNatClampNeg)]) (rest := []) ⟨hx, hb, hml, hown, hts⟩ (c_X5_mean l G e1) (cwV 1 hts gl_X5_mean rfl rfl rfl hdl_X5_mean ⟨Nat.le_of_ble_eq_true rfl, Nat.le_of_ble_eq_true rfl⟩) (m_preV (ci := 4) hK hM rfl isO5) rfl rfl hl.1 rfl (lv_room (Nat.le_of_ble_eq_true rfl)) dL_law_918 ⟨by show cells + _ ≤ 600000; omega, by show slots + _ ≤ 7302250; omega⟩) hL (fun H locs hM hL => ?_)
  have hM : mP G (Wd b r S O μ) H := hM
  have hS := C.S hM hL
  refine lv_aload_n hx hb dL_law_921 rfl (lv_at hl 2 rfl) ?_
  refine lv_aload_n hx hb dL_law_922 rfl (lv_at hl 0 rfl) ?_
  refine lv_iload_n hx hb dL_law_923 rfl (lv_at hl 3 rfl) ?_
  refine lv_iconst (v := 1) hx hb dL_law_924 (by decide) ?_
  refine lv_iadd hx hb dL_law_925 ?_
  refine va_sld hx hb hX hbl hbA hS i1 dL_law_926 ?_
  refine m_calll (va_runV (As := [.int (xs (x3 + 1).toNatClampNeg)]) (rest := [.long v]) ⟨hx, hb, hml, hown, hts⟩ (c_X6_mean l G e2) (cwV 1 hts gl_X6_mean rfl rfl rfl hdl_X6_mean ⟨Nat.le_of_ble_eq_true rfl, Nat.le_of_ble_eq_true rfl⟩) (m_preV (ci := 5) hK hM rfl (isO6 lm)) rfl rfl hl.1 rfl (lv_room (Nat.le_of_ble_eq_true rfl)) dL_law_927 ⟨by show cells + 0 + _ ≤ 600000; omega, by show slots + 0 + _ ≤ 7302250; omega⟩) hL (fun H locs hM hL => ?_)
  have hM : mP G (Wd b r S O μ) H := hM
  refine W.lcmp hx hb dL_law_930 ?_
  refine lv_if_eq (tgt := 1515) hx hb dL_law_931 (by decide) (fun _ => ?_) (fun q => absurd (lg_cmp_self v) q)
  exact K _ _ _ _ _ _ _ R hM hL (by omega) (by omega)
set_option maxHeartbeats 4000000 in
theorem cs_judge {p : Program} {l : Launch} {e : Env} {s : State} {m : MethodId} {below : List Frame} {meth : Method} {c : Code} {bs L : Nat} {xs : Nat → Int32} {G : mG} {b r : Nat} {S : XS} {O : MS} {μ : mS} {H : Heap} {locs : List Loc} {cells slots : Nat} {Q : State → Prop} {ls : Array Slot} {x3 : Int32} (C : LCtx p s m meth c bs L xs G) (hl : lv_has ls 4 [(0, .ref bs), (1, .ref b), (2, .ref r), (3, .int x3)]) (h6 : hin6 x3 L) (R : Rlw b r S O μ) (hM : mP G (Wd b r S O μ) H) (hL : mL G locs) (hc : cells + 2 ≤ 600000) (hs : slots + 164 ≤ 7302250) (K : LNext p l e s m bs below meth c G b r ls cells slots Q) : W p l e room_1 s m #[Value.ref bs] below meth c H locs cells slots Q (F0 m 936 ls []) := by
  obtain ⟨hx, hb, hml, hown, hts, hX, hbl, hbA, hK⟩ := C.get
  obtain ⟨i1, i2, i3, i4, i5, i6⟩ := h6
  have lm := R.lm
  obtain ⟨v, S', O', μ', e1, e2, R'⟩ := (k_judge (xs (x3 + 1).toNatClampNeg) : Call b r _ _) S O μ R
  have hS := C.S hM hL
  refine lv_aload_n hx hb dL_law_936 rfl (lv_at hl 1 rfl) ?_
  refine lv_aload_n hx hb dL_law_937 rfl (lv_at hl 0 rfl) ?_
  refine lv_iload_n hx hb dL_law_938 rfl (lv_at hl 3 rfl) ?_
  refine lv_iconst (v := 1) hx hb dL_law_939 (by decide) ?_
  refine lv_iadd hx hb dL_law_940 ?_
  refine va_sld hx hb hX hbl hbA hS i1 dL_law_941 ?_
  refine m_calli (va_runV (As := [.int (xs (x3 + 1).toNatClampNeg)]) (rest := []) ⟨hx, hb, hml, hown, hts⟩ (c_X5_judge l G e1) (cwV 1 hts gl_X5_judge rfl rfl rfl hdl_X5_judge ⟨Nat.le_of_ble_eq_true rfl, Nat.le_of_ble_eq_true rfl⟩) (m_preV (ci := 4) hK hM rfl isO5) rfl rfl hl.1 rfl (lv_room (Nat.le_of_ble_eq_true rfl)) dL_law_942 ⟨by show cells + _ ≤ 600000; omega, by show slots + _ ≤ 7302250; omega⟩) hL (fun H locs hM hL => ?_)
  have hM : mP G (Wd b r S' O μ') H := hM
  have hS := C.S hM hL
  refine lv_aload_n hx hb dL_law_945 rfl (lv_at hl 2 rfl) ?_
  refine lv_aload_n hx hb dL_law_946 rfl (lv_at hl 0 rfl) ?_
  refine lv_iload_n hx hb dL_law_947 rfl (lv_at hl 3 rfl) ?_
  refine lv_iconst (v := 1) hx hb dL_law_948 (by decide) ?_
  refine lv_iadd hx hb dL_law_949 ?_
  refine va_sld hx hb hX hbl hbA hS i1 dL_law_950 ?_
  refine m_calli (va_runV (As := [.int (xs (x3 + 1).toNatClampNeg)]) (rest := [.int v]) ⟨hx, hb, hml, hown, hts⟩ (c_X6_judge l G e2) (cwV 1 hts gl_X6_judge rfl rfl rfl hdl_X6_judge ⟨Nat.le_of_ble_eq_true rfl, Nat.le_of_ble_eq_true rfl⟩) (m_preV (ci := 5) hK hM rfl (isO6 lm)) rfl rfl hl.1 rfl (lv_room (Nat.le_of_ble_eq_true rfl)) dL_law_951 ⟨by show cells + 0 + _ ≤ 600000; omega, by show slots + 0 + _ ≤ 7302250; omega⟩) hL (fun H locs hM hL => ?_)
  have hM : mP G (Wd b r S' O' μ') H := hM
  refine lv_icmp_eq (tgt := 1515) hx hb dL_law_954 (by decide) (fun _ => ?_) (fun q => absurd rfl q)
  exact K _ _ _ _ _ _ _ R' hM hL (by omega) (by omega)
