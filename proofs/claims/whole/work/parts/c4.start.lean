theorem hdl_init5 : yX5_init.cls ≠ "java/lang/invoke/MethodHandle" ∧ yX5_init.cls ≠ "java/lang/invoke/VarHandle" ∧ (parseMethodDescriptor yX5_init.desc).map (fun d => d.parameters.length) = some 0 := by decide +kernel
theorem hdl_init6 : yX6_init.cls ≠ "java/lang/invoke/MethodHandle" ∧ yX6_init.cls ≠ "java/lang/invoke/VarHandle" ∧ (parseMethodDescriptor yX6_init.desc).map (fun d => d.parameters.length) = some 0 := by decide +kernel
set_option maxHeartbeats 4000000 in
/-- THE LAW, from its entry -/
theorem whole_start {p : Program} {e : Env} {s : State} {m : MethodId} {below : List Frame} {meth : Method} {c : Code} (l : Launch) (hflags : l.flags = flags0) {b L : Nat} {xs : Nat → Int32} (hL : L ≤ 3584) (C0 : lw_At p s m meth c b L xs) : W p l e room_1 s m #[Value.ref b] below meth c s.heap [] 0 0 (lw_Z below #[Value.ref b] s) (entryFrame m ([Value.ref b] : List Value).toArray 4) := by
  have C1 := C0
  obtain ⟨hx, hb, hr, hml, hown, hts, hX, hbl, hlocks, hgv⟩ := C0
  have hown : s.vm.findClass RL = some m.cls := hown
  obtain ⟨G, g1, g2, hK⟩ := mK_start hts hgv
  have C : LCtx p s m meth c b L xs G := ⟨C1, g1, g2, hK⟩
  have hl := lv_entry ([.ref b]) (n := 4) (Nat.le_of_ble_eq_true rfl)
  rw [lg_entry_eq]
  generalize (lg_sl ([.ref b]) ++ List.replicate (4 - (lg_sl ([.ref b])).length) Slot.unset).toArray = ls at hl ⊢
  have hl : lv_has ls 4 [(0, .ref b)] := hl
  obtain ⟨σ, hσ⟩ : ∃ σ : mS, σ = (s.heap.size, fun _ => none) := ⟨_, rfl⟩
  have hσ1 : σ.1 = s.heap.size := by rw [hσ]
  have hM : mP G σ s.heap := ⟨hσ1.symm, by rw [g1, hσ1]; exact Nat.le_refl _, fun q _ => by rw [g2], fun a e h => by rw [hσ] at h; cases h⟩
  have hL0 : mL G [] := mL_nil G
  have hU5 : ∀ w ∈ wsX50, w.before #[Value.ref b] s = true := fun w h => hts w (inX5 w h)
  have hU6 : ∀ w ∈ wsX60, w.before #[Value.ref b] s = true := fun w h => hts w (inX6 w h)
  obtain ⟨S, O, μ, e1, e2, eμ, R⟩ := both_start σ.1 σ rfl
  refine m_new (ci := 4) hx hb hU5 tyX5 tyX5_ok hown (hts _ xw_0) (hts _ xw_1) (hts _ xw_2) hK hM rfl hfs_X5 (Nat.le_of_ble_eq_true rfl) (Nat.le_of_ble_eq_true rfl) dL_law_0 (fun H hM => ?_)
  refine lv_dup hx hb dL_law_3 rfl ?_
  refine m_callv (va_runI (As := []) (rest := [.ref σ.1]) ⟨hx, hb, hml, hown, hts⟩ (c_X5_init l G e1) (cwI 0 hts gl_X5_init rfl rfl rfl (hts _ xw_2) (hts _ xw_6) (hts _ xw_7) rfl hdl_init5 ⟨Nat.le_of_ble_eq_true rfl, Nat.le_of_ble_eq_true rfl⟩) (m_preS hK hM) rfl rfl hl.1 rfl (lv_room (Nat.le_of_ble_eq_true rfl)) dL_law_4 ⟨Nat.le_of_ble_eq_true rfl, Nat.le_of_ble_eq_true rfl⟩) hL0 (fun H locs hM hL2 => ?_)
  refine lv_astore_n (lv' := [(1, .ref σ.1), (0, .ref b)]) hx hb dL_law_7 rfl hl (by decide) rfl (fun ls hl => ?_)
  have hν1 : (memX σ.1 (xS0 σ.1) (σ.1 + 85, σ.2)).1 = σ.1 + 85 := rfl
  refine m_new (ci := 5) hx hb hU6 tyX6 tyX6_ok hown (hts _ xw_3) (hts _ xw_4) (hts _ xw_5) hK hM rfl hfs_X6 (Nat.le_of_ble_eq_true rfl) (Nat.le_of_ble_eq_true rfl) dL_law_8 (fun H hM => ?_)
  rw [hν1]
  refine lv_dup hx hb dL_law_11 rfl ?_
  refine m_callv (va_runI (As := []) (rest := [.ref (σ.1 + 85)]) ⟨hx, hb, hml, hown, hts⟩ (c_X6_init l G e2) (cwI 0 hts gl_X6_init rfl rfl rfl (hts _ xw_5) (hts _ xw_8) (hts _ xw_9) rfl hdl_init6 ⟨Nat.le_of_ble_eq_true rfl, Nat.le_of_ble_eq_true rfl⟩) (m_preS hK hM) rfl rfl hl.1 rfl (lv_room (Nat.le_of_ble_eq_true rfl)) dL_law_12 ⟨Nat.le_of_ble_eq_true rfl, Nat.le_of_ble_eq_true rfl⟩) hL2 (fun H locs hM hL3 => ?_)
  refine lv_astore_n (lv' := [(2, .ref (σ.1 + 85)), (1, .ref σ.1), (0, .ref b)]) hx hb dL_law_15 rfl hl (by decide) rfl (fun ls hl => ?_)
  refine lv_iconst (v := 0) hx hb dL_law_16 (by decide) ?_
  refine lv_istore_n (lv' := [(3, .int 0), (2, .ref (σ.1 + 85)), (1, .ref σ.1), (0, .ref b)]) hx hb dL_law_17 rfl hl (by decide) rfl (fun ls hl => ?_)
  exact law_loop C hL (L + 7) 0 S O μ H locs _ _ ls (by omega) (by omega) (lv_sub hl [3, 2, 1, 0] rfl) R hM hL3 (by decide) (by decide)
