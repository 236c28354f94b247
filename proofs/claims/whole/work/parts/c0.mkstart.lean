/-! THE LAW'S START: the machine's tables and constants, as the contracts want them. -/
def df_X5f : Nat := 11
theorem hfs_X5 : ∀ j, j < 11 → defaultValue (tyX5 j) = vp_V df_X5 j := (lt_s (lt_s (lt_s (lt_s (lt_s (lt_s (lt_s (lt_s (lt_s (lt_s (lt_s lt_0 rfl) rfl) rfl) rfl) rfl) rfl) rfl) rfl) rfl) rfl) rfl)
theorem hfs_X6 : ∀ j, j < 38 → defaultValue (tyX6 j) = vp_V df_X6 j := (lt_s (lt_s (lt_s (lt_s (lt_s (lt_s (lt_s (lt_s (lt_s (lt_s (lt_s (lt_s (lt_s (lt_s (lt_s (lt_s (lt_s (lt_s (lt_s (lt_s (lt_s (lt_s (lt_s (lt_s (lt_s (lt_s (lt_s (lt_s (lt_s (lt_s (lt_s (lt_s (lt_s (lt_s (lt_s (lt_s (lt_s (lt_s lt_0 rfl) rfl) rfl) rfl) rfl) rfl) rfl) rfl) rfl) rfl) rfl) rfl) rfl) rfl) rfl) rfl) rfl) rfl) rfl) rfl) rfl) rfl) rfl) rfl) rfl) rfl) rfl) rfl) rfl) rfl) rfl) rfl) rfl) rfl) rfl) rfl) rfl) rfl)
def tmS (i : Nat) : Term := if i = 0 then Term.string RX4 98 else Term.string RX4 110
def gvL : List Cond := flatC (Cond.and given_1 narrow_1)
theorem gv_i (k : Nat) {w : Cond} (h : gvL[k]? = some w) : w ∈ flatC (Cond.and given_1 narrow_1) := List.mem_of_getElem? h
theorem mTb_0 : mTb 0 = [40, 41, 59, 43, 45, 42, 60, 61] := by decide +kernel
theorem mTb_1 : mTb 1 = [108, 111, 111, 107, 115, 32, 119, 97, 105, 116, 115, 32, 100, 114, 111, 112, 115, 32, 97, 110, 100, 32, 111, 114, 32, 110, 111, 116, 32, 102, 97, 99, 101, 32, 107, 110, 111, 119, 110, 32, 104, 111, 117, 114, 32, 108, 121, 105, 110, 103, 32, 97, 100, 109, 105, 116, 116, 101, 100, 32, 109, 111, 114, 101, 32] := by decide +kernel
set_option maxRecDepth 20000 in
set_option maxHeartbeats 4000000 in
theorem gv_e0 : ∀ j, j < 8 → Cond.eq (.elem (.field (Term.string RX4 98) "java/lang/String" "value" "[B") (.int (Int32.ofNat j))) (.int (([40, 41, 59, 43, 45, 42, 60, 61] : List Int32).getD j 0)) ∈ gvL := (lt_s (lt_s (lt_s (lt_s (lt_s (lt_s (lt_s (lt_s lt_0 (List.mem_of_getElem? (i := 100) rfl)) (List.mem_of_getElem? (i := 101) rfl)) (List.mem_of_getElem? (i := 102) rfl)) (List.mem_of_getElem? (i := 103) rfl)) (List.mem_of_getElem? (i := 104) rfl)) (List.mem_of_getElem? (i := 105) rfl)) (List.mem_of_getElem? (i := 106) rfl)) (List.mem_of_getElem? (i := 107) rfl))
set_option maxRecDepth 20000 in
set_option maxHeartbeats 4000000 in
theorem gv_e1 : ∀ j, j < 65 → Cond.eq (.elem (.field (Term.string RX4 110) "java/lang/String" "value" "[B") (.int (Int32.ofNat j))) (.int (([108, 111, 111, 107, 115, 32, 119, 97, 105, 116, 115, 32, 100, 114, 111, 112, 115, 32, 97, 110, 100, 32, 111, 114, 32, 110, 111, 116, 32, 102, 97, 99, 101, 32, 107, 110, 111, 119, 110, 32, 104, 111, 117, 114, 32, 108, 121, 105, 110, 103, 32, 97, 100, 109, 105, 116, 116, 101, 100, 32, 109, 111, 114, 101, 32] : List Int32).getD j 0)) ∈ gvL := (lt_s (lt_s (lt_s (lt_s (lt_s (lt_s (lt_s (lt_s (lt_s (lt_s (lt_s (lt_s (lt_s (lt_s (lt_s (lt_s (lt_s (lt_s (lt_s (lt_s (lt_s (lt_s (lt_s (lt_s (lt_s (lt_s (lt_s (lt_s (lt_s (lt_s (lt_s (lt_s (lt_s (lt_s (lt_s (lt_s (lt_s (lt_s (lt_s (lt_s (lt_s (lt_s (lt_s (lt_s (lt_s (lt_s (lt_s (lt_s (lt_s (lt_s (lt_s (lt_s (lt_s (lt_s (lt_s (lt_s (lt_s (lt_s (lt_s (lt_s (lt_s (lt_s (lt_s (lt_s (lt_s lt_0 (List.mem_of_getElem? (i := 31) rfl)) (List.mem_of_getElem? (i := 32) rfl)) (List.mem_of_getElem? (i := 33) rfl)) (List.mem_of_getElem? (i := 34) rfl)) (List.mem_of_getElem? (i := 35) rfl)) (List.mem_of_getElem? (i := 36) rfl)) (List.mem_of_getElem? (i := 37) rfl)) (List.mem_of_getElem? (i := 38) rfl)) (List.mem_of_getElem? (i := 39) rfl)) (List.mem_of_getElem? (i := 40) rfl)) (List.mem_of_getElem? (i := 41) rfl)) (List.mem_of_getElem? (i := 42) rfl)) (List.mem_of_getElem? (i := 43) rfl)) (List.mem_of_getElem? (i := 44) rfl)) (List.mem_of_getElem? (i := 45) rfl)) (List.mem_of_getElem? (i := 46) rfl)) (List.mem_of_getElem? (i := 47) rfl)) (List.mem_of_getElem? (i := 48) rfl)) (List.mem_of_getElem? (i := 49) rfl)) (List.mem_of_getElem? (i := 50) rfl)) (List.mem_of_getElem? (i := 51) rfl)) (List.mem_of_getElem? (i := 52) rfl)) (List.mem_of_getElem? (i := 53) rfl)) (List.mem_of_getElem? (i := 54) rfl)) (List.mem_of_getElem? (i := 55) rfl)) (List.mem_of_getElem? (i := 56) rfl)) (List.mem_of_getElem? (i := 57) rfl)) (List.mem_of_getElem? (i := 58) rfl)) (List.mem_of_getElem? (i := 59) rfl)) (List.mem_of_getElem? (i := 60) rfl)) (List.mem_of_getElem? (i := 61) rfl)) (List.mem_of_getElem? (i := 62) rfl)) (List.mem_of_getElem? (i := 63) rfl)) (List.mem_of_getElem? (i := 64) rfl)) (List.mem_of_getElem? (i := 65) rfl)) (List.mem_of_getElem? (i := 66) rfl)) (List.mem_of_getElem? (i := 67) rfl)) (List.mem_of_getElem? (i := 68) rfl)) (List.mem_of_getElem? (i := 69) rfl)) (List.mem_of_getElem? (i := 70) rfl)) (List.mem_of_getElem? (i := 71) rfl)) (List.mem_of_getElem? (i := 72) rfl)) (List.mem_of_getElem? (i := 73) rfl)) (List.mem_of_getElem? (i := 74) rfl)) (List.mem_of_getElem? (i := 75) rfl)) (List.mem_of_getElem? (i := 76) rfl)) (List.mem_of_getElem? (i := 77) rfl)) (List.mem_of_getElem? (i := 78) rfl)) (List.mem_of_getElem? (i := 79) rfl)) (List.mem_of_getElem? (i := 80) rfl)) (List.mem_of_getElem? (i := 81) rfl)) (List.mem_of_getElem? (i := 82) rfl)) (List.mem_of_getElem? (i := 83) rfl)) (List.mem_of_getElem? (i := 84) rfl)) (List.mem_of_getElem? (i := 85) rfl)) (List.mem_of_getElem? (i := 86) rfl)) (List.mem_of_getElem? (i := 87) rfl)) (List.mem_of_getElem? (i := 88) rfl)) (List.mem_of_getElem? (i := 89) rfl)) (List.mem_of_getElem? (i := 90) rfl)) (List.mem_of_getElem? (i := 91) rfl)) (List.mem_of_getElem? (i := 92) rfl)) (List.mem_of_getElem? (i := 93) rfl)) (List.mem_of_getElem? (i := 94) rfl)) (List.mem_of_getElem? (i := 95) rfl))
theorem gv_4 : Cond.eq (Term.static "java/lang/String" "COMPACT_STRINGS" "Z") (Term.int 1) ∈ gvL := List.mem_of_getElem? (i := 4) rfl
theorem gv_5 : Cond.isRef (Term.static "jdk/internal/util/Preconditions" "SIOOBE_FORMATTER" "Ljava/util/function/BiFunction;") ∈ gvL := List.mem_of_getElem? (i := 5) rfl
theorem gv_27 : Cond.exactly (Term.string RX4 110) "java/lang/String" ∈ gvL := List.mem_of_getElem? (i := 27) rfl
theorem gv_28 : Cond.eq (.field (Term.string RX4 110) "java/lang/String" "coder" "B") (.int 0) ∈ gvL := List.mem_of_getElem? (i := 28) rfl
theorem gv_29 : Cond.arrayOf (.field (Term.string RX4 110) "java/lang/String" "value" "[B") .byte ∈ gvL := List.mem_of_getElem? (i := 29) rfl
theorem gv_30 : Cond.eq (.length (.field (Term.string RX4 110) "java/lang/String" "value" "[B")) (.int 65) ∈ gvL := List.mem_of_getElem? (i := 30) rfl
theorem gv_96 : Cond.exactly (Term.string RX4 98) "java/lang/String" ∈ gvL := List.mem_of_getElem? (i := 96) rfl
theorem gv_97 : Cond.eq (.field (Term.string RX4 98) "java/lang/String" "coder" "B") (.int 0) ∈ gvL := List.mem_of_getElem? (i := 97) rfl
theorem gv_98 : Cond.arrayOf (.field (Term.string RX4 98) "java/lang/String" "value" "[B") .byte ∈ gvL := List.mem_of_getElem? (i := 98) rfl
theorem gv_99 : Cond.eq (.length (.field (Term.string RX4 98) "java/lang/String" "value" "[B")) (.int 8) ∈ gvL := List.mem_of_getElem? (i := 99) rfl
theorem gv_108 : Cond.not (Cond.eq (Term.string RX4 110) (Term.string RX4 98)) ∈ gvL := List.mem_of_getElem? (i := 108) rfl
theorem int_arr {s : State} {args : Array Value} (h : (Cond.arrayClass .int).before args s = true) : ∃ cA, ArrOfT s cA .int ∧ va_RA s cA .int := by
  obtain ⟨cA, kA, comp, h1, h2, h3⟩ := Cond.arrayClass_spec (args := args) (first := s) (o := none) (s := s) (idx := []) h
  exact ⟨cA, fun n z => ⟨fun k h => (by cases h), kA, h2, comp, h3⟩, h1⟩
theorem ref_arr {s : State} {args : Array Value} {C : String} (h : (Cond.arrayOver (.object C)).before args s = true) : ∃ cA, ArrOfT s cA (.object C) ∧ va_RA s cA (.object C) := by
  obtain ⟨comp, c, k, f1, f2, f3, f4, f5⟩ := Cond.arrayOver_spec (args := args) (first := s) (o := none) (s := s) (idx := []) h
  exact ⟨c, fun n z => ⟨fun k h => (by cases h), k, f3, comp, f4⟩, k, comp, f3, f4, f1, f5⟩
theorem mK_start {s : State} {args : Array Value} (hts : ∀ w ∈ lw_tbl, w.before args s = true) (hgv : (Cond.and given_1 narrow_1).before args s = true) : ∃ G : mG, G.2.2.1 = s.heap.size ∧ G.2.2.2.1 = s.heap ∧ mK G s := by
  have hs : ∀ w ∈ gvL, w.before args s = true := flat_of_before _ hgv
  obtain ⟨c0, i0, k0⟩ := u_known (C := RX0) (T := TX0) (N := 15) (n := 15) hts inX0 (hts _ xw_10)
  obtain ⟨c1, i1, k1⟩ := u_known (C := RX2) (T := TX2) (N := 4) (n := 4) hts inX2 (hts _ xw_11)
  obtain ⟨c2, i2, k2⟩ := u_known (C := RX3) (T := TX3) (N := 3) (n := 3) hts inX3 (hts _ xw_12)
  obtain ⟨c3, i3, k3⟩ := u_known (C := RX4) (T := TX4) (N := 9) (n := 9) hts inX4 (hts _ xw_13)
  obtain ⟨c4, i4, k4⟩ := u_known (C := RX5) (T := TX5) (N := 11) (n := 11) hts inX5 (hts _ xw_1)
  obtain ⟨c5, i5, k5⟩ := u_known (C := RX6) (T := TX6) (N := 38) (n := 38) hts inX6 (hts _ xw_4)
  obtain ⟨a0, b0⟩ := int_arr (hts _ xw_14)
  obtain ⟨a1, b1⟩ := ref_arr (hts _ xw_15)
  obtain ⟨a2, b2⟩ := ref_arr (hts _ xw_16)
  obtain ⟨a3, b3⟩ := ref_arr (hts _ xw_17)
  obtain ⟨v, hv, hvr⟩ := Cond.isRef_spec (args := args) (first := s) (o := none) (s := s) (idx := []) (hs _ gv_5)
  obtain ⟨fo, rfl⟩ : ∃ fo, v = va_rf fo := by
    cases v with
    | ref a => exact ⟨some a, rfl⟩
    | null => exact ⟨none, rfl⟩
    | _ => cases hvr
  have hA : ∀ a : Nat, a < s.heap.size → ¬ (fun q : Nat => s.heap.size ≤ q) a := fun a h => Nat.not_le.mpr h
  obtain ⟨adK, adV, hS, hT⟩ := vk_Sof (args := args) (s := s) (N := 2) (tm := tmS) (len := [8, 65]) (byt := [mTb 0, mTb 1]) (A := fun q : Nat => s.heap.size ≤ q)
    (fun i hi => by
      match i, hi with
      | 0, _ => decide
      | 1, _ => decide)
    (fun i hi => by
      match i, hi with
      | 0, _ => exact hs _ gv_96
      | 1, _ => exact hs _ gv_27)
    (fun i hi => by
      match i, hi with
      | 0, _ => exact hs _ gv_97
      | 1, _ => exact hs _ gv_28)
    (fun i hi => by
      match i, hi with
      | 0, _ => exact hs _ gv_98
      | 1, _ => exact hs _ gv_29)
    (fun i hi => by
      match i, hi with
      | 0, _ => exact hs _ gv_99
      | 1, _ => exact hs _ gv_30)
    (fun i hi j hj => by
      rw [mTb_0, mTb_1]
      match i, hi with
      | 0, _ => exact hs _ (gv_e0 j hj)
      | 1, _ => exact hs _ (gv_e1 j hj))
    (fun i j hi hj hn => by
      match i, j, hi, hj, hn with
      | 0, 1, _, _, _ => exact Or.inr (hs _ gv_108)
      | 1, 0, _, _, _ => exact Or.inl (hs _ gv_108)
      | 0, 0, _, _, hn => exact absurd rfl hn
      | 1, 1, _, _, hn => exact absurd rfl hn) hA
  refine ⟨((fun k => ([c0, c1, c2, c3, c4] : List ClassId).getD k c5, fun k => ([i0, i1, i2, i3, i4] : List (Nat → Nat)).getD k i5), fun k => ([a0, a1, a2] : List ClassId).getD k a3, s.heap.size, s.heap, adK, adV, fo), rfl, rfl, ⟨fun k q hq => ?_, fun k q hq => ?_⟩, fun w hw => ?_, fun C hC => ?_, va_Nw.of rfl (hts _ xw_18), vk_R.of (hts _ xw_23) (hT 0 (by decide)), vk_R.of (hts _ xw_24) (hT 1 (by decide)), hS, va_Zof (hts _ xw_19) (hts _ xw_21) (va_eqi (hs _ gv_4)) hA, va_Zof (hts _ xw_20) (hts _ xw_22) hv hA⟩
  · match k, hq with
    | 0, hq => cases hq; exact k0
    | 1, hq => cases hq; exact k1
    | 2, hq => cases hq; exact k2
    | 3, hq => cases hq; exact k3
    | 4, hq => cases hq; exact k4
    | 5, hq => cases hq; exact k5
    | k + 6, hq => simp [vwCl] at hq
  · match k, hq with
    | 0, hq => cases hq; exact b0
    | 1, hq => cases hq; exact b1
    | 2, hq => cases hq; exact b2
    | 3, hq => cases hq; exact b3
    | k + 4, hq => simp [mTy] at hq
  · rcases mNest_k w hw with ⟨_, _, _, _, _, _, rfl⟩ | ⟨_, _, _, _, rfl⟩
    · exact va_Nw.of rfl (hts _ (in_mNest _ hw))
    · exact va_Nw.of rfl (hts _ (in_mNest _ hw))
  · simp only [mAO, List.mem_cons, List.not_mem_nil, or_false] at hC
    rcases hC with rfl | rfl | rfl
    · exact va_AO.of (hts _ xw_15)
    · exact va_AO.of (hts _ xw_16)
    · exact va_AO.of (hts _ xw_17)
