/-! THE LAW'S LOOP. -/
set_option maxHeartbeats 4000000 in
set_option maxRecDepth 20000 in
theorem law_switch {p : Program} {l : Launch} {e : Env} {s : State} {m : MethodId} {below : List Frame} {meth : Method} {c : Code} {bs L : Nat} {xs : Nat → Int32} {G : mG} {b r : Nat} {S : XS} {O : MS} {μ : mS} {H : Heap} {locs : List Loc} {cells slots : Nat} {Q : State → Prop} {ls : Array Slot} {x3 : Int32} (C : LCtx p s m meth c bs L xs G) (hl : lv_has ls 4 [(0, .ref bs), (1, .ref b), (2, .ref r), (3, .int x3)]) (h6 : hin6 x3 L) (R : Rlw b r S O μ) (hM : mP G (Wd b r S O μ) H) (hL : mL G locs) (hc : cells + 2 ≤ 600000) (hs : slots + 164 ≤ 7302250) (K : LNext p l e s m bs below meth c G b r ls cells slots Q) (j : Nat) (hj : j < 64) : W p l e room_1 s m #[Value.ref bs] below meth c H locs cells slots Q (F0 m 33 ls [.int (nI j)]) := by
  obtain ⟨hx, hb, hml, hown, hts, hX, hbl, hbA, hK⟩ := C.get
  rcases Nat.lt_or_ge j 39 with q | q
  · have T : ∀ a, a < 39 → W p l e room_1 s m #[Value.ref bs] below meth c H locs cells slots Q (F0 m 33 ls [.int (nI a)]) := by
      refine lt_s (lt_s (lt_s (lt_s (lt_s (lt_s (lt_s (lt_s (lt_s (lt_s (lt_s (lt_s (lt_s (lt_s (lt_s (lt_s (lt_s (lt_s (lt_s (lt_s (lt_s (lt_s (lt_s (lt_s (lt_s (lt_s (lt_s (lt_s (lt_s (lt_s (lt_s (lt_s (lt_s (lt_s (lt_s (lt_s (lt_s (lt_s (lt_s lt_0 ?_) ?_) ?_) ?_) ?_) ?_) ?_) ?_) ?_) ?_) ?_) ?_) ?_) ?_) ?_) ?_) ?_) ?_) ?_) ?_) ?_) ?_) ?_) ?_) ?_) ?_) ?_) ?_) ?_) ?_) ?_) ?_) ?_) ?_) ?_) ?_) ?_) ?_) ?_
      · exact m_tin (k := 0) (tgt := 204) (off := 171) hx hb rfl dL_law_33 (by decide) (by decide) (by decide) (by decide) (cs_count C hl h6 R hM hL hc hs K)
      · exact m_tin (k := 1) (tgt := 227) (off := 194) hx hb rfl dL_law_33 (by decide) (by decide) (by decide) (by decide) (cs_court C hl h6 R hM hL hc hs K)
      · exact m_tin (k := 2) (tgt := 270) (off := 237) hx hb rfl dL_law_33 (by decide) (by decide) (by decide) (by decide) (cs_bench C hl h6 R hM hL hc hs K)
      · exact m_tin (k := 3) (tgt := 303) (off := 270) hx hb rfl dL_law_33 (by decide) (by decide) (by decide) (by decide) (cs_feed C hl h6 R hM hL hc hs K)
      · exact m_tin (k := 4) (tgt := 378) (off := 345) hx hb rfl dL_law_33 (by decide) (by decide) (by decide) (by decide) (cs_text C hl h6 R hM hL hc hs K)
      · exact m_tin (k := 5) (tgt := 391) (off := 358) hx hb rfl dL_law_33 (by decide) (by decide) (by decide) (by decide) (cs_force C hl h6 R hM hL hc hs K)
      · exact m_tin (k := 6) (tgt := 414) (off := 381) hx hb rfl dL_law_33 (by decide) (by decide) (by decide) (by decide) (cs_asks C hl h6 R hM hL hc hs K)
      · exact m_tin (k := 7) (tgt := 447) (off := 414) hx hb rfl dL_law_33 (by decide) (by decide) (by decide) (by decide) (cs_witness C hl h6 R hM hL hc hs K)
      · exact m_tin (k := 8) (tgt := 490) (off := 457) hx hb rfl dL_law_33 (by decide) (by decide) (by decide) (by decide) (cs_put C hl h6 R hM hL hc hs K)
      · exact m_tin (k := 9) (tgt := 533) (off := 500) hx hb rfl dL_law_33 (by decide) (by decide) (by decide) (by decide) (cs_told C hl h6 R hM hL hc hs K)
      · exact m_tin (k := 10) (tgt := 566) (off := 533) hx hb rfl dL_law_33 (by decide) (by decide) (by decide) (by decide) (cs_regard C hl h6 R hM hL hc hs K)
      · exact m_tin (k := 11) (tgt := 609) (off := 576) hx hb rfl dL_law_33 (by decide) (by decide) (by decide) (by decide) (cs_linen C hl h6 R hM hL hc hs K)
      · exact m_tin (k := 12) (tgt := 642) (off := 609) hx hb rfl dL_law_33 (by decide) (by decide) (by decide) (by decide) (cs_drop C hl h6 R hM hL hc hs K)
      · exact m_tin (k := 13) (tgt := 665) (off := 632) hx hb rfl dL_law_33 (by decide) (by decide) (by decide) (by decide) (cs_hour C hl h6 R hM hL hc hs K)
      · exact m_tin (k := 14) (tgt := 678) (off := 645) hx hb rfl dL_law_33 (by decide) (by decide) (by decide) (by decide) (cs_burn C hl h6 R hM hL hc hs K)
      · exact m_tin (k := 15) (tgt := 701) (off := 668) hx hb rfl dL_law_33 (by decide) (by decide) (by decide) (by decide) (cs_run C hl h6 R hM hL hc hs K)
      · exact m_tin (k := 16) (tgt := 734) (off := 701) hx hb rfl dL_law_33 (by decide) (by decide) (by decide) (by decide) (cs_when C hl h6 R hM hL hc hs K)
      · exact m_tin (k := 17) (tgt := 757) (off := 724) hx hb rfl dL_law_33 (by decide) (by decide) (by decide) (by decide) (cs_fate C hl h6 R hM hL hc hs K)
      · exact m_tin (k := 18) (tgt := 790) (off := 757) hx hb rfl dL_law_33 (by decide) (by decide) (by decide) (by decide) (cs_advise C hl h6 R hM hL hc hs K)
      · exact m_tin (k := 19) (tgt := 823) (off := 790) hx hb rfl dL_law_33 (by decide) (by decide) (by decide) (by decide) (cs_turn C hl h6 R hM hL hc hs K)
      · exact m_tin (k := 20) (tgt := 846) (off := 813) hx hb rfl dL_law_33 (by decide) (by decide) (by decide) (by decide) (cs_gallant C hl h6 R hM hL hc hs K)
      · exact m_tin (k := 21) (tgt := 879) (off := 846) hx hb rfl dL_law_33 (by decide) (by decide) (by decide) (by decide) (cs_cast C hl h6 R hM hL hc hs K)
      · exact m_tin (k := 22) (tgt := 912) (off := 879) hx hb rfl dL_law_33 (by decide) (by decide) (by decide) (by decide) (cs_mean C hl h6 R hM hL hc hs K)
      · exact m_tin (k := 23) (tgt := 936) (off := 903) hx hb rfl dL_law_33 (by decide) (by decide) (by decide) (by decide) (cs_judge C hl h6 R hM hL hc hs K)
      · exact m_tin (k := 24) (tgt := 959) (off := 926) hx hb rfl dL_law_33 (by decide) (by decide) (by decide) (by decide) (cs_kinds C hl h6 R hM hL hc hs K)
      · exact m_tin (k := 25) (tgt := 1002) (off := 969) hx hb rfl dL_law_33 (by decide) (by decide) (by decide) (by decide) (cs_faces C hl h6 R hM hL hc hs K)
      · exact m_tin (k := 26) (tgt := 1045) (off := 1012) hx hb rfl dL_law_33 (by decide) (by decide) (by decide) (by decide) (cs_keens C hl h6 R hM hL hc hs K)
      · exact m_tin (k := 27) (tgt := 1088) (off := 1055) hx hb rfl dL_law_33 (by decide) (by decide) (by decide) (by decide) (cs_burnt C hl h6 R hM hL hc hs K)
      · exact m_tin (k := 28) (tgt := 1111) (off := 1078) hx hb rfl dL_law_33 (by decide) (by decide) (by decide) (by decide) (cs_laws C hl h6 R hM hL hc hs K)
      · exact m_tin (k := 29) (tgt := 1134) (off := 1101) hx hb rfl dL_law_33 (by decide) (by decide) (by decide) (by decide) (cs_film C hl h6 R hM hL hc hs K)
      · exact m_tin (k := 30) (tgt := 1167) (off := 1134) hx hb rfl dL_law_33 (by decide) (by decide) (by decide) (by decide) (cs_drawn C hl h6 R hM hL hc hs K)
      · exact m_tin (k := 31) (tgt := 1200) (off := 1167) hx hb rfl dL_law_33 (by decide) (by decide) (by decide) (by decide) (cs_odds C hl h6 R hM hL hc hs K)
      · exact m_tin (k := 32) (tgt := 1254) (off := 1221) hx hb rfl dL_law_33 (by decide) (by decide) (by decide) (by decide) (cs_image C hl h6 R hM hL hc hs K)
      · exact m_tin (k := 33) (tgt := 1267) (off := 1234) hx hb rfl dL_law_33 (by decide) (by decide) (by decide) (by decide) (cs_back C hl h6 R hM hL hc hs K)
      · exact m_tin (k := 34) (tgt := 1280) (off := 1247) hx hb rfl dL_law_33 (by decide) (by decide) (by decide) (by decide) (cs_sheet C hl h6 R hM hL hc hs K)
      · exact m_tin (k := 35) (tgt := 1323) (off := 1290) hx hb rfl dL_law_33 (by decide) (by decide) (by decide) (by decide) (cs_cell C hl h6 R hM hL hc hs K)
      · exact m_tin (k := 36) (tgt := 1366) (off := 1333) hx hb rfl dL_law_33 (by decide) (by decide) (by decide) (by decide) (cs_copy C hl h6 R hM hL hc hs K)
      · exact m_tin (k := 37) (tgt := 1429) (off := 1396) hx hb rfl dL_law_33 (by decide) (by decide) (by decide) (by decide) (cs_witnessesBy C hl h6 R hM hL hc hs K)
      · exact m_tin (k := 38) (tgt := 1482) (off := 1449) hx hb rfl dL_law_33 (by decide) (by decide) (by decide) (by decide) (cs_taken C hl h6 R hM hL hc hs K)
    exact T j q
  · refine lv_tableOut (tgt := 1515) hx hb dL_law_33 (Or.inr ?_) (by decide) ?_
    · rw [nI_toInt (by omega)]
      omega
    · exact K _ _ _ _ _ _ _ R hM hL (by omega) (by omega)
set_option maxHeartbeats 4000000 in
theorem law_loop {p : Program} {l : Launch} {e : Env} {s : State} {m : MethodId} {below : List Frame} {meth : Method} {c : Code} {bs L : Nat} {xs : Nat → Int32} {G : mG} {b r : Nat} (C : LCtx p s m meth c bs L xs G) (hN : L ≤ 3584) : ∀ (d k : Nat) (S : XS) (O : MS) (μ : mS) (H : Heap) (locs : List Loc) (cells slots : Nat) (ls : Array Slot), L + 7 ≤ 7 * (k + d) → 7 * k ≤ L → lv_has ls 4 [(0, .ref bs), (1, .ref b), (2, .ref r), (3, .int (nI (7 * k)))] → Rlw b r S O μ → mP G (Wd b r S O μ) H → mL G locs → cells ≤ 200 + 2 * k → slots ≤ 6000 + 164 * k → W p l e room_1 s m #[Value.ref bs] below meth c H locs cells slots (lw_Z below #[Value.ref bs] s) (F0 m 18 ls []) := by
  intro d
  induction d with
  | zero => intro k S O μ H locs cells slots ls h1 h2; omega
  | succ d ih =>
    intro k S O μ H locs cells slots ls h1 h2 hl R hM hL hc hs
    obtain ⟨hx, hb, hml, hown, hts, hX, hbl, hbA, hK⟩ := C.get
    have hS := C.S hM hL
    refine lv_iload_n hx hb dL_law_18 rfl (lv_at hl 3 rfl) ?_
    refine lv_aload_n hx hb dL_law_19 rfl (lv_at hl 0 rfl) ?_
    refine va_slen hx hb hX hbl hbA hS dL_law_20 ?_
    refine lv_bipush (v := 7) hx hb dL_law_21 (by decide) ?_
    refine lv_isub hx hb dL_law_23 ?_
    have eL : (Int32.ofNat L - (7 : Int32)).toInt = (L : Int) - 7 := pk_sub_toInt (a := L) (b := 7) (by omega) (by decide)
    refine lv_icmp_gt (tgt := 1521) hx hb dL_law_24 (by decide) (fun _ => ?_) (fun cc => ?_)
    · refine lv_iconst (v := 1) hx hb dL_law_1521 (by decide) ?_
      obtain ⟨⟨_, _, hr, _, _, _, _, _, hlocks, _⟩, g1, g2, _⟩ := C
      refine va_forget (fun q hq => ?_) ?_
      · have := hL q hq
        rw [← g1]
        exact this
      · refine W.widen (k := 600000) (n := 7302250) (by omega) (by omega) ?_
        exact lw_ret hx hb hr hlocks dL_law_1522
    · have hlt : 7 * k + 7 ≤ L := by
        rw [Int32.lt_iff_toInt_lt, eL, nI_toInt (by omega)] at cc
        omega
      have in7 : ∀ j, j < 7 → vp_in (nI (7 * k + j)) L := fun j hj => vp_in_nI (by omega) (by omega)
      have h6 : hin6 (nI (7 * k)) L := by
        refine ⟨?_, ?_, ?_, ?_, ?_, ?_⟩
        · have := in7 1 (by decide); rw [← nI_add] at this; exact this
        · have := in7 2 (by decide); rw [← nI_add] at this; exact this
        · have := in7 3 (by decide); rw [← nI_add] at this; exact this
        · have := in7 4 (by decide); rw [← nI_add] at this; exact this
        · have := in7 5 (by decide); rw [← nI_add] at this; exact this
        · have := in7 6 (by decide); rw [← nI_add] at this; exact this
      refine lv_aload_n hx hb dL_law_27 rfl (lv_at hl 0 rfl) ?_
      refine lv_iload_n hx hb dL_law_28 rfl (lv_at hl 3 rfl) ?_
      refine va_sld hx hb hX hbl hbA hS (in7 0 (by decide)) dL_law_29 ?_
      refine lv_bipush (v := 63) hx hb dL_law_30 (by decide) ?_
      refine lv_iand hx hb dL_law_32 ?_
      obtain ⟨j, hj, ej⟩ := pk_andE (xs (nI (7 * k)).toNatClampNeg) (m := 63) 6 (by decide)
      rw [ej]
      refine law_switch C hl h6 R hM hL (by omega) (by omega) ?_ j hj
      intro S1 O1 μ1 H1 locs1 cells1 slots1 R1 hM1 hL1 hc1 hs1
      refine lv_iinc (v := nI (7 * (k + 1))) (lv' := [(3, .int (nI (7 * (k + 1)))), (0, .ref bs), (1, .ref b), (2, .ref r)]) hx hb dL_law_1515 hl (k := 3) rfl (by rw [show Int32.ofInt 7 = nI 7 by decide, nI_add, Nat.mul_add]) (by decide) rfl (fun ls hl => ?_)
      refine lv_goto (tgt := 18) hx hb dL_law_1518 (by decide) ?_
      exact ih (k + 1) S1 O1 μ1 H1 locs1 cells1 slots1 ls (by omega) (by omega) (lv_sub hl [1, 2, 3, 0] rfl) R1 hM1 hL1 (by omega) (by omega)
