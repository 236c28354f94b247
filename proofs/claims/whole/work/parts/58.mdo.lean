/-! The reference: how one looks, waits, drops; who stoops. -/
section MDO
variable {m : Nat} {O : MS} {μ : mS} {Z : Zt} {L : Lw}
theorem m_kind (hz : MZ O Z) (hg : gZ Z) {p : Nat} (hp : p < wN Z) : aI (memM m O μ) (m + (0 + 1)) (nI p) = some (Z 2 p) := by
  have := hg.w6
  rw [aM 0 (by omega) p (by show _ < 6; omega) (by omega)]
  exact congrArg some (hz.kd hp)
theorem m_more (hz : MZ O Z) (hg : gZ Z) {p : Nat} (hp : p < wN Z) : aI (memM m O μ) (m + (1 + 1)) (nI p) = some (Z 3 p) := by
  have := hg.w6
  rw [aM 1 (by omega) p (by show _ < 6; omega) (by omega)]
  exact congrArg some (hz.mo hp)
theorem lk_eq (hg : gZ Z) (ok : okP (L 0)) {p man : Nat} (hp : p < wN Z) : lkS L Z p (nI man) = if Z 2 p = 5 then 0 else if Z 2 p = 1 then (if nI man = Z 3 p - Z 3 p / 6 * 6 then 99 else syS L Z p 0) else if Z 2 p = 2 then f_X6_within (syS L Z p 0 - 5 * Z 3 p) 0 99 else if Z 2 p = 3 then (if nI man - nI man / 2 * 2 = 0 then (if nI man = Z 3 p - Z 3 p / 6 * 6 then 99 else syS L Z p 0) / 2 else (if nI man = Z 3 p - Z 3 p / 6 * 6 then 99 else syS L Z p 0)) else if Z 2 p = 4 then f_X6_within (syS L Z p 0 - 5 * Z 3 p) 0 99 else syS L Z p 0 := by
  obtain ⟨v, hv, ev⟩ := sy_01 L Z p 0 (by omega) ok
  obtain ⟨k, hk, ek⟩ := (hg.2.2.2.2.1 p hp).1
  rw [lkS, f_X1_looksOf.eq_1, ev, ek]
  have lady : ∃ u, u < 100 ∧ (if nI man = Z 3 p - Z 3 p / 6 * 6 then (99 : Int32) else nI v) = nI u := by
    split
    · exact ⟨99, by omega, rfl⟩
    · exact ⟨v, by omega, rfl⟩
  obtain ⟨u, hu, eu⟩ := lady
  rw [f_X1_ladyLooks.eq_1, eu, bw_eq (by decide)]
  have hc : k = 0 ∨ k = 1 ∨ k = 2 ∨ k = 3 ∨ k = 4 ∨ k = 5 := by omega
  rcases hc with rfl | rfl | rfl | rfl | rfl | rfl
  · exact bd_id v (by omega)
  · exact bd_id u hu
  · rfl
  · simp only [vl]
    by_cases c : nI man - nI man / 2 * 2 = 0
    · rw [if_pos c, if_pos c]
      exact bd_half u hu
    · rw [if_neg c, if_neg c]
      exact bd_one u hu
  · rfl
  · rfl
theorem m_looksOf (hz : MZ O Z) (hg : gZ Z) (hl : LawR O L) {p man : Nat} (hp : p < wN Z) : ∃ O', f_X6_looksOf m (nI p) (nI man) (memM m O μ) = some (lkS L Z p (nI man), memM m O' μ) ∧ mk18 O O' := by
  rw [lk_eq hg (hl.ok (by omega)) hp, f_X6_looksOf.eq_1, mR_1, Option.bind_some, m_kind hz hg hp, Option.bind_some]
  by_cases c5 : Z 2 p = 5
  · rw [if_pos c5, if_pos c5]
    exact ⟨O, rfl, mk18.rf O⟩
  rw [if_neg c5, if_neg c5, if_pos isO_M]
  obtain ⟨O', e, k⟩ := m_asksOf (m := m) (μ := μ) hz hg hl hp (part := 0) (by omega)
  refine ⟨O', ?_, k⟩
  have hz2 := hz.k k
  rw [show (0 : Int32) = nI 0 from rfl, e, Option.bind_some]
  dsimp only
  rw [mR_2, Option.bind_some, m_more hz2 hg hp, Option.bind_some]
  simp only [vl]
  rw [mR_1, Option.bind_some, m_kind hz2 hg hp, Option.bind_some]
  by_cases c1 : Z 2 p = 1
  · rw [if_pos c1, if_pos c1]
  rw [if_neg c1, if_neg c1]
  by_cases c2 : Z 2 p = 2
  · rw [if_pos c2, if_pos c2, f_X6_looksOf_79.eq_1, mR_2, Option.bind_some, m_more hz2 hg hp, Option.bind_some]
    rfl
  rw [if_neg c2, if_neg c2]
  by_cases c3 : Z 2 p = 3
  · rw [if_pos c3, if_pos c3]
    by_cases c : nI man - nI man / 2 * 2 = 0
    · rw [if_pos (show nI man - nI man / 2 * 2 = nI 0 from c), if_pos (show nI man - nI man / 2 * 2 = nI 0 from c)]
    · rw [if_neg (show ¬ nI man - nI man / 2 * 2 = nI 0 from c), if_neg (show ¬ nI man - nI man / 2 * 2 = nI 0 from c)]
  rw [if_neg c3, if_neg c3]
  by_cases c4 : Z 2 p = 4
  · rw [if_pos c4, if_pos c4, f_X6_looksOf_79.eq_1, mR_2, Option.bind_some, m_more hz2 hg hp, Option.bind_some]
    rfl
  rw [if_neg c4, if_neg c4]
theorem wt_eq (hg : gZ Z) {p : Nat} (hp : p < wN Z) : wtS L Z p = if Z 2 p = 1 then f_X6_within (syS L Z p 1 / 2) 1 99 else if Z 2 p = 2 then f_X6_within (syS L Z p 1) 1 99 else if Z 2 p = 3 then (if Z 10 1 - Z 10 1 / 5 * 5 = 0 then 99 else f_X6_within (syS L Z p 1 / 2 + Z 3 p) 1 99) else if Z 2 p = 4 then f_X6_within (2 * syS L Z p 1) 1 99 else if Z 2 p = 5 then 1 + Z 3 p else f_X6_within (syS L Z p 1) 1 99 := by
  obtain ⟨k, hk, ek⟩ := (hg.2.2.2.2.1 p hp).1
  obtain ⟨j, hj, ej⟩ := (hg.2.2.2.2.1 p hp).2
  rw [wtS, f_X1_waitsOf.eq_1]
  simp only [bw_eq (show (1 : Int32) ≤ 99 by decide)]
  rw [ek]
  have hc : k = 0 ∨ k = 1 ∨ k = 2 ∨ k = 3 ∨ k = 4 ∨ k = 5 := by omega
  rcases hc with rfl | rfl | rfl | rfl | rfl | rfl
  · rfl
  · rfl
  · rfl
  · by_cases c : Z 10 1 - Z 10 1 / 5 * 5 = 0
    · simp only [if_pos c]
      rfl
    · simp only [if_neg c]
      rfl
  · rw [show (2 : Int32) * syS L Z p 1 = syS L Z p 1 * 2 from Int32.mul_comm _ _]
    rfl
  · rw [ej]
    exact bd_grey j (by omega)
theorem m_waitsOf (hz : MZ O Z) (hg : gZ Z) (hl : LawR O L) {p : Nat} (hp : p < wN Z) : ∃ O', f_X6_waitsOf m (nI p) (memM m O μ) = some (wtS L Z p, memM m O' μ) ∧ mk18 O O' := by
  rw [wt_eq hg hp, f_X6_waitsOf.eq_1, if_pos isO_M]
  obtain ⟨O', e, k⟩ := m_asksOf (m := m) (μ := μ) hz hg hl hp (part := 1) (by omega)
  refine ⟨O', ?_, k⟩
  have hz2 := hz.k k
  rw [show f_X6_asksOf m 1 (nI p) (memM m O μ) = _ from e, Option.bind_some]
  dsimp only
  rw [mR_1, Option.bind_some, m_kind hz2 hg hp, Option.bind_some]
  by_cases c1 : Z 2 p = 1
  · rw [if_pos c1, if_pos c1]
  rw [if_neg c1, if_neg c1]
  by_cases c2 : Z 2 p = 2
  · rw [if_pos c2, if_pos c2, f_X6_waitsOf_108.eq_1]
  rw [if_neg c2, if_neg c2]
  by_cases c3 : Z 2 p = 3
  · rw [if_pos c3, if_pos c3, mI_8, Option.bind_some, hz2.hr]
    by_cases c : Z 10 1 - Z 10 1 / 5 * 5 = 0
    · rw [if_pos c, if_pos c]
    · rw [if_neg c, if_neg c, mR_2, Option.bind_some, m_more hz2 hg hp, Option.bind_some]
  rw [if_neg c3, if_neg c3]
  by_cases c4 : Z 2 p = 4
  · rw [if_pos c4, if_pos c4]
  rw [if_neg c4, if_neg c4]
  by_cases c5 : Z 2 p = 5
  · rw [if_pos c5, if_pos c5, mR_2, Option.bind_some, m_more hz2 hg hp, Option.bind_some]
  rw [if_neg c5, if_neg c5, f_X6_waitsOf_108.eq_1]
theorem m_dropsOf (hz : MZ O Z) (hg : gZ Z) (hl : LawR O L) {p : Nat} (hp : p < wN Z) : ∃ O', f_X6_dropsOf m (nI p) (memM m O μ) = some (drS L Z p, memM m O' μ) ∧ mk18 O O' := by
  have hp6 : p < 6 := by have := hg.w6; omega
  obtain ⟨n, hn, en⟩ := bc_of (set_kn hg hp6)
  have r0 : ∀ {O : MS}, MZ O Z → aI (memM m O μ) (m + (2 + 1)) ((3 : Int32) * nI p) = some (Z 4 p) := by
    intro O hz
    rw [three, aM 2 (by omega) (3 * p) (by show _ < 18; omega) (by omega)]
    exact congrArg some (hz.r0 hp6)
  rw [drS, f_X6_dropsOf.eq_1, mR_3, Option.bind_some, r0 hz, Option.bind_some, ones_bc (set_kn hg hp6), Option.bind_some]
  by_cases c : bc (Z 4 p) = 0
  · rw [if_pos c, if_pos c]
    exact ⟨O, rfl, mk18.rf O⟩
  rw [if_neg c, if_neg c, if_pos isO_M]
  obtain ⟨O', e, k⟩ := m_asksOf (m := m) (μ := μ) hz hg hl hp (part := 2) (by omega)
  refine ⟨O', ?_, k⟩
  have hz2 := hz.k k
  rw [show f_X6_asksOf m 2 (nI p) (memM m O μ) = _ from e, Option.bind_some]
  dsimp only
  rw [if_neg c, if_neg c]
  obtain ⟨v, hv, ev⟩ := sy_2 L Z p (hl.ok (by omega))
  have hn0 : 0 < n := by
    rcases Nat.eq_zero_or_pos n with q | q
    · exact absurd (by rw [en, q]; rfl) c
    · exact q
  obtain ⟨fm1, fm2⟩ := fm_eq n (by omega) hn0 v hv
  obtain ⟨r, er⟩ := Option.isSome_iff_exists.mp fm2
  rw [er, Option.getD_some] at fm1
  rw [f_X1_dropsOf.eq_1, ev, en, if_pos (show (1 : Int32) ≤ nI n from nI_le (a := 1) (by omega) (by omega)), er, Option.bind_some]
  rw [en] at c
  have fin : ∀ nth, f_X6_dropsOf_108 m (nI p) nth (memM m O' μ) = some (nthA (Z 4 p) 10 0 nth, memM m O' μ) := by
    intro nth
    rw [f_X6_dropsOf_108.eq_1, mR_3, Option.bind_some, r0 hz2, Option.bind_some, nthOf_eq, Option.bind_some]
  have mid : f_X6_dropsOf_42 m (nI p) (nI n) r (memM m O' μ) = some (nthA (Z 4 p) 10 0 ((if Z 2 p = 2 then some (nI n - 1 - r) else if Z 2 p = 4 then some (if (nI n - 1 - r) < (Z 3 p - Z 3 p / nI n * nI n) then (Z 3 p - Z 3 p / nI n * nI n) else (nI n - 1 - r)) else some r).getD 0), memM m O' μ) := by
    rw [f_X6_dropsOf_42.eq_1]
    simp only [vl]
    rw [mR_1, Option.bind_some, m_kind hz2 hg hp, Option.bind_some]
    by_cases c2 : Z 2 p = 2
    · rw [if_pos c2, if_pos c2, Option.bind_some, m_kind hz2 hg hp, Option.bind_some, if_neg (by rw [c2]; decide), fin]
      rfl
    rw [if_neg c2, if_neg c2, Option.bind_some, m_kind hz2 hg hp, Option.bind_some]
    by_cases c4 : Z 2 p = 4
    · rw [if_pos c4, if_pos c4, mR_2, Option.bind_some, m_more hz2 hg hp, Option.bind_some, if_neg c]
      by_cases c5 : nI n - 1 - r < Z 3 p - Z 3 p / nI n * nI n
      · rw [if_pos c5, if_pos (Int32.le_of_lt c5), Option.bind_some, m_more hz2 hg hp, Option.bind_some, if_neg c, f_X6_dropsOf_106.eq_1, fin]
        rfl
      · rw [if_neg c5]
        by_cases c6 : nI n - 1 - r ≤ Z 3 p - Z 3 p / nI n * nI n
        · rw [if_pos c6, Option.bind_some, m_more hz2 hg hp, Option.bind_some, if_neg c, f_X6_dropsOf_106.eq_1, fin]
          rw [show Z 3 p - Z 3 p / nI n * nI n = nI n - 1 - r by grind]
          rfl
        · rw [if_neg c6, f_X6_dropsOf_106.eq_1, fin]
          rfl
    · rw [if_neg c4, if_neg c4, fin]
      rfl
  split
  · rename_i q
    rw [if_pos q] at fm1
    rw [fm1]
    exact mid
  · rename_i q
    rw [if_neg q] at fm1
    rw [fm1]
    exact mid
theorem m_doesStoop (hz : MZ O Z) (hg : gZ Z) (hl : LawR O L) {p man : Nat} (hp : p < wN Z) (hm : man < 6) : ∃ O', f_X6_doesStoop m (nI man) (nI p) (memM m O μ) = some (stS L Z man p, memM m O' μ) ∧ mk18 O O' := by
  obtain ⟨O', e, k⟩ := m_looksOf (m := m) (μ := μ) hz hg hl hp (man := man)
  refine ⟨O', ?_, k⟩
  rw [f_X6_doesStoop.eq_1, mR_6, Option.bind_some, aM 5 (by omega) man (by show _ < 6; omega) (by omega), Option.bind_some, show O.2 (5 + 1) man = Z 1 man from hz.kn hm, if_pos isO_M, e, Option.bind_some, stS]
  dsimp only
  split <;> rfl
theorem m_stoopers (hz : MZ O Z) (hg : gZ Z) (hl : LawR O L) {p : Nat} (hp : p < wN Z) : ∃ O', f_X6_stoopers m (nI p) (memM m O μ) = some (spA L Z p 6, memM m O' μ) ∧ mk18 O O' := by
  rw [f_X6_stoopers.eq_1]
  refine loopN (fun k n => ∀ P, mk18 O P → ∃ O', f_X6_stoopers_4 n m (nI p) (spA L Z p k) (nI k) (memM m P μ) = some (spA L Z p 6, memM m O' μ) ∧ mk18 O O') 6 (fun n P hk => ?_) (fun k n hk ih P hkP => ?_) fU (fU_lt (by decide)) O (mk18.rf O)
  · exact ⟨P, by rw [f_X6_stoopers_4.eq_2, if_pos (by decide)], hk⟩
  · obtain ⟨P1, e, k1⟩ := m_doesStoop (m := m) (μ := μ) (hz.k hkP) hg (hl.k hkP.a) hp hk
    obtain ⟨P2, e2, k2⟩ := ih P1 (hkP.tr k1)
    refine ⟨P2, ?_, k2⟩
    rw [f_X6_stoopers_4.eq_2, if_neg (ge_6 hk), if_pos isO_M, e, Option.bind_some]
    simp only [vl]
    rw [nI_1]
    exact e2
theorem m_can (hz : MZ O Z) {p : Nat} (hp : p < 6) : f_X6_can m (nI p) (memM m O μ) = some (clS Z p) := by
  rw [f_X6_can.eq_1, mR_3, Option.bind_some, three, aM 2 (by omega) (3 * p) (by show _ < 18; omega) (by omega), Option.bind_some, show O.2 (2 + 1) (3 * p) = Z 4 p from hz.r0 hp, clS]
  split
  · rfl
  · rw [if_pos isO_M, m_lying hz, Option.bind_some]
    split <;> rfl
end MDO
