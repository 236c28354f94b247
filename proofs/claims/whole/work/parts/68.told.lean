/-! bench, asks, put, told, regard, linen, hour, burn. -/
section CB
variable {b m : Nat} {S : XS} {O : MS} {μ : mS} {Z : Zt} {g : Nat → Int32} {L : Lw}
theorem k_bench (x1 x2 : Int32) : CallR b m (f_X5_bench b x1 x2) (f_X6_bench m x1 x2) := by
  refine CallR.now fun S O μ Z g hz hg hh => ?_
  by_cases c0 : x1 = 0
  · subst c0
    by_cases q : f_X5_isBelow x2 10 = 0
    · refine ⟨-5000, ?_, fun μ1 => ?_⟩
      · rw [f_X5_bench.eq_1, if_pos rfl, ioc0, if_pos q]
      · rw [f_X6_bench.eq_1, if_neg (by decide), ith0, i_10, if_pos q]
    · obtain ⟨k, hk, rfl⟩ := b_10 x2 q
      refine ⟨Z 0 k, ?_, fun μ1 => ?_⟩
      · rw [f_X5_bench.eq_1, if_pos rfl, ioc0, if_neg q, h3, Option.bind_some, gR_A zo11 0 (by decide), Option.bind_some, aI_in zo11 0 (by decide) k hk, Option.bind_some]
      · rw [f_X6_bench.eq_1, if_neg (by decide), ith0, i_10, if_neg q, if_pos rfl, mR_5, Option.bind_some, aM 4 (by decide) k hk (by omega), Option.bind_some, show O.2 (4 + 1) k = Z 0 k from hz.wt hk]
  by_cases c1 : x1 = 1
  · subst c1
    by_cases q : f_X5_isBelow x2 6 = 0
    · refine ⟨-5000, ?_, fun μ1 => ?_⟩
      · rw [f_X5_bench.eq_1, if_neg c0, if_pos rfl, ioc1, if_pos q]
      · rw [f_X6_bench.eq_1, if_neg (by decide), ith1, i_6, if_pos q, if_pos rfl]
    · obtain ⟨k, hk, rfl⟩ := b_6 x2 q
      refine ⟨Z 1 k, ?_, fun μ1 => ?_⟩
      · rw [f_X5_bench.eq_1, if_neg c0, if_pos rfl, ioc1, if_neg q, h3, Option.bind_some, gR_A zo11 1 (by decide), Option.bind_some, aI_in zo11 1 (by decide) k hk, Option.bind_some]
      · rw [f_X6_bench.eq_1, if_neg (by decide), ith1, i_6, if_neg q, if_neg (by decide), if_neg c0, if_pos rfl, mR_6, Option.bind_some, aM 5 (by decide) k hk (by omega), Option.bind_some, show O.2 (5 + 1) k = Z 1 k from hz.kn hk]
  by_cases c2 : x1 = 2
  · subst c2
    refine ⟨Z 10 0, ?_, fun μ1 => ?_⟩
    · rw [f_X5_bench.eq_1, if_neg c0, if_neg c1, if_pos rfl, h3, Option.bind_some, gA_A zo11, Option.bind_some]
    · rw [f_X6_bench.eq_1, if_neg (by decide), show f_X6_isThere 2 x2 = 1 from rfl, if_neg (by decide), if_neg c0, if_neg c1, if_pos rfl, mI_7, Option.bind_some, hz.ad]
  by_cases c3 : x1 = 3
  · subst c3
    refine ⟨wtA (Z 0) (Z 10 0) 10, ?_, fun μ1 => ?_⟩
    · rw [f_X5_bench.eq_1, if_neg c0, if_neg c1, if_neg c2, if_pos rfl, h3, Option.bind_some, if_pos (isO_A zo11), x_verdict zo11, Option.bind_some]
    · rw [f_X6_bench.eq_1, if_neg (by decide), show f_X6_isThere 3 x2 = 1 from rfl, if_neg (by decide), if_neg c0, if_neg c1, if_neg c2, if_pos rfl, mI_7, Option.bind_some, if_pos isO_M, hz.ad, m_verdictOf hz, Option.bind_some]
  by_cases c4 : x1 = 4
  · subst c4
    refine ⟨Z 10 1 - Z 10 1 / 6 * 6, ?_, fun μ1 => ?_⟩
    · rw [f_X5_bench.eq_1, if_neg c0, if_neg c1, if_neg c2, if_neg c3, if_pos rfl, h3, Option.bind_some, gH_A zo11, Option.bind_some]
    · rw [f_X6_bench.eq_1, if_neg (by decide), show f_X6_isThere 4 x2 = 1 from rfl, if_neg (by decide), if_neg c0, if_neg c1, if_neg c2, if_neg c3, mI_8, Option.bind_some, hz.hr]
  · refine ⟨-5000, ?_, fun μ1 => ?_⟩
    · rw [f_X5_bench.eq_1, if_neg c0, if_neg c1, if_neg c2, if_neg c3, if_neg c4]
    · rw [f_X6_bench.eq_1, i_5, if_pos]
      by_cases q : f_X5_isBelow x1 5 = 0
      · exact q
      · obtain ⟨k, hk, rfl⟩ := b_5 x1 q
        exfalso
        have : k = 0 ∨ k = 1 ∨ k = 2 ∨ k = 3 ∨ k = 4 := by omega
        rcases this with rfl | rfl | rfl | rfl | rfl
        · exact c0 rfl
        · exact c1 rfl
        · exact c2 rfl
        · exact c3 rfl
        · exact c4 rfl
theorem k_asks (x1 x2 : Int32) : Call b m (f_X5_asks b x1 x2) (f_X6_asks m x1 x2) := by
  refine Call.now fun S O μ Z g L hz hg hh hl hr => ?_
  by_cases q : f_X5_isBelow x1 3 = 0
  · refine now_same (-1000) hz hg hh ?_ (fun μ1 => ?_)
    · rw [f_X5_asks.eq_1, if_pos q]
    · rw [f_X6_asks.eq_1, i_3, if_pos q]
  by_cases q2 : f_X5_isBelow x2 (Z 10 2) = 0
  · refine now_same (-1000) hz hg hh ?_ (fun μ1 => ?_)
    · rw [f_X5_asks.eq_1, if_neg q, h3, Option.bind_some, if_pos (isO_A zo11), x_has zo11, Option.bind_some, if_pos q2]
    · rw [f_X6_asks.eq_1, i_3, if_neg q, if_pos isO_M, m_isOne hz hg, Option.bind_some, if_pos q2]
  obtain ⟨part, hpt, rfl⟩ := b_3 x1 q
  obtain ⟨p, hp, rfl⟩ := has_k hg q2
  have h6 := hg.w6
  obtain ⟨g', e⟩ := x_sy (Z := Z) (g := g) zo11 hl (p := p) (by omega) hpt
  refine now_scr (g' := g') (syS L Z p part) hz hg hh ?_ (fun μ1 => ?_)
  · rw [f_X5_asks.eq_1, if_neg q, h3, Option.bind_some, if_pos (isO_A zo11), x_has zo11, Option.bind_some, if_neg q2, Option.bind_some, gL_A zo11, Option.bind_some, Option.bind_some, if_pos (x_lawO hl), e, Option.bind_some]
  · obtain ⟨O', e2, k2⟩ := m_asksOf (m := m) (μ := μ1) hz hg hr hp hpt
    refine ⟨O', ?_, k2⟩
    rw [f_X6_asks.eq_1, i_3, if_neg q, if_pos isO_M, m_isOne hz hg, Option.bind_some, if_neg q2, if_pos isO_M, e2, Option.bind_some]
theorem k_put (x1 x2 x3 : Int32) : Call b m (f_X5_put b x1 x2 x3) (f_X6_put m x1 x2 x3) := by
  refine Call.now fun S O μ Z g L hz hg hh hl hr => ?_
  by_cases q : f_X5_isBelow x1 (Z 10 2) = 0
  · refine now_same (-5) hz hg hh ?_ (fun μ1 => ?_)
    · rw [f_X5_put.eq_1, h3, Option.bind_some, if_pos (isO_A zo11), x_has zo11, Option.bind_some, if_pos q]
    · rw [f_X6_put.eq_1, if_pos isO_M, m_isOne hz hg, Option.bind_some, if_pos q]
  by_cases q2 : f_X5_isBelow x2 2 = 0
  · refine now_same (-7) hz hg hh ?_ (fun μ1 => ?_)
    · rw [f_X5_put.eq_1, h3, Option.bind_some, if_pos (isO_A zo11), x_has zo11, Option.bind_some, if_neg q, if_pos q2]
    · rw [f_X6_put.eq_1, if_pos isO_M, m_isOne hz hg, Option.bind_some, if_neg q, i_2, if_pos q2]
  obtain ⟨p, hp, rfl⟩ := has_k hg q
  have h6 := hg.w6
  have hp6 : p < 6 := by omega
  by_cases c0 : x2 = 0
  · subst c0
    by_cases q3 : f_X5_isBelow x3 1024 = 0
    · refine now_same (-7) hz hg hh ?_ (fun μ1 => ?_)
      · rw [f_X5_put.eq_1, h3, Option.bind_some, if_pos (isO_A zo11), x_has zo11, Option.bind_some, if_neg q, if_neg q2]
        simp only [vl]
        rw [if_pos trivial, if_pos q3]
      · rw [f_X6_put.eq_1, if_pos isO_M, m_isOne hz hg, Option.bind_some, if_neg q, i_2, if_neg q2]
        simp only [vl]
        rw [if_pos trivial, i_1024, if_pos q3]
    · have hs : isSet x3 := b_1024 x3 q3
      refine NowQ.m1 ⟨Z 4 p, zs Z 4 p x3, g, smA O 3 (upd (O.2 3) (3 * p + 0) x3), ?_, fun μ1 => ?_, keepO.a _ _ (by omega), hz.s3 (by omega) x3, hg.known p hs, by rw [zs_ne (by omega)]; exact hh, stay.of (zs_j _ _ (by decide)) (zs_j _ _ (by decide)) (zs_ne (by omega))⟩
      · rw [f_X5_put.eq_1, h3, Option.bind_some, if_pos (isO_A zo11), x_has zo11, Option.bind_some, if_neg q, if_neg q2]
        simp only [vl]
        rw [if_pos trivial, if_neg q3, if_pos trivial, Option.bind_some, gR_A zo11 4 (by decide), Option.bind_some, f_X5_put_65.eq_1, f_X5_replaced.eq_1, aI_in zo11 4 (by decide) p hp6, Option.bind_some, sI_in zo11 4 (by decide) p hp6, Option.bind_some, Option.bind_some]
      · rw [f_X6_put.eq_1, if_pos isO_M, m_isOne hz hg, Option.bind_some, if_neg q, i_2, if_neg q2]
        simp only [vl]
        rw [if_pos trivial, i_1024, if_neg q3, mR_3, Option.bind_some, three, show (nI (3 * p) + 0 : Int32) = nI (3 * p + 0) from nI_add _ 0, aM 2 (by decide) (3 * p + 0) (by show _ < 18; omega) (by omega), Option.bind_some, Option.bind_some, sM 2 (by decide) (3 * p + 0) (by show _ < 18; omega) (by omega), Option.bind_some, show O.2 (2 + 1) (3 * p + 0) = Z 4 p from hz.r0 hp6]
  · obtain ⟨k, hk, rfl⟩ := b_2 x2 q2
    have hk1 : k = 1 := by
      rcases Nat.eq_zero_or_pos k with e | e
      · exact absurd (by rw [e]; rfl) c0
      · omega
    subst hk1
    by_cases q3 : f_X5_isBelow x3 100 = 0
    · refine now_same (-7) hz hg hh ?_ (fun μ1 => ?_)
      · rw [f_X5_put.eq_1, h3, Option.bind_some, if_pos (isO_A zo11), x_has zo11, Option.bind_some, if_neg q, if_neg q2]
        simp only [vl]
        rw [if_neg c0, if_pos q3]
      · rw [f_X6_put.eq_1, if_pos isO_M, m_isOne hz hg, Option.bind_some, if_neg q, i_2, if_neg q2]
        simp only [vl]
        rw [if_neg c0, i_100, if_pos q3]
    · have hs : rng 99 x3 := by
        obtain ⟨j, hj, e⟩ := b_100 x3 q3
        exact ⟨j, by omega, e⟩
      refine NowQ.m1 ⟨Z 5 p, zs Z 5 p x3, g, smA O 3 (upd (O.2 3) (3 * p + 1) x3), ?_, fun μ1 => ?_, keepO.a _ _ (by omega), hz.s3 (by omega) x3, hg.face p hs, by rw [zs_ne (by omega)]; exact hh, stay.of (zs_j _ _ (by decide)) (zs_j _ _ (by decide)) (zs_ne (by omega))⟩
      · rw [f_X5_put.eq_1, h3, Option.bind_some, if_pos (isO_A zo11), x_has zo11, Option.bind_some, if_neg q, if_neg q2]
        simp only [vl]
        rw [if_neg c0, if_neg q3, if_neg c0, Option.bind_some, gR_A zo11 5 (by decide), Option.bind_some, f_X5_put_65.eq_1, f_X5_replaced.eq_1, aI_in zo11 5 (by decide) p hp6, Option.bind_some, sI_in zo11 5 (by decide) p hp6, Option.bind_some, Option.bind_some]
      · rw [f_X6_put.eq_1, if_pos isO_M, m_isOne hz hg, Option.bind_some, if_neg q, i_2, if_neg q2]
        simp only [vl]
        rw [if_neg c0, i_100, if_neg q3, mR_3, Option.bind_some, three, show (nI (3 * p) + nI 1 : Int32) = nI (3 * p + 1) from nI_add _ 1, aM 2 (by decide) (3 * p + 1) (by show _ < 18; omega) (by omega), Option.bind_some, Option.bind_some, sM 2 (by decide) (3 * p + 1) (by show _ < 18; omega) (by omega), Option.bind_some, show O.2 (2 + 1) (3 * p + 1) = Z 5 p from hz.r1 hp6]
theorem k_told (x1 x2 : Int32) : Call b m (f_X5_told b x1 x2) (f_X6_told m x1 x2) := by
  refine Call.now fun S O μ Z g L hz hg hh hl hr => ?_
  by_cases q : f_X5_isBelow x1 (Z 10 2) = 0
  · refine now_same (-5) hz hg hh ?_ (fun μ1 => ?_)
    · simp only [f_X5_told.eq_1, h3, Option.bind_some, isO_A zo11, x_has zo11, q, if_true]
    · simp only [f_X6_told.eq_1, isO_M, m_isOne hz hg, Option.bind_some, q, if_true]
  obtain ⟨p, hp, rfl⟩ := has_k hg q
  have h6 := hg.w6
  have hp6 : p < 6 := by omega
  have hx : f_X5_told b (nI p) x2 (AZ b 11 S (memM m O μ) Z g) = _ := f_X5_told.eq_1 _ _ _ _
  have hm : ∀ μ1, f_X6_told m (nI p) x2 (memM m O μ1) = _ := fun μ1 => f_X6_told.eq_1 _ _ _ _
  simp only [h3, Option.bind_some, isO_A zo11, x_has zo11, q, if_true, if_false] at hx
  simp only [isO_M, m_isOne hz hg, Option.bind_some, q, if_true, if_false, f_X6_told_64.eq_1, mR_3, three] at hm
  by_cases c0 : x2 = 0
  · subst c0
    rw [if_pos rfl, gR_A zo11 4 (by decide), Option.bind_some, aI_in zo11 4 (by decide) p hp6, Option.bind_some] at hx
    refine now_same (Z 4 p) hz hg hh hx (fun μ1 => (hm μ1).trans ?_)
    rw [if_pos rfl, show (nI (3 * p) + 0 : Int32) = nI (3 * p) from nI_add _ 0, aM 2 (by decide) (3 * p) (by show _ < 18; omega) (by omega), Option.bind_some, show O.2 (2 + 1) (3 * p) = Z 4 p from hz.r0 hp6]
  rw [if_neg c0] at hx
  have hm := fun μ1 => (hm μ1).trans (if_neg c0)
  by_cases c1 : x2 = 1
  · subst c1
    rw [if_pos rfl, gR_A zo11 5 (by decide), Option.bind_some, aI_in zo11 5 (by decide) p hp6, Option.bind_some] at hx
    refine now_same (Z 5 p) hz hg hh hx (fun μ1 => (hm μ1).trans ?_)
    rw [if_pos rfl, nI_1, aM 2 (by decide) (3 * p + 1) (by show _ < 18; omega) (by omega), Option.bind_some, show O.2 (2 + 1) (3 * p + 1) = Z 5 p from hz.r1 hp6]
  rw [if_neg c1] at hx
  have hm := fun μ1 => (hm μ1).trans (if_neg c1)
  by_cases c2 : x2 = 2
  · subst c2
    rw [if_pos rfl, gR_A zo11 6 (by decide), Option.bind_some, aI_in zo11 6 (by decide) p hp6, Option.bind_some] at hx
    refine now_same (Z 6 p) hz hg hh hx (fun μ1 => (hm μ1).trans ?_)
    rw [if_pos rfl, show (nI (3 * p) + 2 : Int32) = nI (3 * p + 2) from nI_add _ 2, aM 2 (by decide) (3 * p + 2) (by show _ < 18; omega) (by omega), Option.bind_some, show O.2 (2 + 1) (3 * p + 2) = Z 6 p from hz.r2 hp6]
  rw [if_neg c2] at hx
  have hm := fun μ1 => (hm μ1).trans (if_neg c2)
  by_cases c3 : x2 = 3
  · subst c3
    rw [if_pos rfl, gR_A zo11 2 (by decide), Option.bind_some, aI_in zo11 2 (by decide) p hp6, Option.bind_some] at hx
    refine now_same (Z 2 p) hz hg hh hx (fun μ1 => (hm μ1).trans ?_)
    rw [if_pos rfl, mR_1, Option.bind_some, m_kind hz hg hp, Option.bind_some]
  rw [if_neg c3] at hx
  have hm := fun μ1 => (hm μ1).trans (if_neg c3)
  by_cases c4 : x2 = 4
  · subst c4
    rw [if_pos rfl, gR_A zo11 3 (by decide), Option.bind_some, aI_in zo11 3 (by decide) p hp6, Option.bind_some] at hx
    refine now_same (Z 3 p) hz hg hh hx (fun μ1 => (hm μ1).trans ?_)
    rw [if_pos rfl, mR_2, Option.bind_some, m_more hz hg hp, Option.bind_some]
  rw [if_neg c4] at hx
  have hm := fun μ1 => (hm μ1).trans (if_neg c4)
  by_cases c5 : x2 = 5
  · subst c5
    obtain ⟨g', e⟩ := x_drops (Z := Z) (g := g) zo11 hl hp6
    rw [if_pos rfl, e, Option.bind_some] at hx
    refine now_scr (drS L Z p) hz hg hh hx (fun μ1 => ?_)
    obtain ⟨O', e2, k⟩ := m_dropsOf (m := m) (μ := μ1) hz hg hr hp
    refine ⟨O', (hm μ1).trans ?_, k⟩
    rw [if_pos rfl, e2, Option.bind_some]
  rw [if_neg c5] at hx
  have hm := fun μ1 => (hm μ1).trans (if_neg c5)
  by_cases c6 : x2 = 6
  · subst c6
    obtain ⟨g', e⟩ := x_waits (Z := Z) (g := g) zo11 hl hp6
    rw [if_pos rfl, e, Option.bind_some] at hx
    refine now_scr (wtS L Z p) hz hg hh hx (fun μ1 => ?_)
    obtain ⟨O', e2, k⟩ := m_waitsOf (m := m) (μ := μ1) hz hg hr hp
    refine ⟨O', (hm μ1).trans ?_, k⟩
    rw [if_pos rfl, e2, Option.bind_some]
  rw [if_neg c6] at hx
  have hm := fun μ1 => (hm μ1).trans (if_neg c6)
  by_cases c7 : x2 = 7
  · subst c7
    rw [if_pos rfl, x_linensOf zo11, Option.bind_some] at hx
    refine now_same (ownA Z (nI p) 8) hz hg hh hx (fun μ1 => (hm μ1).trans ?_)
    rw [if_pos rfl, m_ownLinens hz, Option.bind_some]
  rw [if_neg c7] at hx
  have hm := fun μ1 => (hm μ1).trans (if_neg c7)
  by_cases c8 : x2 = 8
  · subst c8
    obtain ⟨g', e⟩ := x_stooping (Z := Z) (g := g) zo11 hl hp6
    rw [if_pos rfl, e, Option.bind_some] at hx
    refine now_scr (spA L Z p 6) hz hg hh hx (fun μ1 => ?_)
    obtain ⟨O', e2, k⟩ := m_stoopers (m := m) (μ := μ1) hz hg hr hp
    refine ⟨O', (hm μ1).trans ?_, k⟩
    rw [if_pos rfl, e2, Option.bind_some]
  rw [if_neg c8] at hx
  exact now_same (-7) hz hg hh hx (fun μ1 => (hm μ1).trans (if_neg c8))
theorem k_regard (x1 x2 x3 : Int32) : Call b m (f_X5_regard b x1 x2 x3) (f_X6_regard m x1 x2 x3) := by
  refine Call.now fun S O μ Z g L hz hg hh hl hr => ?_
  by_cases q : f_X5_isBelow x1 (Z 10 2) = 0
  · refine now_same (-5) hz hg hh ?_ (fun μ1 => ?_)
    · simp only [f_X5_regard.eq_1, h3, Option.bind_some, isO_A zo11, x_has zo11, q, if_true]
    · simp only [f_X6_regard.eq_1, isO_M, m_isOne hz hg, Option.bind_some, q, if_true]
  obtain ⟨p, hp, rfl⟩ := has_k hg q
  have h6 := hg.w6
  have hp6 : p < 6 := by omega
  have hx : f_X5_regard b (nI p) x2 x3 (AZ b 11 S (memM m O μ) Z g) = _ := f_X5_regard.eq_1 _ _ _ _ _
  have hm : ∀ μ1, f_X6_regard m (nI p) x2 x3 (memM m O μ1) = _ := fun μ1 => f_X6_regard.eq_1 _ _ _ _ _
  simp only [h3, Option.bind_some, isO_A zo11, x_has zo11, q, if_true, if_false] at hx
  simp only [isO_M, m_isOne hz hg, Option.bind_some, q, if_true, if_false, i_6, i_2] at hm
  by_cases q2 : f_X5_isBelow x2 6 = 0
  · rw [if_pos q2] at hx
    exact now_same (-5) hz hg hh hx (fun μ1 => (hm μ1).trans (if_pos q2))
  rw [if_neg q2] at hx
  have hm := fun μ1 => (hm μ1).trans (if_neg q2)
  obtain ⟨man, hman, rfl⟩ := b_6 x2 q2
  by_cases c0 : x3 = 0
  · subst c0
    obtain ⟨g', e⟩ := x_looks (Z := Z) (g := g) zo11 hl hp6 (nI man)
    rw [if_pos rfl, e, Option.bind_some] at hx
    refine now_scr (lkS L Z p (nI man)) hz hg hh hx (fun μ1 => ?_)
    obtain ⟨O', e2, k⟩ := m_looksOf (m := m) (μ := μ1) hz hg hr hp (man := man)
    refine ⟨O', (hm μ1).trans ?_, k⟩
    rw [if_neg (by decide), if_pos rfl, e2, Option.bind_some]
  rw [if_neg c0] at hx
  by_cases c1 : x3 = 1
  · subst c1
    obtain ⟨g', e⟩ := x_stoops (Z := Z) (g := g) zo11 hl hp6 hman
    rw [if_pos rfl, e, Option.bind_some] at hx
    have hs : stS L Z man p = 0 ∨ stS L Z man p = 1 := by
      unfold stS
      split
      · exact Or.inl rfl
      · exact Or.inr rfl
    have hx2 : f_X5_regard b (nI p) (nI man) 1 (AZ b 11 S (memM m O μ) Z g) = some (stS L Z man p, AZ b 11 S (memM m O μ) Z g') := by
      rw [hx]
      rcases hs with e | e
      · rw [e]; rfl
      · rw [e]; rfl
    refine now_scr (stS L Z man p) hz hg hh hx2 (fun μ1 => ?_)
    obtain ⟨O', e2, k⟩ := m_doesStoop (m := m) (μ := μ1) hz hg hr hp hman
    refine ⟨O', (hm μ1).trans ?_, k⟩
    rw [if_neg (by decide), if_neg c0, e2, Option.bind_some]
    rcases hs with e | e
    · rw [e]; rfl
    · rw [e]; rfl
  rw [if_neg c1] at hx
  refine now_same (-7) hz hg hh hx (fun μ1 => (hm μ1).trans (if_pos ?_))
  by_cases q3 : f_X5_isBelow x3 2 = 0
  · exact q3
  · obtain ⟨k, hk, rfl⟩ := b_2 x3 q3
    exfalso
    have : k = 0 ∨ k = 1 := by omega
    rcases this with rfl | rfl
    · exact c0 rfl
    · exact c1 rfl
end CB
