/-! count, court, bench, asks, put, told, regard, linen, hour, burn. -/
section CA
variable {b m : Nat} {S : XS} {O : MS} {μ : mS} {Z : Zt} {g : Nat → Int32} {L : Lw}
theorem in_wide {lo hi v : Int32} (h1 : ¬ v < lo) (h2 : v ≤ hi) : f_X6_in v lo hi = 1 := by
  rw [f_X6_in.eq_1, if_neg h1, if_neg (Int32.not_lt.mpr h2)]
theorem in_less {lo hi v : Int32} (h1 : v < lo) : f_X6_in v lo hi = 0 := by rw [f_X6_in.eq_1, if_pos h1]
theorem in_more {lo hi v : Int32} (h2 : ¬ v ≤ hi) : f_X6_in v lo hi = 0 := by
  rw [f_X6_in.eq_1]
  split
  · rfl
  · rw [if_pos (Int32.not_le.mp h2)]
theorem in_bounds {v : Int32} {N : Nat} (hN : N < 2 ^ 31) (h1 : ¬ v < 0) (h2 : v ≤ nI N) : rng N v := by
  obtain ⟨k, hk, rfl⟩ := nI_of h1
  refine ⟨k, ?_, rfl⟩
  by_cases c : k ≤ N
  · exact c
  · exact absurd h2 (nI_ge (by omega) hk)
theorem rng_set {v : Int32} (h : rng 1023 v) : isSet v := by
  obtain ⟨n, hn, e⟩ := h
  exact ⟨n, by omega, e⟩
theorem ioc0 (x : Int32) : f_X5_isOfCourt 0 x = f_X5_isBelow x 10 := rfl
theorem ioc1 (x : Int32) : f_X5_isOfCourt 1 x = f_X5_isBelow x 6 := rfl
theorem ith0 (x : Int32) : f_X6_isThere 0 x = f_X6_in x 0 9 := rfl
theorem ith1 (x : Int32) : f_X6_isThere 1 x = (if f_X6_in x 0 5 = 0 then 0 else 1) := rfl
theorem k_court (x1 x2 x3 : Int32) : Call b m (f_X5_court b x1 x2 x3) (f_X6_court m x1 x2 x3) := by
  refine Call.now fun S O μ Z g L hz hg hh hl hr => ?_
  have refuse : ∀ v, f_X5_court b x1 x2 x3 (AZ b 11 S (memM m O μ) Z g) = some (v, AZ b 11 S (memM m O μ) Z g) → (∀ μ1, f_X6_court m x1 x2 x3 (memM m O μ1) = some (v, memM m O μ1)) → NowQ b m S O μ Z g (f_X5_court b x1 x2 x3) (f_X6_court m x1 x2 x3) := fun v e1 e2 => now_same v hz hg hh e1 e2
  by_cases c0 : x1 = 0
  · subst c0
    by_cases q : f_X5_isBelow x2 10 = 0
    · refine refuse (-5000) ?_ (fun μ1 => ?_)
      · rw [f_X5_court.eq_1, ioc0, if_pos q]
      · rw [f_X6_court.eq_1, if_neg (by decide), ith0, i_10, if_pos q]
    by_cases d1 : x3 < -99
    · refine refuse (-7000) ?_ (fun μ1 => ?_)
      · rw [f_X5_court.eq_1, ioc0, if_neg q]
        simp only [vl, if_true]
        rw [if_pos d1]
      · rw [f_X6_court.eq_1, if_neg (by decide), ith0, i_10, if_neg q]
        simp only [vl, if_true]
        rw [if_neg (show ¬ (2 : Int32) ≤ 0 by decide), in_less d1, if_pos rfl]
    by_cases d2 : x3 ≤ 99
    · obtain ⟨k, hk, rfl⟩ := b_10 x2 q
      refine NowQ.m1 ⟨Z 0 k, zs Z 0 k x3, g, smA O 5 (upd (O.2 5) k x3), ?_, fun μ1 => ?_, keepO.a _ _ (by omega), hz.s5 k x3, hg.weight k ⟨Int32.not_lt.mp d1, d2⟩, by rw [zs_ne (by omega)]; exact hh, stay.of (zs_j _ _ (by decide)) (zs_j _ _ (by decide)) (zs_ne (by omega))⟩
      · rw [f_X5_court.eq_1, ioc0, if_neg q]
        simp only [vl, if_true]
        rw [if_neg d1, if_pos (show x3 ≤ f_X5_mostOfCourt 0 from d2), if_neg (by decide), h3, Option.bind_some, gR_A zo11 0 (by decide), Option.bind_some, f_X5_court_64.eq_1, f_X5_replaced.eq_1, aI_in zo11 0 (by decide) k hk, Option.bind_some, sI_in zo11 0 (by decide) k hk, Option.bind_some, Option.bind_some]
      · rw [f_X6_court.eq_1, if_neg (by decide), ith0, i_10, if_neg q]
        simp only [vl, if_true]
        rw [if_neg (show ¬ (2 : Int32) ≤ 0 by decide), in_wide d1 d2, if_neg (by decide), mR_5, Option.bind_some, aM 4 (by decide) k hk (by omega), Option.bind_some, Option.bind_some, sM 4 (by decide) k hk (by omega), Option.bind_some, show O.2 (4 + 1) k = Z 0 k from hz.wt hk]
    · refine refuse (-7000) ?_ (fun μ1 => ?_)
      · rw [f_X5_court.eq_1, ioc0, if_neg q]
        simp only [vl, if_true]
        rw [if_neg d1, if_neg (show ¬ x3 ≤ f_X5_mostOfCourt 0 from d2)]
      · rw [f_X6_court.eq_1, if_neg (by decide), ith0, i_10, if_neg q]
        simp only [vl, if_true]
        rw [if_neg (show ¬ (2 : Int32) ≤ 0 by decide), in_more d2, if_pos rfl]
  by_cases c1 : x1 = 1
  · subst c1
    by_cases q : f_X5_isBelow x2 6 = 0
    · refine refuse (-5000) ?_ (fun μ1 => ?_)
      · rw [f_X5_court.eq_1, ioc1, if_pos q]
      · rw [f_X6_court.eq_1, if_neg (by decide), ith1, i_6, if_pos q, if_pos rfl]
    by_cases d1 : x3 < 0
    · refine refuse (-7000) ?_ (fun μ1 => ?_)
      · rw [f_X5_court.eq_1, ioc1, if_neg q]
        simp only [vl]
        rw [if_neg c0, if_pos d1]
      · rw [f_X6_court.eq_1, if_neg (by decide), ith1, i_6, if_neg q, if_neg (by decide)]
        simp only [vl]
        rw [if_neg (show ¬ (2 : Int32) ≤ 1 by decide), if_neg c0, in_less d1, if_pos rfl]
    by_cases d2 : x3 ≤ 99
    · obtain ⟨k, hk, rfl⟩ := b_6 x2 q
      refine NowQ.m1 ⟨Z 1 k, zs Z 1 k x3, g, smA O 6 (upd (O.2 6) k x3), ?_, fun μ1 => ?_, keepO.a _ _ (by omega), hz.s6 k x3, hg.keen k (in_bounds (N := 99) (by decide) d1 d2), by rw [zs_ne (by omega)]; exact hh, stay.of (zs_j _ _ (by decide)) (zs_j _ _ (by decide)) (zs_ne (by omega))⟩
      · rw [f_X5_court.eq_1, ioc1, if_neg q]
        simp only [vl]
        rw [if_neg c0, if_neg d1, if_pos (show x3 ≤ f_X5_mostOfCourt 1 from d2), if_neg (by decide), if_neg c0, h3, Option.bind_some, gR_A zo11 1 (by decide), Option.bind_some, f_X5_court_64.eq_1, f_X5_replaced.eq_1, aI_in zo11 1 (by decide) k hk, Option.bind_some, sI_in zo11 1 (by decide) k hk, Option.bind_some, Option.bind_some]
      · rw [f_X6_court.eq_1, if_neg (by decide), ith1, i_6, if_neg q, if_neg (by decide)]
        simp only [vl]
        rw [if_neg (show ¬ (2 : Int32) ≤ 1 by decide), if_neg c0, in_wide d1 d2, if_neg (by decide), if_neg (by decide), if_pos trivial, mR_6, Option.bind_some, aM 5 (by decide) k hk (by omega), Option.bind_some, Option.bind_some, sM 5 (by decide) k hk (by omega), Option.bind_some, show O.2 (5 + 1) k = Z 1 k from hz.kn hk]
    · refine refuse (-7000) ?_ (fun μ1 => ?_)
      · rw [f_X5_court.eq_1, ioc1, if_neg q]
        simp only [vl]
        rw [if_neg c0, if_neg d1, if_neg (show ¬ x3 ≤ f_X5_mostOfCourt 1 from d2)]
      · rw [f_X6_court.eq_1, if_neg (by decide), ith1, i_6, if_neg q, if_neg (by decide)]
        simp only [vl]
        rw [if_neg (show ¬ (2 : Int32) ≤ 1 by decide), if_neg c0, in_more d2, if_pos rfl]
  by_cases c2 : x1 = 2
  · subst c2
    by_cases d1 : x3 < 0
    · refine refuse (-7000) ?_ (fun μ1 => ?_)
      · rw [f_X5_court.eq_1, show f_X5_isOfCourt 2 x2 = 1 from rfl, if_neg (by decide)]
        simp only [vl]
        rw [if_neg c0, if_pos d1]
      · rw [f_X6_court.eq_1, show f_X6_isThere 2 x2 = 1 from rfl, if_neg (by decide), if_neg (by decide)]
        simp only [vl]
        rw [if_pos (show (2 : Int32) ≤ 2 by decide), if_pos trivial, if_neg c0, in_less d1, if_pos rfl]
    by_cases d2 : x3 ≤ 999
    · refine NowQ.m1 ⟨Z 10 1, zs Z 10 1 x3, g, smI O 8 x3, ?_, fun μ1 => ?_, keepO.i _ _ (by omega), hz.i8 x3, hg.hour x3, by rw [zs_hit]; exact in_bounds (N := 999) (by decide) d1 d2, stay.of (zs_j _ _ (by decide)) (zs_j _ _ (by decide)) (zs_ne (by omega))⟩
      · rw [f_X5_court.eq_1, show f_X5_isOfCourt 2 x2 = 1 from rfl, if_neg (by decide)]
        simp only [vl]
        rw [if_neg c0, if_neg d1, if_pos (show x3 ≤ f_X5_mostOfCourt 2 from d2), if_pos (by decide), if_pos trivial, h3, Option.bind_some, gH_A zo11, Option.bind_some, f_X5_court_92.eq_1, if_pos rfl, h3, Option.bind_some, pH_A zo11, Option.bind_some]
      · rw [f_X6_court.eq_1, show f_X6_isThere 2 x2 = 1 from rfl, if_neg (by decide), if_neg (by decide)]
        simp only [vl]
        rw [if_pos (show (2 : Int32) ≤ 2 by decide), if_pos trivial, if_neg c0, in_wide d1 d2, if_neg (by decide), if_neg (by decide), if_neg (by decide), if_pos trivial, mI_8, Option.bind_some, mp_8, Option.bind_some, hz.hr]
    · refine refuse (-7000) ?_ (fun μ1 => ?_)
      · rw [f_X5_court.eq_1, show f_X5_isOfCourt 2 x2 = 1 from rfl, if_neg (by decide)]
        simp only [vl]
        rw [if_neg c0, if_neg d1, if_neg (show ¬ x3 ≤ f_X5_mostOfCourt 2 from d2)]
      · rw [f_X6_court.eq_1, show f_X6_isThere 2 x2 = 1 from rfl, if_neg (by decide), if_neg (by decide)]
        simp only [vl]
        rw [if_pos (show (2 : Int32) ≤ 2 by decide), if_pos trivial, if_neg c0, in_more d2, if_pos rfl]
  by_cases c3 : x1 = 3
  · subst c3
    by_cases d1 : x3 < 0
    · refine refuse (-7000) ?_ (fun μ1 => ?_)
      · rw [f_X5_court.eq_1, show f_X5_isOfCourt 3 x2 = 1 from rfl, if_neg (by decide)]
        simp only [vl]
        rw [if_neg c0, if_pos d1]
      · rw [f_X6_court.eq_1, show f_X6_isThere 3 x2 = 1 from rfl, if_neg (by decide), if_neg (by decide)]
        simp only [vl]
        rw [if_pos (show (2 : Int32) ≤ 3 by decide), if_neg c2, if_neg c0, in_less d1, if_pos rfl]
    by_cases d2 : x3 ≤ 1023
    · refine NowQ.m1 ⟨Z 10 0, zs Z 10 0 x3, g, smI O 7 x3, ?_, fun μ1 => ?_, keepO.i _ _ (by omega), hz.i7 x3, hg.adm (rng_set (in_bounds (N := 1023) (by decide) d1 d2)), by rw [zs_ne (by omega)]; exact hh, stay.of (zs_j _ _ (by decide)) (zs_j _ _ (by decide)) (zs_ne (by omega))⟩
      · rw [f_X5_court.eq_1, show f_X5_isOfCourt 3 x2 = 1 from rfl, if_neg (by decide)]
        simp only [vl]
        rw [if_neg c0, if_neg d1, if_pos (show x3 ≤ f_X5_mostOfCourt 3 from d2), if_pos (by decide), if_neg c2, h3, Option.bind_some, gA_A zo11, Option.bind_some, f_X5_court_92.eq_1, if_neg c2, h3, Option.bind_some, pA_A zo11, Option.bind_some]
      · rw [f_X6_court.eq_1, show f_X6_isThere 3 x2 = 1 from rfl, if_neg (by decide), if_neg (by decide)]
        simp only [vl]
        rw [if_pos (show (2 : Int32) ≤ 3 by decide), if_neg c2, if_neg c0, in_wide d1 d2, if_neg (by decide), if_neg (by decide), if_neg (by decide), if_neg (by decide), mI_7, Option.bind_some, mp_7, Option.bind_some, hz.ad]
    · refine refuse (-7000) ?_ (fun μ1 => ?_)
      · rw [f_X5_court.eq_1, show f_X5_isOfCourt 3 x2 = 1 from rfl, if_neg (by decide)]
        simp only [vl]
        rw [if_neg c0, if_neg d1, if_neg (show ¬ x3 ≤ f_X5_mostOfCourt 3 from d2)]
      · rw [f_X6_court.eq_1, show f_X6_isThere 3 x2 = 1 from rfl, if_neg (by decide), if_neg (by decide)]
        simp only [vl]
        rw [if_pos (show (2 : Int32) ≤ 3 by decide), if_neg c2, if_neg c0, in_more d2, if_pos rfl]
  · refine refuse (-5000) ?_ (fun μ1 => ?_)
    · rw [f_X5_court.eq_1, f_X5_isOfCourt.eq_1, if_neg c0, if_neg c1, if_neg c2, if_neg c3, if_pos rfl]
    · rw [f_X6_court.eq_1, i_4, if_pos]
      by_cases q : f_X5_isBelow x1 4 = 0
      · exact q
      · obtain ⟨k, hk, rfl⟩ := b_4 x1 q
        exfalso
        have : k = 0 ∨ k = 1 ∨ k = 2 ∨ k = 3 := by omega
        rcases this with rfl | rfl | rfl | rfl
        · exact c0 rfl
        · exact c1 rfl
        · exact c2 rfl
        · exact c3 rfl
end CA
