/-! feed: bytes come behind the tape's. -/
section FE
variable {b m : Nat} {S S' : XS} {O O' : MS} {μ : mS}
def bt (x2 x3 x4 x5 x6 : Int32) (j : Nat) : Int32 := if j = 0 then x2 else if j = 1 then x3 else if j = 2 then x4 else if j = 3 then x5 else x6
theorem x_append {n : Nat} {v : Int32} (hn : n < 160) (h : S.1 2 3 = nI n) : f_X4_append (b + 2) v (memX b S μ) = some (memX b (sxI (sxA S 3 (upd (S.2.1 3) n v)) 2 3 (nI (n + 1))) μ) := by
  have h2 : (sxA S 3 (upd (S.2.1 3) n v)).1 2 3 = nI n := h
  rw [f_X4_append.eq_1, gI_T 3 (by omega), Option.bind_some, h, tp0, Option.bind_some, aL_X (k := 3) (by omega) rfl, Option.bind_some, if_neg (show ¬ Int32.ofNat 160 ≤ nI n from ge_160 hn), Option.bind_some, Option.bind_some, sI_X (k := 3) (by omega) rfl, if_neg (nI_in hn (by decide)), nI_clamp (by omega), Option.bind_some, gI_T 3 (by omega), Option.bind_some, h2, nI_1, pI_T 3 (by omega), Option.bind_some]
theorem bt_i {x2 x3 x4 x5 x6 : Int32} {j : Nat} (h : 1 ≤ j) (h5 : j < 5) : (if nI j = (1 : Int32) then x3 else if nI j = (2 : Int32) then x4 else if nI j = (3 : Int32) then x5 else x6) = bt x2 x3 x4 x5 x6 j := by
  have : j = 1 ∨ j = 2 ∨ j = 3 ∨ j = 4 := by omega
  rcases this with rfl | rfl | rfl | rfl <;> rfl
theorem bt_m {x2 x3 x4 x5 x6 : Int32} {j : Nat} (h5 : j < 5) : (if nI j = 0 then x2 else if nI j = (1 : Int32) then x3 else if nI j = (2 : Int32) then x4 else if nI j = (3 : Int32) then x5 else x6) = bt x2 x3 x4 x5 x6 j := by
  have : j = 0 ∨ j = 1 ∨ j = 2 ∨ j = 3 ∨ j = 4 := by omega
  rcases this with rfl | rfl | rfl | rfl | rfl <;> rfl
theorem x_feedL (x2 x3 x4 x5 x6 : Int32) {k n0 : Nat} (hk : k ≤ 5) (hn : n0 + k ≤ 160) : ∀ d j n S, 1 ≤ j → j + d = k → d < n → S.1 2 3 = nI (n0 + j) → ∃ S', f_X5_feed_80 n b (nI k) x3 x4 x5 x6 (nI j) (memX b S μ) = some (nI (n0 + k), memX b S' μ) ∧ tpS S S' ∧ S'.1 2 3 = nI (n0 + k) ∧ ∀ i, S'.2.1 3 i = if n0 + j ≤ i ∧ i < n0 + k then bt x2 x3 x4 x5 x6 (i - n0) else S.2.1 3 i := by
  intro d
  induction d with
  | zero =>
    intro j n S h1 hj hd hs
    obtain ⟨n, rfl⟩ : ∃ q, n = q + 1 := ⟨n - 1, by omega⟩
    have : j = k := by omega
    subst this
    refine ⟨S, ?_, tpS.rf S, hs, fun i => by rw [if_neg (by omega)]⟩
    rw [f_X5_feed_80.eq_2, if_pos (nI_le (Nat.le_refl _) (by omega)), h1X, Option.bind_some, gI_T 3 (by omega), Option.bind_some, hs]
  | succ d ih =>
    intro j n S h1 hj hd hs
    obtain ⟨n, rfl⟩ : ∃ q, n = q + 1 := ⟨n - 1, by omega⟩
    obtain ⟨S', e1, e2, e3, e4⟩ := ih (j + 1) n (sxI (sxA S 3 (upd (S.2.1 3) (n0 + j) (bt x2 x3 x4 x5 x6 j))) 2 3 (nI (n0 + j + 1))) (by omega) (by omega) (by omega) (by simp [sxI, va_up, upd]; rfl)
    refine ⟨S', ?_, ((tpS.a S _ (by omega)).tr (tpS.i _ _ _)).tr e2, e3, fun i => ?_⟩
    · rw [f_X5_feed_80.eq_2, if_neg (nI_ge (by omega) (by omega)), h1X, Option.bind_some]
      simp only [vl]
      rw [bt_i (x2 := x2) h1 (by omega), if_pos isO_T, x_append (by omega) hs, Option.bind_some, nI_1]
      exact e1
    · rw [e4 i]
      have e5 : (sxI (sxA S 3 (upd (S.2.1 3) (n0 + j) (bt x2 x3 x4 x5 x6 j))) 2 3 (nI (n0 + j + 1))).2.1 3 i = upd (S.2.1 3) (n0 + j) (bt x2 x3 x4 x5 x6 j) i := by simp [sxI, sxA, va_up]
      rw [e5, upd_at]
      by_cases c : i = n0 + j
      · rw [if_neg (by omega), if_pos c, if_pos (by omega), c, Nat.add_sub_cancel_left]
      · rw [if_neg c]
        by_cases c2 : n0 + (j + 1) ≤ i ∧ i < n0 + k
        · rw [if_pos c2, if_pos (by omega)]
        · rw [if_neg c2, if_neg (by omega)]
theorem m_feedL (x2 x3 x4 x5 x6 : Int32) {k n0 : Nat} (hk : k ≤ 5) (hn : n0 + k ≤ 160) : ∀ d j n O, j + d = k → d < n → O.1 10 = nI (n0 + j) → ∃ O', f_X6_feed_68 n m (nI k) x2 x3 x4 x5 x6 (nI j) (memM m O μ) = some (nI (n0 + k), memM m O' μ) ∧ tpO O O' ∧ O'.1 10 = nI (n0 + k) ∧ ∀ i, O'.2 7 i = if n0 + j ≤ i ∧ i < n0 + k then bt x2 x3 x4 x5 x6 (i - n0) else O.2 7 i := by
  intro d
  induction d with
  | zero =>
    intro j n O hj hd hs
    obtain ⟨n, rfl⟩ : ∃ q, n = q + 1 := ⟨n - 1, by omega⟩
    have : j = k := by omega
    subst this
    refine ⟨O, ?_, tpO.rf O, hs, fun i => by rw [if_neg (by omega)]⟩
    rw [f_X6_feed_68.eq_2, if_pos (nI_le (Nat.le_refl _) (by omega)), mI_10, Option.bind_some, hs]
  | succ d ih =>
    intro j n O hj hd hs
    obtain ⟨n, rfl⟩ : ∃ q, n = q + 1 := ⟨n - 1, by omega⟩
    obtain ⟨O', e1, e2, e3, e4⟩ := ih (j + 1) n (smI (smA O 7 (upd (O.2 7) (n0 + j) (bt x2 x3 x4 x5 x6 j))) 10 (nI (n0 + j + 1))) (by omega) (by omega) (by simp [smI, upd]; rfl)
    have k1 : tpO O (smI (smA O 7 (upd (O.2 7) (n0 + j) (bt x2 x3 x4 x5 x6 j))) 10 (nI (n0 + j + 1))) := ⟨fun k a => by rw [smI_at, if_neg (by omega), smA_1], fun i a => by rw [smI_2]; exact up_ne _ _ (by omega)⟩
    refine ⟨O', ?_, k1.tr e2, e3, fun i => ?_⟩
    · rw [f_X6_feed_68.eq_2, if_neg (nI_ge (by omega) (by omega)), mR_9, Option.bind_some, mI_10, Option.bind_some, hs]
      simp only [vl]
      rw [bt_m (by omega), sM 6 (by decide) (n0 + j) (by show _ < 160; omega) (by omega), Option.bind_some, mI_10, Option.bind_some, smA_1, hs, nI_1, mp_10, Option.bind_some, nI_1]
      exact e1
    · rw [e4 i]
      have e5 : (smI (smA O 7 (upd (O.2 7) (n0 + j) (bt x2 x3 x4 x5 x6 j))) 10 (nI (n0 + j + 1))).2 7 i = upd (O.2 7) (n0 + j) (bt x2 x3 x4 x5 x6 j) i := by rw [smI_2, smA_at, if_pos rfl]
      rw [e5, upd_at]
      by_cases c : i = n0 + j
      · rw [if_neg (by omega), if_pos c, if_pos (by omega), c, Nat.add_sub_cancel_left]
      · rw [if_neg c]
        by_cases c2 : n0 + (j + 1) ≤ i ∧ i < n0 + k
        · rw [if_pos c2, if_pos (by omega)]
        · rw [if_neg c2, if_neg (by omega)]
theorem k_feed (x1 x2 x3 x4 x5 x6 : Int32) : Call b m (f_X5_feed b x1 x2 x3 x4 x5 x6) (f_X6_feed m x1 x2 x3 x4 x5 x6) := by
  intro S O μ R
  have R0 := R
  obtain ⟨tc, r, T, Q, R⟩ := R
  have lm := R.lm
  have refuse : ∀ v, f_X5_feed b x1 x2 x3 x4 x5 x6 (Wd b m S O μ) = some (v, Wd b m S O μ) → f_X6_feed m x1 x2 x3 x4 x5 x6 (Wd b m S O μ) = some (v, Wd b m S O μ) → ∃ v S' O' μ', f_X5_feed b x1 x2 x3 x4 x5 x6 (Wd b m S O μ) = some (v, Wd b m S' O μ') ∧ f_X6_feed m x1 x2 x3 x4 x5 x6 (Wd b m S' O μ') = some (v, Wd b m S' O' μ') ∧ Rlw b m S' O' μ' := fun v a1 a2 => ⟨v, S, O, μ, a1, a2, R0⟩
  by_cases c1 : x1 < 1
  · refine refuse (-2) ?_ ?_
    · rw [f_X5_feed.eq_1, if_pos c1]
    · rw [f_X6_feed.eq_1, in_less c1, if_pos rfl]
  by_cases c5 : 5 < x1
  · refine refuse (-2) ?_ ?_
    · rw [f_X5_feed.eq_1, if_neg c1, if_pos c5]
    · rw [f_X6_feed.eq_1, in_more (Int32.not_le.mpr c5), if_pos rfl]
  have hin : f_X6_in x1 1 5 = 1 := in_wide c1 (Int32.not_lt.mp c5)
  have e10 : ¬ (1 : Int32) = 0 := by decide
  by_cases q2 : f_X5_isBelow x2 256 = 0
  · exact refuse (-2) (by simp only [f_X5_feed.eq_1, c1, c5, f_X5_isByte.eq_1, q2, if_true, if_false]) (by simp only [f_X6_feed.eq_1, hin, e10, f_X6_isByte.eq_1, i_256, q2, if_true, if_false])
  by_cases q3 : f_X5_isBelow x3 256 = 0
  · exact refuse (-2) (by simp only [f_X5_feed.eq_1, c1, c5, f_X5_isByte.eq_1, q2, q3, if_true, if_false]) (by simp only [f_X6_feed.eq_1, hin, e10, f_X6_isByte.eq_1, i_256, q2, q3, if_true, if_false])
  by_cases q4 : f_X5_isBelow x4 256 = 0
  · exact refuse (-2) (by simp only [f_X5_feed.eq_1, c1, c5, f_X5_isByte.eq_1, q2, q3, q4, if_true, if_false]) (by simp only [f_X6_feed.eq_1, hin, e10, f_X6_isByte.eq_1, i_256, q2, q3, q4, if_true, if_false])
  by_cases q5 : f_X5_isBelow x5 256 = 0
  · exact refuse (-2) (by simp only [f_X5_feed.eq_1, c1, c5, f_X5_isByte.eq_1, q2, q3, q4, q5, if_true, if_false]) (by simp only [f_X6_feed.eq_1, hin, e10, f_X6_isByte.eq_1, i_256, q2, q3, q4, q5, if_true, if_false])
  by_cases q6 : f_X5_isBelow x6 256 = 0
  · exact refuse (-2) (by simp only [f_X5_feed.eq_1, c1, c5, f_X5_isByte.eq_1, q2, q3, q4, q5, q6, if_true, if_false]) (by simp only [f_X6_feed.eq_1, hin, e10, f_X6_isByte.eq_1, i_256, q2, q3, q4, q5, q6, if_true, if_false])
  have hx : f_X5_feed b x1 x2 x3 x4 x5 x6 (Wd b m S O μ) = _ := f_X5_feed.eq_1 _ _ _ _ _ _ _ _
  have hm : ∀ S', f_X6_feed m x1 x2 x3 x4 x5 x6 (Wd b m S' O μ) = _ := fun S' => f_X6_feed.eq_1 _ _ _ _ _ _ _ _
  simp only [c1, c5, f_X5_isByte.eq_1, q2, q3, q4, q5, q6, if_false] at hx
  simp only [hin, e10, f_X6_isByte.eq_1, i_256, q2, q3, q4, q5, q6, if_false] at hm
  have htp := R.2.2.2.2.1
  obtain ⟨n, hn, t1, t2, t3⟩ := htp
  obtain ⟨k, hk, rfl⟩ : ∃ k, k ≤ 5 ∧ x1 = nI k := in_bounds (N := 5) (by decide) (by grind) (Int32.not_lt.mp c5)
  have hk1 : 1 ≤ k := by
    rcases Nat.eq_zero_or_pos k with e | e
    · rw [e] at c1; exact absurd (by decide) c1
    · exact e
  rw [Wd, h1X, Option.bind_some, gI_T 3 (by omega), Option.bind_some, t1, nI_add, ← Wd] at hx
  have hm : ∀ S', f_X6_feed m (nI k) x2 x3 x4 x5 x6 (Wd b m S' O μ) = if nI (n + k) ≤ (160 : Int32) then f_X6_feed_68 fU m (nI k) x2 x3 x4 x5 x6 (0 : Int32) (memM m O (memX b S' μ)) else some (-4, Wd b m S' O μ) := fun S' => by
    rw [hm S', Wd_M lm, mI_10, Option.bind_some, t2, nI_add]
  by_cases c160 : n + k ≤ 160
  · have h160 : nI (n + k) ≤ (160 : Int32) := nI_le (b := 160) c160 (by decide)
    rw [if_pos h160, Wd, Option.bind_some, if_pos isO_T, x_append (by omega) t1, Option.bind_some] at hx
    obtain ⟨S', e1, e2, e3, e4⟩ := x_feedL (b := b) (μ := memM m O μ) x2 x3 x4 x5 x6 (n0 := n) hk c160 (k - 1) 1 fU (sxI (sxA S 3 (upd (S.2.1 3) n x2)) 2 3 (nI (n + 1))) (by omega) (by omega) (fU_lt (by omega)) (by simp [sxI, va_up, upd])
    obtain ⟨O', f1, f2, f3, f4⟩ := m_feedL (m := m) (μ := memX b S' μ) x2 x3 x4 x5 x6 (n0 := n) hk c160 k 0 fU O (by omega) (fU_lt (by omega)) t2
    refine ⟨nI (n + k), S', O', μ, hx.trans e1, ?_, tc, r, T, Q, R.tp (((tpS.a S _ (by omega)).tr (tpS.i _ _ _)).tr e2) f2 ⟨n + k, c160, e3, f3, fun i hi => ?_⟩⟩
    · rw [hm S', if_pos h160, Wd_M lm]
      exact f1
    · have e5 : (sxI (sxA S 3 (upd (S.2.1 3) n x2)) 2 3 (nI (n + 1))).2.1 3 i = upd (S.2.1 3) n x2 i := by simp [sxI, sxA, va_up]
      rw [f4 i, e4 i, e5, upd_at]
      by_cases c : i < n
      · rw [if_neg (by omega), if_neg (by omega), if_neg (by omega)]
        exact t3 i c
      · rw [if_pos (by omega)]
        by_cases ci : i = n
        · rw [if_neg (by omega), if_pos ci, ci, Nat.sub_self]
          obtain ⟨w, hw, ew⟩ := b_256 x2 q2
          exact ⟨rfl, w, by omega, ew⟩
        · rw [if_pos (by omega)]
          refine ⟨rfl, ?_⟩
          unfold bt
          rw [if_neg (by omega)]
          split
          · obtain ⟨w, hw, ew⟩ := b_256 x3 q3
            exact ⟨w, by omega, ew⟩
          · split
            · obtain ⟨w, hw, ew⟩ := b_256 x4 q4
              exact ⟨w, by omega, ew⟩
            · split
              · obtain ⟨w, hw, ew⟩ := b_256 x5 q5
                exact ⟨w, by omega, ew⟩
              · obtain ⟨w, hw, ew⟩ := b_256 x6 q6
                exact ⟨w, by omega, ew⟩
  · have h160 : ¬ nI (n + k) ≤ (160 : Int32) := nI_ge (a := 160) (by omega) (by omega)
    rw [if_neg h160] at hx
    exact ⟨-4, S, O, μ, hx, (hm S).trans (if_neg h160), R0⟩
end FE
