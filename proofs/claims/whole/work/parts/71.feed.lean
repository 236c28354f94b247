/-! witness, count, force, feed. -/
section CD
variable {b m : Nat} {S S' : XS} {O O' : MS} {μ : mS} {Z : Zt} {g : Nat → Int32} {L : Lw}
def wiS (Z : Zt) (x1 x2 x3 : Int32) : Int32 × Zt := if f_X5_isBelow x1 60 = 0 then (-2, Z) else if f_X5_isBelow x2 1024 = 0 then (-2, Z) else if f_X5_isBelow x3 100 = 0 then (-2, Z) else if Z 10 2 < 6 then (Z 10 2, zs (zs (zs (zs (zs (zs Z 2 (wN Z) (x1 / 10)) 3 (wN Z) (x1 - x1 / 10 * 10)) 4 (wN Z) x2) 5 (wN Z) x3) 6 (wN Z) 0) 10 2 (Z 10 2 + 1)) else (-4, Z)
theorem x_witness (hg : gZ Z) (x1 x2 x3 : Int32) : f_X5_witness b x1 x2 x3 (AZ b 11 S μ Z g) = some ((wiS Z x1 x2 x3).1, AZ b 11 S μ (wiS Z x1 x2 x3).2 g) := by
  rw [f_X5_witness.eq_1, wiS]
  by_cases q1 : f_X5_isBelow x1 60 = 0
  · rw [if_pos q1, if_pos q1]
  rw [if_neg q1, if_neg q1]
  by_cases q2 : f_X5_isBelow x2 1024 = 0
  · rw [if_pos q2, if_pos q2]
  rw [if_neg q2, if_neg q2]
  by_cases q3 : f_X5_isBelow x3 100 = 0
  · rw [if_pos q3, if_pos q3]
  rw [if_neg q3, if_neg q3, h3, Option.bind_some, gW_A zo11, Option.bind_some]
  have hw := hg.wI
  by_cases c : Z 10 2 < 6
  · have c6 : wN Z < 6 := by
      have h6 := hg.w6
      rw [hw] at c
      rcases Nat.lt_or_ge (wN Z) 6 with q | q
      · exact q
      · exact absurd c (nI_nlt (b := 6) q (by omega))
    rw [if_pos c, if_pos c, Option.bind_some, if_pos (isO_A zo11), f_X0_welcome.eq_1, gW_A zo11, Option.bind_some, hw, gR_A zo11 2 (by decide), Option.bind_some, sI_in zo11 2 (by decide) _ c6, Option.bind_some, gR_A zo11 3 (by decide), Option.bind_some, sI_in zo11 3 (by decide) _ c6, Option.bind_some, gR_A zo11 4 (by decide), Option.bind_some, sI_in zo11 4 (by decide) _ c6, Option.bind_some, gR_A zo11 5 (by decide), Option.bind_some, sI_in zo11 5 (by decide) _ c6, Option.bind_some, gR_A zo11 6 (by decide), Option.bind_some, sI_in zo11 6 (by decide) _ c6, Option.bind_some, gW_A zo11, Option.bind_some, pW_A zo11, Option.bind_some, Option.bind_some]
    rw [zs_ne (by omega), zs_ne (by omega), zs_ne (by omega), zs_ne (by omega), zs_ne (by omega), hw]
  · rw [if_neg c, if_neg c]
theorem wi_all (hz : MZ O Z) (hg : gZ Z) (x1 x2 x3 : Int32) : (∀ μ1, ∃ O', f_X6_witness m x1 x2 x3 (memM m O μ1) = some ((wiS Z x1 x2 x3).1, memM m O' μ1) ∧ keepO O O' ∧ MZ O' (wiS Z x1 x2 x3).2) ∧ gZ (wiS Z x1 x2 x3).2 ∧ (wiS Z x1 x2 x3).2 10 1 = Z 10 1 ∧ stay Z (wiS Z x1 x2 x3).2 := by
  rw [wiS]
  by_cases q1 : f_X5_isBelow x1 60 = 0
  · rw [if_pos q1]
    exact ⟨fun μ1 => ⟨O, by simp only [f_X6_witness.eq_1, i_60, q1, if_true], keepO.rf O, hz⟩, hg, rfl, stay.rf Z⟩
  by_cases q2 : f_X5_isBelow x2 1024 = 0
  · rw [if_neg q1, if_pos q2]
    exact ⟨fun μ1 => ⟨O, by simp only [f_X6_witness.eq_1, i_60, i_1024, q1, q2, if_true, if_false], keepO.rf O, hz⟩, hg, rfl, stay.rf Z⟩
  by_cases q3 : f_X5_isBelow x3 100 = 0
  · rw [if_neg q1, if_neg q2, if_pos q3]
    exact ⟨fun μ1 => ⟨O, by simp only [f_X6_witness.eq_1, i_60, i_1024, i_100, q1, q2, q3, if_true, if_false], keepO.rf O, hz⟩, hg, rfl, stay.rf Z⟩
  rw [if_neg q1, if_neg q2, if_neg q3]
  have hm : ∀ μ1, f_X6_witness m x1 x2 x3 (memM m O μ1) = _ := fun μ1 => f_X6_witness.eq_1 _ _ _ _ _
  simp only [i_60, i_1024, i_100, q1, q2, q3, if_false, mI_0, Option.bind_some, hz.wi] at hm
  have h6 := hg.w6
  have hw := hg.wI
  have wz : wN Z = wN Z := rfl
  generalize wN Z = w at h6 hw wz ⊢
  rw [hw] at hm
  rw [hw]
  by_cases c : w < 6
  · obtain ⟨k1, hk1, rfl⟩ := b_60 x1 q1
    have hs : isSet x2 := b_1024 x2 q2
    obtain ⟨k3, hk3, rfl⟩ := b_100 x3 q3
    have e1 : nI k1 / (10 : Int32) = nI (k1 / 10) := pk_div (d := 10) (by omega) (by omega) (by omega)
    have e2 : nI k1 - nI k1 / (10 : Int32) * (10 : Int32) = nI (k1 % 10) := pk_rem (d := 10) (by omega) (by omega) (by omega)
    rw [if_pos (show nI w < (6 : Int32) from nI_lt (b := 6) c (by decide)), nI_1, e2, e1]
    dsimp only
    refine ⟨fun μ1 => ⟨smI (smA (smA (smA (smA (smA O 1 (upd (O.2 1) w (nI (k1 / 10)))) 2 (upd (O.2 2) w (nI (k1 % 10)))) 3 (upd (O.2 3) (3 * w) x2)) 3 (upd (upd (O.2 3) (3 * w) x2) (3 * w + 1) (nI k3))) 3 (upd (upd (upd (O.2 3) (3 * w) x2) (3 * w + 1) (nI k3)) (3 * w + 2) 0)) 0 (nI (w + 1)), (hm μ1).trans ?_, ?_, ?_⟩, ?_, ?_, ?_⟩
    · rw [if_neg (show ¬ nI w = (6 : Int32) from fun q => by have := (nI_eq (a := w) (b := 6) (by omega) (by decide)).mp q; omega), mR_1, Option.bind_some, sM 0 (by decide) w (by show _ < 6; omega) (by omega), Option.bind_some, mR_2, Option.bind_some, mI_0, Option.bind_some, smA_1, hz.wi, hw, sM 1 (by decide) w (by show _ < 6; omega) (by omega), Option.bind_some, mR_3, Option.bind_some, mI_0, Option.bind_some, smA_1, smA_1, hz.wi, hw, three, sM 2 (by decide) (3 * w) (by show _ < 18; omega) (by omega), Option.bind_some, mR_3, Option.bind_some, mI_0, Option.bind_some, smA_1, smA_1, smA_1, hz.wi, hw, three1, sM 2 (by decide) (3 * w + 1) (by show _ < 18; omega) (by omega), Option.bind_some, mR_3, Option.bind_some, mI_0, Option.bind_some, smA_1, smA_1, smA_1, smA_1, hz.wi, hw, three2, sM 2 (by decide) (3 * w + 2) (by show _ < 18; omega) (by omega), Option.bind_some, mI_0, Option.bind_some, smA_1, smA_1, smA_1, smA_1, smA_1, hz.wi, hw, nI_1, mp_0, Option.bind_some, mI_0, Option.bind_some]
      rw [e2, e1]
      simp only [smI_at, if_true, nI_pred]
      rfl
    · exact (((((keepO.a _ _ (by omega)).tr (keepO.a _ _ (by omega))).tr (keepO.a _ _ (by omega))).tr (keepO.a _ _ (by omega))).tr (keepO.a _ _ (by omega))).tr (keepO.i _ _ (by omega))
    · refine ⟨fun i hi => ?_, fun i hi => ⟨?_, ?_, ?_, ?_⟩, fun i hi => ⟨?_, ?_, ?_⟩, ⟨?_, ?_, ?_⟩, fun p hp => ⟨?_, ?_⟩⟩
      · simp [zs_at, smA_at, upd_at, smA_1, smI_at, smI_2]; exact hz.wt hi
      · simp [zs_at, smA_at, upd_at, smA_1, smI_at, smI_2]; exact hz.kn hi
      · simp [zs_at, smA_at, upd_at, smA_1, smI_at, smI_2]
        rw [if_neg (by omega), if_neg (by omega)]
        by_cases e : i = w
        · subst e; simp
        · rw [if_neg (by omega), if_neg e]; exact hz.r0 hi
      · simp [zs_at, smA_at, upd_at, smA_1, smI_at, smI_2]
        rw [if_neg (by omega)]
        by_cases e : i = w
        · subst e; simp
        · rw [if_neg e, if_neg (by omega), if_neg (by omega)]; exact hz.r1 hi
      · simp [zs_at, smA_at, upd_at, smA_1, smI_at, smI_2]
        by_cases e : i = w
        · subst e; simp
        · rw [if_neg e, if_neg (by omega), if_neg (by omega), if_neg (by omega)]; exact hz.r2 hi
      · simp [zs_at, smA_at, upd_at, smA_1, smI_at, smI_2]; exact hz.l0 hi
      · simp [zs_at, smA_at, upd_at, smA_1, smI_at, smI_2]; exact hz.l1 hi
      · simp [zs_at, smA_at, upd_at, smA_1, smI_at, smI_2]; exact hz.l2 hi
      · simp [zs_at, smA_at, upd_at, smA_1, smI_at, smI_2]; exact hz.ad
      · simp [zs_at, smA_at, upd_at, smA_1, smI_at, smI_2]; exact hz.hr
      · simp [zs_at, smA_at, upd_at, smA_1, smI_at, smI_2]
      · rw [zs_hit, nI_clamp (by omega)] at hp
        simp [zs_at, smA_at, upd_at, smA_1, smI_at, smI_2]
        by_cases e : p = w
        · subst e; simp
        · simp only [if_neg e]
          refine hz.kd ?_
          rw [hw, nI_clamp (by omega)]
          omega
      · rw [zs_hit, nI_clamp (by omega)] at hp
        simp [zs_at, smA_at, upd_at, smA_1, smI_at, smI_2]
        by_cases e : p = w
        · subst e; simp
        · simp only [if_neg e]
          refine hz.mo ?_
          rw [hw, nI_clamp (by omega)]
          omega
    · have wn : ∀ Y : Zt, wN (zs Y 10 2 (nI (w + 1))) = w + 1 := fun Y => by rw [wN, zs_hit, nI_clamp (by omega)]
      have wz : wN Z = w := by rw [wN, hw, nI_clamp (by omega)]
      obtain ⟨h1, h2, hw3, h4, h5, h7⟩ := hg
      refine ⟨?_, ?_, fun k hk => ?_, fun k hk => ?_, fun p hp => ?_, fun h hh => ?_⟩
      · rw [zs_hit]; exact ⟨w + 1, by omega, rfl⟩
      · simp [zs_at]; exact h2
      · simp [zs_at]; exact hw3 k hk
      · simp [zs_at]
        obtain ⟨a1, a2, a3, a4⟩ := h4 k hk
        by_cases e : k = w
        · subst e
          simp
          exact ⟨a1, hs, ⟨k3, by omega, rfl⟩, ⟨0, by omega, rfl⟩⟩
        · simp [e]
          exact ⟨a1, a2, a3, a4⟩
      · rw [wn] at hp
        simp [zs_at]
        by_cases e : p = w
        · subst e
          simp
          exact ⟨⟨k1 / 10, by omega, rfl⟩, ⟨k1 % 10, by omega, rfl⟩⟩
        · simp [e]
          exact h5 p (by omega)
      · rw [wn]
        simp [zs_at]
        rcases h7 h hh with e | ⟨⟨p, hp, e1⟩, e2, e3⟩
        · exact Or.inl e
        · exact Or.inr ⟨⟨p, by omega, e1⟩, e2, e3⟩
    · simp [zs_at]
    · have wz : wN Z = w := by rw [wN, hw, nI_clamp (by omega)]
      refine ⟨?_, fun p hp => ⟨?_, ?_⟩⟩
      · rw [wz, wN, zs_hit, nI_clamp (by omega)]; omega
      · simp [zs_at]
        intro e
        omega
      · simp [zs_at]
        intro e
        omega
  · have e6 : w = 6 := by omega
    subst e6
    rw [if_neg (by decide)]
    exact ⟨fun μ1 => ⟨O, (hm μ1).trans (if_pos (by decide)), keepO.rf O, hz⟩, hg, rfl, stay.rf Z⟩
theorem k_witness (x1 x2 x3 : Int32) : Call b m (f_X5_witness b x1 x2 x3) (f_X6_witness m x1 x2 x3) := by
  refine Call.now fun S O μ Z g L hz hg hh hl hr => ?_
  obtain ⟨h1, h2, h3, h4⟩ := wi_all (m := m) hz hg x1 x2 x3
  exact ⟨_, _, g, x_witness hg x1 x2 x3, h1, h2, by rw [h3]; exact hh, h4⟩
theorem tp0 {μ : mS} : gR (memX b S μ) (b + 2) 3 0 = some (b + 3) := gR_T 0 (by decide)
theorem h1X {μ : mS} : gR (memX b S μ) b 4 1 = some (b + 2) := gR_H 1 (by decide)
theorem h3X {μ : mS} : gR (memX b S μ) b 4 3 = some (b + 11) := gR_H 3 (by decide)
theorem h0X {μ : mS} : gR (memX b S μ) b 4 0 = some (b + 1) := gR_H 0 (by decide)
theorem h2X {μ : mS} : gR (memX b S μ) b 4 2 = some (b + 6) := gR_H 2 (by decide)
theorem h4X {μ : mS} : gR (memX b S μ) b 4 4 = some (b + 22) := gR_H 4 (by decide)
theorem h5X {μ : mS} : gR (memX b S μ) b 4 5 = some (b + 33) := gR_H 5 (by decide)
theorem h6X {μ : mS} : gR (memX b S μ) b 4 6 = some (b + 7) := gR_H 6 (by decide)
theorem k_count (x1 : Int32) : CallR b m (f_X5_count b x1) (f_X6_count m x1) := by
  intro S O μ R
  obtain ⟨tc, r, T, Q, R⟩ := R
  have lm := R.lm
  have hz := R.z
  obtain ⟨_, _, ht, hr, htp, _⟩ := R
  by_cases c0 : x1 = 0
  · subst c0
    refine ⟨S.1 11 13, ?_, ?_⟩
    · rw [f_X5_count.eq_1, if_pos rfl, Wd, h3X, Option.bind_some, gI_Z zo11 13 (by omega), Option.bind_some]
    · rw [f_X6_count.eq_1, if_pos rfl, Wd_M lm, mI_0, Option.bind_some, hz.wi]; rfl
  by_cases c1 : x1 = 1
  · subst c1
    refine ⟨S.1 11 12, ?_, ?_⟩
    · rw [f_X5_count.eq_1, if_neg c0, if_pos rfl, Wd, h3X, Option.bind_some, gI_Z zo11 12 (by omega), Option.bind_some]
    · rw [f_X6_count.eq_1, if_neg c0, if_pos rfl, Wd_M lm, mI_8, Option.bind_some, hz.hr]; rfl
  by_cases c2 : x1 = 2
  · subst c2
    refine ⟨lyA (zof S 11) 8, ?_, ?_⟩
    · rw [f_X5_count.eq_1, if_neg c0, if_neg c1, if_pos rfl, Wd, h3X, Option.bind_some, AZ_of b 11, if_pos (isO_A zo11), x_lying zo11, Option.bind_some]
    · rw [f_X6_count.eq_1, if_neg c0, if_neg c1, if_pos rfl, Wd_M lm, if_pos isO_M, m_lying hz, Option.bind_some]
  by_cases c3 : x1 = 3
  · subst c3
    refine ⟨nI tc, ?_, ?_⟩
    · rw [f_X5_count.eq_1, if_neg c0, if_neg c1, if_neg c2, if_pos rfl, Wd, gI_H 7 (by omega), Option.bind_some, ht.2.2.1]
    · rw [f_X6_count.eq_1, if_neg c0, if_neg c1, if_neg c2, if_pos rfl, Wd_M lm, mI_13, Option.bind_some, ht.2.2.2.1]
  by_cases c4 : x1 = 4
  · subst c4
    obtain ⟨a, n, wt, dp, code, _, hlw, _⟩ := (ht.2.2.2.2 r hr.1).2
    refine ⟨nI r, ?_, ?_⟩
    · rw [f_X5_count.eq_1, if_neg c0, if_neg c1, if_neg c2, if_neg c3, if_pos rfl, Wd, h3X, Option.bind_some, gL_Z zo11, Option.bind_some, hr.2.2, ← Wd, (hlw S O (sameL.rf S)).gnr, Option.bind_some]
    · rw [f_X6_count.eq_1, if_neg c0, if_neg c1, if_neg c2, if_neg c3, if_pos rfl, Wd_M lm, mI_14, Option.bind_some, hr.2.1]
  by_cases c5 : x1 = 5
  · subst c5
    obtain ⟨n, e1, e2, e3, e4⟩ := htp
    refine ⟨nI n, ?_, ?_⟩
    · rw [f_X5_count.eq_1, if_neg c0, if_neg c1, if_neg c2, if_neg c3, if_neg c4, if_pos rfl, Wd, h1X, Option.bind_some, gI_T 3 (by omega), Option.bind_some, e2]
    · rw [f_X6_count.eq_1, if_neg c0, if_neg c1, if_neg c2, if_neg c3, if_neg c4, if_pos rfl, Wd_M lm, mI_10, Option.bind_some, e3]
  · refine ⟨-2, ?_, ?_⟩
    · rw [f_X5_count.eq_1, if_neg c0, if_neg c1, if_neg c2, if_neg c3, if_neg c4, if_neg c5]
    · rw [f_X6_count.eq_1, if_neg c0, if_neg c1, if_neg c2, if_neg c3, if_neg c4, if_neg c5]
theorem k_force (x1 : Int32) : Call b m (f_X5_force b x1) (f_X6_force m x1) := by
  intro S O μ R
  have R0 := R
  obtain ⟨tc, r, T, Q, R⟩ := R
  have lm := R.lm
  obtain ⟨h1, h2, ht, hr, h5, h6, h7, h8⟩ := R
  have htc := ht.2.1
  have hx : f_X5_force b x1 (Wd b m S O μ) = _ := f_X5_force.eq_1 _ _ _
  have hm : f_X6_force m x1 (Wd b m S O μ) = _ := f_X6_force.eq_1 _ _ _
  rw [Wd, gI_H 7 (by omega), Option.bind_some, ht.2.2.1] at hx
  rw [Wd_M lm, mI_13, Option.bind_some, ht.2.2.2.1, in_bel (show tc < 2 ^ 31 by omega), ← Wd_M lm] at hm
  by_cases q : f_X5_isBelow x1 (nI tc) = 0
  · rw [if_pos q] at hx hm
    exact ⟨-2, S, O, μ, hx, hm, R0⟩
  obtain ⟨k, hk, rfl⟩ := bel_k (show tc < 2 ^ 31 by omega) q
  obtain ⟨a, n, wt, dp, code, _, hlw, _⟩ := (ht.2.2.2.2 r hr.1).2
  have e1 : gI (memX b S (memM m O μ)) (Q r) 1 0 = some (nI r) := (hlw S O (sameL.rf S)).gnr
  rw [if_neg q, h3X, Option.bind_some, gL_Z zo11, Option.bind_some, hr.2.2, e1, Option.bind_some, Option.bind_some, h0X, Option.bind_some, aR_X, if_neg (nI_in (show k < 6 by omega) (by decide)), nI_clamp (by omega), (ht.2.2.2.2 k hk).1, Option.bind_some, pL_Z zo11, Option.bind_some] at hx
  have e2 : f_X6_force m (nI k) (Wd b m (sxL S 11 (Q k)) O μ) = some (nI r, Wd b m (sxL S 11 (Q k)) (smI O 14 (nI k)) μ) := by
    rw [f_X6_force.eq_1, Wd_M lm, mI_13, Option.bind_some, ht.2.2.2.1, in_bel (show tc < 2 ^ 31 by omega), if_neg q, mI_14, Option.bind_some, hr.2.1, mp_14, Option.bind_some, Wd_M lm]
  have z11 : zof (sxL S 11 (Q k)) 11 = zof S 11 := rfl
  have z22 : zof (sxL S 11 (Q k)) 22 = zof S 22 := rfl
  refine ⟨nI r, sxL S 11 (Q k), smI O 14 (nI k), μ, hx, e2, tc, k, T, Q, h1, ⟨?_, h2.2⟩, ⟨ht.1, ht.2.1, ht.2.2.1, ht.2.2.2.1, fun t h => ⟨(ht.2.2.2.2 t h).1, (ht.2.2.2.2 t h).2.go ⟨rfl, rfl⟩ rfl rfl⟩⟩, ⟨hk, by simp [smI, upd], by simp [sxL, va_up]⟩, h5, h6, ?_, h8⟩
  · exact h2.1
  · refine ⟨h7.1, ?_⟩
    rcases h7.2 with e | ⟨e, k1, f1, f2, f3, f4, f5, f6, f7⟩
    · exact Or.inl e
    · exact Or.inr ⟨e, k1, f1, f2, (by simp [sxL, va_up]; exact f3), f4, f5, f6, f7⟩
/-- only the tape changes, and what reads it -/
def tpS (S S' : XS) : Prop := (∀ k, k ≠ 2 → S'.1 k = S.1 k) ∧ (∀ j, j < 3 ∨ 5 < j → S'.2.1 j = S.2.1 j) ∧ S'.2.2 = S.2.2
def tpO (O O' : MS) : Prop := (∀ k, k < 10 ∨ k = 13 ∨ k = 14 ∨ k = 15 → O'.1 k = O.1 k) ∧ ∀ j, j ≤ 6 ∨ (8 ≤ j ∧ j ≤ 14) ∨ j = 16 → O'.2 j = O.2 j
theorem tpS.rf (S : XS) : tpS S S := ⟨fun _ _ => rfl, fun _ _ => rfl, rfl⟩
theorem tpS.tr {S1 S2 S3 : XS} (h : tpS S1 S2) (h2 : tpS S2 S3) : tpS S1 S3 := ⟨fun k a => (h2.1 k a).trans (h.1 k a), fun k a => (h2.2.1 k a).trans (h.2.1 k a), h2.2.2.trans h.2.2⟩
theorem tpO.rf (O : MS) : tpO O O := ⟨fun _ _ => rfl, fun _ _ => rfl⟩
theorem tpO.tr {S1 S2 S3 : MS} (h : tpO S1 S2) (h2 : tpO S2 S3) : tpO S1 S3 := ⟨fun k a => (h2.1 k a).trans (h.1 k a), fun k a => (h2.2 k a).trans (h.2 k a)⟩
theorem tpS.i (S : XS) (k : Nat) (v : Int32) : tpS S (sxI S 2 k v) := ⟨fun _ a => up_ne _ _ a, fun _ _ => rfl, rfl⟩
theorem tpS.a (S : XS) {j : Nat} (f : Nat → Int32) (h : 3 ≤ j ∧ j ≤ 5) : tpS S (sxA S j f) := ⟨fun _ _ => rfl, fun i a => up_ne _ _ (by omega), rfl⟩
theorem tpS.l (h : tpS S S') : sameL S S' := ⟨h.1 8 (by decide), h.2.1 9 (by omega)⟩
theorem tpS.z (h : tpS S S') {o : Nat} (hz : zo o) : zof S' o = zof S o := by
  have ho : 11 ≤ o := by rcases hz with rfl | rfl | rfl | rfl | rfl | rfl <;> omega
  funext j
  simp only [zof]
  split
  · rw [h.2.1 _ (by omega)]
  · rw [h.1 o (by omega)]
variable {tc r : Nat} {T : Nat → Lw} {Q : Nat → Nat}
theorem RLx.tp (h : RLx b m S O μ tc r T Q) (hs : tpS S S') (ho : tpO O O') (ht : RTp S' O') : RLx b m S' O' μ tc r T Q := by
  obtain ⟨h1, h2, h3, h4, h5, h6, h7, h8⟩ := h
  have z11 := hs.z zo11
  have z22 := hs.z zo22
  refine ⟨h1, ?_, ⟨h3.1, h3.2.1, by rw [hs.1 0 (by decide)]; exact h3.2.2.1, (ho.1 13 (by omega)).trans h3.2.2.2.1, fun t ht => ⟨by rw [hs.2.2]; exact (h3.2.2.2.2 t ht).1, (h3.2.2.2.2 t ht).2.go hs.l (ho.2 8 (by omega)) (ho.2 9 (by omega))⟩⟩, ⟨h4.1, (ho.1 14 (by omega)).trans h4.2.1, by rw [hs.2.2]; exact h4.2.2⟩, ht, fun s h => ?_, ?_, fun k hk => ?_⟩
  · rw [z11]
    refine ⟨?_, h2.2⟩
    unfold MZ
    rw [ho.2 1 (by omega), ho.2 2 (by omega), ho.2 3 (by omega), ho.2 4 (by omega), ho.2 5 (by omega), ho.2 6 (by omega), ho.1 7 (by omega), ho.1 8 (by omega), ho.1 0 (by omega)]
    exact h2.1
  · unfold RS1
    rw [ho.2 12 (by omega), ho.2 13 (by omega), ho.2 14 (by omega), hs.1 _ (by omega), hs.2.1 _ (by omega)]
    exact h6 s h
  · refine ⟨(ho.1 15 (by omega)).trans (h7.1.trans (by rw [hs.1 0 (by decide)])), ?_⟩
    rw [hs.1 0 (by decide), z22, z11, hs.2.2, ho.2 11 (by omega)]
    unfold KI
    rw [ho.2 10 (by omega), ho.2 11 (by omega)]
    exact h7.2
  · rw [ho.2 16 (by omega)]
    exact h8 k hk
end CD
