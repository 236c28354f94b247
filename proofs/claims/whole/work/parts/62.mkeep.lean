/-! The reference keeps what is and lays it back. -/
def KP (O : MS) (Z : Zt) : Prop := (∀ k j, k < 6 → j < 3 → O.2 20 (3 * k + j) = Z (4 + j) k) ∧ (∀ k j, k < 8 → j < 3 → O.2 20 (18 + (3 * k + j)) = Z (7 + j) k) ∧ O.2 20 42 = Z 10 0 ∧ O.2 20 43 = Z 10 1
def mkK (O O' : MS) : Prop := O'.1 = O.1 ∧ ∀ j, j ≠ 20 → O'.2 j = O.2 j
/-- what hours don't change -/
def sameC (Z Z0 : Zt) : Prop := (∀ j k, j < 4 → Z j k = Z0 j k) ∧ Z 10 2 = Z0 10 2
theorem mkK.rf (O : MS) : mkK O O := ⟨rfl, fun _ _ => rfl⟩
theorem mkK.s (O : MS) (g : Nat → Int32) : mkK O (smA O 20 g) := ⟨rfl, fun _ a => up_ne _ _ a⟩
theorem mkK.tr {O1 O2 O3 : MS} (h : mkK O1 O2) (h2 : mkK O2 O3) : mkK O1 O3 := ⟨h2.1.trans h.1, fun j a => (h2.2 j a).trans (h.2 j a)⟩
theorem MZ.kk {O O' : MS} {Z : Zt} (h : mkK O O') (hz : MZ O Z) : MZ O' Z := by
  obtain ⟨h1, h2⟩ := h
  unfold MZ
  rw [h1, h2 1 (by decide), h2 2 (by decide), h2 3 (by decide), h2 4 (by decide), h2 5 (by decide), h2 6 (by decide)]
  exact hz
theorem LawR.kk {O O' : MS} {L : Lw} (h : mkK O O') (hl : LawR O L) : LawR O' L := by
  obtain ⟨t, n, wt, dp, code, h1, h2, h3⟩ := hl
  exact ⟨t, n, wt, dp, code, by rw [h.1]; exact h1, h2.k (h.2 8 (by decide)) (h.2 9 (by decide)), h3⟩
section MKEEP
variable {m : Nat} {O : MS} {μ : mS} {Z Z0 : Zt} {L : Lw}
theorem ge_18 {k : Nat} (h : k < 18) : ¬ (18 : Int32) ≤ nI k := nI_ge h (by decide)
theorem ge_24 {k : Nat} (h : k < 24) : ¬ (24 : Int32) ≤ nI k := nI_ge h (by decide)
theorem add18 (k : Nat) : (18 : Int32) + nI k = nI (18 + k) := nI_add 18 k
theorem m_keeps (hz : MZ O Z) : ∃ O', f_X6_keeps m (memM m O μ) = some (memM m O' μ) ∧ mkK O O' ∧ MZ O' Z ∧ KP O' Z := by
  rw [f_X6_keeps.eq_1]
  -- the second loop
  have second : ∀ P, mkK O P → (∀ i, i < 18 → P.2 20 i = O.2 3 i) → ∃ O', f_X6_keeps_28 fU m (nI 0) (memM m P μ) = some (memM m O' μ) ∧ mkK O O' ∧ (∀ i, i < 18 → O'.2 20 i = O.2 3 i) ∧ (∀ i, i < 24 → O'.2 20 (18 + i) = O.2 4 i) ∧ O'.2 20 42 = O.1 7 ∧ O'.2 20 43 = O.1 8 := by
    intro P hP h18
    refine loopN (fun k n => ∀ P, mkK O P → (∀ i, i < 18 → P.2 20 i = O.2 3 i) → (∀ i, i < k → P.2 20 (18 + i) = O.2 4 i) → ∃ O', f_X6_keeps_28 n m (nI k) (memM m P μ) = some (memM m O' μ) ∧ mkK O O' ∧ (∀ i, i < 18 → O'.2 20 i = O.2 3 i) ∧ (∀ i, i < 24 → O'.2 20 (18 + i) = O.2 4 i) ∧ O'.2 20 42 = O.1 7 ∧ O'.2 20 43 = O.1 8) 24 (fun n P hP h18 h24 => ?_) (fun k n hk ih P hP h18 h24 => ?_) fU (fU_lt (by decide)) P hP h18 (fun i hi => absurd hi (Nat.not_lt_zero i))
    · have e7 : P.1 7 = O.1 7 := congrFun hP.1 7
      have e8 : P.1 8 = O.1 8 := congrFun hP.1 8
      refine ⟨smA (smA P 20 (upd (P.2 20) 42 (O.1 7))) 20 (upd ((smA P 20 (upd (P.2 20) 42 (O.1 7))).2 20) 43 (O.1 8)), ?_, (hP.tr (mkK.s _ _)).tr (mkK.s _ _), fun i hi => ?_, fun i hi => ?_, ?_, ?_⟩
      · rw [f_X6_keeps_28.eq_2, if_pos (by decide), mR_33, Option.bind_some, mI_7, Option.bind_some, e7, show (42 : Int32) = nI 42 from rfl, sM 19 (by omega) 42 (by decide) (by omega), Option.bind_some, mR_33, Option.bind_some, mI_8, Option.bind_some, smA_1, e8, show (43 : Int32) = nI 43 from rfl, sM 19 (by omega) 43 (by decide) (by omega), Option.bind_some]
      · simp only [smA_at, upd_at, if_true]
        rw [if_neg (by omega), if_neg (by omega)]
        exact h18 i hi
      · simp only [smA_at, upd_at, if_true]
        rw [if_neg (by omega), if_neg (by omega)]
        exact h24 i hi
      · simp only [smA_at, upd_at, if_true]
        rfl
      · simp only [smA_at, upd_at, if_true]
    · obtain ⟨O', f1, f2⟩ := ih (smA P 20 (upd (P.2 20) (18 + k) (P.2 4 k))) (hP.tr (mkK.s _ _)) (fun i hi => by
          simp only [smA_at, upd_at, if_true]
          rw [if_neg (by omega)]
          exact h18 i hi) (fun i hi => by
          simp only [smA_at, upd_at, if_true]
          by_cases c : i = k
          · subst c
            rw [if_pos rfl, hP.2 4 (by decide)]
          · rw [if_neg (by omega)]
            exact h24 i (by omega))
      refine ⟨O', ?_, f2⟩
      rw [f_X6_keeps_28.eq_2, if_neg (ge_24 hk), mR_33, Option.bind_some, mR_4, Option.bind_some, aM 3 (by omega) k (by show _ < 24; omega) (by omega), Option.bind_some, add18, sM 19 (by omega) (18 + k) (by show _ < 44; omega) (by omega), Option.bind_some]
      simp only [vl]
      rw [nI_1]
      exact f1
  obtain ⟨O', e1, k1, e2, e3, e4, e5⟩ : ∃ O', f_X6_keeps_2 (fun h0 x1 σ => f_X6_keeps_28 fU h0 x1 σ) fU m (nI 0) (memM m O μ) = some (memM m O' μ) ∧ mkK O O' ∧ (∀ i, i < 18 → O'.2 20 i = O.2 3 i) ∧ (∀ i, i < 24 → O'.2 20 (18 + i) = O.2 4 i) ∧ O'.2 20 42 = O.1 7 ∧ O'.2 20 43 = O.1 8 := by
    refine loopN (fun k n => ∀ P, mkK O P → (∀ i, i < k → P.2 20 i = O.2 3 i) → ∃ O', f_X6_keeps_2 (fun h0 x1 σ => f_X6_keeps_28 fU h0 x1 σ) n m (nI k) (memM m P μ) = some (memM m O' μ) ∧ mkK O O' ∧ (∀ i, i < 18 → O'.2 20 i = O.2 3 i) ∧ (∀ i, i < 24 → O'.2 20 (18 + i) = O.2 4 i) ∧ O'.2 20 42 = O.1 7 ∧ O'.2 20 43 = O.1 8) 18 (fun n P hP h18 => ?_) (fun k n hk ih P hP h18 => ?_) fU (fU_lt (by decide)) O (mkK.rf O) (fun i hi => absurd hi (Nat.not_lt_zero i))
    · rw [f_X6_keeps_2.eq_2, if_pos (by decide)]
      exact second P hP h18
    · obtain ⟨O', f1, f2⟩ := ih (smA P 20 (upd (P.2 20) k (P.2 3 k))) (hP.tr (mkK.s _ _)) (fun i hi => by
          simp only [smA_at, upd_at, if_true]
          by_cases c : i = k
          · subst c
            rw [if_pos rfl, hP.2 3 (by decide)]
          · rw [if_neg (by omega)]
            exact h18 i (by omega))
      refine ⟨O', ?_, f2⟩
      rw [f_X6_keeps_2.eq_2, if_neg (ge_18 hk), mR_33, Option.bind_some, mR_3, Option.bind_some, aM 2 (by omega) k (by show _ < 18; omega) (by omega), Option.bind_some, sM 19 (by omega) k (by show _ < 44; omega) (by omega), Option.bind_some]
      simp only [vl]
      rw [nI_1]
      exact f1
  refine ⟨O', e1, k1, hz.kk k1, fun k j hk hj => ?_, fun k j hk hj => ?_, e4.trans hz.ad, e5.trans hz.hr⟩
  · rw [e2 _ (by omega)]
    have hc : j = 0 ∨ j = 1 ∨ j = 2 := by omega
    rcases hc with rfl | rfl | rfl
    · exact hz.r0 hk
    · exact hz.r1 hk
    · exact hz.r2 hk
  · rw [e3 _ (by omega)]
    have hc : j = 0 ∨ j = 1 ∨ j = 2 := by omega
    rcases hc with rfl | rfl | rfl
    · exact hz.l0 hk
    · exact hz.l1 hk
    · exact hz.l2 hk
theorem m_lays (hz : MZ O Z) (hs : sameC Z Z0) (hk : KP O Z0) : ∃ O', f_X6_lays m (memM m O μ) = some (memM m O' μ) ∧ mkA O O' ∧ MZ O' Z0 := by
  rw [f_X6_lays.eq_1]
  have second : ∀ P, mkA O P → (∀ i, i < 18 → P.2 3 i = O.2 20 i) → ∃ O', f_X6_lays_28 fU m (nI 0) (memM m P μ) = some (memM m O' μ) ∧ mkA O O' ∧ (∀ i, i < 18 → O'.2 3 i = O.2 20 i) ∧ (∀ i, i < 24 → O'.2 4 i = O.2 20 (18 + i)) ∧ O'.1 7 = O.2 20 42 ∧ O'.1 8 = O.2 20 43 := by
    intro P hP h18
    refine loopN (fun k n => ∀ P, mkA O P → (∀ i, i < 18 → P.2 3 i = O.2 20 i) → (∀ i, i < k → P.2 4 i = O.2 20 (18 + i)) → ∃ O', f_X6_lays_28 n m (nI k) (memM m P μ) = some (memM m O' μ) ∧ mkA O O' ∧ (∀ i, i < 18 → O'.2 3 i = O.2 20 i) ∧ (∀ i, i < 24 → O'.2 4 i = O.2 20 (18 + i)) ∧ O'.1 7 = O.2 20 42 ∧ O'.1 8 = O.2 20 43) 24 (fun n P hP h18 h24 => ?_) (fun k n hk ih P hP h18 h24 => ?_) fU (fU_lt (by decide)) P hP h18 (fun i hi => absurd hi (Nat.not_lt_zero i))
    · have e20 : P.2 20 = O.2 20 := hP.2 20 (by decide) (by decide) (by decide) (by decide)
      refine ⟨smI (smI P 7 (O.2 20 42)) 8 (O.2 20 43), ?_, (hP.tr (mkA.i7 _ _)).tr (mkA.i8 _ _), h18, h24, ?_, ?_⟩
      · rw [f_X6_lays_28.eq_2, if_pos (by decide), mR_33, Option.bind_some, show (42 : Int32) = nI 42 from rfl, aM 19 (by omega) 42 (by decide) (by omega), Option.bind_some, show P.2 (19 + 1) 42 = O.2 20 42 from congrFun e20 42, mp_7, Option.bind_some, mR_33, Option.bind_some, show (43 : Int32) = nI 43 from rfl, aM 19 (by omega) 43 (by decide) (by omega), Option.bind_some, show (smI P 7 (O.2 20 42)).2 (19 + 1) 43 = O.2 20 43 from congrFun e20 43, mp_8, Option.bind_some]
      · simp only [smI_at]
        rfl
      · simp only [smI_at, if_true]
    · obtain ⟨O', f1, f2⟩ := ih (smA P 4 (upd (P.2 4) k (P.2 20 (18 + k)))) (hP.tr (mkA.s4 _ _)) (fun i hi => by
          rw [smA_at, if_neg (by omega)]
          exact h18 i hi) (fun i hi => by
          simp only [smA_at, upd_at, if_true]
          by_cases c : i = k
          · subst c
            rw [if_pos rfl, hP.2 20 (by decide) (by decide) (by decide) (by decide)]
          · rw [if_neg (by omega)]
            exact h24 i (by omega))
      refine ⟨O', ?_, f2⟩
      rw [f_X6_lays_28.eq_2, if_neg (ge_24 hk), mR_4, Option.bind_some, mR_33, Option.bind_some, add18, aM 19 (by omega) (18 + k) (by show _ < 44; omega) (by omega), Option.bind_some, sM 3 (by omega) k (by show _ < 24; omega) (by omega), Option.bind_some]
      simp only [vl]
      rw [nI_1]
      exact f1
  obtain ⟨O', e1, k1, e2, e3, e4, e5⟩ : ∃ O', f_X6_lays_2 (fun h0 x1 σ => f_X6_lays_28 fU h0 x1 σ) fU m (nI 0) (memM m O μ) = some (memM m O' μ) ∧ mkA O O' ∧ (∀ i, i < 18 → O'.2 3 i = O.2 20 i) ∧ (∀ i, i < 24 → O'.2 4 i = O.2 20 (18 + i)) ∧ O'.1 7 = O.2 20 42 ∧ O'.1 8 = O.2 20 43 := by
    refine loopN (fun k n => ∀ P, mkA O P → (∀ i, i < k → P.2 3 i = O.2 20 i) → ∃ O', f_X6_lays_2 (fun h0 x1 σ => f_X6_lays_28 fU h0 x1 σ) n m (nI k) (memM m P μ) = some (memM m O' μ) ∧ mkA O O' ∧ (∀ i, i < 18 → O'.2 3 i = O.2 20 i) ∧ (∀ i, i < 24 → O'.2 4 i = O.2 20 (18 + i)) ∧ O'.1 7 = O.2 20 42 ∧ O'.1 8 = O.2 20 43) 18 (fun n P hP h18 => ?_) (fun k n hk ih P hP h18 => ?_) fU (fU_lt (by decide)) O (mkA.rf O) (fun i hi => absurd hi (Nat.not_lt_zero i))
    · rw [f_X6_lays_2.eq_2, if_pos (by decide)]
      exact second P hP h18
    · obtain ⟨O', f1, f2⟩ := ih (smA P 3 (upd (P.2 3) k (P.2 20 k))) (hP.tr (mkA.s3 _ _)) (fun i hi => by
          simp only [smA_at, upd_at, if_true]
          by_cases c : i = k
          · subst c
            rw [if_pos rfl, hP.2 20 (by decide) (by decide) (by decide) (by decide)]
          · rw [if_neg (by omega)]
            exact h18 i (by omega))
      refine ⟨O', ?_, f2⟩
      rw [f_X6_lays_2.eq_2, if_neg (ge_18 hk), mR_3, Option.bind_some, mR_33, Option.bind_some, aM 19 (by omega) k (by show _ < 44; omega) (by omega), Option.bind_some, sM 2 (by omega) k (by show _ < 18; omega) (by omega), Option.bind_some]
      simp only [vl]
      rw [nI_1]
      exact f1
  obtain ⟨q1, q2, q3, q4⟩ := hk
  obtain ⟨s1, s2⟩ := hs
  refine ⟨O', e1, k1, fun k hk => ?_, fun k hk => ⟨?_, ?_, ?_, ?_⟩, fun k hk => ⟨?_, ?_, ?_⟩, ⟨e4.trans q3, e5.trans q4, ?_⟩, fun p hp => ⟨?_, ?_⟩⟩
  · rw [k1.2 5 (by decide) (by decide) (by decide) (by decide), hz.wt hk]; exact s1 0 k (by omega)
  · rw [k1.2 6 (by decide) (by decide) (by decide) (by decide), hz.kn hk]; exact s1 1 k (by omega)
  · rw [e2 _ (by omega)]; exact q1 k 0 hk (by omega)
  · rw [e2 _ (by omega)]; exact q1 k 1 hk (by omega)
  · rw [e2 _ (by omega)]; exact q1 k 2 hk (by omega)
  · rw [e3 _ (by omega)]; exact q2 k 0 hk (by omega)
  · rw [e3 _ (by omega)]; exact q2 k 1 hk (by omega)
  · rw [e3 _ (by omega)]; exact q2 k 2 hk (by omega)
  · rw [k1.1 0 (by decide) (by decide), hz.wi]; exact s2
  · rw [← s2] at hp
    rw [k1.2 1 (by decide) (by decide) (by decide) (by decide), hz.kd hp]; exact s1 2 p (by omega)
  · rw [← s2] at hp
    rw [k1.2 2 (by decide) (by decide) (by decide) (by decide), hz.mo hp]; exact s1 3 p (by omega)
end MKEEP
