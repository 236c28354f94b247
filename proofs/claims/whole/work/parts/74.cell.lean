/-! sheet, cell. -/
section SC
variable {b m : Nat} {S S' : XS} {O O' : MS} {μ : mS} {tc r : Nat} {T : Nat → Lw} {Q : Nat → Nat}
theorem m_sh70 {s : Nat} (hs : s < 4) : ∀ d j q O, j + d = 40 → d < q → ∃ O', f_X6_sheet_70 q m (nI s) (nI j) (memM m O μ) = some (1, memM m O' μ) ∧ O'.1 = O.1 ∧ (∀ i, i ≠ 14 → O'.2 i = O.2 i) ∧ ∀ k, O'.2 14 k = if 40 * s + j ≤ k ∧ k < 40 * s + 40 then 0 else O.2 14 k := by
  intro d
  induction d with
  | zero =>
    intro j q O hj hq
    obtain ⟨q, rfl⟩ : ∃ z, q = z + 1 := ⟨q - 1, by omega⟩
    have : j = 40 := by omega
    subst this
    exact ⟨O, by rw [f_X6_sheet_70.eq_2, if_pos (by decide)], rfl, fun _ _ => rfl, fun k => by rw [if_neg (by omega)]⟩
  | succ d ih =>
    intro j q O hj hq
    obtain ⟨q, rfl⟩ : ∃ z, q = z + 1 := ⟨q - 1, by omega⟩
    obtain ⟨O', e1, e2, e3, e4⟩ := ih (j + 1) q (smA O 14 (upd (O.2 14) (40 * s + j) 0)) (by omega) (by omega)
    refine ⟨O', ?_, e2, fun i hi => (e3 i hi).trans (up_ne _ _ hi), fun k => ?_⟩
    · rw [f_X6_sheet_70.eq_2, if_neg (show ¬ (40 : Int32) ≤ nI j from nI_ge (b := 40) (by omega) (by decide)), mR_20, Option.bind_some, show (40 : Int32) * nI s + nI j = nI (40 * s + j) from by rw [show (40 : Int32) = nI 40 from rfl, pk_mul, nI_add], sM 13 (by decide) (40 * s + j) (by show _ < 160; omega) (by omega), Option.bind_some]
      simp only [vl]
      rw [nI_1]
      exact e1
    · rw [e4 k, smA_at, if_pos rfl, upd_at]
      by_cases c : k = 40 * s + j
      · rw [if_neg (by omega), if_pos c, if_pos (by omega)]
      · rw [if_neg c]
        by_cases c2 : 40 * s + (j + 1) ≤ k ∧ k < 40 * s + 40
        · rw [if_pos c2, if_pos (by omega)]
        · rw [if_neg c2, if_neg (by omega)]
theorem x_begin {s : Nat} (hs : s < 4) (sort n : Int32) : ∃ S', f_X3_begin (b + (77 + 2 * s)) sort n (memX b S μ) = some (memX b S' μ) ∧ shS S S' (77 + 2 * s) ∧ S'.1 (77 + 2 * s) 1 = sort ∧ S'.1 (77 + 2 * s) 2 = n ∧ ∀ k, k < 40 → S'.2.1 (77 + 2 * s + 1) k = 0 := by
  have h : so (77 + 2 * s) := so_of hs
  have h1 := so_lt h
  obtain ⟨f, e1, e2⟩ := x_fill (b := b) (μ := μ) (S := sxI (sxI S (77 + 2 * s) 1 sort) (77 + 2 * s) 2 n) (k := 77 + 2 * s + 1) 0 (by omega) (so_arr h) (by omega)
  refine ⟨sxA (sxI (sxI S (77 + 2 * s) 1 sort) (77 + 2 * s) 2 n) (77 + 2 * s + 1) f, ?_, ((shS.i S _ _ _).tr (shS.i _ _ _ _)).tr (shS.a _ _ f), ?_, ?_, fun k hk => ?_⟩
  · rw [f_X3_begin.eq_1, pI_S h 1 (by omega), Option.bind_some, pI_S h 2 (by omega), Option.bind_some, gR_S h, Option.bind_some, e1, Option.bind_some]
  · simp [sxA, sxI, va_up, upd]
  · simp [sxA, sxI, va_up, upd]
  · show va_up _ _ f _ k = 0
    rw [up_eq, e2 k, if_pos hk]
theorem m_sh44 {s : Nat} (hs : s < 4) (sort x n : Int32) (hn : (if sort = -1 then 0 else x) = n) : ∃ O', f_X6_sheet_44 m (nI s) sort x (memM m O μ) = some (1, memM m O' μ) ∧ shO O O' ∧ (∀ k, k ≠ s → O'.2 12 k = O.2 12 k) ∧ (∀ k, k ≠ s → O'.2 13 k = O.2 13 k) ∧ (∀ k, k < 40 * s ∨ 40 * s + 40 ≤ k → O'.2 14 k = O.2 14 k) ∧ O'.2 12 s = sort ∧ O'.2 13 s = n ∧ ∀ k, k < 40 → O'.2 14 (40 * s + k) = 0 := by
  obtain ⟨O', e1, e2, e3, e4⟩ := m_sh70 (m := m) (μ := μ) hs 40 0 fU (smA (smA O 12 (upd (O.2 12) s sort)) 13 (upd (O.2 13) s n)) (by omega) (fU_lt (by omega))
  have k12 : O'.2 12 = upd (O.2 12) s sort := by rw [e3 12 (by decide)]; simp [smA, va_up]
  have k13 : O'.2 13 = upd (O.2 13) s n := by rw [e3 13 (by decide)]; simp [smA, va_up]
  have k14 : (smA (smA O 12 (upd (O.2 12) s sort)) 13 (upd (O.2 13) s n)).2 14 = O.2 14 := by simp [smA, va_up]
  refine ⟨O', ?_, ⟨e2, fun j hj => ?_⟩, fun k hk => ?_, fun k hk => ?_, fun k hk => ?_, ?_, ?_, fun k hk => ?_⟩
  · rw [f_X6_sheet_44.eq_1, mR_18, Option.bind_some, sM 11 (by decide) s (by show _ < 4; omega) (by omega), Option.bind_some, mR_19, Option.bind_some]
    simp only [vl]
    rw [hn, sM 12 (by decide) s (by show _ < 4; omega) (by omega), Option.bind_some]
    exact e1
  · rw [e3 j (by omega)]
    exact (up_ne _ _ (by omega)).trans (up_ne _ _ (by omega))
  · rw [k12, upd_ne _ _ hk]
  · rw [k13, upd_ne _ _ hk]
  · rw [e4 k, if_neg (by omega), k14]
  · rw [k12, upd_eq]
  · rw [k13, upd_eq]
  · rw [e4, if_pos (by omega)]
theorem neg1_ne {k : Nat} (h : k < 2 ^ 31) : ¬ nI k = (-1 : Int32) := by
  intro z
  have z2 : (nI k).toInt = ((-1 : Int32)).toInt := by rw [z]
  rw [nI_toInt h] at z2
  have z3 : ((-1 : Int32)).toInt = -1 := by decide
  omega
theorem sort_cases {x : Int32} (h1 : ¬ x < -1) (h2 : x ≤ 2) : x = -1 ∨ rng 2 x := by
  by_cases c : x < 0
  · left
    have a1 := Int32.lt_iff_toInt_lt.mp c
    have a2 := Int32.not_lt.mp h1
    have a3 := Int32.le_iff_toInt_le.mp a2
    have e1 : ((-1 : Int32)).toInt = -1 := by decide
    have e2 : ((0 : Int32)).toInt = 0 := by decide
    exact Int32.toInt_inj.mp (by omega)
  · right
    exact in_bounds (N := 2) (by decide) c h2
theorem k_sheet (x1 x2 x3 : Int32) : Call b m (f_X5_sheet b x1 x2 x3) (f_X6_sheet m x1 x2 x3) := by
  intro S O μ R
  have R0 := R
  obtain ⟨tc, r, T, Q, R⟩ := R
  have lm := R.lm
  have hx : f_X5_sheet b x1 x2 x3 (Wd b m S O μ) = _ := f_X5_sheet.eq_1 _ _ _ _ _
  have hm : ∀ S', f_X6_sheet m x1 x2 x3 (Wd b m S' O μ) = _ := fun S' => f_X6_sheet.eq_1 _ _ _ _ _
  simp only [i_4] at hm
  by_cases q : f_X5_isBelow x1 4 = 0
  · rw [if_pos q] at hx
    exact ⟨-2, S, O, μ, hx, (hm S).trans (if_pos q), R0⟩
  rw [if_neg q] at hx
  have hm := fun S' => (hm S').trans (if_neg q)
  by_cases c1 : x2 < -1
  · rw [if_pos c1] at hx
    exact ⟨-2, S, O, μ, hx, (hm S).trans (by rw [in_less c1, if_pos rfl]), R0⟩
  rw [if_neg c1] at hx
  by_cases c2 : x2 ≤ 2
  · rw [if_pos c2] at hx
    have hm := fun S' => (hm S').trans (if_neg (by rw [in_wide c1 c2]; decide))
    obtain ⟨s, hs, rfl⟩ := b_4 x1 q
    have hso : so (77 + 2 * s) := so_of hs
    have go : ∀ n, rng 40 n → (if x2 = -1 then 0 else x3) = n → f_X5_sheet b (nI s) x2 x3 (Wd b m S O μ) = f_X5_sheet_47 b (nI s) x2 x3 (Wd b m S O μ) → (∀ S', f_X6_sheet m (nI s) x2 x3 (Wd b m S' O μ) = f_X6_sheet_44 m (nI s) x2 x3 (Wd b m S' O μ)) → ∃ v S' O' μ', f_X5_sheet b (nI s) x2 x3 (Wd b m S O μ) = some (v, Wd b m S' O μ') ∧ f_X6_sheet m (nI s) x2 x3 (Wd b m S' O μ') = some (v, Wd b m S' O' μ') ∧ Rlw b m S' O' μ' := by
      intro n hn hn2 e1 e2
      obtain ⟨S', f1, f2, f3, f4, f5⟩ := x_begin (b := b) (S := S) (μ := memM m O μ) hs x2 n
      obtain ⟨O', g1, g2, g3, g4, g5, g6, g7, g8⟩ := m_sh44 (m := m) (O := O) (μ := memX b S' μ) hs x2 x3 n hn2
      refine ⟨1, S', O', μ, ?_, ?_, tc, r, T, Q, R.sh hso f2 g2 (RSh.one hs R.2.2.2.2.2.1 f2 g3 g4 g5 ⟨?_, ?_, ?_, ?_, fun k hk => ?_⟩)⟩
      · rw [e1, f_X5_sheet_47.eq_1, Wd, h2X, Option.bind_some, aRS hs, Option.bind_some]
        simp only [vl]
        rw [hn2, if_pos (isO_S hso), f1, Option.bind_some]
        rfl
      · rw [e2, Wd_M lm, g1, Wd_M lm]
      · rw [g6, f3]
      · rw [g7, f4]
      · rw [f4]; exact hn
      · rw [f3]; exact sort_cases c1 c2
      · rw [g8 k hk, f5 k hk]
    by_cases c3 : x2 = -1
    · subst c3
      refine go 0 ⟨0, by omega, rfl⟩ rfl ?_ (fun S' => ?_)
      · rw [hx, if_pos rfl, f_X5_sheet_35.eq_1, if_pos rfl]
      · rw [hm S', if_pos rfl, f_X6_sheet_32.eq_1, if_pos rfl]
    · rw [if_neg c3] at hx
      have hm := fun S' => (hm S').trans (if_neg c3)
      by_cases c4 : x3 ≤ 40
      · rw [if_pos c4, f_X5_sheet_35.eq_1, if_neg c3] at hx
        have hm := fun S' => (hm S').trans (if_pos c4)
        simp only [f_X6_sheet_32.eq_1, if_neg c3] at hm
        by_cases c5 : 0 ≤ x3
        · rw [if_pos c5] at hx
          exact go x3 (in_bounds (N := 40) (by decide) (Int32.not_lt.mpr c5) c4) (if_neg c3) hx (fun S' => (hm S').trans (if_pos c5))
        · rw [if_neg c5] at hx
          exact ⟨-14, S, O, μ, hx, (hm S).trans (if_neg c5), R0⟩
      · rw [if_neg c4] at hx
        exact ⟨-2, S, O, μ, hx, (hm S).trans (if_neg c4), R0⟩
  · rw [if_neg c2] at hx
    exact ⟨-2, S, O, μ, hx, (hm S).trans (by rw [in_more c2, if_pos rfl]), R0⟩
end SC
