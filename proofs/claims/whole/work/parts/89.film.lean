/-! film. -/
theorem bc_byte : ∀ c, c < 11 → (nI c).toInt8.toInt32 = nI c := by decide +kernel
def fmV (L : Lw) (Z : Zt) (n k : Nat) : Int32 := if k < n then bc (hN L Z (k + 1) 10 0) else 0
section FM
variable {b m : Nat} {S : XS} {O O' : MS} {μ μm : mS} {tc r : Nat} {T : Nat → Lw} {Q : Nat → Nat} {Z Y : Zt} {g : Nat → Int32} {L : Lw}
theorem sx_comm (S : XS) (Z : Zt) (g f : Nat → Int32) {k : Nat} (hk : 77 ≤ k) : sxA (sxZ S 33 Z g) k f = sxZ (sxA S k f) 33 Z g := by
  refine Prod.ext rfl (Prod.ext (funext fun i => ?_) rfl)
  simp only [sxA, sxZ, va_up]
  by_cases c : i = k
  · rw [if_pos c, if_neg (by omega), if_neg (by omega), if_pos c]
  · rw [if_neg c]
    by_cases c2 : 33 < i ∧ i ≤ 33 + 10
    · rw [if_pos c2, if_pos c2]
    · rw [if_neg c2, if_neg c2]
      by_cases c3 : i = 10
      · rw [if_pos c3, if_pos c3]
      · rw [if_neg c3, if_neg c3, if_neg c]
theorem x_filmL (q : Nat) {s n : Nat} (hs : s < 4) (hn : n ≤ 20) (hg : gZ Y) {t : Nat} (ht : Y 10 1 = nI t) (h2 : t ≤ 999) : ∀ d k f S g, k + d = n → d < f → S.1 (77 + 2 * s) 1 = 0 → LawOk b 33 (sxL S 33 q) μm L → (∀ S', sameL S S' → LawOk b 33 (sxL S' 33 q) μm L) → ∃ S' Z' g', f_X5_film_50 f b (nI n) (b + (77 + 2 * s)) (nI k) (TA b S q μm (hN L Y k) g) = some (nI n, TA b S' q μm Z' g') ∧ shS S S' (77 + 2 * s) ∧ S'.1 = S.1 ∧ ∀ i, S'.2.1 (77 + 2 * s + 1) i = if k ≤ i ∧ i < n then fmV L Y n i else S.2.1 (77 + 2 * s + 1) i := by
  have hso : so (77 + 2 * s) := so_of hs
  have hsl := so_lt hso
  intro d
  induction d with
  | zero =>
    intro k f S g hk hf h0 hl hL
    obtain ⟨f, rfl⟩ : ∃ z, f = z + 1 := ⟨f - 1, by omega⟩
    have : k = n := by omega
    subst this
    refine ⟨S, hN L Y k, g, ?_, shS.rf S _, rfl, fun i => by rw [if_neg (by omega)]⟩
    rw [f_X5_film_50.eq_2, if_pos (nI_le (Nat.le_refl _) (by omega))]
  | succ d ih =>
    intro k f S g hk hf h0 hl hL
    obtain ⟨f, rfl⟩ : ∃ z, f = z + 1 := ⟨f - 1, by omega⟩
    obtain ⟨g1, p1⟩ := x_pass1 (g := g) zo33 hl (gZ_hN (L := L) hg k).o (hN_hour ht k) (by omega)
    have p1 : f_X0_passHours (b + 33) 1 (TA b S q μm (hN L Y k) g) = some ((hrS L (0, hN L Y k)).1, TA b S q μm (hN L Y (k + 1)) g1) := p1
    obtain ⟨c, hc, ec⟩ := bc_of (set_ad (gZ_hN (L := L) hg (k + 1)))
    have hS1 : shS S (sxA S (77 + 2 * s + 1) (upd (S.2.1 (77 + 2 * s + 1)) k (nI c))) (77 + 2 * s) := shS.a S _ _
    have sl : sameL S (sxA S (77 + 2 * s + 1) (upd (S.2.1 (77 + 2 * s + 1)) k (nI c))) := ⟨rfl, up_ne _ _ (by omega)⟩
    obtain ⟨S', Z', g', e2, e3, e4, e5⟩ := ih (k + 1) f (sxA S (77 + 2 * s + 1) (upd (S.2.1 (77 + 2 * s + 1)) k (nI c))) g1 (by omega) (by omega) h0 (hL _ sl) (fun S' h => hL S' (sl.tr h))
    have bcm : f_X3_become (b + (77 + 2 * s)) (nI k) (f_J6_bitCount (hN L Y (k + 1) 10 0)) (TA b S q μm (hN L Y (k + 1)) g1) = some (TA b (sxA S (77 + 2 * s + 1) (upd (S.2.1 (77 + 2 * s + 1)) k (nI c))) q μm (hN L Y (k + 1)) g1) := by
      rw [f_X3_become.eq_1, TA_S, gR_S hso, Option.bind_some, gI_S hso 1 (by omega), Option.bind_some, sx_1 zo33 (by omega), show (sxL S 33 q).1 (77 + 2 * s) 1 = 0 from h0, if_pos rfl, f_X3_become_31.eq_1, show f_J6_bitCount (hN L Y (k + 1) 10 0) = nI c from ec, bc_byte c (by omega), sI_X (by omega) (so_arr hso), if_neg (nI_in (show k < 40 by omega) (by decide)), nI_clamp (by omega), Option.bind_some, sx_2 zo33 (by omega), sx_comm _ _ _ _ (by omega)]
      rfl
    refine ⟨S', Z', g', ?_, hS1.tr e3, e4, fun i => ?_⟩
    · rw [f_X5_film_50.eq_2, if_neg (nI_ge (by omega) (by omega)), t5, Option.bind_some, if_pos tO, p1, Option.bind_some]
      dsimp only
      rw [t5, Option.bind_some, tA, Option.bind_some, if_pos (show isO (TA b S q μm (hN L Y (k + 1)) g1) (b + (77 + 2 * s)) 2 = true from isO_S hso), bcm, Option.bind_some, vl_eq, nI_1]
      exact e2
    · rw [e5 i, show (sxA S (77 + 2 * s + 1) (upd (S.2.1 (77 + 2 * s + 1)) k (nI c))).2.1 (77 + 2 * s + 1) = upd (S.2.1 (77 + 2 * s + 1)) k (nI c) from up_eq _ _ _, upd_at]
      by_cases ci : i = k
      · rw [if_neg (by omega), if_pos ci, if_pos (by omega), fmV, if_pos (by omega), ci, ec]
      · rw [if_neg ci]
        by_cases c2 : k + 1 ≤ i ∧ i < n
        · rw [if_pos c2, if_pos (by omega)]
        · rw [if_neg c2, if_neg (by omega)]
/-- nothing but the sheets' rows and what hours change -/
def mkF (O O' : MS) : Prop := (∀ k, k ≠ 7 → k ≠ 8 → O'.1 k = O.1 k) ∧ ∀ j, j ≠ 3 → j ≠ 4 → j ≠ 14 → j ≠ 18 → j ≠ 19 → O'.2 j = O.2 j
theorem mkF.rf (O : MS) : mkF O O := ⟨fun _ _ _ => rfl, fun _ _ _ _ _ _ => rfl⟩
theorem mkF.tr {O1 O2 O3 : MS} (h : mkF O1 O2) (h2 : mkF O2 O3) : mkF O1 O3 := ⟨fun k a b => (h2.1 k a b).trans (h.1 k a b), fun j a b c d e => (h2.2 j a b c d e).trans (h.2 j a b c d e)⟩
theorem mkA.f {O O' : MS} (h : mkA O O') : mkF O O' := ⟨h.1, fun j a b _ d e => h.2 j a b d e⟩
theorem mkF.s (O : MS) (f : Nat → Int32) : mkF O (smA O 14 f) := ⟨fun _ _ _ => rfl, fun j _ _ c _ _ => up_ne _ _ c⟩
theorem mkF.l {O O' : MS} (h : mkF O O') (hl : LawR O L) : LawR O' L := by
  obtain ⟨t, n, wt, dp, code, h1, h2, h3⟩ := hl
  exact ⟨t, n, wt, dp, code, by rw [h.1 14 (by decide) (by decide)]; exact h1, h2.k (h.2 8 (by decide) (by decide) (by decide) (by decide) (by decide)) (h.2 9 (by decide) (by decide) (by decide) (by decide) (by decide)), h3⟩
theorem mkF.kp {O O' : MS} (h : mkF O O') (hk : KP O Y) : KP O' Y := by
  unfold KP
  rw [h.2 20 (by decide) (by decide) (by decide) (by decide) (by decide)]
  exact hk
theorem lr_r {O O' : MS} (h8 : O'.2 8 = O.2 8) (h9 : O'.2 9 = O.2 9) (h14 : O'.1 14 = O.1 14) (hl : LawR O L) : LawR O' L := by
  obtain ⟨t, n, wt, dp, code, h1, h2, h3⟩ := hl
  exact ⟨t, n, wt, dp, code, by rw [h14]; exact h1, h2.k h8 h9, h3⟩
theorem mz14 (O : MS) (f : Nat → Int32) (h : MZ O Z) : MZ (smA O 14 f) Z := h
theorem m_filmL {s n : Nat} (hs : s < 4) (hn : n ≤ 20) (hg : gZ Y) {t : Nat} (ht : Y 10 1 = nI t) (h2 : t ≤ 999) (μ : mS) : ∀ d k f O, k + d = 40 → d < f → MZ O (hN L Y (if k ≤ n then k else n)) → KP O Y → LawR O L → ∃ O', f_X6_film_45 f m (nI s) (nI n) (nI k) (memM m O μ) = some (nI n, memM m O' μ) ∧ mkF O O' ∧ MZ O' Y ∧ ∀ i, O'.2 14 i = if 40 * s + k ≤ i ∧ i < 40 * s + 40 then fmV L Y n (i - 40 * s) else O.2 14 i := by
  intro d
  induction d with
  | zero =>
    intro k f O hk hf hz hkp hl
    obtain ⟨f, rfl⟩ : ∃ z, f = z + 1 := ⟨f - 1, by omega⟩
    have : k = 40 := by omega
    subst this
    obtain ⟨O1, e1, a1, z1⟩ := m_lays (m := m) (μ := μ) hz (sameC_hN _) hkp
    refine ⟨O1, ?_, a1.f, z1, fun i => ?_⟩
    · rw [f_X6_film_45.eq_2, if_pos (show (40 : Int32) ≤ nI 40 by decide), if_pos isO_M, e1, Option.bind_some]
    · rw [if_neg (by omega), a1.2 14 (by decide) (by decide) (by decide) (by decide)]
  | succ d ih =>
    intro k f O hk hf hz hkp hl
    obtain ⟨f, rfl⟩ : ∃ z, f = z + 1 := ⟨f - 1, by omega⟩
    have e40 : (40 : Int32) * nI s + nI k = nI (40 * s + k) := by rw [show (40 : Int32) = nI 40 from rfl, pk_mul, nI_add]
    have k1 := mkF.s O (upd (O.2 14) (40 * s + k) 0)
    rw [f_X6_film_45.eq_2, if_neg (show ¬ (40 : Int32) ≤ nI k from nI_ge (b := 40) (by omega) (by decide)), mR_20, Option.bind_some, e40, sM 13 (by decide) (40 * s + k) (by show _ < 160; omega) (by omega), Option.bind_some]
    by_cases c : n ≤ k
    · have hk' : (if k + 1 ≤ n then k + 1 else n) = (if k ≤ n then k else n) := by
        rw [if_neg (by omega)]
        split <;> omega
      obtain ⟨O', e1, a1, z1, v1⟩ := ih (k + 1) f (smA O 14 (upd (O.2 14) (40 * s + k) 0)) (by omega) (by omega) (by rw [hk']; exact hz) (k1.kp hkp) (k1.l hl)
      refine ⟨O', ?_, k1.tr a1, z1, fun i => ?_⟩
      · rw [if_pos (nI_le c (by omega)), vl_eq, nI_1]
        exact e1
      · rw [v1 i, smA_at, if_pos rfl, upd_at]
        by_cases ci : i = 40 * s + k
        · rw [if_neg (by omega), if_pos ci, if_pos (by omega), fmV, if_neg (by omega)]
        · rw [if_neg ci]
          by_cases c2 : 40 * s + (k + 1) ≤ i ∧ i < 40 * s + 40
          · rw [if_pos c2, if_pos (by omega)]
          · rw [if_neg c2, if_neg (by omega)]
    · rw [if_pos (by omega)] at hz
      obtain ⟨O1, e1, a1, z1⟩ := m_hourOf (m := m) (μ := μ) (k1.l hl) (mz14 O (upd (O.2 14) (40 * s + k) 0) hz) (gZ_hN (L := L) hg k) (hN_hour ht k) (by omega)
      have z1 : MZ O1 (hN L Y (k + 1)) := z1
      have k2 := k1.tr a1.f
      have k3 := k2.tr (mkF.s O1 (upd (O1.2 14) (40 * s + k) (bc (hN L Y (k + 1) 10 0))))
      obtain ⟨O', e2, a2, z2, v2⟩ := ih (k + 1) f (smA O1 14 (upd (O1.2 14) (40 * s + k) (bc (hN L Y (k + 1) 10 0)))) (by omega) (by omega) (by rw [if_pos (by omega)]; exact z1) (k3.kp hkp) (k3.l hl)
      refine ⟨O', ?_, k3.tr a2, z2, fun i => ?_⟩
      · rw [if_neg (nI_ge (by omega) (by omega)), if_pos isO_M, e1, Option.bind_some]
        dsimp only
        rw [mR_20, Option.bind_some, mI_7, Option.bind_some, z1.ad, ones_bc (set_ad (gZ_hN hg (k + 1))), Option.bind_some, sM 13 (by decide) (40 * s + k) (by show _ < 160; omega) (by omega), Option.bind_some, vl_eq, nI_1]
        exact e2
      · have e14 : O1.2 14 = upd (O.2 14) (40 * s + k) 0 := by
          rw [a1.2 14 (by decide) (by decide) (by decide) (by decide)]
          simp [smA, va_up]
        rw [v2 i, smA_at, if_pos rfl, upd_at]
        by_cases ci : i = 40 * s + k
        · rw [if_neg (by omega), if_pos ci, if_pos (by omega), fmV, if_pos (by omega), show i - 40 * s = k by omega]
        · rw [if_neg ci, e14, upd_at, if_neg ci]
          by_cases c2 : 40 * s + (k + 1) ≤ i ∧ i < 40 * s + 40
          · rw [if_pos c2, if_pos (by omega)]
          · rw [if_neg c2, if_neg (by omega)]
theorem k_film (x1 x2 : Int32) : Call b m (f_X5_film b x1 x2) (f_X6_film m x1 x2) := by
  intro S O μ R0
  have RR := R0
  obtain ⟨tc, r, T, Q, R⟩ := R0
  have lm := R.lm
  have hx : f_X5_film b x1 x2 (Wd b m S O μ) = _ := f_X5_film.eq_1 _ _ _ _
  have hm : ∀ S', f_X6_film m x1 x2 (Wd b m S' O μ) = _ := fun S' => f_X6_film.eq_1 _ _ _ _
  by_cases q : f_X5_isBelow x1 4 = 0
  · rw [if_pos q] at hx
    exact ⟨-2, S, O, μ, hx, (hm S).trans (by rw [i_4, if_pos q]), RR⟩
  rw [if_neg q] at hx
  have hm := fun S' => (hm S').trans (by rw [i_4, if_neg q])
  by_cases q2 : f_X5_isBelow x2 21 = 0
  · rw [if_pos q2] at hx
    exact ⟨-7, S, O, μ, hx, (hm S).trans (by rw [i_21, if_pos q2]), RR⟩
  rw [if_neg q2] at hx
  have hm := fun S' => (hm S').trans (by rw [i_21, if_neg q2])
  obtain ⟨s, hs, rfl⟩ := b_4 x1 q
  obtain ⟨n, hn, rfl⟩ := b_21 x2 q2
  have hso : so (77 + 2 * s) := so_of hs
  have hsl := so_lt hso
  obtain ⟨S1, f1, f2, f3, f4, f5⟩ := x_begin (b := b) (S := S) (μ := memM m O μ) hs 0 (nI n)
  obtain ⟨Y, eb, hY⟩ := th_beg (b := b) (S := S1) (μ := memM m O μ) (S1.2.2.1 33) (zof S1 33) (S1.2.1 10)
  rw [← TA_start, f2.z hso zo11] at *
  obtain ⟨zY, gY, t, ht, et⟩ := R.y hY
  have q0 : S1.2.2.1 11 = S.2.2.1 11 := by rw [f2.2.2]
  have sl1 : sameL S S1 := ⟨f2.1 8 (by omega), f2.2.1 9 (by omega)⟩
  have hL : ∀ S', sameL S1 S' → LawOk b 33 (sxL S' 33 (S1.2.2.1 11)) (memM m O μ) (T r) := fun S' h => R.lx (S1 := sxL S' 33 (S1.2.2.1 11)) zo33 ((sl1.tr h).tr ⟨rfl, rfl⟩) (by simp [sxL, va_up, q0]) O
  obtain ⟨S2, Z', g', e1, e2, e3, e4⟩ := x_filmL (b := b) (μm := memM m O μ) (L := T r) (S1.2.2.1 11) hs (show n ≤ 20 by omega) gY et ht n 0 fU S1 (S1.2.1 10) (by omega) (fU_lt (by omega)) f3 (hL S1 (sameL.rf _)) hL
  rw [Wd, h2X, Option.bind_some, aRS hs, Option.bind_some, if_pos (isO_S hso), f1, Option.bind_some, h5X, Option.bind_some, h3X, Option.bind_some, if_pos (isO_Z zo33), eb, Option.bind_some] at hx
  have hx2 := hx.trans e1
  -- the reference
  have z12 : MZ (smA (smA O 12 (upd (O.2 12) s 0)) 13 (upd (O.2 13) s (nI n))) Y := zY
  obtain ⟨t1, t2⟩ := thS_TA S2 (S1.2.2.1 11) Z' g'
  obtain ⟨O1, a1, a2, a3, a4⟩ := m_keeps (m := m) (μ := memX b (sxZ (sxL S2 33 (S1.2.2.1 11)) 33 Z' g') μ) z12
  have l12 : LawR (smA (smA O 12 (upd (O.2 12) s 0)) 13 (upd (O.2 13) s (nI n))) (T r) := lr_r (O := O) (by simp [smA, va_up]) (by simp [smA, va_up]) rfl (R.lr (keepO.rf O))
  obtain ⟨O', b1, b2, b3, b4⟩ := m_filmL (m := m) (L := T r) hs (show n ≤ 20 by omega) gY et ht (memX b (sxZ (sxL S2 33 (S1.2.2.1 11)) 33 Z' g') μ) 40 0 fU O1 (by omega) (fU_lt (by omega)) (by rw [if_pos (Nat.zero_le n)]; exact a3) a4 (l12.kk a2)
  have i1 : ∀ k, k = 10 ∨ k = 13 ∨ k = 14 ∨ k = 15 → O'.1 k = O.1 k := fun k hk => by
    rw [b2.1 k (by omega) (by omega), a2.1]
    rfl
  have r1 : ∀ j, j ≠ 3 → j ≠ 4 → j ≠ 14 → j ≠ 18 → j ≠ 19 → j ≠ 20 → O'.2 j = (smA (smA O 12 (upd (O.2 12) s 0)) 13 (upd (O.2 13) s (nI n))).2 j := fun j h1 h2 h3 h4 h5 h6 => by rw [b2.2 j h1 h2 h3 h4 h5, a2.2 j h6]
  have e12 : O'.2 12 = upd (O.2 12) s 0 := by rw [r1 12 (by decide) (by decide) (by decide) (by decide) (by decide) (by decide)]; simp [smA, va_up]
  have e13 : O'.2 13 = upd (O.2 13) s (nI n) := by rw [r1 13 (by decide) (by decide) (by decide) (by decide) (by decide) (by decide)]; simp [smA, va_up]
  have e14 : ∀ i, O'.2 14 i = if 40 * s + 0 ≤ i ∧ i < 40 * s + 40 then fmV (T r) Y n (i - 40 * s) else O.2 14 i := fun i => by
    rw [b4 i, a2.2 14 (by decide)]
    simp [smA, va_up]
  have eo : ∀ j, (7 ≤ j ∧ j ≤ 11) ∨ j = 16 → O'.2 j = O.2 j := fun j hj => by
    rw [r1 j (by omega) (by omega) (by omega) (by omega) (by omega) (by omega)]
    have h12 : j ≠ 12 := by omega
    have h13 : j ≠ 13 := by omega
    simp [smA, va_up, h12, h13]
  let O2 : MS := (O.1, fun j => if 12 ≤ j ∧ j ≤ 14 then O'.2 j else O.2 j)
  have o2 : ∀ j, 12 ≤ j ∧ j ≤ 14 → O2.2 j = O'.2 j := fun j hj => if_pos hj
  have o3 : ∀ j, ¬ (12 ≤ j ∧ j ≤ 14) → O2.2 j = O.2 j := fun j hj => if_neg hj
  have sh := f2.tr e2
  have hsh : RSh S2 O2 := by
    refine RSh.one hs R.2.2.2.2.2.1 sh (fun k hk => ?_) (fun k hk => ?_) (fun k hk => ?_) ⟨?_, ?_, ?_, ?_, fun k hk => ?_⟩
    · rw [o2 12 (by omega), e12, upd_ne _ _ hk]
    · rw [o2 13 (by omega), e13, upd_ne _ _ hk]
    · rw [o2 14 (by omega), e14, if_neg (by omega)]
    · rw [o2 12 (by omega), e12, upd_eq, e3, f3]
    · rw [o2 13 (by omega), e13, upd_eq, e3, f4]
    · rw [e3, f4]; exact ⟨n, by omega, rfl⟩
    · rw [e3, f3]; exact Or.inr ⟨0, by omega, rfl⟩
    · rw [o2 14 (by omega), e14, if_pos (by omega), e4, show 40 * s + k - 40 * s = k by omega]
      by_cases c : k < n
      · rw [if_pos (by omega)]
      · rw [if_neg (by omega), f5 k hk, fmV, if_neg c]
  have R2 : RLx b m S2 O2 μ tc r T Q := R.sh hso sh ⟨rfl, fun j hj => o3 j (by omega)⟩ hsh
  have z2 : zof S2 11 = zof S 11 := sh.z hso zo11
  refine ⟨nI n, _, O', μ, hx2, ?_, R2.th t1 t2 ⟨i1, fun j hj => ?_⟩ (by rw [z2]; exact b3.bk gY hY)⟩
  · rw [hm, Wd_M lm, mR_18, Option.bind_some, sM 11 (by decide) s (by show _ < 4; omega) (by omega), Option.bind_some, mR_19, Option.bind_some, sM 12 (by decide) s (by show _ < 4; omega) (by omega), Option.bind_some, if_pos isO_M]
    rw [show f_X6_keeps m (memM m (smA (smA O (11 + 1) (upd (O.2 (11 + 1)) s 0)) (12 + 1) (upd ((smA O (11 + 1) (upd (O.2 (11 + 1)) s 0)).2 (12 + 1)) s (nI n))) (memX b (sxZ (sxL S2 33 (S1.2.2.1 11)) 33 Z' g') μ)) = some (memM m O1 (memX b (sxZ (sxL S2 33 (S1.2.2.1 11)) 33 Z' g') μ)) from a1, Option.bind_some, Wd_M lm]
    exact b1
  · by_cases c : 12 ≤ j ∧ j ≤ 14
    · rw [o2 j c]
    · rw [o3 j c, eo j (by omega)]
end FM
