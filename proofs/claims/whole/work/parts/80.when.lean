/-! when, fate. -/
def layK (m : Nat) : Nat → Int32 → mS → Option (Int32 × mS) := fun h0 x2 σ => if isO σ h0 5 = true then (f_X6_lays h0 σ).bind fun q40 => some (x2, q40) else none
def whC (x1 : Int32) (Z : Zt) : Int32 := if x1 = -1 then (if lyA Z 8 = 0 then 1 else 0) else if ((Z 10 0 >>> (x1 &&& 31)) &&& 1) = 1 then 1 else 0
def wnA (L : Lw) (x1 : Int32) (Y : Zt) : Nat → Nat → Int32
  | 0, _ => -1
  | d + 1, k => if whC x1 (hN L Y k) = 0 then wnA L x1 Y d (k + 1) else nI k
section WH
variable {b m : Nat} {S : XS} {O O' : MS} {μ : mS} {tc r : Nat} {T : Nat → Lw} {Q : Nat → Nat} {Z Y : Zt} {g : Nat → Int32}
theorem lay_at (hz : MZ O Z) (hs : sameC Z Y) (hk : KP O Y) (v : Int32) : ∃ O', layK m m v (memM m O μ) = some (v, memM m O' μ) ∧ mkA O O' ∧ MZ O' Y := by
  obtain ⟨O', e, k, z⟩ := m_lays (m := m) (μ := μ) hz hs hk
  refine ⟨O', ?_, k, z⟩
  rw [layK]
  rw [if_pos isO_M, e, Option.bind_some]
theorem x_when30 (R : RLx b m S O μ tc r T Q) (hg : gZ Y) {t : Nat} (ht : Y 10 1 = nI t) (h2 : t ≤ 999) (x1 : Int32) : ∀ d k n g, k + d = 61 → d < n → ∃ Z' g', f_X5_when_30 n b x1 (nI k) (TA b S (S.2.2.1 11) (memM m O μ) (hN (T r) Y k) g) = some (wnA (T r) x1 Y d k, TA b S (S.2.2.1 11) (memM m O μ) Z' g') := by
  intro d
  induction d with
  | zero =>
    intro k n g hk hn
    obtain ⟨n, rfl⟩ : ∃ q, n = q + 1 := ⟨n - 1, by omega⟩
    have : k = 61 := by omega
    subst this
    exact ⟨_, _, by rw [f_X5_when_30.eq_2, if_pos (by decide), wnA]⟩
  | succ d ih =>
    intro k n g hk hn
    obtain ⟨n, rfl⟩ : ∃ q, n = q + 1 := ⟨n - 1, by omega⟩
    obtain ⟨v, g1, e1⟩ := t_pass1 (g := g) R (gZ_hN hg k) (hN_hour ht k) (by omega) O
    obtain ⟨Z', g', e2⟩ := ih (k + 1) n g1 (by omega) (by omega)
    have hs : f_X5_when_67 (f_X5_when_30 n) b x1 (nI k) (TA b S (S.2.2.1 11) (memM m O μ) (hN (T r) Y k) g) = some (wnA (T r) x1 Y d (k + 1), TA b S (S.2.2.1 11) (memM m O μ) Z' g') := by
      rw [f_X5_when_67.eq_1, t5, Option.bind_some, if_pos tO, e1, Option.bind_some]
      simp only [vl]
      rw [nI_1]
      exact e2
    rw [f_X5_when_30.eq_2, if_neg (show ¬ (60 : Int32) < nI k from nI_nlt (a := 60) (by omega) (by omega)), wnA, whC]
    by_cases c : x1 = -1
    · rw [if_pos c, if_pos c, t5, Option.bind_some, if_pos tO, tL, Option.bind_some]
      by_cases c2 : lyA (hN (T r) Y k) 8 = 0
      · rw [if_pos c2, if_pos c2, if_neg (by decide)]
        exact ⟨_, _, rfl⟩
      · rw [if_neg c2, if_neg c2, if_pos rfl]
        exact ⟨Z', g', hs⟩
    · rw [if_neg c, if_neg c, t5, Option.bind_some, if_pos tO, f_X0_isAdmitted.eq_1, tA, Option.bind_some]
      by_cases c2 : ((hN (T r) Y k 10 0 >>> (x1 &&& 31)) &&& 1) = 1
      · rw [if_pos c2, Option.bind_some, if_neg (by decide), if_pos c2, if_neg (by decide)]
        exact ⟨_, _, rfl⟩
      · rw [if_neg c2, Option.bind_some, if_pos rfl, if_neg c2, if_pos rfl]
        exact ⟨Z', g', hs⟩
theorem m_when21 {L : Lw} (hg : gZ Y) {t : Nat} (ht : Y 10 1 = nI t) (h2 : t ≤ 999) (x1 : Int32) (hx : x1 = -1 ∨ rng 9 x1) : ∀ d k n O, k + d = 61 → d < n → MZ O (hN L Y k) → KP O Y → LawR O L → ∃ O', f_X6_when_21 (layK m) (n + 1) m x1 (-1) (nI k) (memM m O μ) = some (wnA L x1 Y d k, memM m O' μ) ∧ mkA O O' ∧ MZ O' Y := by
  intro d
  induction d with
  | zero =>
    intro k n O hk hn hz hkp hl
    have : k = 61 := by omega
    subst this
    obtain ⟨O', e, a, z⟩ := lay_at (m := m) (μ := μ) hz (sameC_hN 61) hkp (-1)
    exact ⟨O', by rw [f_X6_when_21.eq_2, if_pos (by decide), wnA]; exact e, a, z⟩
  | succ d ih =>
    intro k n O hk hn hz hkp hl
    obtain ⟨n, rfl⟩ : ∃ q, n = q + 1 := ⟨n - 1, by omega⟩
    obtain ⟨O1, e1, a1, z1⟩ := m_hourOf (m := m) (μ := μ) hl hz (gZ_hN hg k) (hN_hour ht k) (by omega)
    have kp1 := hkp.k a1
    rw [f_X6_when_21.eq_2, if_neg (show ¬ (60 : Int32) < nI k from nI_nlt (a := 60) (by omega) (by omega)), if_pos rfl, wnA, whC]
    have yes : ∃ O', f_X6_when_75 (f_X6_when_21 (layK m) (n + 1)) m x1 (nI k) 1 (memM m O μ) = some (nI k, memM m O' μ) ∧ mkA O O' ∧ MZ O' Y := by
      obtain ⟨O', e, a, z⟩ := lay_at (m := m) (μ := μ) (Z := hN L Y (k + 1)) z1 (sameC_hN (k + 1)) kp1 (nI k)
      refine ⟨O', ?_, a1.tr a, z⟩
      rw [f_X6_when_75.eq_1]
      simp only [vl]
      rw [if_neg (show ¬ (1 : Int32) = 0 by decide), if_pos isO_M, e1, Option.bind_some, nI_1, f_X6_when_21.eq_2]
      by_cases c : (60 : Int32) < nI (k + 1)
      · rw [if_pos c]; exact e
      · rw [if_neg c, if_neg (neg1_ne (by omega))]; exact e
    have no : ∃ O', f_X6_when_75 (f_X6_when_21 (layK m) (n + 1)) m x1 (nI k) 0 (memM m O μ) = some (wnA L x1 Y d (k + 1), memM m O' μ) ∧ mkA O O' ∧ MZ O' Y := by
      obtain ⟨O', e, a, z⟩ := ih (k + 1) n O1 (by omega) (by omega) z1 kp1 (hl.k a1)
      refine ⟨O', ?_, a1.tr a, z⟩
      rw [f_X6_when_75.eq_1]
      simp only [vl]
      rw [if_pos trivial, if_pos isO_M, e1, Option.bind_some, nI_1]
      exact e
    by_cases c : x1 = -1
    · rw [if_pos c, if_pos c, if_pos isO_M, m_lying hz, Option.bind_some]
      simp only [vl]
      by_cases c2 : lyA (hN L Y k) 8 = 0
      · rw [if_pos c2, if_neg (by decide)]; exact yes
      · rw [if_neg c2, if_pos rfl]; exact no
    · obtain ⟨j, hj, rfl⟩ := hx.resolve_left c
      rw [if_neg c, if_neg c, mI_7, Option.bind_some, hz.ad, show f_X6_within (nI j) 0 9 = nI j from within_nI (N := 9) hj (by decide)]
      simp only [vl]
      by_cases c2 : ((hN L Y k 10 0 >>> (nI j &&& 31)) &&& 1) = 1
      · rw [if_pos c2, if_neg (by decide)]; exact yes
      · rw [if_neg c2, if_pos rfl]; exact no
theorem k_when (x1 : Int32) : Call b m (f_X5_when b x1) (f_X6_when m x1) := by
  refine Call.th fun S O μ tc r T Q R => ?_
  have go : (x1 = -1 ∨ rng 9 x1) → f_X5_when b x1 (Wd b m S O μ) = f_X5_when_17 b x1 (Wd b m S O μ) → ThQ b m S O μ (f_X5_when b x1) (f_X6_when m x1) := by
    intro hx e0
    obtain ⟨Y, eb, hY⟩ := th_beg (b := b) (S := S) (μ := memM m O μ) (S.2.2.1 33) (zof S 33) (S.2.1 10)
    rw [← TA_start] at eb
    obtain ⟨zY, gY, t, ht, et⟩ := R.y hY
    obtain ⟨Z', g', e1⟩ := x_when30 R gY et ht x1 61 0 fU (S.2.1 10) (by omega) (fU_lt (by omega))
    rw [f_X5_when_17.eq_1, Wd, h5X, Option.bind_some, h3X, Option.bind_some, if_pos (isO_Z zo33), eb, Option.bind_some] at e0
    refine ⟨_, _, _, _, e0.trans e1, fun μ1 => ?_⟩
    obtain ⟨O1, a1, a2, a3, a4⟩ := m_keeps (m := m) (μ := μ1) zY
    obtain ⟨O2, b1, b2, b3⟩ := m_when21 (m := m) (μ := μ1) gY et ht x1 hx 61 0 4095 O1 (by omega) (by omega) a3 a4 (R.lr a2.o)
    refine ⟨O2, ?_, a2.o.tr b2.o, b3.bk gY hY⟩
    rw [f_X6_when.eq_1]
    have hin : f_X6_in x1 (-1) 9 = 1 := by
      rcases hx with e | ⟨j, hj, e⟩
      · rw [e]; decide
      · rw [e]
        refine in_wide ?_ (nI_le (b := 9) hj (by decide))
        intro z
        have := nI_pos (show j < 2 ^ 31 by omega)
        exact this (Int32.lt_trans z (by decide))
    rw [hin, if_neg (by decide), if_pos isO_M, a1, Option.bind_some]
    exact b1
  by_cases c : x1 = -1
  · exact go (Or.inl c) (by rw [f_X5_when.eq_1, if_pos c])
  by_cases q : f_X5_isBelow x1 10 = 0
  · refine th_same R (-7) (by rw [f_X5_when.eq_1, if_neg c, if_pos q]) (fun μ1 => ?_)
    rw [f_X6_when.eq_1, if_pos]
    rw [f_X6_in.eq_1]
    by_cases c1 : x1 < -1
    · rw [if_pos c1]
    · rw [if_neg c1]
      by_cases c2 : 9 < x1
      · rw [if_pos c2]
      · exfalso
        have h0 : ¬ x1 < 0 := by
          intro z
          apply c
          have a1 := Int32.lt_iff_toInt_lt.mp z
          have a3 := Int32.le_iff_toInt_le.mp (Int32.not_lt.mp c1)
          have e1 : ((-1 : Int32)).toInt = -1 := by decide
          have e2 : ((0 : Int32)).toInt = 0 := by decide
          exact Int32.toInt_inj.mp (by omega)
        obtain ⟨j, hj, rfl⟩ := in_bounds (N := 9) (by decide) h0 (Int32.not_lt.mp c2)
        rw [show f_X5_isBelow (nI j) 10 = 1 from bel_y (w := 10) (by decide) (by omega)] at q
        exact absurd q (by decide)
  · obtain ⟨j, hj, e⟩ := b_10 x1 q
    exact go (Or.inr ⟨j, by omega, e⟩) (by rw [f_X5_when.eq_1, if_neg c, if_neg q])
end WH
