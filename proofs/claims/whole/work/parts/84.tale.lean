/-! Told hours: the first number that is otherwise. -/
def unA (L : Lw) (cl : Nat → Int32) (Z : Zt) : Nat → Nat → Int32
  | 0, _ => -1
  | d + 1, k => if bc (hN L Z (k + 1) 10 0) = cl k then unA L cl Z d (k + 1) else nI k
def wrS (S : XS) (x : Int32) : Int32 := if f_X5_isBelow x 4 = 0 then -2 else if S.1 (77 + 2 * x.toNatClampNeg) 1 = -1 then -11 else if S.1 (77 + 2 * x.toNatClampNeg) 2 ≤ 20 then 0 else -2
section TL
variable {b m : Nat} {S : XS} {O O' : MS} {μ μm : mS} {tc r : Nat} {T : Nat → Lw} {Q : Nat → Nat} {Z Y : Zt} {g : Nat → Int32} {L : Lw}
theorem zEq.un (h : zEq Z Y) (hg : gZ Z) (cl : Nat → Int32) : ∀ d k, unA L cl Z d k = unA L cl Y d k := by
  intro d
  induction d with
  | zero => intro k; rfl
  | succ d ih => intro k; rw [unA, unA, (h.cN hg (k + 1)).2 0 (by decide), ih (k + 1)]
theorem x_wrong (x : Int32) : f_X5_refusalOfTale b x (memX b S μ) = some (wrS S x) := by
  rw [f_X5_refusalOfTale.eq_1, wrS]
  by_cases q : f_X5_isBelow x 4 = 0
  · rw [if_pos q, if_pos q]
  · rw [if_neg q, if_neg q]
    obtain ⟨s, hs, rfl⟩ := b_4 x q
    have hso : so (77 + 2 * s) := so_of hs
    rw [nI_clamp (by omega), h2X, Option.bind_some, aRS hs, Option.bind_some, if_pos (isO_S hso), x_miss hso, Option.bind_some]
    by_cases c : S.1 (77 + 2 * s) 1 = -1
    · rw [if_pos c, if_neg (by decide), if_pos c]
    · rw [if_neg c, if_pos rfl, if_neg c, Option.bind_some, aRS hs, Option.bind_some, gI_S hso 2 (by omega), Option.bind_some]
      split <;> rfl
theorem m_wrong (hr : RSh S O) (x : Int32) : f_X6_sheetWrong m x (memM m O μ) = some (wrS S x) := by
  rw [f_X6_sheetWrong.eq_1, i_4, wrS]
  by_cases q : f_X5_isBelow x 4 = 0
  · rw [if_pos q, if_pos q]
  · rw [if_neg q, if_neg q]
    obtain ⟨s, hs, rfl⟩ := b_4 x q
    obtain ⟨a1, a2, a3, a4, a5⟩ := hr s hs
    rw [nI_clamp (by omega), mR_18, Option.bind_some, aM 11 (by decide) s (by show _ < 4; omega) (by omega), Option.bind_some, show O.2 (11 + 1) s = _ from a1]
    by_cases c : S.1 (77 + 2 * s) 1 = -1
    · rw [if_pos c, if_pos c]
    · rw [if_neg c, if_neg c, mR_19, Option.bind_some, aM 12 (by decide) s (by show _ < 4; omega) (by omega), Option.bind_some, show O.2 (12 + 1) s = _ from a2]
      split <;> rfl
theorem wr_0 (hr : RSh S O) {x : Int32} (h : wrS S x = 0) : ∃ s n, s < 4 ∧ x = nI s ∧ n ≤ 20 ∧ S.1 (77 + 2 * s) 2 = nI n := by
  unfold wrS at h
  by_cases q : f_X5_isBelow x 4 = 0
  · rw [if_pos q] at h; exact absurd h (by decide)
  · rw [if_neg q] at h
    obtain ⟨s, hs, rfl⟩ := b_4 x q
    rw [nI_clamp (by omega)] at h
    obtain ⟨a1, a2, ⟨n, hn, en⟩, a4, a5⟩ := hr s hs
    by_cases c : S.1 (77 + 2 * s) 1 = -1
    · rw [if_pos c] at h; exact absurd h (by decide)
    · rw [if_neg c] at h
      by_cases c2 : S.1 (77 + 2 * s) 2 ≤ 20
      · refine ⟨s, n, hs, rfl, ?_, en⟩
        rw [en] at c2
        exact (nI_leI (b := 20) (by omega) (by decide)).mp c2
      · rw [if_neg c2] at h; exact absurd h (by decide)
theorem x_wrongT (q : Nat) (x : Int32) : f_X5_refusalOfTale b x (TA b S q μ Z g) = some (wrS S x) := by
  rw [TA_S, x_wrong]
  unfold wrS
  by_cases q1 : f_X5_isBelow x 4 = 0
  · rw [if_pos q1, if_pos q1]
  · obtain ⟨s, hs, rfl⟩ := b_4 x q1
    rw [if_neg q1, if_neg q1, nI_clamp (by omega), sx_1 zo33 (by omega)]
    rfl
theorem isO_4 (q : Nat) : isO (TA b S q μ Z g) b 4 = true := isO_H
theorem x_firstL {s n : Nat} (hs : s < 4) (hn : n ≤ 20) (en : S.1 (77 + 2 * s) 2 = nI n) {q : Nat} (hl : LawOk b 33 (sxL S 33 q) μm L) (hg : gZ Z) {t : Nat} (ht : Z 10 1 = nI t) (h2 : t ≤ 999) : ∀ d k f g, k + d = n → d < f → ∃ Z' g', f_X5_firstOtherwise_9 f b (b + (77 + 2 * s)) (nI k) (TA b S q μm (hN L Z k) g) = some (unA L (S.2.1 (77 + 2 * s + 1)) Z d k, TA b S q μm Z' g') := by
  have hso : so (77 + 2 * s) := so_of hs
  have hsl := so_lt hso
  have e1 : ∀ V g, gI (TA b S q μm V g) (b + (77 + 2 * s)) 2 2 = some (nI n) := fun V g => by
    rw [TA_S, gI_S hso 2 (by omega), sx_1 zo33 (by omega)]
    exact congrArg some en
  have e2 : ∀ V g, gR (TA b S q μm V g) (b + (77 + 2 * s)) 2 0 = some (b + (77 + 2 * s + 1)) := fun V g => gR_S hso
  have e3 : ∀ V g k, k < 40 → aI (TA b S q μm V g) (b + (77 + 2 * s + 1)) (nI k) = some (S.2.1 (77 + 2 * s + 1) k) := fun V g k hk => by
    rw [TA_S, aI_X (by omega) (so_arr hso), if_neg (nI_in hk (by decide)), nI_clamp (by omega), sx_2 zo33 (by omega)]
    rfl
  intro d
  induction d with
  | zero =>
    intro k f g hk hf
    obtain ⟨f, rfl⟩ : ∃ z, f = z + 1 := ⟨f - 1, by omega⟩
    have : k = n := by omega
    subst this
    refine ⟨hN L Z k, g, ?_⟩
    rw [f_X5_firstOtherwise_9.eq_2, e1, Option.bind_some, if_pos (nI_le (Nat.le_refl _) (by omega)), unA]
  | succ d ih =>
    intro k f g hk hf
    obtain ⟨f, rfl⟩ : ∃ z, f = z + 1 := ⟨f - 1, by omega⟩
    obtain ⟨g1, p1⟩ := x_pass1 (g := g) zo33 hl (gZ_hN (L := L) hg k).o (hN_hour ht k) (by omega)
    have p1 : f_X0_passHours (b + 33) 1 (TA b S q μm (hN L Z k) g) = some ((hrS L (0, hN L Z k)).1, TA b S q μm (hN L Z (k + 1)) g1) := p1
    rw [f_X5_firstOtherwise_9.eq_2, e1, Option.bind_some, if_neg (nI_ge (by omega) (by omega)), t5, Option.bind_some, if_pos tO, p1, Option.bind_some]
    dsimp only
    rw [t5, Option.bind_some, tA, Option.bind_some, e2, Option.bind_some, e3 _ _ k (by omega), Option.bind_some, unA]
    by_cases c : bc (hN L Z (k + 1) 10 0) = S.2.1 (77 + 2 * s + 1) k
    · rw [if_pos (show f_J6_bitCount (hN L Z (k + 1) 10 0) = _ from c), if_pos c]
      simp only [vl]
      rw [nI_1]
      exact ih (k + 1) f g1 (by omega) (by omega)
    · rw [if_neg (show ¬ f_J6_bitCount (hN L Z (k + 1) 10 0) = _ from c), if_neg c]
      exact ⟨_, _, rfl⟩
theorem x_first {s n : Nat} (hs : s < 4) (hn : n ≤ 20) (en : S.1 (77 + 2 * s) 2 = nI n) {q : Nat} (hl : LawOk b 33 (sxL S 33 q) μm L) (hg : gZ Z) {t : Nat} (ht : Z 10 1 = nI t) (h2 : t ≤ 999) : ∃ Z' g', f_X5_firstOtherwise b (nI s) (TA b S q μm Z g) = some (unA L (S.2.1 (77 + 2 * s + 1)) Z n 0, TA b S q μm Z' g') := by
  obtain ⟨Z', g', e⟩ := x_firstL (Z := Z) hs hn en hl hg ht h2 n 0 fU g (by omega) (fU_lt (by omega))
  refine ⟨Z', g', ?_⟩
  rw [f_X5_firstOtherwise.eq_1, t2, Option.bind_some, show aR (TA b S q μm Z g) (b + 6) 2 (nI s) = some (b + (77 + 2 * s)) from aRS hs, Option.bind_some]
  exact e
theorem m_unL {s n : Nat} (hs : s < 4) (hn : n ≤ 20) (cl : Nat → Int32) (hg : gZ Y) {t : Nat} (ht : Y 10 1 = nI t) (h2 : t ≤ 999) : ∀ d k f O, k + d = n → d < f → O.2 13 s = nI n → (∀ k, k < 40 → O.2 14 (40 * s + k) = cl k) → MZ O (hN L Y k) → KP O Y → LawR O L → ∃ O', f_X6_unlike_8 (layK m) (f + 1) m (nI s) (-1) (nI k) (memM m O μ) = some (unA L cl Y d k, memM m O' μ) ∧ keepO O O' ∧ MZ O' Y := by
  intro d
  induction d with
  | zero =>
    intro k f O hk hf en ec hz hkp hl
    have : k = n := by omega
    subst this
    obtain ⟨O', e, a, z⟩ := lay_at (m := m) (μ := μ) hz (sameC_hN k) hkp (-1)
    refine ⟨O', ?_, a.o, z⟩
    rw [f_X6_unlike_8.eq_2, mR_19, Option.bind_some, aM 12 (by decide) s (by show _ < 4; omega) (by omega), Option.bind_some, show O.2 (12 + 1) s = _ from en, if_pos (nI_le (Nat.le_refl _) (by omega)), unA]
    exact e
  | succ d ih =>
    intro k f O hk hf en ec hz hkp hl
    obtain ⟨f, rfl⟩ : ∃ z, f = z + 1 := ⟨f - 1, by omega⟩
    obtain ⟨O1, e1, a1, z1⟩ := m_hourOf (m := m) (μ := μ) hl hz (gZ_hN (L := L) hg k) (hN_hour ht k) (by omega)
    have en1 : O1.2 13 s = nI n := by rw [a1.o.2 13 (by omega)]; exact en
    have ec1 : ∀ k, k < 40 → O1.2 14 (40 * s + k) = cl k := fun k hk => by rw [a1.o.2 14 (by omega)]; exact ec k hk
    rw [f_X6_unlike_8.eq_2, mR_19, Option.bind_some, aM 12 (by decide) s (by show _ < 4; omega) (by omega), Option.bind_some, show O.2 (12 + 1) s = _ from en, if_neg (nI_ge (by omega) (by omega)), if_pos rfl, if_pos isO_M, e1, Option.bind_some]
    dsimp only
    rw [mR_20, Option.bind_some, show (40 : Int32) * nI s + nI k = nI (40 * s + k) from by rw [show (40 : Int32) = nI 40 from rfl, pk_mul, nI_add], aM 13 (by decide) (40 * s + k) (by show _ < 160; omega) (by omega), Option.bind_some, show O1.2 (13 + 1) (40 * s + k) = _ from ec1 k (by omega), mI_7, Option.bind_some, z1.ad, ones_bc (set_ad (gZ_hZ (gZ_hN hg k))), Option.bind_some, unA]
    simp only [vl]
    rw [nI_1]
    have hh : hZ L (hN L Y k) = hN L Y (k + 1) := rfl
    rw [hh] at *
    by_cases c : bc (hN L Y (k + 1) 10 0) = cl k
    · rw [if_pos c.symm, if_pos c]
      obtain ⟨O', e, a, z⟩ := ih (k + 1) f O1 (by omega) (by omega) en1 ec1 z1 (hkp.k a1) (hl.k a1)
      exact ⟨O', e, a1.o.tr a, z⟩
    · rw [if_neg (fun z => c z.symm), if_neg c]
      obtain ⟨O', e, a, z⟩ := lay_at (m := m) (μ := μ) z1 (sameC_hN (k + 1)) (hkp.k a1) (nI k)
      refine ⟨O', ?_, a1.o.tr a.o, z⟩
      rw [f_X6_unlike_8.eq_2, mR_19, Option.bind_some, aM 12 (by decide) s (by show _ < 4; omega) (by omega), Option.bind_some, show O1.2 (12 + 1) s = _ from en1]
      by_cases c2 : nI n ≤ nI (k + 1)
      · rw [if_pos c2]; exact e
      · rw [if_neg c2, if_neg (neg1_ne (by omega))]; exact e
theorem m_un {s n : Nat} (hs : s < 4) (hn : n ≤ 20) (cl : Nat → Int32) (hg : gZ Y) {t : Nat} (ht : Y 10 1 = nI t) (h2 : t ≤ 999) (en : O.2 13 s = nI n) (ec : ∀ k, k < 40 → O.2 14 (40 * s + k) = cl k) (hz : MZ O Y) (hl : LawR O L) : ∃ O', f_X6_unlike m (nI s) (memM m O μ) = some (unA L cl Y n 0, memM m O' μ) ∧ keepO O O' ∧ MZ O' Y := by
  obtain ⟨O1, a1, a2, a3, a4⟩ := m_keeps (m := m) (μ := μ) hz
  obtain ⟨O2, b1, b2, b3⟩ := m_unL (m := m) (μ := μ) hs hn cl hg ht h2 n 0 4095 O1 (by omega) (by omega) (by rw [a2.o.2 13 (by omega)]; exact en) (fun k hk => by rw [a2.o.2 14 (by omega)]; exact ec k hk) a3 a4 (hl.kk a2)
  refine ⟨O2, ?_, a2.o.tr b2, b3⟩
  rw [f_X6_unlike.eq_1, if_pos isO_M, a1, Option.bind_some]
  exact b1
theorem k_judge (x1 : Int32) : Call b m (f_X5_judge b x1) (f_X6_judge m x1) := by
  refine Call.th fun S O μ tc r T Q R => ?_
  have hsh := R.2.2.2.2.2.1
  by_cases w : wrS S x1 = 0
  · obtain ⟨s, n, hs, rfl, hn, en⟩ := wr_0 hsh w
    obtain ⟨Y, eb, hY⟩ := th_beg (b := b) (S := S) (μ := memM m O μ) (S.2.2.1 33) (zof S 33) (S.2.1 10)
    rw [← TA_start] at eb
    obtain ⟨zY, gY, t, ht, et⟩ := R.y hY
    obtain ⟨Z', g', e1⟩ := x_first (b := b) (S := S) (g := S.2.1 10) hs hn en (R.l33 O) gY et ht
    refine ⟨unA (T r) (S.2.1 (77 + 2 * s + 1)) Y n 0, S.2.2.1 11, Z', g', ?_, fun μ1 => ?_⟩
    · rw [f_X5_judge.eq_1, Wd, if_pos isO_H, x_wrong, Option.bind_some, w, if_pos rfl, h5X, Option.bind_some, h3X, Option.bind_some, if_pos (isO_Z zo33), eb, Option.bind_some, if_pos (isO_4 _), e1, Option.bind_some]
    · obtain ⟨O', f1, f2, f3⟩ := m_un (m := m) (μ := μ1) (L := T r) hs hn (S.2.1 (77 + 2 * s + 1)) gY et ht ((hsh s hs).2.1.trans en) (hsh s hs).2.2.2.2 zY (R.lr (keepO.rf O))
      refine ⟨O', ?_, f2, f3.bk gY hY⟩
      rw [f_X6_judge.eq_1, if_pos isO_M, m_wrong hsh, Option.bind_some, w, if_pos rfl, if_pos isO_M, f1, Option.bind_some]
  · refine th_same R (wrS S x1) ?_ (fun μ1 => ?_)
    · rw [f_X5_judge.eq_1, Wd, if_pos isO_H, x_wrong, Option.bind_some, if_neg w]
    · rw [f_X6_judge.eq_1, if_pos isO_M, m_wrong hsh, Option.bind_some, if_neg w]
end TL
