/-! fate. -/
section FT
variable {b m : Nat} {S : XS} {O O' : MS} {μ : mS} {tc r : Nat} {T : Nat → Lw} {Q : Nat → Nat} {Z Y : Zt} {g : Nat → Int32} {L : Lw}
theorem hsP_o {man k i j : Nat} {q : Int32 × Zt} (hi : i ≠ k) (hj : j = 7 ∨ j = 9) : (hsP L man q k).2 j i = q.2 j i := by
  unfold hsP
  split
  · rfl
  · split
    · dsimp only
      unfold fdS
      split
      · rw [zs_ne (by omega), zs_ne (by omega), zs_ne (by omega)]
      · rw [zs_ne (by omega)]
    · dsimp only
      rw [zs_ne (by omega), zs_ne (by omega)]
theorem hsA_lo {man i j : Nat} {q : Int32 × Zt} (hj : j = 7 ∨ j = 9) : ∀ k, k ≤ i → (hsA L man q k).2 j i = q.2 j i := by
  intro k
  induction k with
  | zero => intro _; rfl
  | succ k ih => intro hk; rw [hsA.eq_2, hsP_o (by omega) hj, ih (by omega)]
theorem hsA_hi {man i j : Nat} {q : Int32 × Zt} (hj : j = 7 ∨ j = 9) : ∀ d, (hsA L man q (i + 1 + d)).2 j i = (hsP L man (hsA L man q i) i).2 j i := by
  intro d
  induction d with
  | zero => rfl
  | succ d ih => rw [show i + 1 + (d + 1) = (i + 1 + d) + 1 by omega, hsA.eq_2, hsP_o (by omega) hj, ih]
theorem hZ_h {h : Nat} (hh : h < 8) (hn : Z 7 h ≠ -1) : (hZ L Z 7 h = -1 ∧ hZ L Z 9 h = Z 9 h) ∨ (hZ L Z 7 h = -1 ∧ hZ L Z 9 h = 0 ∧ Z 9 h - 1 = 0) ∨ (hZ L Z 7 h ≠ -1 ∧ hZ L Z 9 h = Z 9 h - 1 ∧ Z 9 h - 1 ≠ 0) := by
  have e7 : hZ L Z 7 h = (hsP L (manS Z) (hsA L (manS Z) (0, Z) h) h).2 7 h := by
    rw [hZ_eq, zs_ne (by omega), show (8 : Nat) = h + 1 + (7 - h) by omega, hsA_hi (Or.inl rfl)]
  have e9 : hZ L Z 9 h = (hsP L (manS Z) (hsA L (manS Z) (0, Z) h) h).2 9 h := by
    rw [hZ_eq, zs_ne (by omega), show (8 : Nat) = h + 1 + (7 - h) by omega, hsA_hi (Or.inr rfl)]
  have p7 : (hsA L (manS Z) (0, Z) h).2 7 h = Z 7 h := hsA_lo (Or.inl rfl) h (Nat.le_refl h)
  have p9 : (hsA L (manS Z) (0, Z) h).2 9 h = Z 9 h := hsA_lo (Or.inr rfl) h (Nat.le_refl h)
  rw [e7, e9]
  generalize hsA L (manS Z) (0, Z) h = q at p7 p9
  unfold hsP
  rw [p7, if_neg hn]
  split
  · dsimp only
    unfold fdS
    rw [p9]
    split
    · rename_i c
      refine Or.inr (Or.inl ⟨?_, ?_, c⟩)
      · rw [zs_ne (by omega), zs_hit]
      · rw [zs_ne (by omega), zs_ne (by omega), zs_hit, c]
    · rename_i c
      refine Or.inr (Or.inr ⟨?_, ?_, c⟩)
      · rw [zs_ne (by omega), p7]; exact hn
      · rw [zs_hit]
  · dsimp only
    refine Or.inl ⟨?_, ?_⟩
    · rw [zs_hit]
    · rw [zs_ne (by omega), zs_ne (by omega), p9]
theorem fate_K {h : Nat} (hh : h < 8) : ∀ t k, hN L Z k 7 h ≠ -1 → hN L Z k 9 h = nI t → 1 ≤ t → t ≤ 99 → ∃ K, k < K ∧ K ≤ k + t ∧ hN L Z K 7 h = -1 ∧ (∀ i, k ≤ i → i < K → hN L Z i 7 h ≠ -1) ∧ (hN L Z K 9 h = hN L Z (K - 1) 9 h ∨ hN L Z K 9 h = 0) := by
  intro t
  induction t with
  | zero => intro k _ _ h1; omega
  | succ t ih =>
    intro k hn ht h1 h99
    rcases hZ_h (L := L) hh hn with ⟨a, c⟩ | ⟨a, c, d⟩ | ⟨a, c, d⟩
    · refine ⟨k + 1, by omega, by omega, a, fun i h1 h2 => ?_, Or.inl ?_⟩
      · rw [show i = k by omega]; exact hn
      · exact c
    · refine ⟨k + 1, by omega, by omega, a, fun i h1 h2 => ?_, Or.inr ?_⟩
      · rw [show i = k by omega]; exact hn
      · exact c
    · by_cases t0 : t = 0
      · subst t0
        exfalso
        rw [ht] at d
        exact d (by decide)
      · obtain ⟨K, k1, k2, k3, k4, k5⟩ := ih (k + 1) a (by
          show hZ L (hN L Z k) 9 h = nI t
          rw [c, ht, nI_pred]) (by omega) (by omega)
        refine ⟨K, by omega, by omega, k3, fun i h1 h2 => ?_, k5⟩
        by_cases e : i = k
        · rw [e]; exact hn
        · exact k4 i (by omega) h2
def ftV (W : Zt) (h : Nat) (man : Int32) : Int32 := if W 9 h = 0 then -1 else man
theorem x_fateL (R : RLx b m S O μ tc r T Q) (hg : gZ Y) {t : Nat} (ht : Y 10 1 = nI t) (h2 : t ≤ 999) {h : Nat} (hh : h < 8) (x2 : Int32) (K : Nat → Int32 → Int32 → Int32 → mS → Option (Int32 × mS)) {N : Nat} (hN1 : N ≤ 99) (h7 : hN (T r) Y N 7 h = -1) (hb : ∀ i, i < N → hN (T r) Y i 7 h ≠ -1) : ∀ d k n g, k + d = N → d < n → ∃ g', f_X5_fate_38 K n b (nI h) x2 (nI k) (TA b S (S.2.2.1 11) (memM m O μ) (hN (T r) Y k) g) = K b (nI h) x2 (nI N) (TA b S (S.2.2.1 11) (memM m O μ) (hN (T r) Y N) g') := by
  intro d
  induction d with
  | zero =>
    intro k n g hk hn
    obtain ⟨n, rfl⟩ : ∃ q, n = q + 1 := ⟨n - 1, by omega⟩
    have : k = N := by omega
    subst this
    refine ⟨g, ?_⟩
    rw [f_X5_fate_38.eq_2]
    by_cases c : (99 : Int32) ≤ nI k
    · rw [if_pos c]
    · rw [if_neg c, t5, Option.bind_some, if_pos tO, tLi, Option.bind_some, li_y hh, if_pos h7, if_pos rfl]
  | succ d ih =>
    intro k n g hk hn
    obtain ⟨n, rfl⟩ : ∃ q, n = q + 1 := ⟨n - 1, by omega⟩
    obtain ⟨v, g1, e1⟩ := t_pass1 (g := g) R (gZ_hN hg k) (hN_hour ht k) (by omega) O
    obtain ⟨g', e2⟩ := ih (k + 1) n g1 (by omega) (by omega)
    refine ⟨g', ?_⟩
    rw [f_X5_fate_38.eq_2, if_neg (show ¬ (99 : Int32) ≤ nI k from nI_ge (b := 99) (by omega) (by decide)), t5, Option.bind_some, if_pos tO, tLi, Option.bind_some, li_y hh, if_neg (hb k (by omega)), if_neg (by decide), Option.bind_some, if_pos tO, e1, Option.bind_some]
    simp only [vl]
    rw [nI_1]
    exact e2
theorem mA34 (O : MS) (v : Int32) : MZ (smI O 34 v) Z ↔ MZ O Z := Iff.rfl
theorem m_fateL (hg : gZ Y) {t : Nat} (ht : Y 10 1 = nI t) (h2 : t ≤ 999) {h : Nat} (hh : h < 8) {N : Nat} (hN1 : N ≤ 99) (h7 : hN L Y N 7 h = -1) (hb : ∀ i, i < N → hN L Y i 7 h ≠ -1) (hl9 : hN L Y N 9 h = hN L Y (N - 1) 9 h ∨ hN L Y N 9 h = 0) (by0 : Int32) : ∀ d k n by_ O, k + d = N → d < n → (k = N → by_ = ftV (hN L Y N) h (nI ((t + N - 1) % 6))) → MZ O (hN L Y k) → KP O Y → LawR O L → O.1 34 = nI k → ∃ O', f_X6_fateOf_11 n m (nI h) by_ (memM m O μ) = some (ftV (hN L Y N) h (nI ((t + N - 1) % 6)), memM m O' μ) ∧ keepO O O' ∧ MZ O' Y ∧ O'.1 34 = nI N := by
  intro d
  induction d with
  | zero =>
    intro k n by_ O hk hn hv hz hkp hl h34
    obtain ⟨n, rfl⟩ : ∃ q, n = q + 1 := ⟨n - 1, by omega⟩
    have : k = N := by omega
    subst this
    obtain ⟨O', e, a, z⟩ := m_lays (m := m) (μ := μ) hz (sameC_hN k) hkp
    refine ⟨O', ?_, a.o, z, (a.1 34 (by decide) (by decide)).trans h34⟩
    rw [f_X6_fateOf_11.eq_2, if_pos isO_M, m_li hz, Option.bind_some, li_y hh, if_pos h7, if_pos rfl, if_pos isO_M, e, Option.bind_some, hv rfl]
  | succ d ih =>
    intro k n by_ O hk hn hv hz hkp hl h34
    obtain ⟨n, rfl⟩ : ∃ q, n = q + 1 := ⟨n - 1, by omega⟩
    obtain ⟨O1, e1, a1, z1⟩ := m_hourOf (m := m) (μ := μ) hl hz (gZ_hN hg k) (hN_hour ht k) (by omega)
    have hm : hN L Y k 10 1 - hN L Y k 10 1 / 6 * 6 = nI ((t + k) % 6) := by
      rw [hN_hour ht k]
      exact pk_rem (a := t + k) (d := 6) (by omega) (by omega) (by decide)
    have z2 : MZ (smI O1 34 (nI (k + 1))) (hN L Y (k + 1)) := (mA34 O1 _).mpr z1
    have kp2 : KP (smI O1 34 (nI (k + 1))) Y := (show KP O1 Y from hkp.k a1)
    have l2 : LawR (smI O1 34 (nI (k + 1))) L := (show LawR O1 L from hl.k a1)
    have k2 : keepO O (smI O1 34 (nI (k + 1))) := a1.o.tr (keepO.i _ _ (by omega))
    have hx : f_X6_fateOf_11 (n + 1) m (nI h) by_ (memM m O μ) = _ := f_X6_fateOf_11.eq_2 _ _ _ _ _
    rw [if_pos isO_M, m_li hz, Option.bind_some, li_y hh, if_neg (hb k (by omega)), if_neg (by decide), mR_4, Option.bind_some, three2, aM 3 (by decide) (3 * h + 2) (by show _ < 24; omega) (by omega), Option.bind_some, show O.2 (3 + 1) (3 * h + 2) = hN L Y k 9 h from hz.l2 hh, mI_8, Option.bind_some, hz.hr] at hx
    simp only [vl] at hx
    rw [hm, e1, if_pos isO_M, Option.bind_some, mI_34, Option.bind_some, (a1.1 34 (by decide) (by decide)).trans h34, nI_1, mp_34, Option.bind_some, if_pos isO_M, m_li z2, Option.bind_some, li_y hh] at hx
    by_cases c : k + 1 = N
    · rw [c, if_pos h7, if_pos rfl, if_neg (by decide), mR_4, Option.bind_some, aM 3 (by decide) (3 * h + 2) (by show _ < 24; omega) (by omega), Option.bind_some] at hx
      have e9 : (smI O1 34 (nI N)).2 (3 + 1) (3 * h + 2) = hN L Y N 9 h := by
        rw [← c]
        exact z2.l2 hh
      rw [e9] at hx
      obtain ⟨O', f1, f2, f3, f4⟩ := ih (k + 1) n (if hN L Y N 9 h = hN L Y k 9 h then nI ((t + k) % 6) else -1) (smI O1 34 (nI (k + 1))) (by omega) (by omega) (fun _ => by
        unfold ftV
        have hk1 : N - 1 = k := by omega
        rw [hk1] at hl9
        rw [show t + N - 1 = t + k by omega]
        have lk : ∃ w, 1 ≤ w ∧ w ≤ 99 ∧ hN L Y k 9 h = nI w := by
          rcases (gZ_hN (L := L) hg k).2.2.2.2.2 h hh with e | ⟨_, _, e⟩
          · exact absurd e (hb k (by omega))
          · exact e
        obtain ⟨w, w1, w2, w3⟩ := lk
        rcases hl9 with e | e
        · rw [if_pos e, e, w3, if_neg (nI_ne0 (by omega) (by omega))]
        · rw [e, w3, if_neg (fun z => nI_ne0 (show 0 < w by omega) (by omega) z.symm), if_pos rfl]) z2 kp2 l2 (by rw [smI_at, if_pos rfl])
      refine ⟨O', ?_, k2.tr f2, f3, f4⟩
      rw [c] at f1
      exact hx.trans f1
    · rw [if_neg (hb (k + 1) (by omega)), if_pos (by decide)] at hx
      obtain ⟨O', f1, f2, f3, f4⟩ := ih (k + 1) n by_ (smI O1 34 (nI (k + 1))) (by omega) (by omega) (fun z => absurd z c) z2 kp2 l2 (by rw [smI_at, if_pos rfl])
      exact ⟨O', hx.trans f1, k2.tr f2, f3, f4⟩
theorem k_fate (x1 x2 : Int32) : Call b m (f_X5_fate b x1 x2) (f_X6_fate m x1 x2) := by
  refine Call.th fun S O μ tc r T Q R => ?_
  have hz := R.z
  have hx : f_X5_fate b x1 x2 (Wd b m S O μ) = _ := f_X5_fate.eq_1 _ _ _ _
  have hm : ∀ μ1, f_X6_fate m x1 x2 (memM m O μ1) = _ := fun μ1 => f_X6_fate.eq_1 _ _ _ _
  simp only [isO_M, if_true, m_li hz, Option.bind_some, i_2] at hm
  have li0 : f_X0_lies (b + 11) x1 (memX b S (memM m O μ)) = some (liS (zof S 11) x1) := by rw [AZ_of b 11, x_li zo11]
  rw [Wd, h3X, Option.bind_some, if_pos (isO_Z zo11), li0, Option.bind_some] at hx
  by_cases q : liS (zof S 11) x1 = 0
  · rw [if_pos q] at hx
    exact th_same R (-6) hx (fun μ1 => (hm μ1).trans (if_pos q))
  rw [if_neg q] at hx
  have hm := fun μ1 => (hm μ1).trans (if_neg q)
  by_cases q2 : f_X5_isBelow x2 2 = 0
  · rw [if_pos q2] at hx
    exact th_same R (-7) hx (fun μ1 => (hm μ1).trans (if_pos q2))
  rw [if_neg q2] at hx
  have hm := fun μ1 => (hm μ1).trans (if_neg q2)
  obtain ⟨h, hh, rfl, hn⟩ := li_k q
  obtain ⟨w, hw, rfl⟩ := b_2 x2 q2
  obtain ⟨Y, eb, hY⟩ := th_beg (b := b) (S := S) (μ := memM m O μ) (S.2.2.1 33) (zof S 33) (S.2.1 10)
  rw [← TA_start] at eb
  obtain ⟨zY, gY, t, ht, et⟩ := R.y hY
  have hnY : Y 7 h ≠ -1 := by rw [← hY.1 7 h (by decide) hh]; exact hn
  obtain ⟨lt, l1, l2, l3⟩ : ∃ w, 1 ≤ w ∧ w ≤ 99 ∧ Y 9 h = nI w := by
    rcases gY.2.2.2.2.2 h hh with e | ⟨_, _, e⟩
    · exact absurd e hnY
    · exact e
  obtain ⟨N, n1, n2, n3, n4, n5⟩ := fate_K (L := T r) (Z := Y) hh lt 0 hnY l3 l1 l2
  obtain ⟨g', e1⟩ := x_fateL R gY et ht hh (nI w) (fun h0 x1 x2 x3 σ => if x2 = (1 : Int32) then some (x3, σ) else (gR (σ) h0 4 5).bind fun r45 => (gR (σ) r45 0 9).bind fun r46 => (aI (σ) r46 x1).bind fun v47 => if v47 = 0 then some ((-1 : Int32), σ) else (gR (σ) h0 4 5).bind fun r49 => (gI (σ) r49 0 12).bind fun v50 => some (((v50 - (1 : Int32)) - (v50 - (1 : Int32)) / (6 : Int32) * (6 : Int32)), σ)) (N := N) (by omega) n3 (fun i hi => n4 i (by omega) hi) N 0 fU (S.2.1 10) (by omega) (fU_lt (by omega))
  rw [h5X, Option.bind_some, Option.bind_some, if_pos (isO_Z zo33), eb, Option.bind_some] at hx
  have hx2 := hx.trans e1
  have mm : ∀ μ1, ∃ O', f_X6_fateOf m (nI h) (memM m O μ1) = some (ftV (hN (T r) Y N) h (nI ((t + N - 1) % 6)), memM m O' μ1) ∧ keepO O O' ∧ MZ O' Y ∧ O'.1 34 = nI N := by
    intro μ1
    have z0 : MZ (smI O 34 0) Y := (mA34 O 0).mpr zY
    obtain ⟨O1, a1, a2, a3, a4⟩ := m_keeps (m := m) (μ := μ1) z0
    have k1 : keepO O O1 := (keepO.i O 0 (by omega)).tr a2.o
    obtain ⟨O', f1, f2, f3, f4⟩ := m_fateL (m := m) (μ := μ1) gY et ht hh (N := N) (by omega) n3 (fun i hi => n4 i (by omega) hi) n5 (-1) N 0 fU (-1) O1 (by omega) (fU_lt (by omega)) (fun z => by omega) a3 a4 (R.lr k1) (by rw [a2.1]; rfl)
    refine ⟨O', ?_, k1.tr f2, f3, f4⟩
    rw [f_X6_fateOf.eq_1, mp_34, Option.bind_some, if_pos isO_M, a1, Option.bind_some]
    exact f1
  have hw2 : w = 0 ∨ w = 1 := by omega
  rcases hw2 with rfl | rfl
  · rw [if_neg (by decide), t5, Option.bind_some, tR 9 (by decide), Option.bind_some, show aI (TA b S (S.2.2.1 11) (memM m O μ) (hN (T r) Y N) g') (b + (33 + (9 + 1))) (nI h) = some (hN (T r) Y N 9 h) from aI_in zo33 9 (by decide) h hh, Option.bind_some] at hx2
    refine ⟨ftV (hN (T r) Y N) h (nI ((t + N - 1) % 6)), S.2.2.1 11, hN (T r) Y N, g', ?_, fun μ1 => ?_⟩
    · rw [ftV]
      by_cases c : hN (T r) Y N 9 h = 0
      · rw [if_pos c] at hx2
        rw [if_pos c]
        exact hx2
      · rw [if_neg c, Option.bind_some, tH, Option.bind_some, hN_hour et N] at hx2
        rw [if_neg c]
        obtain ⟨N', rfl⟩ : ∃ z, N = z + 1 := ⟨N - 1, by omega⟩
        have : nI (t + (N' + 1)) - 1 = nI (t + N') := nI_pred (t + N')
        rw [this, show nI (t + N') - nI (t + N') / (6 : Int32) * (6 : Int32) = nI ((t + N') % 6) from pk_rem (d := 6) (by omega) (by omega) (by decide)] at hx2
        exact hx2
    · obtain ⟨O', f1, f2, f3, f4⟩ := mm μ1
      refine ⟨O', ?_, f2, f3.bk gY hY⟩
      rw [hm μ1, f1, Option.bind_some, if_pos (show nI 0 = (0 : Int32) from rfl)]
  · rw [if_pos (show nI 1 = (1 : Int32) from rfl)] at hx2
    refine ⟨nI N, S.2.2.1 11, hN (T r) Y N, g', hx2, fun μ1 => ?_⟩
    obtain ⟨O', f1, f2, f3, f4⟩ := mm μ1
    refine ⟨O', ?_, f2, f3.bk gY hY⟩
    rw [hm μ1, f1, Option.bind_some, if_neg (by decide), mI_34, Option.bind_some, f4]
end FT
