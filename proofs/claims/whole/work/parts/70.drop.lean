/-! Letting fall, on both sides; drop, witness, count, force. -/
theorem nth_rng : ∀ n, n < 1024 → ∀ a, a < 10 → a < (bc (nI n)).toNatClampNeg → (nthA (nI n) 10 0 (nI a)).toNatClampNeg < 10 ∧ ¬ nthA (nI n) 10 0 (nI a) < 0 := by decide +kernel
theorem fm_rng : ∀ n, n < 11 → 0 < n → ∀ v, v < 199 → ∃ r, r < n ∧ f_J9_floorMod (nI v - 99) (nI n) = some (nI r) := by decide +kernel
section DR
variable {b m : Nat} {S : XS} {O : MS} {μ : mS} {Z : Zt} {g : Nat → Int32} {L : Lw}
theorem bd1_rng (v : Int32) : ∃ t, 1 ≤ t ∧ t ≤ 99 ∧ f_X5_bounded v 1 99 = nI t := by
  rw [← bw_eq (by decide), f_X6_within.eq_1]
  by_cases c1 : (1 : Int32) ≤ v
  · rw [if_pos c1]
    by_cases c2 : v ≤ 99
    · rw [if_pos c2]
      obtain ⟨j, hj, e⟩ := nI_of2 (x := v) (M := 99) (n := 99) (by decide) (by grind) c2
      refine ⟨j, ?_, hj, e⟩
      rcases Nat.eq_zero_or_pos j with q | q
      · rw [e, q] at c1
        exact absurd c1 (by decide)
      · exact q
    · rw [if_neg c2]
      exact ⟨99, by omega, by omega, rfl⟩
  · rw [if_neg c1]
    exact ⟨1, by omega, by omega, rfl⟩
theorem dro_rng {K v mo : Int32} {n : Nat} (hn : n < 11) (h0 : 0 < n) (hv : ∃ w, w < 199 ∧ v = nI w - 99) (hm : rng 9 mo) : ∃ a, a < n ∧ (f_X1_dropsOf K v mo (nI n)).getD 0 = nI a := by
  obtain ⟨w, hw, rfl⟩ := hv
  obtain ⟨j, hj, rfl⟩ := hm
  obtain ⟨r, hr, er⟩ := fm_rng n hn h0 w hw
  have c1 : nI n - 1 - nI r = nI (n - 1 - r) := by
    rw [show (1 : Int32) = nI 1 from rfl, pk_sub (show 1 ≤ n by omega), pk_sub (show r ≤ n - 1 by omega)]
  have c2 : nI j - nI j / nI n * nI n = nI (j % n) := pk_rem (by omega) (by omega) (by omega)
  have c3 : j % n < n := Nat.mod_lt _ h0
  rw [f_X1_dropsOf.eq_1, if_pos (show (1 : Int32) ≤ nI n from nI_le (a := 1) (by omega) (by omega)), er, Option.bind_some, c1, c2, if_neg (nI_ne0 h0 (by omega))]
  split
  · exact ⟨_, by omega, rfl⟩
  · split
    · rw [Option.getD_some]
      split
      · exact ⟨_, c3, rfl⟩
      · exact ⟨_, by omega, rfl⟩
    · exact ⟨r, hr, rfl⟩
theorem drS_rng (hg : gZ Z) (ok : okP (L 2)) {p : Nat} (hp : p < wN Z) (hk : Z 4 p ≠ 0) : rng 9 (drS L Z p) := by
  have h6 := hg.w6
  obtain ⟨s, hs, es⟩ := set_kn hg (show p < 6 by omega)
  obtain ⟨n, hn, en⟩ := bc_of (set_kn hg (show p < 6 by omega))
  obtain ⟨q1, q2, q3⟩ := bc_rng s hs
  have c : ¬ bc (Z 4 p) = 0 := by
    rw [es]
    intro z
    have := q3 z
    subst this
    exact hk es
  have hn0 : 0 < n := by
    rcases Nat.eq_zero_or_pos n with q | q
    · exact absurd (by rw [en, q]; rfl) c
    · exact q
  obtain ⟨a, ha, ea⟩ := dro_rng (K := Z 2 p) (v := syS L Z p 2) (mo := Z 3 p) (n := n) (by omega) hn0 (sy_2 L Z p ok) (hg.2.2.2.2.1 p hp).2
  rw [drS, if_neg c, en, ea, es]
  have hb : (bc (nI s)).toNatClampNeg = n := by rw [← es, en, nI_clamp (by omega)]
  obtain ⟨r1, r2⟩ := nth_rng s hs a (by omega) (by omega)
  obtain ⟨j, hj, ej⟩ := nI_of r2
  rw [ej] at r1 ⊢
  rw [nI_clamp hj] at r1
  exact ⟨j, by omega, rfl⟩
theorem ly_hole (h : ¬ (8 : Int32) ≤ lyA Z 8) : ∃ k, k < 8 ∧ Z 7 k = -1 := by
  by_cases c : ∃ k, k < 8 ∧ Z 7 k = -1
  · exact c
  · exfalso
    have q : ∀ k, k < 8 → ¬ Z 7 k = -1 := fun k hk e => c ⟨k, hk, e⟩
    apply h
    simp only [lyA, if_neg (q 0 (by decide)), if_neg (q 1 (by decide)), if_neg (q 2 (by decide)), if_neg (q 3 (by decide)), if_neg (q 4 (by decide)), if_neg (q 5 (by decide)), if_neg (q 6 (by decide)), if_neg (q 7 (by decide))]
    decide
theorem lf_find {p which hours : Int32} (hw : which ≠ -1) : ∀ mm k, k + mm = 8 → (∃ j, k ≤ j ∧ j < 8 ∧ Z 7 j = -1) → ∃ k0, k ≤ k0 ∧ k0 < 8 ∧ Z 7 k0 = -1 ∧ (∀ i, k ≤ i → i < k0 → Z 7 i ≠ -1) ∧ lfA Z p which hours mm k = (nI k0, zs (zs (zs Z 7 k0 p) 8 k0 which) 9 k0 hours) := by
  intro mm
  induction mm with
  | zero =>
    intro k hk hj
    obtain ⟨j, h1, h2, _⟩ := hj
    omega
  | succ mm ih =>
    intro k hk hj
    rw [lfA, if_neg hw]
    by_cases c : Z 7 k = -1
    · rw [if_pos c]
      exact ⟨k, Nat.le_refl _, by omega, c, fun i a e => by omega, rfl⟩
    · rw [if_neg c]
      obtain ⟨j, h1, h2, h3⟩ := hj
      have hjk : j ≠ k := fun e => c (e ▸ h3)
      obtain ⟨k0, a1, a2, a3, a4, a5⟩ := ih (k + 1) (by omega) ⟨j, by omega, h2, h3⟩
      refine ⟨k0, by omega, a2, a3, fun i b1 b2 => ?_, a5⟩
      by_cases e : i = k
      · rw [e]; exact c
      · exact a4 i (by omega) b2
theorem cl_1 {p : Nat} (h : ¬ clS Z p = 0) : Z 4 p ≠ 0 ∧ ¬ (8 : Int32) ≤ lyA Z 8 := by
  unfold clS at h
  split at h
  · exact absurd rfl h
  · rename_i c
    split at h
    · exact absurd rfl h
    · rename_i c2
      exact ⟨c, c2⟩
theorem lf_all (hg : gZ Z) (hr : LawR O L) {p : Nat} (hp : p < wN Z) (hc : ¬ clS Z p = 0) : ∃ k0, k0 < 8 ∧ Z 7 k0 = -1 ∧ (∀ i, i < k0 → Z 7 i ≠ -1) ∧ lfS L Z p = (nI k0, zs (zs (zs Z 7 k0 (nI p)) 8 k0 (drS L Z p)) 9 k0 (wtS L Z p)) ∧ gZ (lfS L Z p).2 := by
  obtain ⟨hk, hl⟩ := cl_1 hc
  have hd := drS_rng hg (hr.ok (part := 2) (by omega)) hp hk
  have hn : drS L Z p ≠ -1 := by
    obtain ⟨j, hj, e⟩ := hd
    rw [e]
    intro z
    have z2 : (nI j).toInt = ((-1 : Int32)).toInt := by rw [z]
    rw [nI_toInt (by omega)] at z2
    have z3 : ((-1 : Int32)).toInt = -1 := by decide
    omega
  obtain ⟨j, h1, h2⟩ := ly_hole hl
  obtain ⟨k0, a1, a2, a3, a4, a5⟩ := lf_find (p := nI p) (hours := wtS L Z p) hn 8 0 (by omega) ⟨j, by omega, h1, h2⟩
  refine ⟨k0, a2, a3, fun i hi => a4 i (by omega) hi, a5, ?_⟩
  rw [lfS, a5]
  exact hg.lin k0 ⟨p, hp, rfl⟩ hd (bd1_rng _)
theorem m_dropOf (hz : MZ O Z) (hg : gZ Z) (hr : LawR O L) {p : Nat} (hp : p < wN Z) (hc : ¬ clS Z p = 0) : ∃ O', f_X6_dropOf m (nI p) (memM m O μ) = some ((lfS L Z p).1, memM m O' μ) ∧ mkA O O' ∧ MZ O' (lfS L Z p).2 := by
  obtain ⟨k0, a1, a2, a3, a4, a5⟩ := lf_all hg hr hp hc
  obtain ⟨O1, e1, k1⟩ := m_dropsOf (m := m) (μ := μ) hz hg hr hp
  obtain ⟨O2, e2, k2⟩ := m_waitsOf (m := m) (μ := μ) (hz.k k1) hg (hr.k k1.a) hp
  have kk := k1.tr k2
  have hz2 := hz.k kk
  have z3 := ((hz2.s4 (k := k0) (j := 0) (by omega) (nI p)).s4 (k := k0) (j := 1) (by omega) (drS L Z p)).s4 (k := k0) (j := 2) (by omega) (wtS L Z p)
  rw [a4]
  refine ⟨_, ?_, ?_, z3⟩
  · rw [f_X6_dropOf.eq_1, if_pos isO_M, e1, Option.bind_some]
    dsimp only
    rw [if_pos isO_M, e2, Option.bind_some]
    dsimp only
    have fin : ∀ (K : Nat → Int32 → Int32 → Int32 → Int32 → mS → Option (Int32 × mS)) (w h : Int32) d k n, k + d = k0 → d < n → f_X6_dropOf_15 K n m (nI p) w h (nI k) (memM m O2 μ) = K m (nI p) w h (nI k0) (memM m O2 μ) := by
      intro K w h d
      induction d with
      | zero =>
        intro k n hk hn
        obtain ⟨n, rfl⟩ : ∃ q, n = q + 1 := ⟨n - 1, by omega⟩
        have : k = k0 := by omega
        subst this
        rw [f_X6_dropOf_15.eq_2]
        by_cases c : (7 : Int32) ≤ nI k
        · rw [if_pos c]
        · rw [if_neg c, if_pos isO_M, m_isLinen hz2 a1, if_pos a2, Option.bind_some, if_pos rfl]
      | succ d ih =>
        intro k n hk hn
        obtain ⟨n, rfl⟩ : ∃ q, n = q + 1 := ⟨n - 1, by omega⟩
        rw [f_X6_dropOf_15.eq_2, if_neg (show ¬ (7 : Int32) ≤ nI k from nI_ge (b := 7) (by omega) (by decide)), if_pos isO_M, m_isLinen hz2 (show k < 8 by omega), if_neg (a3 k (by omega)), Option.bind_some, if_neg (by decide)]
        simp only [vl]
        rw [nI_1]
        exact ih (k + 1) n (by omega) (by omega)
    rw [show (0 : Int32) = nI 0 from rfl, fin _ _ _ k0 0 fU (by omega) (fU_lt (by omega)), mR_4, Option.bind_some, three, show nI (3 * k0) = nI (3 * k0 + 0) from rfl, sM 3 (by decide) (3 * k0 + 0) (by show _ < 24; omega) (by omega), Option.bind_some, mR_4, Option.bind_some, nI_1, show 3 * k0 + 0 + 1 = 3 * k0 + 1 from rfl, sM 3 (by decide) (3 * k0 + 1) (by show _ < 24; omega) (by omega), Option.bind_some, mR_4, Option.bind_some, show (nI (3 * k0 + 0) + 2 : Int32) = nI (3 * k0 + 2) from nI_add _ 2, sM 3 (by decide) (3 * k0 + 2) (by show _ < 24; omega) (by omega), Option.bind_some]
  · exact ((kk.a.tr (mkA.s4 _ _)).tr (mkA.s4 _ _)).tr (mkA.s4 _ _)
theorem k_drop (x1 : Int32) : Call b m (f_X5_drop b x1) (f_X6_drop m x1) := by
  refine Call.now fun S O μ Z g L hz hg hh hl hr => ?_
  by_cases q : f_X5_isBelow x1 (Z 10 2) = 0
  · refine now_same (-5) hz hg hh ?_ (fun μ1 => ?_)
    · simp only [f_X5_drop.eq_1, h3, Option.bind_some, isO_A zo11, x_has zo11, q, if_true]
    · simp only [f_X6_drop.eq_1, isO_M, m_isOne hz hg, Option.bind_some, q, if_true]
  obtain ⟨p, hp, rfl⟩ := has_k hg q
  have h6 := hg.w6
  have hp6 : p < 6 := by omega
  have hx : f_X5_drop b (nI p) (AZ b 11 S (memM m O μ) Z g) = _ := f_X5_drop.eq_1 _ _ _
  have hm : ∀ μ1, f_X6_drop m (nI p) (memM m O μ1) = _ := fun μ1 => f_X6_drop.eq_1 _ _ _
  have r0 : ∀ μ1, aI (memM m O μ1) (m + (2 + 1)) (nI (3 * p)) = some (Z 4 p) := fun μ1 => by
    rw [aM 2 (by omega) (3 * p) (by show _ < 18; omega) (by omega)]
    exact congrArg some (hz.r0 hp6)
  simp only [h3, Option.bind_some, isO_A zo11, x_has zo11, q, if_true, if_false] at hx
  rw [gR_A zo11 4 (by decide), Option.bind_some, aI_in zo11 4 (by decide) p hp6, Option.bind_some] at hx
  simp only [isO_M, m_isOne hz hg, Option.bind_some, q, if_true, if_false, mR_3, three, r0, m_lying hz] at hm
  by_cases c0 : Z 4 p = 0
  · rw [if_pos c0] at hx
    exact now_same (-1) hz hg hh hx (fun μ1 => (hm μ1).trans (if_pos c0))
  rw [if_neg c0, x_can zo11 hp6, Option.bind_some] at hx
  have hm := fun μ1 => (hm μ1).trans (if_neg c0)
  have ly8 : ∃ n, n ≤ 8 ∧ lyA Z 8 = nI n := by
    have key : ∀ k, ∃ n, n ≤ k ∧ lyA Z k = nI n := by
      intro k
      induction k with
      | zero => exact ⟨0, by omega, rfl⟩
      | succ k ih =>
        obtain ⟨n, hn, e⟩ := ih
        rw [lyA, e]
        split
        · exact ⟨n, by omega, by rw [show (0 : Int32) = nI 0 from rfl, nI_add]; rfl⟩
        · exact ⟨n + 1, by omega, nI_1 n⟩
    exact key 8
  obtain ⟨ln, hln, eln⟩ := ly8
  by_cases c8 : lyA Z 8 = 8
  · have cl : clS Z p = 0 := by
      rw [clS, if_neg c0, c8]
      rfl
    rw [if_pos cl] at hx
    exact now_same (-4) hz hg hh hx (fun μ1 => (hm μ1).trans (if_pos c8))
  · have cl : ¬ clS Z p = 0 := by
      rw [clS, if_neg c0, if_neg]
      · decide
      · rw [eln] at c8 ⊢
        intro z
        apply c8
        have : ln = 8 := by
          rcases Nat.lt_or_ge ln 8 with q | q
          · exact absurd z (nI_ge (b := 8) q (by decide))
          · omega
        rw [this]
        rfl
    obtain ⟨g', e⟩ := x_letFall (Z := Z) (g := g) zo11 hl hp6
    rw [if_neg cl, e, Option.bind_some] at hx
    obtain ⟨k0, a1, a2, a3, a4, a5⟩ := lf_all hg hr hp cl
    refine ⟨(lfS L Z p).1, (lfS L Z p).2, g', hx, fun μ1 => ?_, a5, ?_, ?_⟩
    · obtain ⟨O', e2, k2, z2⟩ := m_dropOf (m := m) (μ := μ1) hz hg hr hp cl
      refine ⟨O', (hm μ1).trans ?_, k2.o, z2⟩
      rw [if_neg c8, e2, Option.bind_some]
    · rw [a4]
      dsimp only
      rw [zs_ne (by omega), zs_ne (by omega), zs_ne (by omega)]
      exact hh
    · rw [a4]
      dsimp only
      exact stay.of (by rw [zs_j _ _ (by decide), zs_j _ _ (by decide), zs_j _ _ (by decide)]) (by rw [zs_j _ _ (by decide), zs_j _ _ (by decide), zs_j _ _ (by decide)]) (by rw [zs_ne (by omega), zs_ne (by omega), zs_ne (by omega)])
end DR
