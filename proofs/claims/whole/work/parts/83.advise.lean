/-! advise, gallant. -/
def advV (L : Lw) (Z : Zt) (n p : Nat) : Int32 := wtA (hN L (lfS L Z p).2 n 0) (hN L (lfS L Z p).2 n 10 0) 10
def adA (L : Lw) (Z : Zt) (n : Nat) : Nat → Nat → Int32 → Int32 → Int32 × Int32
  | 0, _, best, most => (best, most)
  | d + 1, p, best, most => if clS Z p = 0 then adA L Z n d (p + 1) best most else adA L Z n d (p + 1) (if advV L Z n p ≤ most then best else nI p) (if advV L Z n p ≤ most then most else advV L Z n p)
def galV (L : Lw) (Z : Zt) (n man : Nat) : Int32 := bc (hN L (zs Z 1 man 99) n 10 0)
def gaA (L : Lw) (Z : Zt) (n : Nat) : Nat → Nat → Int32 → Int32 → Int32 × Int32
  | 0, _, best, most => (best, most)
  | d + 1, p, best, most => gaA L Z n d (p + 1) (if galV L Z n p ≤ most then best else nI p) (if galV L Z n p ≤ most then most else galV L Z n p)
theorem most_eq (v w : Int32) : (if v < w then w else v) = if v ≤ w then w else v := by
  by_cases c : v < w
  · rw [if_pos c, if_pos (Int32.le_of_lt c)]
  · rw [if_neg c]
    by_cases c2 : v ≤ w
    · rw [if_pos c2]
      exact Int32.le_antisymm c2 (Int32.not_lt.mp c)
    · rw [if_neg c2]
theorem lfS_hour {L : Lw} {Z : Zt} {p : Nat} : (lfS L Z p).2 10 1 = Z 10 1 ∧ (lfS L Z p).2 10 2 = Z 10 2 ∧ (lfS L Z p).2 10 0 = Z 10 0 ∧ ∀ j, j < 4 → (lfS L Z p).2 j = Z j := by
  unfold lfS
  have key : ∀ (w t : Int32) m k, (lfA Z (nI p) w t m k).2 10 1 = Z 10 1 ∧ (lfA Z (nI p) w t m k).2 10 2 = Z 10 2 ∧ (lfA Z (nI p) w t m k).2 10 0 = Z 10 0 ∧ ∀ j, j < 4 → (lfA Z (nI p) w t m k).2 j = Z j := by
    intro w t m
    induction m with
    | zero => intro k; exact ⟨rfl, rfl, rfl, fun _ _ => rfl⟩
    | succ m ih =>
      intro k
      rw [lfA]
      split
      · exact ⟨rfl, rfl, rfl, fun _ _ => rfl⟩
      · split
        · dsimp only
          refine ⟨?_, ?_, ?_, fun j hj => ?_⟩
          · rw [zs_ne (by omega), zs_ne (by omega), zs_ne (by omega)]
          · rw [zs_ne (by omega), zs_ne (by omega), zs_ne (by omega)]
          · rw [zs_ne (by omega), zs_ne (by omega), zs_ne (by omega)]
          · rw [zs_j _ _ (by omega), zs_j _ _ (by omega), zs_j _ _ (by omega)]
        · exact ih (k + 1)
  exact key _ _ 8 0
theorem sameC_lf {L : Lw} {Z : Zt} {p : Nat} (n : Nat) : sameC (hN L (lfS L Z p).2 n) Z := by
  obtain ⟨h1, h2, h3, h4⟩ := lfS_hour (L := L) (Z := Z) (p := p)
  exact ⟨fun j k hj => by rw [hN_row (by omega) (by omega) (by omega) (by omega), h4 j hj], by rw [hN_w, h2]⟩
section AD
variable {b m : Nat} {S : XS} {O O' : MS} {μ : mS} {tc r : Nat} {T : Nat → Lw} {Q : Nat → Nat} {Z Y : Zt} {g : Nat → Int32} {L : Lw}
theorem t_let (R : RLx b m S O μ tc r T Q) {p : Nat} (hp : p < 6) (O' : MS) : ∃ v g', f_X0_letFall (b + 33) (nI p) (TA b S (S.2.2.1 11) (memM m O' μ) Z g) = some (v, TA b S (S.2.2.1 11) (memM m O' μ) (lfS (T r) Z p).2 g') := by
  obtain ⟨g', e⟩ := x_letFall (Z := Z) (g := g) zo33 (R.l33 O') hp
  exact ⟨_, g', e⟩
theorem clear_gZ (R : RLx b m S O μ tc r T Q) (hY : zEq (zof S 11) Y) {p : Nat} (hp : p < wN (zof S 11)) (hc : ¬ clS (zof S 11) p = 0) : gZ (lfS (T r) Y p).2 := by
  have h6 := R.g.w6
  obtain ⟨k0, a1, a2, a3, a4, a5⟩ := lf_all (R.g.eq hY) (R.lr (keepO.rf O)) (show p < wN Y by rw [← hY.w]; exact hp) (by rw [← hY.cl (by omega)]; exact hc)
  exact a5
theorem x_advL (R : RLx b m S O μ tc r T Q) {n : Nat} (hn : n ≤ 40) (x2 : Int32) : ∀ d p f best most q Z g, p + d = wN (zof S 11) → d < f → ∃ q' Z' g', f_X5_advise_55 f b (nI n) x2 best most (nI p) (TA b S q (memM m O μ) Z g) = some (if x2 = 0 then (adA (T r) (zof S 11) n d p best most).1 else (adA (T r) (zof S 11) n d p best most).2, TA b S q' (memM m O μ) Z' g') := by
  have h6 := R.g.w6
  have hw := R.g.wI
  intro d
  induction d with
  | zero =>
    intro p f best most q Z g hp hf
    obtain ⟨f, rfl⟩ : ∃ z, f = z + 1 := ⟨f - 1, by omega⟩
    have e : p = wN (zof S 11) := by omega
    refine ⟨q, Z, g, ?_⟩
    rw [f_X5_advise_55.eq_2, t3, Option.bind_some, tW11, Option.bind_some, hw, if_pos (by rw [e]; exact nI_le (Nat.le_refl _) (by omega)), adA]
    split <;> rfl
  | succ d ih =>
    intro p f best most q Z g hp hf
    obtain ⟨f, rfl⟩ : ∃ z, f = z + 1 := ⟨f - 1, by omega⟩
    rw [f_X5_advise_55.eq_2, t3, Option.bind_some, tW11, Option.bind_some, hw, if_neg (nI_ge (by omega) (by omega)), Option.bind_some, if_pos tO11, tCan11 (by omega), Option.bind_some, adA]
    by_cases c : clS (zof S 11) p = 0
    · rw [if_pos c, if_pos c]
      simp only [vl]
      rw [nI_1]
      exact ih (p + 1) f best most q Z g (by omega) (by omega)
    · rw [if_neg c, if_neg c]
      obtain ⟨Y, e1, hY⟩ := th_beg (b := b) (S := S) (μ := memM m O μ) q Z g
      obtain ⟨v1, g1, e2⟩ := t_let (Z := Y) (g := g) R (show p < 6 by omega) O
      have gl := clear_gZ R hY (show p < wN (zof S 11) by omega) c
      obtain ⟨t, ht, et⟩ := R.h
      have hl : (lfS (T r) Y p).2 10 1 = nI t := by rw [lfS_hour.1, ← hY.2 1 (by decide)]; exact et
      obtain ⟨v2, g2, e3⟩ := t_pass (g := g1) R gl hl (by omega) n (by omega) O
      have ev : wtA (hN (T r) (lfS (T r) Y p).2 n 0) (hN (T r) (lfS (T r) Y p).2 n 10 0) 10 = advV (T r) (zof S 11) n p := by
        have q1 := (hY.lf (L := T r) (show p < 6 by omega)).2
        have gz : gZ (lfS (T r) (zof S 11) p).2 := clear_gZ R (zEq.rf _) (show p < wN (zof S 11) by omega) c
        exact ((q1.cN gz n).ver).symm
      obtain ⟨q', Z', g', e4⟩ := ih (p + 1) f (if advV (T r) (zof S 11) n p ≤ most then best else nI p) (if advV (T r) (zof S 11) n p ≤ most then most else advV (T r) (zof S 11) n p) (S.2.2.1 11) (hN (T r) (lfS (T r) Y p).2 n) g2 (by omega) (by omega)
      refine ⟨q', Z', g', ?_⟩
      rw [t5, Option.bind_some, Option.bind_some, if_pos tO, e1, Option.bind_some, t5, Option.bind_some, if_pos tO, e2, Option.bind_some]
      dsimp only
      rw [t5, Option.bind_some, if_pos tO, e3, Option.bind_some]
      dsimp only
      rw [t5, Option.bind_some, if_pos tO, tV, Option.bind_some, ev]
      simp only [vl]
      rw [most_eq, nI_1]
      exact e4
theorem m_advL (hg : gZ Y) {t : Nat} (ht : Y 10 1 = nI t) (h2 : t ≤ 999) {n : Nat} (hn : n ≤ 40) (x2 : Int32) (μ : mS) : ∀ d p f best most O, p + d = wN Y → d < f → MZ O Y → KP O Y → LawR O L → ∃ O', f_X6_advise_51 f m (nI n) x2 best most (nI p) (memM m O μ) = some (if x2 = 0 then (adA L Y n d p best most).1 else (adA L Y n d p best most).2, memM m O' μ) ∧ mkA O O' ∧ MZ O' Y := by
  have h6 := hg.w6
  have hw := hg.wI
  intro d
  induction d with
  | zero =>
    intro p f best most O hp hf hz hk hl
    obtain ⟨f, rfl⟩ : ∃ z, f = z + 1 := ⟨f - 1, by omega⟩
    have e : p = wN Y := by omega
    refine ⟨O, ?_, mkA.rf O, hz⟩
    rw [f_X6_advise_51.eq_2, mI_0, Option.bind_some, hz.wi, hw, if_pos (by rw [e]; exact nI_le (Nat.le_refl _) (by omega)), adA]
    split <;> rfl
  | succ d ih =>
    intro p f best most O hp hf hz hk hl
    obtain ⟨f, rfl⟩ : ∃ z, f = z + 1 := ⟨f - 1, by omega⟩
    rw [f_X6_advise_51.eq_2, mI_0, Option.bind_some, hz.wi, hw, if_neg (nI_ge (by omega) (by omega)), if_pos isO_M, m_can hz (by omega), Option.bind_some, adA]
    by_cases c : clS Y p = 0
    · rw [if_pos c, if_pos c]
      simp only [vl]
      rw [nI_1]
      exact ih (p + 1) f best most O (by omega) (by omega) hz hk hl
    · rw [if_neg c, if_neg c]
      obtain ⟨O1, e1, a1, z1⟩ := m_dropOf (m := m) (μ := μ) hz hg hl (show p < wN Y by omega) c
      have gl : gZ (lfS L Y p).2 := by
        obtain ⟨k0, a1, a2, a3, a4, a5⟩ := lf_all hg hl (show p < wN Y by omega) c
        exact a5
      obtain ⟨O2, e2, a2, z2⟩ := m_goes (m := m) (μ := μ) (hl.k a1) z1 gl (by rw [lfS_hour.1]; exact ht) (by omega) (n := n) (by omega)
      obtain ⟨O3, e3, a3, z3⟩ := m_lays (m := m) (μ := μ) z2 (sameC_lf n) (hk.k (a1.tr a2))
      have k3 := (a1.tr a2).tr a3
      obtain ⟨O', e4, a4, z4⟩ := ih (p + 1) f (if advV L Y n p ≤ most then best else nI p) (if advV L Y n p ≤ most then most else advV L Y n p) O3 (by omega) (by omega) z3 (hk.k k3) (hl.k k3)
      refine ⟨O', ?_, k3.tr a4, z4⟩
      rw [if_pos isO_M, e1, Option.bind_some, if_pos isO_M, e2, Option.bind_some, mI_7, Option.bind_some, if_pos isO_M, z2.ad, m_verdictOf z2, Option.bind_some, if_pos isO_M, e3, Option.bind_some]
      simp only [vl]
      rw [nI_1]
      exact e4
theorem k_advise (x1 x2 : Int32) : Call b m (f_X5_advise b x1 x2) (f_X6_advise m x1 x2) := by
  refine Call.th fun S O μ tc r T Q R => ?_
  have h6 := R.g.w6
  by_cases q : f_X5_isBelow x1 41 = 0
  · exact th_same R (-5000) (by rw [f_X5_advise.eq_1, if_pos q]) (fun μ1 => by rw [f_X6_advise.eq_1, i_41, if_pos q])
  by_cases q2 : f_X5_isBelow x2 2 = 0
  · exact th_same R (-5000) (by rw [f_X5_advise.eq_1, if_neg q, if_pos q2]) (fun μ1 => by rw [f_X6_advise.eq_1, i_41, if_neg q, i_2, if_pos q2])
  obtain ⟨n, hn, rfl⟩ := b_41 x1 q
  obtain ⟨Y, eb, hY⟩ := th_beg (b := b) (S := S) (μ := memM m O μ) (S.2.2.1 33) (zof S 33) (S.2.1 10)
  rw [← TA_start] at eb
  obtain ⟨t, ht, et⟩ := R.h
  have gY := R.g.eq hY
  obtain ⟨v0, g1, ep⟩ := t_pass (g := S.2.1 10) R gY (by rw [← hY.2 1 (by decide)]; exact et) (by omega) n (by omega) O
  have ev : wtA (hN (T r) Y n 0) (hN (T r) Y n 10 0) 10 = wtA (hN (T r) (zof S 11) n 0) (hN (T r) (zof S 11) n 10 0) 10 := ((hY.cN R.g n).ver).symm
  obtain ⟨q', Z', g', e1⟩ := x_advL R (n := n) (by omega) x2 (wN (zof S 11)) 0 fU (-1) (wtA (hN (T r) (zof S 11) n 0) (hN (T r) (zof S 11) n 10 0) 10) (S.2.2.1 11) (hN (T r) Y n) g1 (by omega) (fU_lt (by omega))
  refine ⟨if x2 = 0 then (adA (T r) (zof S 11) n (wN (zof S 11)) 0 (-1) (wtA (hN (T r) (zof S 11) n 0) (hN (T r) (zof S 11) n 10 0) 10)).1 else (adA (T r) (zof S 11) n (wN (zof S 11)) 0 (-1) (wtA (hN (T r) (zof S 11) n 0) (hN (T r) (zof S 11) n 10 0) 10)).2, q', Z', g', ?_, fun μ1 => ?_⟩
  · rw [f_X5_advise.eq_1, if_neg q, if_neg q2, Wd, h5X, Option.bind_some, h3X, Option.bind_some, if_pos (isO_Z zo33), eb, Option.bind_some, t5, Option.bind_some, if_pos tO, ep, Option.bind_some]
    dsimp only
    rw [t5, Option.bind_some, if_pos tO, tV, Option.bind_some, ev]
    exact e1
  · obtain ⟨O1, a1, a2, a3, a4⟩ := m_keeps (m := m) (μ := μ1) R.z
    obtain ⟨O2, b1, b2, b3⟩ := m_goes (m := m) (μ := μ1) (R.lr a2.o) a3 R.g et (by omega) (n := n) (by omega)
    obtain ⟨O3, c1, c2, c3⟩ := m_lays (m := m) (μ := μ1) b3 (sameC_hN n) (a4.k b2)
    have k3 : keepO O O3 := (a2.o.tr b2.o).tr c2.o
    obtain ⟨O4, d1, d2, d3⟩ := m_advL (m := m) (L := T r) R.g et ht (n := n) (by omega) x2 μ1 (wN (zof S 11)) 0 fU (-1) (wtA (hN (T r) (zof S 11) n 0) (hN (T r) (zof S 11) n 10 0) 10) O3 (by omega) (fU_lt (by omega)) c3 ((a4.k b2).k c2) (R.lr k3)
    refine ⟨O4, ?_, k3.tr d2.o, d3⟩
    rw [f_X6_advise.eq_1, i_41, if_neg q, i_2, if_neg q2, if_pos isO_M, a1, Option.bind_some, if_pos isO_M, b1, Option.bind_some, mI_7, Option.bind_some, if_pos isO_M, b3.ad, m_verdictOf b3, Option.bind_some, if_pos isO_M, c1, Option.bind_some]
    exact d1
theorem zEq.gal (h : zEq Z Y) (hg : gZ Z) (n man : Nat) : galV L Z n man = galV L Y n man := by
  unfold galV
  rw [((h.czs 1 man 99).cN (hg.keen man ⟨99, by omega, rfl⟩) n).2 0 (by decide)]
theorem x_galL (R : RLx b m S O μ tc r T Q) {n : Nat} (hn : n ≤ 40) (x2 : Int32) : ∀ d p f best most q Z g, p + d = 6 → d < f → ∃ q' Z' g', f_X5_gallant_57 f b (nI n) x2 best most (nI p) (TA b S q (memM m O μ) Z g) = some (if x2 = 0 then (gaA (T r) (zof S 11) n d p best most).1 else (gaA (T r) (zof S 11) n d p best most).2, TA b S q' (memM m O μ) Z' g') := by
  intro d
  induction d with
  | zero =>
    intro p f best most q Z g hp hf
    obtain ⟨f, rfl⟩ : ∃ z, f = z + 1 := ⟨f - 1, by omega⟩
    have e : p = 6 := by omega
    subst e
    refine ⟨q, Z, g, ?_⟩
    rw [f_X5_gallant_57.eq_2, if_pos (show (6 : Int32) ≤ nI 6 by decide), gaA]
    split <;> rfl
  | succ d ih =>
    intro p f best most q Z g hp hf
    obtain ⟨f, rfl⟩ : ∃ z, f = z + 1 := ⟨f - 1, by omega⟩
    obtain ⟨Y, e1, hY⟩ := th_beg (b := b) (S := S) (μ := memM m O μ) q Z g
    obtain ⟨t, ht, et⟩ := R.h
    have gY : gZ (zs Y 1 p 99) := (R.g.eq hY).keen p ⟨99, by omega, rfl⟩
    obtain ⟨v2, g2, e3⟩ := t_pass (g := g) R gY (by rw [zs_ne (by omega), ← hY.2 1 (by decide)]; exact et) (by omega) n (by omega) O
    have ev : f_J6_bitCount (hN (T r) (zs Y 1 p 99) n 10 0) = galV (T r) (zof S 11) n p := (hY.gal (L := T r) R.g n p).symm
    obtain ⟨q', Z', g', e4⟩ := ih (p + 1) f (if galV (T r) (zof S 11) n p ≤ most then best else nI p) (if galV (T r) (zof S 11) n p ≤ most then most else galV (T r) (zof S 11) n p) (S.2.2.1 11) (hN (T r) (zs Y 1 p 99) n) g2 (by omega) (by omega)
    refine ⟨q', Z', g', ?_⟩
    rw [f_X5_gallant_57.eq_2, if_neg (ge_6 (show p < 6 by omega)), t5, Option.bind_some, t3, Option.bind_some, if_pos tO, e1, Option.bind_some, t5, Option.bind_some, tR 1 (by decide), Option.bind_some, show sI (TA b S (S.2.2.1 11) (memM m O μ) Y g) (b + (33 + (1 + 1))) (nI p) 99 = some (TA b S (S.2.2.1 11) (memM m O μ) (zs Y 1 p 99) g) from sI_in zo33 1 (by decide) p (by show p < 6; omega) 99, Option.bind_some, t5, Option.bind_some, if_pos tO, e3, Option.bind_some]
    dsimp only
    rw [t5, Option.bind_some, tA, Option.bind_some]
    simp only [vl]
    rw [ev, most_eq, nI_1, gaA]
    exact e4
theorem m_adB (hz : MZ O Z) (hg : gZ Z) (hl : LawR O L) {t : Nat} (ht : Z 10 1 = nI t) (h2 : t ≤ 999) {n : Nat} (hn : n ≤ 40) : ∃ O', f_X6_admittedBehind m (nI n) (memM m O μ) = some (bc (hN L Z n 10 0), memM m O' μ) ∧ keepO O O' ∧ MZ O' Z := by
  obtain ⟨O1, a1, a2, a3, a4⟩ := m_keeps (m := m) (μ := μ) hz
  obtain ⟨O2, b1, b2, b3⟩ := m_goes (m := m) (μ := μ) (hl.kk a2) a3 hg ht (by omega) (n := n) (by omega)
  obtain ⟨O3, c1, c2, c3⟩ := m_lays (m := m) (μ := μ) b3 (sameC_hN n) (a4.k b2)
  refine ⟨O3, ?_, (a2.o.tr b2.o).tr c2.o, c3⟩
  rw [f_X6_admittedBehind.eq_1, if_pos isO_M, a1, Option.bind_some, if_pos isO_M, b1, Option.bind_some, mI_7, Option.bind_some, b3.ad, ones_bc (set_ad (gZ_hN hg n)), Option.bind_some, if_pos isO_M, c1, Option.bind_some]
theorem lr_o (hk : keepO O O') (hl : LawR O L) : LawR O' L := by
  obtain ⟨t, n, wt, dp, code, h1, h2, h3⟩ := hl
  exact ⟨t, n, wt, dp, code, by rw [hk.1 14 (by omega)]; exact h1, h2.k (hk.2 8 (by omega)) (hk.2 9 (by omega)), h3⟩
theorem zs_bk (Y : Zt) (j k : Nat) (v w : Int32) : zs (zs Y j k v) j k w = zs Y j k w := by
  funext a c
  rw [zs_at, zs_at, zs_at]
  split
  · split <;> rfl
  · rfl
theorem zs_id (Y : Zt) (j k : Nat) : zs Y j k (Y j k) = Y := by
  funext a c
  rw [zs_at]
  split
  · split
    · rename_i h1 h2; rw [h1, h2]
    · rfl
  · rfl
theorem m_galL (hg : gZ Y) {t : Nat} (ht : Y 10 1 = nI t) (h2 : t ≤ 999) {n : Nat} (hn : n ≤ 40) (x2 : Int32) (μ : mS) : ∀ d p f best most O, p + d = 6 → d < f → MZ O Y → LawR O L → ∃ O', f_X6_gallant_34 f m (nI n) x2 best most (nI p) (memM m O μ) = some (if x2 = 0 then (gaA L Y n d p best most).1 else (gaA L Y n d p best most).2, memM m O' μ) ∧ keepO O O' ∧ MZ O' Y := by
  intro d
  induction d with
  | zero =>
    intro p f best most O hp hf hz hl
    obtain ⟨f, rfl⟩ : ∃ z, f = z + 1 := ⟨f - 1, by omega⟩
    have e : p = 6 := by omega
    subst e
    refine ⟨O, ?_, keepO.rf O, hz⟩
    rw [f_X6_gallant_34.eq_2, if_pos (show (6 : Int32) ≤ nI 6 by decide), gaA]
    split <;> rfl
  | succ d ih =>
    intro p f best most O hp hf hz hl
    obtain ⟨f, rfl⟩ : ∃ z, f = z + 1 := ⟨f - 1, by omega⟩
    have hp6 : p < 6 := by omega
    have k0 : keepO O (smA O 6 (upd (O.2 6) p 99)) := keepO.a O _ (by omega)
    have z0 := hz.s6 p 99
    have g0 : gZ (zs Y 1 p 99) := hg.keen p ⟨99, by omega, rfl⟩
    obtain ⟨O1, e1, k1, z1⟩ := m_adB (m := m) (μ := μ) z0 g0 (lr_o k0 hl) (t := t) (by rw [zs_ne (by omega)]; exact ht) h2 hn
    have z2 := z1.s6 p (Y 1 p)
    rw [zs_bk, zs_id] at z2
    have k2 : keepO O (smA O1 6 (upd (O1.2 6) p (Y 1 p))) := (k0.tr k1).tr (keepO.a O1 _ (by omega))
    obtain ⟨O', e4, a4, z4⟩ := ih (p + 1) f (if galV L Y n p ≤ most then best else nI p) (if galV L Y n p ≤ most then most else galV L Y n p) _ (by omega) (by omega) z2 (lr_o k2 hl)
    refine ⟨O', ?_, k2.tr a4, z4⟩
    rw [f_X6_gallant_34.eq_2, if_neg (ge_6 hp6), mR_6, Option.bind_some, aM 5 (by decide) p (by show p < 6; omega) (by omega), Option.bind_some, Option.bind_some, sM 5 (by decide) p (by show p < 6; omega) (by omega), Option.bind_some, if_pos isO_M, e1, Option.bind_some]
    dsimp only
    rw [mR_6, Option.bind_some, show O.2 (5 + 1) p = Y 1 p from hz.kn hp6, sM 5 (by decide) p (by show p < 6; omega) (by omega), Option.bind_some]
    simp only [vl]
    rw [nI_1, gaA]
    exact e4
theorem k_gallant (x1 x2 : Int32) : Call b m (f_X5_gallant b x1 x2) (f_X6_gallant m x1 x2) := by
  refine Call.th fun S O μ tc r T Q R => ?_
  by_cases q : f_X5_isBelow x1 41 = 0
  · exact th_same R (-2) (by rw [f_X5_gallant.eq_1, if_pos q]) (fun μ1 => by rw [f_X6_gallant.eq_1, i_41, if_pos q])
  by_cases q2 : f_X5_isBelow x2 2 = 0
  · exact th_same R (-2) (by rw [f_X5_gallant.eq_1, if_neg q, if_pos q2]) (fun μ1 => by rw [f_X6_gallant.eq_1, i_41, if_neg q, i_2, if_pos q2])
  obtain ⟨n, hn, rfl⟩ := b_41 x1 q
  obtain ⟨Y, eb, hY⟩ := th_beg (b := b) (S := S) (μ := memM m O μ) (S.2.2.1 33) (zof S 33) (S.2.1 10)
  rw [← TA_start] at eb
  obtain ⟨t, ht, et⟩ := R.h
  have gY := R.g.eq hY
  obtain ⟨v0, g1, ep⟩ := t_pass (g := S.2.1 10) R gY (by rw [← hY.2 1 (by decide)]; exact et) (by omega) n (by omega) O
  have ev : f_J6_bitCount (hN (T r) Y n 10 0) = bc (hN (T r) (zof S 11) n 10 0) := by
    show bc _ = bc _
    rw [(hY.cN R.g n).2 0 (by decide)]
  obtain ⟨q', Z', g', e1⟩ := x_galL R (n := n) (by omega) x2 6 0 fU (-1) (bc (hN (T r) (zof S 11) n 10 0)) (S.2.2.1 11) (hN (T r) Y n) g1 (by omega) (fU_lt (by omega))
  refine ⟨if x2 = 0 then (gaA (T r) (zof S 11) n 6 0 (-1) (bc (hN (T r) (zof S 11) n 10 0))).1 else (gaA (T r) (zof S 11) n 6 0 (-1) (bc (hN (T r) (zof S 11) n 10 0))).2, q', Z', g', ?_, fun μ1 => ?_⟩
  · rw [f_X5_gallant.eq_1, if_neg q, if_neg q2, Wd, h5X, Option.bind_some, h3X, Option.bind_some, if_pos (isO_Z zo33), eb, Option.bind_some, t5, Option.bind_some, if_pos tO, ep, Option.bind_some]
    dsimp only
    rw [t5, Option.bind_some, tA, Option.bind_some, vl_eq, ev]
    exact e1
  · obtain ⟨O1, a1, a2, a3⟩ := m_adB (m := m) (μ := μ1) R.z R.g (R.lr (keepO.rf O)) et ht (n := n) (by omega)
    obtain ⟨O4, d1, d2, d3⟩ := m_galL (m := m) (L := T r) R.g et ht (n := n) (by omega) x2 μ1 6 0 fU (-1) (bc (hN (T r) (zof S 11) n 10 0)) O1 (by omega) (fU_lt (by omega)) a3 (R.lr a2)
    refine ⟨O4, ?_, a2.tr d2, d3⟩
    rw [f_X6_gallant.eq_1, i_41, if_neg q, i_2, if_neg q2, if_pos isO_M, a1, Option.bind_some]
    exact d1
end AD
