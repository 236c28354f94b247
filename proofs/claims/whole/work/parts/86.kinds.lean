/-! kinds, burnt, laws. -/
section KD
variable {b m : Nat} {S : XS} {O O' : MS} {μ μm : mS} {tc r : Nat} {T : Nat → Lw} {Q : Nat → Nat} {Z Y : Zt} {g : Nat → Int32} {L : Lw}
theorem x_kiL (R : RLx b m S O μ tc r T Q) {s n : Nat} (hs : s < 4) (hn : n ≤ 20) (en : S.1 (77 + 2 * s) 2 = nI n) {p : Nat} (hp : p < wN (zof S 11)) (x3 : Int32) (j N : Nat) (hj : (j = 2 ∧ N = 6 ∧ x3 = 0) ∨ (j = 3 ∧ N = 10 ∧ ¬ x3 = 0)) : ∀ d v f fit q Z g, v + d = N → d < f → ∃ q' Z' g', f_X5_kinds_30 f b (nI s) (nI p) x3 fit (nI v) (TA b S q (memM m O μ) Z g) = some (kiA (unJ (T r) (S.2.1 (77 + 2 * s + 1)) (zof S 11) n j p) d v fit, TA b S q' (memM m O μ) Z' g') := by
  have h6 := R.g.w6
  have eN : (if x3 = 0 then (6 : Int32) else 10) = nI N := by
    rcases hj with ⟨_, rfl, e⟩ | ⟨_, rfl, e⟩
    · rw [if_pos e]; rfl
    · rw [if_neg e]; rfl
  have hN : N ≤ 10 := by omega
  intro d
  induction d with
  | zero =>
    intro v f fit q Z g hv hf
    obtain ⟨f, rfl⟩ : ∃ z, f = z + 1 := ⟨f - 1, by omega⟩
    have : v = N := by omega
    subst this
    refine ⟨q, Z, g, ?_⟩
    rw [f_X5_kinds_30.eq_2, eN, vl_eq, if_pos (nI_le (Nat.le_refl _) (by omega)), kiA]
  | succ d ih =>
    intro v f fit q Z g hv hf
    obtain ⟨f, rfl⟩ : ∃ z, f = z + 1 := ⟨f - 1, by omega⟩
    obtain ⟨Y, e1, hY⟩ := th_beg (b := b) (S := S) (μ := memM m O μ) q Z g
    obtain ⟨t, ht, et⟩ := R.h
    have hG : ∀ V, gZ V → gZ (zs V j p (nI v)) := fun V hV => by
      rcases hj with ⟨rfl, rfl, e⟩ | ⟨rfl, rfl, e⟩
      · exact hV.kind p ⟨v, by omega, rfl⟩
      · exact hV.more p ⟨v, by omega, rfl⟩
    have hj4 : j < 4 := by omega
    have gY := hG Y (R.g.eq hY)
    obtain ⟨Z1, g1, e2⟩ := x_first (b := b) (S := S) (g := g) hs hn en (R.l33 O) gY (t := t) (by rw [zs_ne (by omega), ← hY.2 1 (by decide)]; exact et) ht
    have ev : unA (T r) (S.2.1 (77 + 2 * s + 1)) (zs Y j p (nI v)) n 0 = unJ (T r) (S.2.1 (77 + 2 * s + 1)) (zof S 11) n j p v := ((hY.czs j p (nI v)).un (hG _ R.g) _ n 0).symm
    obtain ⟨q', Z', g', e3⟩ := ih (v + 1) f (fit ||| (if unJ (T r) (S.2.1 (77 + 2 * s + 1)) (zof S 11) n j p v = -1 then (1 : Int32) <<< (nI v &&& 31) else 0)) _ Z1 g1 (by omega) (by omega)
    refine ⟨q', Z', g', ?_⟩
    have st : f_X5_kinds_78 (f_X5_kinds_30 f) b (nI s) (nI p) x3 fit (nI v) (b + (33 + (j + 1))) (TA b S (S.2.2.1 11) (memM m O μ) Y g) = some (kiA (unJ (T r) (S.2.1 (77 + 2 * s + 1)) (zof S 11) n j p) (d + 1) v fit, TA b S q' (memM m O μ) Z' g') := by
      rw [f_X5_kinds_78.eq_1, ta_set (by omega) (by
        rcases hj with ⟨rfl, _, _⟩ | ⟨rfl, _, _⟩
        · show p < 6; omega
        · show p < 6; omega), Option.bind_some, if_pos (isO_4 _), e2, Option.bind_some, ev]
      simp only [vl]
      rw [nI_1, kiA]
      exact e3
    rw [f_X5_kinds_30.eq_2, eN, vl_eq, if_neg (nI_ge (by omega) (by omega)), t5, Option.bind_some, t3, Option.bind_some, if_pos tO, e1, Option.bind_some]
    rcases hj with ⟨rfl, rfl, e⟩ | ⟨rfl, rfl, e⟩
    · rw [if_pos e, t5, Option.bind_some, tR 2 (by decide), Option.bind_some]
      exact st
    · rw [if_neg e, t5, Option.bind_some, tR 3 (by decide), Option.bind_some]
      exact st
theorem m_kiL {s n : Nat} (hs : s < 4) (hn : n ≤ 20) (cl : Nat → Int32) (hg : gZ Y) {t : Nat} (ht : Y 10 1 = nI t) (h2 : t ≤ 999) {p : Nat} (hp : p < wN Y) (x3 : Int32) (j N : Nat) (hj : (j = 2 ∧ N = 6 ∧ x3 = 0) ∨ (j = 3 ∧ N = 10 ∧ x3 = 1)) (μ : mS) : ∀ d v f fit u O, v + d = N → d < f → O.2 13 s = nI n → (∀ k, k < 40 → O.2 14 (40 * s + k) = cl k) → MZ O (zs Y j p u) → LawR O L → ∃ O', f_X6_kinds_60 f m (nI s) (nI p) x3 (Y 2 p) (Y 3 p) fit (nI v) (memM m O μ) = some (kiA (unJ L cl Y n j p) d v fit, memM m O' μ) ∧ keepO O O' ∧ MZ O' Y := by
  have h6 := hg.w6
  have eN : (if x3 = 0 then (6 : Int32) else 10) = nI N := by
    rcases hj with ⟨_, rfl, e⟩ | ⟨_, rfl, e⟩
    · rw [if_pos e]; rfl
    · rw [if_neg (by rw [e]; decide)]; rfl
  have hN : N ≤ 10 := by omega
  have q3 : ∀ w : Int32, zs (zs Y 2 p w) 3 p (Y 3 p) = zs Y 2 p w := fun w => by
    have : (zs Y 2 p w) 3 p = Y 3 p := zs_ne (by omega)
    rw [← this, zs_id]
  have q2 : ∀ w : Int32, zs (zs Y 2 p (Y 2 p)) 3 p w = zs Y 3 p w := fun w => by rw [zs_id]
  have sw : ∀ u : Int32, zs (zs Y 3 p u) 2 p (Y 2 p) = zs Y 3 p u := fun u => by
    have : (zs Y 3 p u) 2 p = Y 2 p := zs_ne (by omega)
    rw [← this, zs_id]
  intro d
  induction d with
  | zero =>
    intro v f fit u O hv hf en ec hz hl
    obtain ⟨f, rfl⟩ : ∃ z, f = z + 1 := ⟨f - 1, by omega⟩
    have : v = N := by omega
    subst this
    have z1 := (hz.s1 p (Y 2 p)).s2 p (Y 3 p)
    have e : zs (zs (zs Y j p u) 2 p (Y 2 p)) 3 p (Y 3 p) = Y := by
      rcases hj with ⟨rfl, _, _⟩ | ⟨rfl, _, _⟩
      · rw [zs_bk, zs_id, zs_id]
      · rw [sw, zs_bk, zs_id]
    rw [e] at z1
    refine ⟨_, ?_, (keepO.a O _ (by omega)).tr (keepO.a _ _ (by omega)), z1⟩
    rw [f_X6_kinds_60.eq_2, eN, vl_eq, if_pos (nI_le (Nat.le_refl _) (by omega)), mR_1, Option.bind_some, sM 0 (by decide) p (by show _ < 6; omega) (by omega), Option.bind_some, mR_2, Option.bind_some, sM 1 (by decide) p (by show _ < 6; omega) (by omega), Option.bind_some, kiA]
  | succ d ih =>
    intro v f fit u O hv hf en ec hz hl
    obtain ⟨f, rfl⟩ : ∃ z, f = z + 1 := ⟨f - 1, by omega⟩
    have e2a : (if x3 = 0 then nI v else Y 2 p) = if j = 2 then nI v else Y 2 p := by
      rcases hj with ⟨rfl, _, e⟩ | ⟨rfl, _, e⟩
      · rw [if_pos e, if_pos rfl]
      · rw [if_neg (by rw [e]; decide), if_neg (by decide)]
    have e3a : (if x3 = 1 then nI v else Y 3 p) = if j = 2 then Y 3 p else nI v := by
      rcases hj with ⟨rfl, _, e⟩ | ⟨rfl, _, e⟩
      · rw [if_neg (by rw [e]; decide), if_pos rfl]
      · rw [if_pos e, if_neg (by decide)]
    have z1 := (hz.s1 p (if j = 2 then nI v else Y 2 p)).s2 p (if j = 2 then Y 3 p else nI v)
    have e : zs (zs (zs Y j p u) 2 p (if j = 2 then nI v else Y 2 p)) 3 p (if j = 2 then Y 3 p else nI v) = zs Y j p (nI v) := by
      rcases hj with ⟨rfl, _, _⟩ | ⟨rfl, _, _⟩
      · rw [if_pos rfl, if_pos rfl, zs_bk, q3]
      · rw [if_neg (by decide), if_neg (by decide), sw, zs_bk]
    rw [e] at z1
    have hG : gZ (zs Y j p (nI v)) := by
      rcases hj with ⟨rfl, rfl, _⟩ | ⟨rfl, rfl, _⟩
      · exact hg.kind p ⟨v, by omega, rfl⟩
      · exact hg.more p ⟨v, by omega, rfl⟩
    have hj4 : j < 4 := by omega
    have k1 := (keepO.a O (j := 1) (upd (O.2 1) p (if j = 2 then nI v else Y 2 p)) (by omega)).tr (keepO.a (smA O 1 (upd (O.2 1) p (if j = 2 then nI v else Y 2 p))) (j := 2) (upd ((smA O 1 (upd (O.2 1) p (if j = 2 then nI v else Y 2 p))).2 2) p (if j = 2 then Y 3 p else nI v)) (by omega))
    obtain ⟨O1, e1, a1, z2⟩ := m_un (m := m) (μ := μ) hs hn cl hG (t := t) (by rw [zs_ne (by omega)]; exact ht) h2 (by rw [k1.2 13 (by omega)]; exact en) (fun k hk => by rw [k1.2 14 (by omega)]; exact ec k hk) z1 (lr_o k1 hl)
    have k2 := k1.tr a1
    obtain ⟨O', e3, a3, z3⟩ := ih (v + 1) f (fit ||| (if unJ L cl Y n j p v = -1 then (1 : Int32) <<< (nI v &&& 31) else 0)) (nI v) O1 (by omega) (by omega) (by rw [k2.2 13 (by omega)]; exact en) (fun k hk => by rw [k2.2 14 (by omega)]; exact ec k hk) z2 (lr_o k2 hl)
    refine ⟨O', ?_, k2.tr a3, z3⟩
    rw [f_X6_kinds_60.eq_2, eN, vl_eq, if_neg (nI_ge (by omega) (by omega)), mR_1, Option.bind_some, vl_eq, e2a, sM 0 (by decide) p (by show _ < 6; omega) (by omega), Option.bind_some, mR_2, Option.bind_some, vl_eq, e3a, sM 1 (by decide) p (by show _ < 6; omega) (by omega), Option.bind_some, if_pos isO_M, e1, Option.bind_some, show unA L cl (zs Y j p (nI v)) n 0 = unJ L cl Y n j p v from rfl, kiA]
    simp only [vl]
    rw [nI_1]
    exact e3
theorem k_kinds (x1 x2 x3 : Int32) : Call b m (f_X5_kinds b x1 x2 x3) (f_X6_kinds m x1 x2 x3) := by
  refine Call.th fun S O μ tc r T Q R => ?_
  have hsh := R.2.2.2.2.2.1
  have hg := R.g
  have h6 := hg.w6
  have hx : f_X5_kinds b x1 x2 x3 (Wd b m S O μ) = _ := f_X5_kinds.eq_1 _ _ _ _ _
  rw [Wd, h3X, Option.bind_some, if_pos (isO_Z zo11), x_has0, Option.bind_some, if_pos isO_H, x_reF, Option.bind_some] at hx
  by_cases w : wrS S x1 = 0
  · rw [if_pos w] at hx
    have hm : ∀ μ1, f_X6_kinds m x1 x2 x3 (memM m O μ1) = if f_X5_isBelow x2 (zof S 11 10 2) = 0 then some (-5, memM m O μ1) else if f_X5_isBelow x3 2 = 0 then some (-7, memM m O μ1) else (gR (memM m O μ1) m 5 1).bind fun r61 => (aI (memM m O μ1) r61 x2).bind fun v62 => (gR (memM m O μ1) m 5 2).bind fun r63 => (aI (memM m O μ1) r63 x2).bind fun v64 => f_X6_kinds_60 fU m x1 x2 x3 v62 v64 (0 : Int32) (0 : Int32) (memM m O μ1) := fun μ1 => by
      rw [f_X6_kinds.eq_1, if_pos isO_M, m_wrong hsh, Option.bind_some, w, if_pos rfl, if_pos isO_M, m_isOne R.z hg, Option.bind_some, i_2]
    by_cases q : f_X5_isBelow x2 (zof S 11 10 2) = 0
    · rw [if_pos q, if_neg (by decide)] at hx
      exact th_same R (-5) hx (fun μ1 => (hm μ1).trans (if_pos q))
    rw [if_neg q] at hx
    have hm := fun μ1 => (hm μ1).trans (if_neg q)
    by_cases q2 : f_X5_isBelow x3 2 = 0
    · rw [if_pos q2, if_neg (by decide)] at hx
      exact th_same R (-7) hx (fun μ1 => (hm μ1).trans (if_pos q2))
    rw [if_neg q2, if_pos rfl] at hx
    have hm := fun μ1 => (hm μ1).trans (if_neg q2)
    obtain ⟨s, n, hs, rfl, hn, en⟩ := wr_0 hsh w
    obtain ⟨p, hp, rfl⟩ := has_k hg q
    obtain ⟨w3, hw3, rfl⟩ := b_2 x3 q2
    obtain ⟨t, ht, et⟩ := R.h
    obtain ⟨j, N, hj, hj2, hjn⟩ : ∃ j N : Nat, ((j = 2 ∧ N = 6 ∧ nI w3 = 0) ∨ (j = 3 ∧ N = 10 ∧ ¬ nI w3 = 0)) ∧ ((j = 2 ∧ N = 6 ∧ nI w3 = 0) ∨ (j = 3 ∧ N = 10 ∧ nI w3 = 1)) ∧ N ≤ 10 := by
      have : w3 = 0 ∨ w3 = 1 := by omega
      rcases this with rfl | rfl
      · exact ⟨2, 6, Or.inl ⟨rfl, rfl, rfl⟩, Or.inl ⟨rfl, rfl, rfl⟩, by omega⟩
      · exact ⟨3, 10, Or.inr ⟨rfl, rfl, by decide⟩, Or.inr ⟨rfl, rfl, rfl⟩, by omega⟩
    obtain ⟨q', Z', g', e1⟩ := x_kiL R hs hn en hp (nI w3) j N hj N 0 fU 0 (S.2.2.1 33) (zof S 33) (S.2.1 10) (by omega) (fU_lt (by omega))
    rw [← TA_start] at e1
    refine ⟨kiA (unJ (T r) (S.2.1 (77 + 2 * s + 1)) (zof S 11) n j p) N 0 0, q', Z', g', ?_, fun μ1 => ?_⟩
    · rw [Wd, hx]
      exact e1
    · have z0 : MZ O (zs (zof S 11) j p (zof S 11 j p)) := by rw [zs_id]; exact R.z
      obtain ⟨O', f1, f2, f3⟩ := m_kiL (m := m) (L := T r) hs hn (S.2.1 (77 + 2 * s + 1)) hg et ht hp (nI w3) j N hj2 μ1 N 0 fU 0 (zof S 11 j p) O (by omega) (fU_lt (by omega)) ((hsh s hs).2.1.trans en) (hsh s hs).2.2.2.2 z0 (R.lr (keepO.rf O))
      refine ⟨O', ?_, f2, f3⟩
      rw [hm μ1, mR_1, Option.bind_some, m_kind R.z hg hp, Option.bind_some, mR_2, Option.bind_some, m_more R.z hg hp, Option.bind_some]
      exact f1
  · rw [if_neg w, if_neg w] at hx
    refine th_same R (wrS S x1) hx (fun μ1 => ?_)
    rw [f_X6_kinds.eq_1, if_pos isO_M, m_wrong hsh, Option.bind_some, if_neg w]
def unB (L : Lw) (cl : Nat → Int32) (Z : Zt) (n h : Nat) : Int32 := unA L cl (zs Z 7 h (-1)) n 0
theorem x_buL (R : RLx b m S O μ tc r T Q) {s n : Nat} (hs : s < 4) (hn : n ≤ 20) (en : S.1 (77 + 2 * s) 2 = nI n) : ∀ d v f fit q Z g, v + d = 8 → d < f → ∃ q' Z' g', f_X5_burnt_17 f b (nI s) fit (nI v) (TA b S q (memM m O μ) Z g) = some (buA (zof S 11) (unB (T r) (S.2.1 (77 + 2 * s + 1)) (zof S 11) n) d v fit, TA b S q' (memM m O μ) Z' g') := by
  intro d
  induction d with
  | zero =>
    intro v f fit q Z g hv hf
    obtain ⟨f, rfl⟩ : ∃ z, f = z + 1 := ⟨f - 1, by omega⟩
    have : v = 8 := by omega
    subst this
    exact ⟨q, Z, g, by rw [f_X5_burnt_17.eq_2, if_pos (show (8 : Int32) ≤ nI 8 by decide), buA]⟩
  | succ d ih =>
    intro v f fit q Z g hv hf
    obtain ⟨f, rfl⟩ : ∃ z, f = z + 1 := ⟨f - 1, by omega⟩
    rw [f_X5_burnt_17.eq_2, if_neg (ge_8 (show v < 8 by omega)), t3, Option.bind_some, if_pos tO11, tLi11, Option.bind_some, li_y (by omega), buA]
    by_cases c : zof S 11 7 v = -1
    · rw [if_pos c, if_pos rfl, if_pos c, vl_eq, nI_1]
      exact ih (v + 1) f fit q Z g (by omega) (by omega)
    · rw [if_neg c, if_neg (by decide), if_neg c]
      obtain ⟨Y, e1, hY⟩ := th_beg (b := b) (S := S) (μ := memM m O μ) q Z g
      obtain ⟨t, ht, et⟩ := R.h
      have gY : gZ (zs Y 7 v (-1)) := (R.g.eq hY).nobody v
      obtain ⟨Z1, g1, e2⟩ := x_first (b := b) (S := S) (g := g) hs hn en (R.l33 O) gY (t := t) (by rw [zs_ne (by omega), ← hY.2 1 (by decide)]; exact et) ht
      have ev : unA (T r) (S.2.1 (77 + 2 * s + 1)) (zs Y 7 v (-1)) n 0 = unB (T r) (S.2.1 (77 + 2 * s + 1)) (zof S 11) n v := ((hY.czs 7 v (-1)).un (R.g.nobody v) _ n 0).symm
      obtain ⟨q', Z', g', e3⟩ := ih (v + 1) f (fit ||| (if unB (T r) (S.2.1 (77 + 2 * s + 1)) (zof S 11) n v = -1 then (1 : Int32) <<< (nI v &&& 31) else 0)) _ Z1 g1 (by omega) (by omega)
      refine ⟨q', Z', g', ?_⟩
      rw [t5, Option.bind_some, Option.bind_some, if_pos tO, e1, Option.bind_some, t5, Option.bind_some, tR 7 (by decide), Option.bind_some, ta_set (by decide) (by show v < 8; omega), Option.bind_some, if_pos (isO_4 _), e2, Option.bind_some, ev]
      simp only [vl]
      rw [nI_1]
      exact e3
theorem m_buL {s n : Nat} (hs : s < 4) (hn : n ≤ 20) (cl : Nat → Int32) (hg : gZ Y) {t : Nat} (ht : Y 10 1 = nI t) (h2 : t ≤ 999) (μ : mS) : ∀ d v f fit O, v + d = 8 → d < f → O.2 13 s = nI n → (∀ k, k < 40 → O.2 14 (40 * s + k) = cl k) → MZ O Y → LawR O L → ∃ O', f_X6_burnt_17 f m (nI s) fit (nI v) (memM m O μ) = some (buA Y (unB L cl Y n) d v fit, memM m O' μ) ∧ keepO O O' ∧ MZ O' Y := by
  intro d
  induction d with
  | zero =>
    intro v f fit O hv hf en ec hz hl
    obtain ⟨f, rfl⟩ : ∃ z, f = z + 1 := ⟨f - 1, by omega⟩
    have : v = 8 := by omega
    subst this
    exact ⟨O, by rw [f_X6_burnt_17.eq_2, if_pos (show (8 : Int32) ≤ nI 8 by decide), buA], keepO.rf O, hz⟩
  | succ d ih =>
    intro v f fit O hv hf en ec hz hl
    obtain ⟨f, rfl⟩ : ∃ z, f = z + 1 := ⟨f - 1, by omega⟩
    have hv8 : v < 8 := by omega
    rw [f_X6_burnt_17.eq_2, if_neg (ge_8 hv8), mR_4, Option.bind_some, three, show nI (3 * v) = nI (3 * v + 0) from rfl, aM 3 (by decide) (3 * v + 0) (by show _ < 24; omega) (by omega), Option.bind_some, show O.2 (3 + 1) (3 * v + 0) = Y 7 v from hz.l0 hv8, buA]
    by_cases c : Y 7 v = -1
    · rw [if_pos c, if_pos c, vl_eq, nI_1]
      exact ih (v + 1) f fit O (by omega) (by omega) en ec hz hl
    · rw [if_neg c, if_neg c]
      have z1 := hz.s4 (k := v) (j := 0) (by omega) (-1)
      have k1 : keepO O (smA O 4 (upd (O.2 4) (3 * v + 0) (-1))) := keepO.a O _ (by omega)
      obtain ⟨O1, e1, a1, z2⟩ := m_un (m := m) (μ := μ) hs hn cl (hg.nobody v) (t := t) (by rw [zs_ne (by omega)]; exact ht) h2 (by rw [k1.2 13 (by omega)]; exact en) (fun k hk => by rw [k1.2 14 (by omega)]; exact ec k hk) z1 (lr_o k1 hl)
      have z3 := z2.s4 (k := v) (j := 0) (by omega) (Y 7 v)
      rw [show 7 + 0 = 7 from rfl, zs_bk, zs_id] at z3
      have k2 := (k1.tr a1).tr (keepO.a O1 (j := 4) (upd (O1.2 4) (3 * v + 0) (Y 7 v)) (by omega))
      obtain ⟨O', e3, a3, z4⟩ := ih (v + 1) f (fit ||| (if unB L cl Y n v = -1 then (1 : Int32) <<< (nI v &&& 31) else 0)) _ (by omega) (by omega) (by rw [k2.2 13 (by omega)]; exact en) (fun k hk => by rw [k2.2 14 (by omega)]; exact ec k hk) z3 (lr_o k2 hl)
      refine ⟨O', ?_, k2.tr a3, z4⟩
      rw [Option.bind_some, sM 3 (by decide) (3 * v + 0) (by show _ < 24; omega) (by omega), Option.bind_some, if_pos isO_M, e1, Option.bind_some, show unA L cl (zs Y 7 v (-1)) n 0 = unB L cl Y n v from rfl, vl_eq, vl_eq, mR_4, Option.bind_some, sM 3 (by decide) (3 * v + 0) (by show _ < 24; omega) (by omega), Option.bind_some, vl_eq, nI_1]
      exact e3
theorem k_burnt (x1 : Int32) : Call b m (f_X5_burnt b x1) (f_X6_burnt m x1) := by
  refine Call.th fun S O μ tc r T Q R => ?_
  have hsh := R.2.2.2.2.2.1
  by_cases w : wrS S x1 = 0
  · obtain ⟨s, n, hs, rfl, hn, en⟩ := wr_0 hsh w
    obtain ⟨t, ht, et⟩ := R.h
    obtain ⟨q', Z', g', e1⟩ := x_buL R hs hn en 8 0 fU 0 (S.2.2.1 33) (zof S 33) (S.2.1 10) (by omega) (fU_lt (by omega))
    rw [← TA_start] at e1
    refine ⟨buA (zof S 11) (unB (T r) (S.2.1 (77 + 2 * s + 1)) (zof S 11) n) 8 0 0, q', Z', g', ?_, fun μ1 => ?_⟩
    · rw [f_X5_burnt.eq_1, Wd, if_pos isO_H, x_wrong, Option.bind_some, w, if_pos rfl]
      exact e1
    · obtain ⟨O', f1, f2, f3⟩ := m_buL (m := m) (L := T r) hs hn (S.2.1 (77 + 2 * s + 1)) R.g et ht μ1 8 0 fU 0 O (by omega) (fU_lt (by omega)) ((hsh s hs).2.1.trans en) (hsh s hs).2.2.2.2 R.z (R.lr (keepO.rf O))
      refine ⟨O', ?_, f2, f3⟩
      rw [f_X6_burnt.eq_1, if_pos isO_M, m_wrong hsh, Option.bind_some, w, if_pos rfl]
      exact f1
  · refine th_same R (wrS S x1) ?_ (fun μ1 => ?_)
    · rw [f_X5_burnt.eq_1, Wd, if_pos isO_H, x_wrong, Option.bind_some, if_neg w]
    · rw [f_X6_burnt.eq_1, if_pos isO_M, m_wrong hsh, Option.bind_some, if_neg w]
end KD
