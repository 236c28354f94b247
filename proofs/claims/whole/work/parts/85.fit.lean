/-! faces, keens, kinds, burnt, laws. -/
def fiA (u : Nat → Int32) : Nat → Nat → Int32 → Int32 → Int32 × Int32
  | 0, _, many, least => (many, least)
  | d + 1, v, many, least => fiA u d (v + 1) (if u v = -1 then many + 1 else many) (if u v = -1 then (if least = -1 then nI v else least) else least)
def kiA (u : Nat → Int32) : Nat → Nat → Int32 → Int32
  | 0, _, fit => fit
  | d + 1, v, fit => kiA u d (v + 1) (fit ||| (if u v = -1 then (1 : Int32) <<< (nI v &&& 31) else 0))
def buA (Z : Zt) (u : Nat → Int32) : Nat → Nat → Int32 → Int32
  | 0, _, fit => fit
  | d + 1, v, fit => if Z 7 v = -1 then buA Z u d (v + 1) fit else buA Z u d (v + 1) (fit ||| (if u v = -1 then (1 : Int32) <<< (nI v &&& 31) else 0))
section FI
variable {b m : Nat} {S : XS} {O O' : MS} {μ μm : mS} {tc r : Nat} {T : Nat → Lw} {Q : Nat → Nat} {Z Y : Zt} {g : Nat → Int32} {L : Lw}
/-- a number of a row changed -/
def unJ (L : Lw) (cl : Nat → Int32) (Z : Zt) (n j i v : Nat) : Int32 := unA L cl (zs Z j i (nI v)) n 0
theorem ta_set {q j i : Nat} {v : Int32} (hj : j < 10) (hi : i < zLen j) : sI (TA b S q μ Z g) (b + (33 + (j + 1))) (nI i) v = some (TA b S q μ (zs Z j i v) g) := sI_in zo33 j hj i hi v
theorem x_fitL (R : RLx b m S O μ tc r T Q) {s n : Nat} (hs : s < 4) (hn : n ≤ 20) (en : S.1 (77 + 2 * s) 2 = nI n) {j i : Nat} (hj : j < 10) (hi : i < zLen j) (hG : ∀ V v, gZ V → v ≤ 99 → gZ (zs V j i (nI v))) (x4 : Int32) : ∀ d v f many least q Z g, v + d = 100 → d < f → ∃ q' Z' g', f_X5_fitting_9 f b (nI s) (b + (33 + (j + 1))) (nI i) x4 many least (nI v) (TA b S q (memM m O μ) Z g) = some (if x4 = 0 then (fiA (unJ (T r) (S.2.1 (77 + 2 * s + 1)) (zof S 11) n j i) d v many least).1 else (fiA (unJ (T r) (S.2.1 (77 + 2 * s + 1)) (zof S 11) n j i) d v many least).2, TA b S q' (memM m O μ) Z' g') := by
  intro d
  induction d with
  | zero =>
    intro v f many least q Z g hv hf
    obtain ⟨f, rfl⟩ : ∃ z, f = z + 1 := ⟨f - 1, by omega⟩
    have : v = 100 := by omega
    subst this
    refine ⟨q, Z, g, ?_⟩
    rw [f_X5_fitting_9.eq_2, if_pos (show (99 : Int32) < nI 100 by decide), fiA]
    split <;> rfl
  | succ d ih =>
    intro v f many least q Z g hv hf
    obtain ⟨f, rfl⟩ : ∃ z, f = z + 1 := ⟨f - 1, by omega⟩
    obtain ⟨Y, e1, hY⟩ := th_beg (b := b) (S := S) (μ := memM m O μ) q Z g
    obtain ⟨t, ht, et⟩ := R.h
    have gY : gZ (zs Y j i (nI v)) := hG Y v (R.g.eq hY) (by omega)
    have hj10 : j ≠ 10 := by omega
    obtain ⟨Z1, g1, e2⟩ := x_first (b := b) (S := S) (g := g) hs hn en (R.l33 O) gY (t := t) (by rw [zs_ne (by omega), ← hY.2 1 (by decide)]; exact et) ht
    have ev : unA (T r) (S.2.1 (77 + 2 * s + 1)) (zs Y j i (nI v)) n 0 = unJ (T r) (S.2.1 (77 + 2 * s + 1)) (zof S 11) n j i v := ((hY.czs j i (nI v)).un (hG _ v R.g (by omega)) _ n 0).symm
    obtain ⟨q', Z', g', e3⟩ := ih (v + 1) f (if unJ (T r) (S.2.1 (77 + 2 * s + 1)) (zof S 11) n j i v = -1 then many + 1 else many) (if unJ (T r) (S.2.1 (77 + 2 * s + 1)) (zof S 11) n j i v = -1 then (if least = -1 then nI v else least) else least) _ Z1 g1 (by omega) (by omega)
    refine ⟨q', Z', g', ?_⟩
    rw [f_X5_fitting_9.eq_2, if_neg (show ¬ (99 : Int32) < nI v from nI_nlt (a := 99) (by omega) (by decide)), t5, Option.bind_some, t3, Option.bind_some, if_pos tO, e1, Option.bind_some, ta_set hj hi, Option.bind_some, if_pos (isO_4 _), e2, Option.bind_some, ev]
    simp only [vl, ite_self]
    rw [nI_1, fiA]
    exact e3
theorem m_add0 (x : Int32) : x + 0 = x := Int32.add_zero x
theorem m_faL {s n : Nat} (hs : s < 4) (hn : n ≤ 20) (cl : Nat → Int32) (hg : gZ Y) {t : Nat} (ht : Y 10 1 = nI t) (h2 : t ≤ 999) {p : Nat} (hp : p < 6) (x3 : Int32) (μ : mS) : ∀ d v f many least u O, v + d = 100 → d < f → O.2 13 s = nI n → (∀ k, k < 40 → O.2 14 (40 * s + k) = cl k) → MZ O (zs Y 5 p u) → LawR O L → ∃ O', f_X6_faces_59 f m (nI s) (nI p) x3 (Y 5 p) many least (nI v) (memM m O μ) = some (if x3 = 0 then (fiA (unJ L cl Y n 5 p) d v many least).1 else (fiA (unJ L cl Y n 5 p) d v many least).2, memM m O' μ) ∧ keepO O O' ∧ MZ O' Y := by
  intro d
  induction d with
  | zero =>
    intro v f many least u O hv hf en ec hz hl
    obtain ⟨f, rfl⟩ : ∃ z, f = z + 1 := ⟨f - 1, by omega⟩
    have : v = 100 := by omega
    subst this
    have z1 := hz.s3 (k := p) (j := 1) (by omega) (Y 5 p)
    rw [show 4 + 1 = 5 from rfl, zs_bk, zs_id] at z1
    refine ⟨_, ?_, keepO.a O _ (by omega), z1⟩
    rw [f_X6_faces_59.eq_2, if_pos (show (99 : Int32) < nI 100 by decide), mR_3, Option.bind_some, three1, sM 2 (by decide) (3 * p + 1) (by show _ < 18; omega) (by omega), Option.bind_some, fiA]
    split <;> rfl
  | succ d ih =>
    intro v f many least u O hv hf en ec hz hl
    obtain ⟨f, rfl⟩ : ∃ z, f = z + 1 := ⟨f - 1, by omega⟩
    have z1 := hz.s3 (k := p) (j := 1) (by omega) (nI v)
    rw [show 4 + 1 = 5 from rfl, zs_bk] at z1
    have k1 : keepO O (smA O 3 (upd (O.2 3) (3 * p + 1) (nI v))) := keepO.a O _ (by omega)
    obtain ⟨O1, e1, a1, z2⟩ := m_un (m := m) (μ := μ) hs hn cl (hg.face p (v := nI v) ⟨v, by omega, rfl⟩) (t := t) (by rw [zs_ne (by omega)]; exact ht) h2 (by rw [k1.2 13 (by omega)]; exact en) (fun k hk => by rw [k1.2 14 (by omega)]; exact ec k hk) z1 (lr_o k1 hl)
    have k2 := k1.tr a1
    obtain ⟨O', e3, a3, z3⟩ := ih (v + 1) f (if unJ L cl Y n 5 p v = -1 then many + 1 else many) (if unJ L cl Y n 5 p v = -1 then (if least = -1 then nI v else least) else least) (nI v) O1 (by omega) (by omega) (by rw [k2.2 13 (by omega)]; exact en) (fun k hk => by rw [k2.2 14 (by omega)]; exact ec k hk) z2 (lr_o k2 hl)
    refine ⟨O', ?_, k2.tr a3, z3⟩
    rw [f_X6_faces_59.eq_2, if_neg (show ¬ (99 : Int32) < nI v from nI_nlt (a := 99) (by omega) (by decide)), mR_3, Option.bind_some, three1, sM 2 (by decide) (3 * p + 1) (by show _ < 18; omega) (by omega), Option.bind_some, if_pos isO_M, e1, Option.bind_some, show unA L cl (zs Y 5 p (nI v)) n 0 = unJ L cl Y n 5 p v from rfl, fiA]
    simp only [vl]
    rw [nI_1]
    by_cases c : unJ L cl Y n 5 p v = -1
    · simp only [if_pos c] at e3 ⊢
      exact e3
    · simp only [if_neg c] at e3 ⊢
      simp only [if_true, m_add0]
      exact e3
theorem m_keL {s n : Nat} (hs : s < 4) (hn : n ≤ 20) (cl : Nat → Int32) (hg : gZ Y) {t : Nat} (ht : Y 10 1 = nI t) (h2 : t ≤ 999) {p : Nat} (hp : p < 6) (x3 : Int32) (μ : mS) : ∀ d v f many least u O, v + d = 100 → d < f → O.2 13 s = nI n → (∀ k, k < 40 → O.2 14 (40 * s + k) = cl k) → MZ O (zs Y 1 p u) → LawR O L → ∃ O', f_X6_keens_56 f m (nI s) (nI p) x3 (Y 1 p) many least (nI v) (memM m O μ) = some (if x3 = 0 then (fiA (unJ L cl Y n 1 p) d v many least).1 else (fiA (unJ L cl Y n 1 p) d v many least).2, memM m O' μ) ∧ keepO O O' ∧ MZ O' Y := by
  intro d
  induction d with
  | zero =>
    intro v f many least u O hv hf en ec hz hl
    obtain ⟨f, rfl⟩ : ∃ z, f = z + 1 := ⟨f - 1, by omega⟩
    have : v = 100 := by omega
    subst this
    have z1 := hz.s6 p (Y 1 p)
    rw [zs_bk, zs_id] at z1
    refine ⟨_, ?_, keepO.a O _ (by omega), z1⟩
    rw [f_X6_keens_56.eq_2, if_pos (show (99 : Int32) < nI 100 by decide), mR_6, Option.bind_some, sM 5 (by decide) p (by show _ < 6; omega) (by omega), Option.bind_some, fiA]
    split <;> rfl
  | succ d ih =>
    intro v f many least u O hv hf en ec hz hl
    obtain ⟨f, rfl⟩ : ∃ z, f = z + 1 := ⟨f - 1, by omega⟩
    have z1 := hz.s6 p (nI v)
    rw [zs_bk] at z1
    have k1 : keepO O (smA O 6 (upd (O.2 6) p (nI v))) := keepO.a O _ (by omega)
    obtain ⟨O1, e1, a1, z2⟩ := m_un (m := m) (μ := μ) hs hn cl (hg.keen p (v := nI v) ⟨v, by omega, rfl⟩) (t := t) (by rw [zs_ne (by omega)]; exact ht) h2 (by rw [k1.2 13 (by omega)]; exact en) (fun k hk => by rw [k1.2 14 (by omega)]; exact ec k hk) z1 (lr_o k1 hl)
    have k2 := k1.tr a1
    obtain ⟨O', e3, a3, z3⟩ := ih (v + 1) f (if unJ L cl Y n 1 p v = -1 then many + 1 else many) (if unJ L cl Y n 1 p v = -1 then (if least = -1 then nI v else least) else least) (nI v) O1 (by omega) (by omega) (by rw [k2.2 13 (by omega)]; exact en) (fun k hk => by rw [k2.2 14 (by omega)]; exact ec k hk) z2 (lr_o k2 hl)
    refine ⟨O', ?_, k2.tr a3, z3⟩
    rw [f_X6_keens_56.eq_2, if_neg (show ¬ (99 : Int32) < nI v from nI_nlt (a := 99) (by omega) (by decide)), mR_6, Option.bind_some, sM 5 (by decide) p (by show _ < 6; omega) (by omega), Option.bind_some, if_pos isO_M, e1, Option.bind_some, show unA L cl (zs Y 1 p (nI v)) n 0 = unJ L cl Y n 1 p v from rfl, fiA]
    simp only [vl]
    rw [nI_1]
    by_cases c : unJ L cl Y n 1 p v = -1
    · simp only [if_pos c] at e3 ⊢
      exact e3
    · simp only [if_neg c] at e3 ⊢
      simp only [if_true, m_add0]
      exact e3
theorem x_reF {μ : mS} (x1 x2 x3 : Int32) : f_X5_refusalOfFitting b x1 x2 x3 (memX b S μ) = some (if wrS S x1 = 0 then (if x2 = 0 then -5 else if f_X5_isBelow x3 2 = 0 then -7 else 0) else wrS S x1) := by
  rw [f_X5_refusalOfFitting.eq_1, if_pos isO_H, x_wrong, Option.bind_some]
  by_cases w : wrS S x1 = 0
  · rw [if_pos w, if_pos w]
    by_cases c : x2 = 0
    · rw [if_pos c, if_pos c]
    · rw [if_neg c, if_neg c]
      by_cases q : f_X5_isBelow x3 2 = 0
      · rw [if_pos q, if_pos q]
      · rw [if_neg q, if_neg q]
  · rw [if_neg w, if_neg w]
theorem x_has0 {μ : mS} (x : Int32) : f_X0_hasWitness (b + 11) x (memX b S μ) = some (f_X5_isBelow x (zof S 11 10 2)) := by rw [AZ_of b 11, x_has zo11]
theorem k_faces (x1 x2 x3 : Int32) : Call b m (f_X5_faces b x1 x2 x3) (f_X6_faces m x1 x2 x3) := by
  refine Call.th fun S O μ tc r T Q R => ?_
  have hsh := R.2.2.2.2.2.1
  have hg := R.g
  have h6 := hg.w6
  have hx : f_X5_faces b x1 x2 x3 (Wd b m S O μ) = _ := f_X5_faces.eq_1 _ _ _ _ _
  rw [Wd, h3X, Option.bind_some, if_pos (isO_Z zo11), x_has0, Option.bind_some, if_pos isO_H, x_reF, Option.bind_some] at hx
  by_cases w : wrS S x1 = 0
  · rw [if_pos w] at hx
    have hm : ∀ μ1, f_X6_faces m x1 x2 x3 (memM m O μ1) = if f_X5_isBelow x2 (zof S 11 10 2) = 0 then some (-5, memM m O μ1) else if f_X5_isBelow x3 2 = 0 then some (-7, memM m O μ1) else (gR (memM m O μ1) m 5 3).bind fun r51 => (aI (memM m O μ1) r51 (((3 : Int32) * x2) + (1 : Int32))).bind fun v52 => f_X6_faces_59 fU m x1 x2 x3 v52 (0 : Int32) (-1 : Int32) (0 : Int32) (memM m O μ1) := fun μ1 => by
      rw [f_X6_faces.eq_1, if_pos isO_M, m_wrong hsh, Option.bind_some, w, if_pos rfl, if_pos isO_M, m_isOne R.z hg, Option.bind_some, i_2]
    by_cases q : f_X5_isBelow x2 (zof S 11 10 2) = 0
    · rw [if_pos q, if_neg (by decide)] at hx
      exact th_same R (-5) hx (fun μ1 => (hm μ1).trans (if_pos q))
    rw [if_neg q] at hx
    have hm := fun μ1 => (hm μ1).trans (if_neg q)
    by_cases q2 : f_X5_isBelow x3 2 = 0
    · rw [if_pos q2, if_neg (by decide)] at hx
      exact th_same R (-7) hx (fun μ1 => (hm μ1).trans (if_pos q2))
    rw [if_neg q2, if_pos rfl, h5X, Option.bind_some, gR_Z zo33 5 (by decide), Option.bind_some, if_pos isO_H, f_X5_fitting.eq_1] at hx
    have hm := fun μ1 => (hm μ1).trans (if_neg q2)
    obtain ⟨s, n, hs, rfl, hn, en⟩ := wr_0 hsh w
    obtain ⟨p, hp, rfl⟩ := has_k hg q
    obtain ⟨t, ht, et⟩ := R.h
    obtain ⟨q', Z', g', e1⟩ := x_fitL R hs hn en (j := 5) (i := p) (by decide) (by show p < 6; omega) (fun V v hV hv => hV.face p ⟨v, hv, rfl⟩) x3 100 0 fU 0 (-1) (S.2.2.1 33) (zof S 33) (S.2.1 10) (by omega) (fU_lt (by omega))
    rw [← TA_start] at e1
    refine ⟨if x3 = 0 then (fiA (unJ (T r) (S.2.1 (77 + 2 * s + 1)) (zof S 11) n 5 p) 100 0 0 (-1)).1 else (fiA (unJ (T r) (S.2.1 (77 + 2 * s + 1)) (zof S 11) n 5 p) 100 0 0 (-1)).2, q', Z', g', ?_, fun μ1 => ?_⟩
    · rw [Wd, hx, show f_X5_fitting_9 fU b (nI s) (b + (33 + (5 + 1))) (nI p) x3 0 (-1) 0 (memX b S (memM m O μ)) = _ from e1, Option.bind_some]
    · obtain ⟨O', f1, f2, f3⟩ := m_faL (m := m) (L := T r) hs hn (S.2.1 (77 + 2 * s + 1)) hg et ht (p := p) (by omega) x3 μ1 100 0 fU 0 (-1) (zof S 11 5 p) O (by omega) (fU_lt (by omega)) ((hsh s hs).2.1.trans en) (hsh s hs).2.2.2.2 (by rw [zs_id]; exact R.z) (R.lr (keepO.rf O))
      refine ⟨O', ?_, f2, f3⟩
      rw [hm μ1, mR_3, Option.bind_some, three1, aM 2 (by decide) (3 * p + 1) (by show _ < 18; omega) (by omega), Option.bind_some, show O.2 (2 + 1) (3 * p + 1) = zof S 11 5 p from R.z.r1 (by omega)]
      exact f1
  · rw [if_neg w, if_neg w] at hx
    refine th_same R (wrS S x1) hx (fun μ1 => ?_)
    rw [f_X6_faces.eq_1, if_pos isO_M, m_wrong hsh, Option.bind_some, if_neg w]
theorem k_keens (x1 x2 x3 : Int32) : Call b m (f_X5_keens b x1 x2 x3) (f_X6_keens m x1 x2 x3) := by
  refine Call.th fun S O μ tc r T Q R => ?_
  have hsh := R.2.2.2.2.2.1
  have hg := R.g
  have hx : f_X5_keens b x1 x2 x3 (Wd b m S O μ) = _ := f_X5_keens.eq_1 _ _ _ _ _
  rw [Wd, if_pos isO_H, x_reF, Option.bind_some] at hx
  by_cases w : wrS S x1 = 0
  · rw [if_pos w] at hx
    have hm : ∀ μ1, f_X6_keens m x1 x2 x3 (memM m O μ1) = if f_X5_isBelow x2 6 = 0 then some (-5, memM m O μ1) else if f_X5_isBelow x3 2 = 0 then some (-7, memM m O μ1) else (gR (memM m O μ1) m 5 6).bind fun r47 => (aI (memM m O μ1) r47 x2).bind fun v48 => f_X6_keens_56 fU m x1 x2 x3 v48 (0 : Int32) (-1 : Int32) (0 : Int32) (memM m O μ1) := fun μ1 => by
      rw [f_X6_keens.eq_1, if_pos isO_M, m_wrong hsh, Option.bind_some, w, if_pos rfl, i_6, i_2]
    by_cases q : f_X5_isBelow x2 6 = 0
    · rw [if_pos q, if_neg (by decide)] at hx
      exact th_same R (-5) hx (fun μ1 => (hm μ1).trans (if_pos q))
    rw [if_neg q] at hx
    have hm := fun μ1 => (hm μ1).trans (if_neg q)
    by_cases q2 : f_X5_isBelow x3 2 = 0
    · rw [if_pos q2, if_neg (by decide)] at hx
      exact th_same R (-7) hx (fun μ1 => (hm μ1).trans (if_pos q2))
    rw [if_neg q2, if_pos rfl, h5X, Option.bind_some, gR_Z zo33 1 (by decide), Option.bind_some, if_pos isO_H, f_X5_fitting.eq_1] at hx
    have hm := fun μ1 => (hm μ1).trans (if_neg q2)
    obtain ⟨s, n, hs, rfl, hn, en⟩ := wr_0 hsh w
    obtain ⟨p, hp, rfl⟩ := b_6 x2 q
    obtain ⟨t, ht, et⟩ := R.h
    obtain ⟨q', Z', g', e1⟩ := x_fitL R hs hn en (j := 1) (i := p) (by decide) (by show p < 6; omega) (fun V v hV hv => hV.keen p ⟨v, hv, rfl⟩) x3 100 0 fU 0 (-1) (S.2.2.1 33) (zof S 33) (S.2.1 10) (by omega) (fU_lt (by omega))
    rw [← TA_start] at e1
    refine ⟨if x3 = 0 then (fiA (unJ (T r) (S.2.1 (77 + 2 * s + 1)) (zof S 11) n 1 p) 100 0 0 (-1)).1 else (fiA (unJ (T r) (S.2.1 (77 + 2 * s + 1)) (zof S 11) n 1 p) 100 0 0 (-1)).2, q', Z', g', ?_, fun μ1 => ?_⟩
    · rw [Wd, hx, show f_X5_fitting_9 fU b (nI s) (b + (33 + (1 + 1))) (nI p) x3 0 (-1) 0 (memX b S (memM m O μ)) = _ from e1, Option.bind_some]
    · obtain ⟨O', f1, f2, f3⟩ := m_keL (m := m) (L := T r) hs hn (S.2.1 (77 + 2 * s + 1)) hg et ht (p := p) (by omega) x3 μ1 100 0 fU 0 (-1) (zof S 11 1 p) O (by omega) (fU_lt (by omega)) ((hsh s hs).2.1.trans en) (hsh s hs).2.2.2.2 (by rw [zs_id]; exact R.z) (R.lr (keepO.rf O))
      refine ⟨O', ?_, f2, f3⟩
      rw [hm μ1, mR_6, Option.bind_some, aM 5 (by decide) p (by show _ < 6; omega) (by omega), Option.bind_some, show O.2 (5 + 1) p = zof S 11 1 p from R.z.kn hp]
      exact f1
  · rw [if_neg w, if_neg w] at hx
    refine th_same R (wrS S x1) hx (fun μ1 => ?_)
    rw [f_X6_keens.eq_1, if_pos isO_M, m_wrong hsh, Option.bind_some, if_neg w]
end FI
