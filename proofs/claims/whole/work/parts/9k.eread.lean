/-! text: the reference's expression is the machine. -/
def tkL : List Int32 := [0, 1, 2, 3, 4, 5, 6, 7, 8, 9, 40, 41, 59, 43, 45, 42, 60, 61]
theorem lx_tk {f : Nat → Int32} {n p : Nat} : (lx f n p).1 ∈ tkL := by
  rw [lx]
  generalize upto blB f n p = s
  rw [lxA]
  split
  · exact (show (0 : Int32) ∈ tkL by decide)
  split
  · rw [lxW]
    have hj := wdI_le (f := f) (s := s) (len := upto ltB f n s - s)
    generalize wdI f s (upto ltB f n s - s) = j at *
    split
    · exact (show (1 : Int32) ∈ tkL by decide)
    split
    · exact (show (3 : Int32) ∈ tkL by decide)
    · exact (show ∀ j, j < 6 → nI (4 + j) ∈ tkL by decide) j (by omega)
  split
  · rw [lxN]
    split
    · exact (show (2 : Int32) ∈ tkL by decide)
    · exact (show (1 : Int32) ∈ tkL by decide)
  · show (if sgB (f s) = true then f s else 1) ∈ tkL
    by_cases c : sgB (f s) = true
    · rw [if_pos c]
      have h : ((((((f s = 40 ∨ f s = 41) ∨ f s = 59) ∨ f s = 43) ∨ f s = 45) ∨ f s = 42) ∨ f s = 60) ∨ f s = 61 := by simpa [sgB] using c
      rcases h with ((((((h | h) | h) | h) | h) | h) | h) | h <;> rw [h] <;> decide
    · rw [if_neg c]; decide
theorem mt_facts : ∀ t, t ∈ tkL → ((mt t = 59 ↔ t = 59) ∧ (mt t = 41 ↔ t = 41) ∧ (mt t = 1 ↔ t = 2) ∧ (mt t = 2 ↔ t = 3) ∧ (mt t = 6 ↔ t = 9) ∧ (mt t = 45 ↔ t = 45) ∧ (mt t = 40 ↔ t = 40) ∧ (mt t = 0 ↔ t = 0)) := by decide +kernel
theorem sg_facts : ∀ t, t ∈ tkL → (if mt t = (4 : Int32) then (11 : Int32) else if mt t = 5 then 12 else if mt t = 60 then 14 else if mt t = 61 then 15 else if mt t = 43 then 16 else if mt t = 45 then 17 else if mt t = 42 then 18 else -1) = (if sgOf t = 0 then -1 else nI (sgOf t)) ∧ (¬ sgOf t = 0 → 11 ≤ sgOf t ∧ sgOf t < 19 ∧ ¬ sgOf t = 13 ∧ (1 ≤ rk (sgOf t) ∧ rk (sgOf t) ≤ 6) ∧ ¬ nI (sgOf t) = (-1 : Int32) ∧ ((12 : Int32) < nI (sgOf t) ↔ 12 < sgOf t)) ∧ (rk (sgOf t) = 4 → 12 < sgOf t) := by decide +kernel
theorem unw_top {r : Nat} : ∀ (H : List Nat) (o : Nat) (L : List Int32), (unw r H o L).1 = [] ∨ topR (unw r H o L).1 < r := by
  intro H
  induction H with
  | nil => intro o L; exact Or.inl rfl
  | cons h H ih =>
    intro o L
    by_cases c : rk h < r
    · rw [unw_stop (H := h :: H) c]; exact Or.inr c
    · rw [unw_go (by omega)]; exact ih _ _
theorem rk_0 : ∀ h, h < 20 → (h = 0 ∨ 11 ≤ h) → rk h < 1 → h = 0 := by decide
section RF
variable {m n tc p o : Nat} {f : Nat → Int32} {O : MS} {μ : mS} {H : List Nat} {L : List Int32}
theorem m_sign {t : Int32} (ht : t ∈ tkL) (h : O.1 24 = mt t) : f_X6_signOf m (memM m O μ) = some (if sgOf t = 0 then -1 else nI (sgOf t)) := by
  rw [← (sg_facts t ht).1, f_X6_signOf.eq_1, mI_24, Option.bind_some, h]
  by_cases c1 : mt t = 4
  · rw [if_pos c1, if_pos c1]
  rw [if_neg c1, if_neg c1, Option.bind_some]
  by_cases c2 : mt t = 5
  · rw [if_pos c2, if_pos c2]
  rw [if_neg c2, if_neg c2, Option.bind_some]
  by_cases c3 : mt t = 60
  · rw [if_pos c3, if_pos c3]
  rw [if_neg c3, if_neg c3, Option.bind_some]
  by_cases c4 : mt t = 61
  · rw [if_pos c4, if_pos c4]
  rw [if_neg c4, if_neg c4, Option.bind_some]
  by_cases c5 : mt t = 43
  · rw [if_pos c5, if_pos c5]
  rw [if_neg c5, if_neg c5, Option.bind_some]
  by_cases c6 : mt t = 45
  · rw [if_pos c6, if_pos c6]
  rw [if_neg c6, if_neg c6, Option.bind_some]
  by_cases c7 : mt t = 42
  · rw [if_pos c7, if_pos c7]
  rw [if_neg c7, if_neg c7]
theorem m_b17 {g r : Nat} (hr : 1 ≤ r) (hr7 : r ≤ 7) (htc : tc < 6) (hg : g < 20 ∧ 11 ≤ g) (h : est O f n tc p H o L) (ho : o = opn H) (hk : hOk H) (hl : L.length + H.length ≤ 190) : ∃ ok O', f_X6_between_17 m (nI g) m (nI r) (memM m O μ) = some (ok, memM m O' μ) ∧ edO tc O O' ∧ O'.1 22 = O.1 22 ∧ O'.1 23 = O.1 23 ∧ ((ok = 0 ∧ rk g = 4 ∧ topR (unw r H o L).1 = 4) ∨ (ok = 1 ∧ ¬ (rk g = 4 ∧ topR (unw r H o L).1 = 4) ∧ est O' f n tc p (g :: (unw r H o L).1) (unw r H o L).2.1 (unw r H o L).2.2)) := by
  obtain ⟨O1, e1, e2, e3, e4, e5⟩ := m_unw (m := m) (μ := μ) hr hr7 htc H o L O fU (fU_lt (by omega)) h ho hk hl
  obtain ⟨i1, i2, i3⟩ := unw_inv hr H o L ho hk
  have h22 : O1.1 22 = O.1 22 := e3.2.1.trans h.2.1.symm
  rw [f_X6_between_17.eq_1, if_pos isO_M, f_X6_unwinds.eq_1, e1, Option.bind_some, rank_is g hg.1 (Or.inr hg.2)]
  obtain ⟨O2, g1, g2, g3, g4, g5⟩ := m_holds (m := m) (μ := μ) (x := g) e3 (by omega)
  have h55 : f_X6_between_55 m (nI g) (memM m O1 μ) = some (1, memM m O2 μ) := by rw [f_X6_between_55.eq_1, if_pos isO_M, g1, Option.bind_some]
  have done : ¬ (rk g = 4 ∧ topR (unw r H o L).1 = 4) → ∃ ok O', f_X6_between_55 m (nI g) (memM m O1 μ) = some (ok, memM m O' μ) ∧ edO tc O O' ∧ O'.1 22 = O.1 22 ∧ O'.1 23 = O.1 23 ∧ ((ok = 0 ∧ rk g = 4 ∧ topR (unw r H o L).1 = 4) ∨ (ok = 1 ∧ ¬ (rk g = 4 ∧ topR (unw r H o L).1 = 4) ∧ est O' f n tc p (g :: (unw r H o L).1) (unw r H o L).2.1 (unw r H o L).2.2)) := fun q =>
    ⟨1, O2, h55, e2.tr g2, (g3.2.1.trans e3.2.1.symm).trans h22, g4.trans e4, Or.inr ⟨rfl, q, g3⟩⟩
  have hrk := rk_le g
  by_cases c : rk g = 4
  · rw [if_pos (show nI (rk g) = (4 : Int32) by rw [c]; rfl), mI_28, Option.bind_some, e3.2.2.1]
    generalize hU : (unw r H o L).1 = U at *
    cases U with
    | nil =>
      rw [if_pos (by decide)]
      exact done (fun q => absurd q.2 (by decide))
    | cons x U =>
      have l1 : (x :: U).length = U.length + 1 := rfl
      rw [l1] at i3
      rw [l1, if_neg (show ¬ nI (U.length + 1) ≤ (0 : Int32) from nI_ge (show 0 < U.length + 1 by omega) (by omega)), mR_27, Option.bind_some, Option.bind_some, nI_pred, aM 16 (by omega) _ (by show _ < 200; omega) (by omega), Option.bind_some, e3.2.2.2.2.1.1, rank_is x i2.c.1.1 i2.c.1.2]
      have hx7 := rk_le x
      by_cases d : rk x = 4
      · rw [if_pos (show nI (rk x) = (4 : Int32) by rw [d]; rfl)]
        exact ⟨0, O1, rfl, e2, h22, e4, Or.inl ⟨rfl, c, d⟩⟩
      · rw [if_neg (show ¬ nI (rk x) = (4 : Int32) from fun q => d ((nI_eq (a := rk x) (b := 4) (by omega) (by decide)).mp q))]
        exact done (fun q => d q.2)
  · rw [if_neg (show ¬ nI (rk g) = (4 : Int32) from fun q => c ((nI_eq (a := rk g) (b := 4) (by omega) (by decide)).mp q))]
    exact done (fun q => c q.1)
theorem m_open {x : Nat} (h : est O f n tc p H o L) (ho5 : o ≤ 5) (hl : H.length < 200) : ∃ ok O', f_X6_opensOne m (nI x) (memM m O μ) = some (ok, memM m O' μ) ∧ edO tc O O' ∧ O'.1 22 = O.1 22 ∧ O'.1 23 = O.1 23 ∧ ((ok = 0 ∧ o = 5) ∨ (ok = 1 ∧ ¬ o = 5 ∧ est O' f n tc p (x :: H) (o + 1) L)) := by
  rw [f_X6_opensOne.eq_1, mI_29, Option.bind_some, h.2.2.2.1]
  by_cases c : o = 5
  · rw [if_pos (show nI o = (5 : Int32) by rw [c]; rfl)]
    exact ⟨0, O, rfl, edO.rf tc O, rfl, rfl, Or.inl ⟨rfl, c⟩⟩
  · obtain ⟨⟨a1, a2, a3, a4⟩, a5, a6, a7, a8, a9, b1⟩ := h
    have h1 : est (smI O 29 (nI (o + 1))) f n tc p H (o + 1) L := by
      refine ⟨⟨?_, ?_, a3, a4⟩, ?_, ?_, ?_, a8, ?_, b1⟩
      · rw [sm1, if_neg (by omega)]; exact a1
      · rw [sm1, if_neg (by omega)]; exact a2
      · rw [sm1, if_neg (by omega)]; exact a5
      · rw [sm1, if_neg (by omega)]; exact a6
      · rw [sm1, if_pos rfl]
      · rw [sm1, if_neg (by omega)]; exact a9
    obtain ⟨O2, g1, g2, g3, g4, g5⟩ := m_holds (m := m) (μ := μ) (x := x) h1 hl
    rw [if_neg (show ¬ nI o = (5 : Int32) from fun q => c ((nI_eq (a := o) (b := 5) (by omega) (by decide)).mp q)), Option.bind_some, nI_1, mp_29, Option.bind_some, if_pos isO_M, g1, Option.bind_some]
    exact ⟨1, O2, rfl, (edO.i O _ (by omega)).tr g2, g3.2.1.trans a5.symm, g4.trans (by rw [sm1, if_neg (by omega)]), Or.inr ⟨rfl, c, g3⟩⟩
end RF
