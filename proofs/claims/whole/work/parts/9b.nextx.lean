theorem ltB_ns {x : Int32} (h : ltB x = true) : ¬ x = 32 := by
  intro e
  rw [e] at h
  exact absurd h (by decide)
theorem tok_m : ∀ j, j < 12 → ((if (3 : Int32) ≤ nI (jp j) then if (9 : Int32) ≤ nI (jp j) then if nI (jp j) = (12 : Int32) then (-1 : Int32) else (((4 : Int32) + nI (jp j)) - (9 : Int32)) else (2 : Int32) else (3 : Int32)) = if 6 ≤ j then mt 3 else mt (nI (4 + j))) ∧ (6 ≤ j → (if (3 : Int32) ≤ nI (jp j) then (nI (jp j) - (3 : Int32)) else nI (jp j)) = -1 - (-1 - nI (j - 6))) ∧ (j < 3 → (if (3 : Int32) ≤ nI (jp j) then (nI (jp j) - (3 : Int32)) else nI (jp j)) = nI j) ∧ (j < 6 → ¬ nI (4 + j) = 2 ∧ ¬ nI (4 + j) = 3 ∧ (nI (4 + j) = 4 → j = 0) ∧ (nI (4 + j) = 5 → j = 1) ∧ (nI (4 + j) = 6 → j = 2)) := by decide +kernel
theorem mt_sg {x : Int32} (h : sgB x = true) : mt x = x ∧ ¬ x = 2 ∧ ¬ x = 3 ∧ ¬ x = 4 ∧ ¬ x = 5 ∧ ¬ x = 6 := by
  have h : ((((((x = 40 ∨ x = 41) ∨ x = 59) ∨ x = 43) ∨ x = 45) ∨ x = 42) ∨ x = 60) ∨ x = 61 := by simpa [sgB] using h
  rcases h with ((((((h | h) | h) | h) | h) | h) | h) | h <;> subst h <;> decide
section MN
variable {b m : Nat} {S S' : XS} {O O' : MS} {μ : mS}
theorem mtk0 {O : MS} {t v : Int32} {s e : Nat} (h1 : O.1 22 = nI e) (h2 : O.1 23 = nI s) (h3 : O.1 24 = mt t) (h : ¬ t = 2 ∧ ¬ t = 3 ∧ ¬ t = 4 ∧ ¬ t = 5 ∧ ¬ t = 6) : mtk O (t, v, s, e) :=
  ⟨h1, h2, h3, fun q => absurd q h.1, fun q => absurd q h.2.1, fun q => absurd q h.2.2.1, fun q => absurd q h.2.2.2.1, fun q => absurd q h.2.2.2.2⟩
theorem m_next {f : Nat → Int32} {n p : Nat} (hn : n ≤ 160) (hp : p ≤ n) (h3 : O.1 10 = nI n) (h4 : O.1 22 = nI p) (hb : ∀ k, k < n → O.2 7 k = f k) (hw : RWo O) : ∃ O', f_X6_next m (memM m O μ) = some (memM m O' μ) ∧ nxO O O' ∧ mtk O' (lx f n p) := by
  have ex : f_X6_next m (memM m O μ) = _ := f_X6_next.eq_1 _ _
  obtain ⟨O1, e1, e2, e3⟩ := m_skip (m := m) (μ := μ) _ hn (n - p) p fU O (by omega) (fU_lt (by omega)) h3 h4 hb
  rw [e1] at ex
  obtain ⟨u1, u2⟩ := upto_le (P := blB) (f := f) (n := n) (n - p) p (by omega)
  rw [ex, lx]
  generalize upto blB f n p = s at *
  have t2 : nxO O (smI (smI (smI O1 23 (nI s)) 24 0) 25 0) := ((e2.tr (nxO.i _ _ (by omega))).tr (nxO.i _ _ (by omega))).tr (nxO.i _ _ (by omega))
  have q22 : (smI (smI (smI O1 23 (nI s)) 24 0) 25 0).1 22 = nI s := by rw [sm1, if_neg (by omega), sm1, if_neg (by omega), sm1, if_neg (by omega)]; exact e3
  have q23 : (smI (smI (smI O1 23 (nI s)) 24 0) 25 0).1 23 = nI s := by rw [sm1, if_neg (by omega), sm1, if_neg (by omega), sm1, if_pos rfl]
  have q24 : (smI (smI (smI O1 23 (nI s)) 24 0) 25 0).1 24 = 0 := by rw [sm1, if_neg (by omega), sm1, if_pos rfl]
  have q25 : (smI (smI (smI O1 23 (nI s)) 24 0) 25 0).1 25 = 0 := by rw [sm1, if_pos rfl]
  rw [mI_22, Option.bind_some, e3, mp_23, Option.bind_some, mp_24, Option.bind_some, mp_25, Option.bind_some]
  generalize smI (smI (smI O1 23 (nI s)) 24 0) 25 0 = O2 at *
  have q10 : O2.1 10 = nI n := (t2.1 10 (by omega)).trans h3
  have qb : ∀ k, k < n → O2.2 7 k = f k := fun k hk => by rw [t2.2]; exact hb k hk
  rw [mI_22, Option.bind_some, mI_10, Option.bind_some, q22, q10, lxA]
  by_cases c : n ≤ s
  · have : s = n := by omega
    subst this
    rw [if_pos rfl, if_pos (Nat.le_refl s)]
    exact ⟨O2, rfl, t2, mtk0 q22 q23 (q24.trans (by decide)) (by decide)⟩
  rw [if_neg (fun q => c (by have := (nI_eq (by omega) (by omega)).mp q; omega)), if_neg c, mR_9, Option.bind_some, Option.bind_some, aM 6 (by omega) _ (by show _ < 160; omega) (by omega), Option.bind_some, qb s (by omega)]
  by_cases cl : ltB (f s) = true
  · rw [if_neg (fun q => (lt_m _).mp q cl), if_pos cl]
    obtain ⟨O3, f1, f2, f3, f4⟩ := m_word (m := m) (μ := μ) (f := f) (fun h0 σ => (gI (σ) h0 5 23).bind fun v147 =>
(gI (σ) h0 5 22).bind fun v148 =>
if isO (σ) h0 5 = true then
(f_X6_wordFrom h0 v147 v148 (σ)).bind fun q150 =>
vl (if (3 : Int32) ≤ q150 then if (9 : Int32) ≤ q150 then if q150 = (12 : Int32) then (-1 : Int32) else (((4 : Int32) + q150) - (9 : Int32)) else (2 : Int32) else (3 : Int32)) fun v154 =>
(pI (σ) h0 5 24 v154).bind fun t155 =>
vl (if (3 : Int32) ≤ q150 then (q150 - (3 : Int32)) else q150) fun v157 =>
(pI t155 h0 5 25 v157).bind fun t158 =>
some t158 else none) hn (n - s) s fU O2 (by omega) (fU_lt (by omega)) q10 q22 qb
    obtain ⟨w1, w2⟩ := upto_le (P := ltB) (f := f) (n := n) (n - s) s (by omega)
    have wm := upto_mem (P := ltB) (f := f) (n := n) (n - s) s (by omega)
    rw [f1]
    generalize upto ltB f n s = e at *
    rw [mI_23, Option.bind_some, mI_22, Option.bind_some, if_pos isO_M, f3, f4, q23, m_wordF (f := f) w1 (by omega) (fun k hk => by rw [f2.2, t2.2]; exact hw k hk) (fun k hk => by rw [f2.2]; exact qb k (by omega)) (fun k hk => ltB_ns (wm _ (by omega) (by omega))), Option.bind_some, vl_eq, mp_24, Option.bind_some, vl_eq, mp_25, Option.bind_some]
    refine ⟨_, rfl, ((t2.tr f2).tr (nxO.i _ _ (by omega))).tr (nxO.i _ _ (by omega)), ?_⟩
    rw [lxW]
    have hj := wdI_le (f := f) (s := s) (len := e - s)
    generalize wdI f s (e - s) = j at hj ⊢
    have g22 : ∀ v w, (smI (smI O3 24 v) 25 w).1 22 = nI e := fun v w => by rw [sm1, if_neg (by omega), sm1, if_neg (by omega)]; exact f3
    have g23 : ∀ v w, (smI (smI O3 24 v) 25 w).1 23 = nI s := fun v w => by rw [sm1, if_neg (by omega), sm1, if_neg (by omega)]; exact f4.trans q23
    have g24 : ∀ v w, (smI (smI O3 24 v) 25 w).1 24 = v := fun v w => by rw [sm1, if_neg (by omega), sm1, if_pos rfl]
    have g25 : ∀ v w, (smI (smI O3 24 v) 25 w).1 25 = w := fun v w => by rw [sm1, if_pos rfl]
    by_cases c12 : j = 12
    · rw [if_pos c12]
      subst c12
      exact mtk0 (g22 _ _) (g23 _ _) ((g24 _ _).trans (by decide)) (by decide)
    · rw [if_neg c12]
      obtain ⟨k1, k2, k3, k4⟩ := tok_m j (by omega)
      by_cases c6 : 6 ≤ j
      · rw [if_pos c6] at k1
        rw [if_pos c6]
        exact ⟨g22 _ _, g23 _ _, (g24 _ _).trans k1, fun q => absurd q (show ¬ (3 : Int32) = 2 by decide), fun _ => (g25 _ _).trans (k2 c6), fun q => absurd q (show ¬ (3 : Int32) = 4 by decide), fun q => absurd q (show ¬ (3 : Int32) = 5 by decide), fun q => absurd q (show ¬ (3 : Int32) = 6 by decide)⟩
      · rw [if_neg c6] at k1
        rw [if_neg c6]
        obtain ⟨k5, k6, k7, k8, k9⟩ := k4 (by omega)
        refine ⟨g22 _ _, g23 _ _, (g24 _ _).trans k1, fun q => absurd q k5, fun q => absurd q k6, fun q => ?_, fun q => ?_, fun q => ?_⟩
        · have := k7 q
          rw [g25, k3 (by omega), this]; rfl
        · have := k8 q
          rw [g25, k3 (by omega), this]; rfl
        · have := k9 q
          rw [g25, k3 (by omega), this]; rfl
  rw [if_pos ((lt_m _).mpr cl), if_neg cl]
  by_cases cd : dgB (f s) = true
  · rw [if_neg (fun q => (dg_m _).mp q cd), if_pos cd]
    obtain ⟨O3, e, f1, f2, f3, f4, f5, f6, f7⟩ := m_num (m := m) (μ := μ) (f := f) (p := s) (fun h0 x2 σ => vl (if x2 ≤ (4 : Int32) then (1 : Int32) else (-1 : Int32)) fun v145 =>
(pI (σ) h0 5 24 v145).bind fun t146 =>
some t146) hn (n - s) 0 fU O2 (by omega) (fU_lt (by omega)) q10 q22 (fun _ => q25) qb
    rw [show (nI 0 : Int32) = 0 from rfl] at f1
    rw [Nat.add_zero] at f2 f3
    obtain ⟨u3, u4⟩ := upto_le (P := dgB) (f := f) (n := n) (n - s) s (by omega)
    rw [← f2] at u4 ⊢
    rw [f1, vl_eq, mp_24, Option.bind_some, lxN]
    refine ⟨_, rfl, (t2.tr f4).tr (nxO.i _ _ (by omega)), ?_⟩
    by_cases c4 : e - s ≤ 4
    · rw [if_pos c4, if_pos (show nI (e - s) ≤ (4 : Int32) from nI_le c4 (by decide))]
      refine ⟨?_, ?_, ?_, fun _ => ?_, fun q => absurd q (show ¬ (2 : Int32) = 3 by decide), fun q => absurd q (show ¬ (2 : Int32) = 4 by decide), fun q => absurd q (show ¬ (2 : Int32) = 5 by decide), fun q => absurd q (show ¬ (2 : Int32) = 6 by decide)⟩
      · rw [sm1, if_neg (by omega)]; exact f5
      · rw [sm1, if_neg (by omega)]; exact f6.trans q23
      · rw [sm1, if_pos rfl]; exact (show (1 : Int32) = mt 2 by decide)
      · rw [sm1, if_neg (by omega)]; exact f7 c4
    · rw [if_neg c4, if_neg (show ¬ nI (e - s) ≤ (4 : Int32) from nI_ge (show 4 < e - s by omega) (by omega))]
      refine mtk0 ?_ ?_ ?_ (by decide)
      · rw [sm1, if_neg (by omega)]; exact f5
      · rw [sm1, if_neg (by omega)]; exact f6.trans q23
      · rw [sm1, if_pos rfl]; decide
  rw [if_pos ((dg_m _).mpr cd), if_neg cd]
  have hd : ∀ x y, ∃ O', f_X6_next_379 m x y (memM m O2 μ) = some (memM m O' μ) ∧ nxO O2 O' ∧ O'.1 22 = nI (s + 1) ∧ O'.1 23 = nI s ∧ O'.1 24 = if y = 0 then -1 else x := by
    intro x y
    generalize hw2 : (if y = 0 then (-1 : Int32) else x) = w
    refine ⟨smI (smI O2 24 w) 22 (nI (s + 1)), ?_, (nxO.i _ _ (by omega)).tr (nxO.i _ _ (by omega)), ?_, ?_, ?_⟩
    · rw [f_X6_next_379.eq_1, hw2, vl_eq, mp_24, Option.bind_some, mI_22, Option.bind_some, sm1, if_neg (by omega), q22, nI_1, mp_22, Option.bind_some]
    · rw [sm1, if_pos rfl]
    · rw [sm1, if_neg (by omega), sm1, if_neg (by omega), q23]
    · rw [sm1, if_neg (by omega), sm1, if_pos rfl]
  by_cases c40 : f s = 40
  · obtain ⟨O', g1, g2, g3, g4, g5⟩ := hd (f s) 1
    rw [if_pos c40, g1, if_pos (show sgB (f s) = true by rw [c40]; decide)]
    refine ⟨O', rfl, t2.tr g2, ?_⟩
    rw [if_neg (by decide)] at g5
    rw [c40] at g5 ⊢
    exact mtk0 g3 g4 (g5.trans (by decide)) (by decide)
  · rw [if_neg c40, vl_eq]
    generalize hy : (if f s = (41 : Int32) then (1 : Int32) else if f s = (59 : Int32) then (1 : Int32) else if f s = (43 : Int32) then (1 : Int32) else if f s = (45 : Int32) then (1 : Int32) else if f s = (42 : Int32) then (1 : Int32) else if f s = (60 : Int32) then (1 : Int32) else if f s = (61 : Int32) then (1 : Int32) else (0 : Int32)) = y
    obtain ⟨O', g1, g2, g3, g4, g5⟩ := hd (f s) y
    rw [g1]
    refine ⟨O', rfl, t2.tr g2, ?_⟩
    by_cases cs : sgB (f s) = true
    · have y1 : y = 1 := by
        rw [← hy]
        have h : ((((((f s = 40 ∨ f s = 41) ∨ f s = 59) ∨ f s = 43) ∨ f s = 45) ∨ f s = 42) ∨ f s = 60) ∨ f s = 61 := by simpa [sgB] using cs
        rcases h with ((((((h | h) | h) | h) | h) | h) | h) | h
        · exact absurd h c40
        all_goals rw [h]; decide
      rw [if_pos cs]
      rw [y1, if_neg (by decide)] at g5
      obtain ⟨m1, m2⟩ := mt_sg cs
      exact mtk0 g3 g4 (g5.trans m1.symm) m2
    · have y0 : y = 0 := by
        rw [← hy]
        have h : ¬ (((((((f s = 40 ∨ f s = 41) ∨ f s = 59) ∨ f s = 43) ∨ f s = 45) ∨ f s = 42) ∨ f s = 60) ∨ f s = 61) := by simpa [sgB] using cs
        simp only [not_or] at h
        rw [if_neg h.1.1.1.1.1.1.2, if_neg h.1.1.1.1.1.2, if_neg h.1.1.1.1.2, if_neg h.1.1.1.2, if_neg h.1.1.2, if_neg h.1.2, if_neg h.2]
      rw [if_neg cs]
      rw [y0, if_pos rfl] at g5
      exact mtk0 g3 g4 (g5.trans (by decide)) (by decide)
end MN
