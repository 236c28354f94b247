/-! text: the reference's next token. -/
def mt (t : Int32) : Int32 := if t = 1 then -1 else if t = 2 then 1 else if t = 3 then 2 else if t = 4 then 3 else if t = 5 then 3 else if t = 6 then 3 else if t = 7 then 5 else if t = 8 then 4 else if t = 9 then 6 else t
def mtk (O : MS) (s : TS) : Prop := O.1 22 = nI s.2.2.2 ∧ O.1 23 = nI s.2.2.1 ∧ O.1 24 = mt s.1 ∧ (s.1 = 2 → O.1 25 = s.2.1) ∧ (s.1 = 3 → O.1 25 = -1 - s.2.1) ∧ (s.1 = 4 → O.1 25 = 0) ∧ (s.1 = 5 → O.1 25 = 1) ∧ (s.1 = 6 → O.1 25 = 2)
def nxO (O O' : MS) : Prop := (∀ k, k < 22 ∨ 25 < k → O'.1 k = O.1 k) ∧ O'.2 = O.2
theorem nxO.rf (O : MS) : nxO O O := ⟨fun _ _ => rfl, rfl⟩
theorem nxO.tr {O1 O2 O3 : MS} (h : nxO O1 O2) (h2 : nxO O2 O3) : nxO O1 O3 := ⟨fun k a => (h2.1 k a).trans (h.1 k a), h2.2.trans h.2⟩
theorem sm1 (O : MS) (f k : Nat) (v : Int32) : (smI O f v).1 k = if k = f then v else O.1 k := by simp [smI, upd]
theorem nxO.i (O : MS) {f : Nat} (v : Int32) (hf : 22 ≤ f ∧ f ≤ 25) : nxO O (smI O f v) := ⟨fun k a => by rw [sm1, if_neg (by omega)], rfl⟩
/-- the reference's order of the words -/
def pj (q : Nat) : Nat := ([0, 1, 2, 6, 7, 8, 9, 10, 11, 4, 3, 5] : List Nat).getD q 12
def jp (j : Nat) : Nat := ([0, 1, 2, 10, 9, 11, 3, 4, 5, 6, 7, 8] : List Nat).getD j 12
theorem pj_lt : ∀ q, q < 12 → pj q < 12 ∧ jp (pj q) = q := by decide
theorem jp_lt : ∀ j, j < 12 → jp j < 12 ∧ pj (jp j) = j := by decide
theorem words_is : ∀ q, q < 12 → ∀ i, i < 8 → wordsM (8 * q + i) = if i < wl (pj q) then wc (pj q) i else 32 := by decide
theorem words_df : ∀ j, j < 12 → ∀ k, k < 12 → wl j = wl k → (∀ i, i < 8 → i < wl j → wc j i = wc k i) → j = k := by decide
theorem wm_iff {f : Nat → Int32} {s len j : Nat} : wm f s len j = true ↔ (len = wl j ∧ ∀ i, i < len → f (s + i) = wc j i) := by
  rw [wm]
  simp only [Bool.and_eq_true, decide_eq_true_eq, List.all_eq_true, List.mem_range, beq_iff_eq]
theorem wm_one {f : Nat → Int32} {s len j k : Nat} (hj : j < 12) (hk : k < 12) (h : wm f s len j = true) (h2 : wm f s len k = true) : j = k := by
  have h := wm_iff.mp h
  have h2 := wm_iff.mp h2
  refine words_df j hj k hk (h.1.symm.trans h2.1) fun i _ hi => ?_
  rw [← h.2 i (by omega), ← h2.2 i (by omega)]
theorem wdF_is {f : Nat → Int32} {s len : Nat} : ∀ k j, j + k = 12 → (wdF f s len k j < 12 → wm f s len (wdF f s len k j) = true) ∧ (wdF f s len k j = 12 → ∀ i, j ≤ i → i < 12 → ¬ wm f s len i = true) := by
  intro k
  induction k with
  | zero => intro j h; rw [wdF]; exact ⟨fun h => absurd h (by omega), fun _ i h1 h2 => by omega⟩
  | succ k ih =>
    intro j h
    rw [wdF]
    by_cases c : wm f s len j = true
    · rw [if_pos c]; exact ⟨fun _ => c, fun e => by omega⟩
    · rw [if_neg c]
      refine ⟨(ih (j + 1) (by omega)).1, fun e i h1 h2 => ?_⟩
      rcases Nat.eq_or_lt_of_le h1 with e1 | e1
      · rw [← e1]; exact c
      · exact (ih (j + 1) (by omega)).2 e i e1 h2
def wqF (f : Nat → Int32) (s len : Nat) : Nat → Nat → Nat
  | 0, _ => 12
  | k + 1, q => if wm f s len (pj q) = true then q else wqF f s len k (q + 1)
theorem wqF_is {f : Nat → Int32} {s len : Nat} : ∀ k j, j + k = 12 → (wqF f s len k j < 12 → wm f s len (pj (wqF f s len k j)) = true) ∧ (wqF f s len k j = 12 → ∀ i, j ≤ i → i < 12 → ¬ wm f s len (pj i) = true) ∧ wqF f s len k j ≤ 12 := by
  intro k
  induction k with
  | zero => intro j h; rw [wqF]; exact ⟨fun h => absurd h (by omega), fun _ i h1 h2 => by omega, by omega⟩
  | succ k ih =>
    intro j h
    rw [wqF]
    by_cases c : wm f s len (pj j) = true
    · rw [if_pos c]; exact ⟨fun _ => c, fun e => by omega, by omega⟩
    · rw [if_neg c]
      refine ⟨(ih (j + 1) (by omega)).1, fun e i h1 h2 => ?_, (ih (j + 1) (by omega)).2.2⟩
      rcases Nat.eq_or_lt_of_le h1 with e1 | e1
      · rw [← e1]; exact c
      · exact (ih (j + 1) (by omega)).2.1 e i e1 h2
theorem wq_wd {f : Nat → Int32} {s len : Nat} : wqF f s len 12 0 = jp (wdI f s len) := by
  obtain ⟨a1, a2⟩ := wdF_is (f := f) (s := s) (len := len) 12 0 rfl
  obtain ⟨b1, b2, b3⟩ := wqF_is (f := f) (s := s) (len := len) 12 0 rfl
  have a3 := wdI_le (f := f) (s := s) (len := len)
  rw [wdI] at *
  rcases Nat.lt_or_ge (wdF f s len 12 0) 12 with c | c
  · rcases Nat.lt_or_ge (wqF f s len 12 0) 12 with d | d
    · have := wm_one (pj_lt _ d).1 c (b1 d) (a1 c)
      rw [← this, (pj_lt _ d).2]
    · exact absurd (by rw [(jp_lt _ c).2]; exact a1 c) (b2 (by omega) (jp (wdF f s len 12 0)) (by omega) (jp_lt _ c).1)
  · have e : wdF f s len 12 0 = 12 := by omega
    rw [e]
    rcases Nat.lt_or_ge (wqF f s len 12 0) 12 with d | d
    · exact absurd (b1 d) (a2 e _ (by omega) (pj_lt _ d).1)
    · show wqF f s len 12 0 = 12
      omega
section MN
variable {b m : Nat} {S S' : XS} {O O' : MS} {μ : mS}
/-- so far all are alike -/
def agW (f : Nat → Int32) (s len q i : Nat) : Prop := len ≤ 8 ∧ ∀ k, k < i → wordsM (8 * q + k) = if len ≤ k then 32 else f (s + k)
theorem agW_8 {f : Nat → Int32} {s len q : Nat} (hq : q < 12) (hl : ∀ k, k < len → ¬ f (s + k) = 32) : agW f s len q 8 ↔ wm f s len (pj q) = true := by
  have h8 := wl_le _ (pj_lt q hq).1
  rw [wm_iff]
  constructor
  · intro ⟨h1, h2⟩
    have h3 : len = wl (pj q) := by
      rcases Nat.lt_trichotomy len (wl (pj q)) with c | c | c
      · have e := h2 len (by omega)
        rw [words_is q hq len (by omega), if_pos c, if_pos (Nat.le_refl _)] at e
        exact absurd e (wc_ns _ (pj_lt q hq).1 _ c)
      · exact c
      · have e := h2 (wl (pj q)) (by omega)
        rw [words_is q hq _ (by omega), if_neg (by omega), if_neg (by omega)] at e
        exact absurd e.symm (hl _ c)
    refine ⟨h3, fun i hi => ?_⟩
    have e := h2 i (by omega)
    rw [words_is q hq _ (by omega), if_pos (by omega), if_neg (by omega)] at e
    exact e.symm
  · intro ⟨h1, h2⟩
    refine ⟨by omega, fun k hk => ?_⟩
    rw [words_is q hq _ hk]
    by_cases c : k < len
    · rw [if_pos (by omega), if_neg (by omega)]; exact (h2 k c).symm
    · rw [if_neg (by omega), if_pos (by omega)]
end MN
