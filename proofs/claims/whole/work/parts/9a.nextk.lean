section MN
variable {b m : Nat} {S S' : XS} {O O' : MS} {μ : mS}
theorem m_skip (K : Nat → mS → Option mS) {f : Nat → Int32} {n : Nat} (hn : n ≤ 160) : ∀ d p fu O, p + d = n → d < fu → O.1 10 = nI n → O.1 22 = nI p → (∀ k, k < n → O.2 7 k = f k) → ∃ O', f_X6_next_0 K fu m (memM m O μ) = K m (memM m O' μ) ∧ nxO O O' ∧ O'.1 22 = nI (upto blB f n p) := by
  intro d
  induction d with
  | zero =>
    intro p fu O h hf h3 h4 hb
    obtain ⟨fu, rfl⟩ : ∃ q, fu = q + 1 := ⟨fu - 1, by omega⟩
    refine ⟨O, ?_, nxO.rf O, by rw [upto_ge (by omega)]; exact h4⟩
    rw [f_X6_next_0.eq_2, mI_22, Option.bind_some, mI_10, Option.bind_some, h3, h4, if_pos (nI_le (by omega) (by omega))]
  | succ d ih =>
    intro p fu O h hf h3 h4 hb
    obtain ⟨fu, rfl⟩ : ∃ q, fu = q + 1 := ⟨fu - 1, by omega⟩
    rw [f_X6_next_0.eq_2, mI_22, Option.bind_some, mI_10, Option.bind_some, h3, h4, if_neg (nI_ge (by omega) (by omega)), mR_9, Option.bind_some, Option.bind_some, aM 6 (by omega) _ (by show _ < 160; omega) (by omega), Option.bind_some, hb p (by omega)]
    have go : blB (f p) = true → ∃ O', f_X6_next_39 (f_X6_next_0 K fu) m (memM m O μ) = K m (memM m O' μ) ∧ nxO O O' ∧ O'.1 22 = nI (upto blB f n p) := by
      intro hbl
      obtain ⟨O', e1, e2, e3⟩ := ih (p + 1) fu (smI O 22 (nI (p + 1))) (by omega) (by omega) (by rw [sm1, if_neg (by omega)]; exact h3) (by rw [sm1, if_pos rfl]) hb
      refine ⟨O', ?_, (nxO.i O _ (by omega)).tr e2, ?_⟩
      · rw [f_X6_next_39.eq_1, mI_22, Option.bind_some, h4, nI_1, mp_22, Option.bind_some, e1]
      · rw [upto_go (by omega) hbl]; exact e3
    by_cases c : f p = 32
    · rw [if_pos c]
      exact go (bl_1 c)
    · rw [if_neg c, Option.bind_some, Option.bind_some, aM 6 (by omega) _ (by show _ < 160; omega) (by omega), Option.bind_some, hb p (by omega)]
      by_cases c2 : f p = 10
      · rw [if_pos c2]
        exact go (bl_2 c2)
      · rw [if_neg c2]
        exact ⟨O, rfl, nxO.rf O, by rw [upto_no (bl_no c c2)]; exact h4⟩
theorem m_word (K : Nat → mS → Option mS) {f : Nat → Int32} {n : Nat} (hn : n ≤ 160) : ∀ d p fu O, p + d = n → d < fu → O.1 10 = nI n → O.1 22 = nI p → (∀ k, k < n → O.2 7 k = f k) → ∃ O', f_X6_next_103 K fu m (memM m O μ) = K m (memM m O' μ) ∧ nxO O O' ∧ O'.1 22 = nI (upto ltB f n p) ∧ O'.1 23 = O.1 23 := by
  intro d
  induction d with
  | zero =>
    intro p fu O h hf h3 h4 hb
    obtain ⟨fu, rfl⟩ : ∃ q, fu = q + 1 := ⟨fu - 1, by omega⟩
    refine ⟨O, ?_, nxO.rf O, by rw [upto_ge (by omega)]; exact h4, rfl⟩
    rw [f_X6_next_103.eq_2, mI_22, Option.bind_some, mI_10, Option.bind_some, h3, h4, if_pos (nI_le (by omega) (by omega))]
  | succ d ih =>
    intro p fu O h hf h3 h4 hb
    obtain ⟨fu, rfl⟩ : ∃ q, fu = q + 1 := ⟨fu - 1, by omega⟩
    rw [f_X6_next_103.eq_2, mI_22, Option.bind_some, mI_10, Option.bind_some, h3, h4, if_neg (nI_ge (by omega) (by omega)), mR_9, Option.bind_some, Option.bind_some, aM 6 (by omega) _ (by show _ < 160; omega) (by omega), Option.bind_some, hb p (by omega)]
    by_cases c : ltB (f p) = true
    · rw [if_neg (fun q => (lt_m _).mp q c), Option.bind_some, nI_1, mp_22, Option.bind_some]
      obtain ⟨O', e1, e2, e3, e4⟩ := ih (p + 1) fu (smI O 22 (nI (p + 1))) (by omega) (by omega) (by rw [sm1, if_neg (by omega)]; exact h3) (by rw [sm1, if_pos rfl]) hb
      refine ⟨O', e1, (nxO.i O _ (by omega)).tr e2, ?_, ?_⟩
      · rw [upto_go (by omega) c]; exact e3
      · rw [e4, sm1, if_neg (by omega)]
    · rw [if_pos ((lt_m _).mpr c)]
      exact ⟨O, rfl, nxO.rf O, by rw [upto_no c]; exact h4, rfl⟩
theorem m_num (K : Nat → Int32 → mS → Option mS) {f : Nat → Int32} {n p : Nat} (hn : n ≤ 160) : ∀ d j fu O, p + j + d = n → d < fu → O.1 10 = nI n → O.1 22 = nI (p + j) → (j ≤ 4 → O.1 25 = nmV f p j) → (∀ k, k < n → O.2 7 k = f k) → ∃ O' e, f_X6_next_230 K fu m (nI j) (memM m O μ) = K m (nI (e - p)) (memM m O' μ) ∧ e = upto dgB f n (p + j) ∧ p + j ≤ e ∧ nxO O O' ∧ O'.1 22 = nI e ∧ O'.1 23 = O.1 23 ∧ (e - p ≤ 4 → O'.1 25 = nmV f p (e - p)) := by
  intro d
  induction d with
  | zero =>
    intro j fu O h hf h3 h4 h7 hb
    obtain ⟨fu, rfl⟩ : ∃ q, fu = q + 1 := ⟨fu - 1, by omega⟩
    refine ⟨O, p + j, ?_, by rw [upto_ge (by omega)], Nat.le_refl _, nxO.rf O, h4, rfl, by rw [Nat.add_sub_cancel_left]; exact h7⟩
    rw [f_X6_next_230.eq_2, mI_22, Option.bind_some, mI_10, Option.bind_some, h3, h4, if_pos (nI_le (by omega) (by omega)), Nat.add_sub_cancel_left]
  | succ d ih =>
    intro j fu O h hf h3 h4 h7 hb
    obtain ⟨fu, rfl⟩ : ∃ q, fu = q + 1 := ⟨fu - 1, by omega⟩
    rw [f_X6_next_230.eq_2, mI_22, Option.bind_some, mI_10, Option.bind_some, h3, h4, if_neg (nI_ge (by omega) (by omega)), mR_9, Option.bind_some, Option.bind_some, aM 6 (by omega) _ (by show _ < 160; omega) (by omega), Option.bind_some, hb (p + j) (by omega)]
    by_cases c : dgB (f (p + j)) = true
    · rw [if_neg (fun q => (dg_m _).mp q c)]
      have go : ∀ w, (j + 1 ≤ 4 → w = nmV f p (j + 1)) → ∃ O' e, f_X6_next_290 (f_X6_next_230 K fu) m (nI j) m w (memM m O μ) = K m (nI (e - p)) (memM m O' μ) ∧ e = upto dgB f n (p + j) ∧ p + j ≤ e ∧ nxO O O' ∧ O'.1 22 = nI e ∧ O'.1 23 = O.1 23 ∧ (e - p ≤ 4 → O'.1 25 = nmV f p (e - p)) := by
        intro w hw
        obtain ⟨O', e, e1, e2, e3, e4, e5, e6, e7⟩ := ih (j + 1) fu (smI (smI O 25 w) 22 (nI (p + j + 1))) (by omega) (by omega) (by rw [sm1, if_neg (by omega), sm1, if_neg (by omega)]; exact h3) (by rw [sm1, if_pos rfl]; rfl) (by rw [sm1, if_neg (by omega), sm1, if_pos rfl]; exact hw) hb
        refine ⟨O', e, ?_, ?_, by omega, ((nxO.i O _ (by omega)).tr (nxO.i _ _ (by omega))).tr e4, e5, ?_, e7⟩
        · rw [f_X6_next_290.eq_1, mp_25, Option.bind_some, vl_eq, mI_22, Option.bind_some, sm1, if_neg (by omega), h4, nI_1, nI_1, mp_22, Option.bind_some, e1]
        · rw [upto_go (by omega) c]; exact e2
        · rw [e6, sm1, if_neg (by omega), sm1, if_neg (by omega)]
      by_cases c4 : 4 ≤ j
      · rw [if_pos (show (4 : Int32) ≤ nI j from nI_le c4 (by omega))]
        exact go _ (fun h => by omega)
      · rw [if_neg (show ¬ (4 : Int32) ≤ nI j from nI_ge (show j < 4 by omega) (by decide)), mI_25, Option.bind_some, Option.bind_some, Option.bind_some, aM 6 (by omega) _ (by show _ < 160; omega) (by omega), Option.bind_some, hb (p + j) (by omega)]
        refine go _ (fun _ => ?_)
        rw [h7 (by omega), nmV, Int32.mul_comm]
    · rw [if_pos ((dg_m _).mpr c)]
      exact ⟨O, p + j, by rw [Nat.add_sub_cancel_left], by rw [upto_no c], Nat.le_refl _, nxO.rf O, h4, rfl, by rw [Nat.add_sub_cancel_left]; exact h7⟩
end MN
