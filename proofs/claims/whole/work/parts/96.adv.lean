/-! text: the class goes on by a token. -/
def tqS (S S' : XS) : Prop := (∀ k, k ≠ 2 → S'.1 k = S.1 k) ∧ (∀ k, k < 4 ∨ 8 ≤ k → S'.1 2 k = S.1 2 k) ∧ S'.2 = S.2
theorem tqS.rf (S : XS) : tqS S S := ⟨fun _ _ => rfl, fun _ _ => rfl, rfl⟩
theorem tqS.tr {S1 S2 S3 : XS} (h : tqS S1 S2) (h2 : tqS S2 S3) : tqS S1 S3 := ⟨fun k a => (h2.1 k a).trans (h.1 k a), fun k a => (h2.2.1 k a).trans (h.2.1 k a), h2.2.2.trans h.2.2⟩
theorem sx2_at (S : XS) (f k : Nat) (v : Int32) : (sxI S 2 f v).1 2 k = if k = f then v else S.1 2 k := by simp [sxI, va_up, upd]
theorem tqS.i (S : XS) {f : Nat} (v : Int32) (hf : 4 ≤ f ∧ f < 8) : tqS S (sxI S 2 f v) := ⟨fun _ a => up_ne _ _ a, fun k a => by rw [sx2_at, if_neg (by omega)], rfl⟩
def ctk (S : XS) (s : TS) : Prop := S.1 2 4 = nI s.2.2.2 ∧ S.1 2 5 = s.1 ∧ S.1 2 6 = nI s.2.2.1 ∧ (s.1 = 2 ∨ s.1 = 3 → S.1 2 7 = s.2.1)
theorem bl_1 {x : Int32} (h : x = 32) : blB x = true := by rw [h]; decide
theorem bl_2 {x : Int32} (h : x = 10) : blB x = true := by rw [h]; decide
theorem bl_no {x : Int32} (h : ¬ x = 32) (h2 : ¬ x = 10) : ¬ blB x = true := by simp [blB, h, h2]
section AV
variable {b m : Nat} {S S' : XS} {O O' : MS} {μ : mS}
theorem x_skip (K : Nat → mS → Option mS) {n : Nat} (hn : n ≤ 160) : ∀ d p fu S, p + d = n → d < fu → S.1 2 3 = nI n → S.1 2 4 = nI p → ∃ S', f_X4_advance_0 K fu (b + 2) (memX b S μ) = K (b + 2) (memX b S' μ) ∧ tqS S S' ∧ S'.1 2 4 = nI (upto blB (S.2.1 3) n p) := by
  intro d
  induction d with
  | zero =>
    intro p fu S h hf h3 h4
    obtain ⟨fu, rfl⟩ : ∃ q, fu = q + 1 := ⟨fu - 1, by omega⟩
    refine ⟨S, ?_, tqS.rf S, by rw [upto_ge (by omega)]; exact h4⟩
    rw [f_X4_advance_0.eq_2, gI_T 4 (by omega), Option.bind_some, gI_T 3 (by omega), Option.bind_some, h3, h4, if_pos (nI_le (by omega) (by omega))]
  | succ d ih =>
    intro p fu S h hf h3 h4
    obtain ⟨fu, rfl⟩ : ∃ q, fu = q + 1 := ⟨fu - 1, by omega⟩
    rw [f_X4_advance_0.eq_2, gI_T 4 (by omega), Option.bind_some, gI_T 3 (by omega), Option.bind_some, h3, h4, if_neg (nI_ge (by omega) (by omega)), tp0, Option.bind_some, Option.bind_some, aI_3 (by omega), Option.bind_some]
    have go : blB (S.2.1 3 p) = true → ∃ S', f_X4_advance_39 (f_X4_advance_0 K fu) (b + 2) (memX b S μ) = K (b + 2) (memX b S' μ) ∧ tqS S S' ∧ S'.1 2 4 = nI (upto blB (S.2.1 3) n p) := by
      intro hb
      have h4' : (sxI S 2 4 (nI (p + 1))).1 2 4 = nI (p + 1) := by rw [sx2_at, if_pos rfl]
      have h3' : (sxI S 2 4 (nI (p + 1))).1 2 3 = nI n := by rw [sx2_at, if_neg (by omega)]; exact h3
      obtain ⟨S', e1, e2, e3⟩ := ih (p + 1) fu _ (by omega) (by omega) h3' h4'
      refine ⟨S', ?_, (tqS.i S _ (by omega)).tr e2, ?_⟩
      · rw [f_X4_advance_39.eq_1, gI_T 4 (by omega), Option.bind_some, h4, nI_1, pI_T 4 (by omega), Option.bind_some, e1]
      · rw [upto_go (by omega) hb]; exact e3
    by_cases c : S.2.1 3 p = 32
    · rw [if_pos c]
      exact go (bl_1 c)
    · rw [if_neg c, Option.bind_some, Option.bind_some, aI_3 (by omega), Option.bind_some]
      by_cases c2 : S.2.1 3 p = 10
      · rw [if_pos c2]
        exact go (bl_2 c2)
      · rw [if_neg c2]
        exact ⟨S, rfl, tqS.rf S, by rw [upto_no (bl_no c c2)]; exact h4⟩
theorem x_wordR (K : Nat → mS → Option mS) {n : Nat} (hn : n ≤ 160) : ∀ d p fu S, p + d = n → d < fu → S.1 2 3 = nI n → S.1 2 4 = nI p → ∃ S', f_X4_readWord_0 K fu (b + 2) (memX b S μ) = K (b + 2) (memX b S' μ) ∧ tqS S S' ∧ S'.1 2 4 = nI (upto ltB (S.2.1 3) n p) ∧ S'.1 2 6 = S.1 2 6 := by
  intro d
  induction d with
  | zero =>
    intro p fu S h hf h3 h4
    obtain ⟨fu, rfl⟩ : ∃ q, fu = q + 1 := ⟨fu - 1, by omega⟩
    refine ⟨S, ?_, tqS.rf S, by rw [upto_ge (by omega)]; exact h4, rfl⟩
    rw [f_X4_readWord_0.eq_2, gI_T 4 (by omega), Option.bind_some, gI_T 3 (by omega), Option.bind_some, h3, h4, if_pos (nI_le (by omega) (by omega))]
  | succ d ih =>
    intro p fu S h hf h3 h4
    obtain ⟨fu, rfl⟩ : ∃ q, fu = q + 1 := ⟨fu - 1, by omega⟩
    rw [f_X4_readWord_0.eq_2, gI_T 4 (by omega), Option.bind_some, gI_T 3 (by omega), Option.bind_some, h3, h4, if_neg (nI_ge (by omega) (by omega)), tp0, Option.bind_some, Option.bind_some, aI_3 (by omega), Option.bind_some]
    by_cases c : ltB (S.2.1 3 p) = true
    · rw [if_neg (fun q => (lt_is _).mp q c), Option.bind_some, nI_1, pI_T 4 (by omega), Option.bind_some]
      have h4' : (sxI S 2 4 (nI (p + 1))).1 2 4 = nI (p + 1) := by rw [sx2_at, if_pos rfl]
      have h3' : (sxI S 2 4 (nI (p + 1))).1 2 3 = nI n := by rw [sx2_at, if_neg (by omega)]; exact h3
      obtain ⟨S', e1, e2, e3, e4⟩ := ih (p + 1) fu _ (by omega) (by omega) h3' h4'
      refine ⟨S', e1, (tqS.i S _ (by omega)).tr e2, ?_, ?_⟩
      · rw [upto_go (by omega) c]; exact e3
      · rw [e4, sx2_at, if_neg (by omega)]
    · rw [if_pos ((lt_is _).mpr c)]
      exact ⟨S, rfl, tqS.rf S, by rw [upto_no c]; exact h4, rfl⟩
theorem x_numR (K : Nat → Int32 → mS → Option mS) {n p : Nat} (hn : n ≤ 160) : ∀ d j fu S, p + j + d = n → d < fu → S.1 2 3 = nI n → S.1 2 4 = nI (p + j) → S.1 2 7 = nmV (S.2.1 3) p (min j 4) → ∃ S' e, f_X4_readNumber_7 K fu (b + 2) (nI j) (memX b S μ) = K (b + 2) (nI (e - p)) (memX b S' μ) ∧ e = upto dgB (S.2.1 3) n (p + j) ∧ p + j ≤ e ∧ tqS S S' ∧ S'.1 2 4 = nI e ∧ S'.1 2 6 = S.1 2 6 ∧ S'.1 2 7 = nmV (S.2.1 3) p (min (e - p) 4) := by
  intro d
  induction d with
  | zero =>
    intro j fu S h hf h3 h4 h7
    obtain ⟨fu, rfl⟩ : ∃ q, fu = q + 1 := ⟨fu - 1, by omega⟩
    refine ⟨S, p + j, ?_, by rw [upto_ge (by omega)], Nat.le_refl _, tqS.rf S, h4, rfl, by rw [Nat.add_sub_cancel_left]; exact h7⟩
    rw [f_X4_readNumber_7.eq_2, gI_T 4 (by omega), Option.bind_some, gI_T 3 (by omega), Option.bind_some, h3, h4, if_pos (nI_le (by omega) (by omega)), Nat.add_sub_cancel_left]
  | succ d ih =>
    intro j fu S h hf h3 h4 h7
    obtain ⟨fu, rfl⟩ : ∃ q, fu = q + 1 := ⟨fu - 1, by omega⟩
    rw [f_X4_readNumber_7.eq_2, gI_T 4 (by omega), Option.bind_some, gI_T 3 (by omega), Option.bind_some, h3, h4, if_neg (nI_ge (by omega) (by omega)), tp0, Option.bind_some, Option.bind_some, aI_3 (by omega), Option.bind_some]
    by_cases c : dgB (S.2.1 3 (p + j)) = true
    · rw [if_neg (fun q => (dg_is _).mp q c)]
      have go : ∀ w, w = nmV (S.2.1 3) p (min (j + 1) 4) → ∃ S' e, f_X4_readNumber_66 (f_X4_readNumber_7 K fu) (b + 2) (nI j) (b + 2) w (memX b S μ) = K (b + 2) (nI (e - p)) (memX b S' μ) ∧ e = upto dgB (S.2.1 3) n (p + j) ∧ p + j ≤ e ∧ tqS S S' ∧ S'.1 2 4 = nI e ∧ S'.1 2 6 = S.1 2 6 ∧ S'.1 2 7 = nmV (S.2.1 3) p (min (e - p) 4) := by
        intro w hw
        obtain ⟨S', e, e1, e2, e3, e4, e5, e6, e7⟩ := ih (j + 1) fu (sxI (sxI S 2 7 w) 2 4 (nI (p + j + 1))) (by omega) (by omega) (by rw [sx2_at, if_neg (by omega), sx2_at, if_neg (by omega)]; exact h3) (by rw [sx2_at, if_pos rfl]; rfl) (by rw [sx2_at, if_neg (by omega), sx2_at, if_pos rfl]; exact hw)
        refine ⟨S', e, ?_, ?_, by omega, ((tqS.i S _ (by omega)).tr (tqS.i _ _ (by omega))).tr e4, e5, ?_, e7⟩
        · rw [f_X4_readNumber_66.eq_1, pI_T 7 (by omega), Option.bind_some, vl_eq, gI_T 4 (by omega), Option.bind_some, sx2_at, if_neg (by omega), h4, nI_1, nI_1, pI_T 4 (by omega), Option.bind_some, e1]
        · rw [upto_go (by omega) c]; exact e2
        · rw [e6, sx2_at, if_neg (by omega), sx2_at, if_neg (by omega)]
      by_cases c4 : 4 ≤ j
      · rw [if_pos (show (4 : Int32) ≤ nI j from nI_le c4 (by omega)), gI_T 7 (by omega), Option.bind_some]
        refine go _ (h7.trans ?_)
        rw [Nat.min_eq_right c4, Nat.min_eq_right (by omega)]
      · rw [if_neg (show ¬ (4 : Int32) ≤ nI j from nI_ge (show j < 4 by omega) (by decide)), gI_T 7 (by omega), Option.bind_some, Option.bind_some, Option.bind_some, aI_3 (by omega), Option.bind_some]
        refine go _ ?_
        rw [h7, Nat.min_eq_left (by omega), Nat.min_eq_left (by omega), nmV]
    · rw [if_pos ((dg_is _).mpr c)]
      exact ⟨S, p + j, by rw [Nat.add_sub_cancel_left], by rw [upto_no c], Nat.le_refl _, tqS.rf S, h4, rfl, by rw [Nat.add_sub_cancel_left]; exact h7⟩
end AV
