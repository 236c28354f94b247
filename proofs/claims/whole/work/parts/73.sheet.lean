/-! taken; sheets. -/
section SH
variable {b m : Nat} {S S' : XS} {O O' : MS} {μ : mS} {tc r : Nat} {T : Nat → Lw} {Q : Nat → Nat}
theorem isOne_eq : ∀ k, k < 6 → ∀ w, w < 7 → (if f_X1_isOne (nI k) (nI w) = 0 then (0 : Int32) else 1) = if (6 : Int32) ≤ nI w then 0 else if f_X6_isUnder (nI k) (nI w) = 0 then 0 else 1 := by decide +kernel
theorem k_taken (x1 x2 : Int32) : CallR b m (f_X5_taken b x1 x2) (f_X6_taken m x1 x2) := by
  refine CallR.now fun S O μ Z g hz hg hh => ?_
  by_cases q : f_X5_isBelow x2 7 = 0
  · exact ⟨-2, by rw [f_X5_taken.eq_1, if_pos q], fun μ1 => by rw [f_X6_taken.eq_1, i_7, if_pos q]⟩
  by_cases q2 : f_X5_isBelow x1 14 = 0
  · exact ⟨-12, by rw [f_X5_taken.eq_1, if_neg q, if_pos q2], fun μ1 => by rw [f_X6_taken.eq_1, i_7, if_neg q, i_14, if_pos q2]⟩
  obtain ⟨w, hw, rfl⟩ := b_7 x2 q
  obtain ⟨i, hi, rfl⟩ := b_14 x1 q2
  have h6 := hg.w6
  have hx : f_X5_taken b (nI i) (nI w) (AZ b 11 S (memM m O μ) Z g) = _ := f_X5_taken.eq_1 _ _ _ _
  have hm : ∀ μ1, f_X6_taken m (nI i) (nI w) (memM m O μ1) = _ := fun μ1 => f_X6_taken.eq_1 _ _ _ _
  simp only [q, q2, if_false, vl] at hx
  simp only [i_7, i_14, q, q2, if_false, vl] at hm
  by_cases c : i < 6
  · rw [if_neg (show ¬ (6 : Int32) ≤ nI i from ge_6 c), if_neg (by decide), h3, Option.bind_some, if_pos (isO_A zo11), x_has zo11, Option.bind_some] at hx
    have hm := fun μ1 => (hm μ1).trans (if_pos (show nI i < (6 : Int32) from nI_lt (b := 6) c (by decide)))
    simp only [mI_0, Option.bind_some, hz.wi] at hm
    rw [hg.wI] at hx hm
    by_cases c2 : i < wN Z
    · have hk := (hg.2.2.2.2.1 i c2).1
      obtain ⟨kd, hkd, ek⟩ := hk
      rw [show f_X5_isBelow (nI i) (nI (wN Z)) = 1 from bel_y (by omega) c2, if_neg (by decide), f_X5_taken_71.eq_1, if_neg (by decide), h3, Option.bind_some, gR_A zo11 2 (by decide), Option.bind_some, aI_in zo11 2 (by decide) i c, Option.bind_some, ek] at hx
      have hm := fun μ1 => (hm μ1).trans (if_pos (show nI i < nI (wN Z) from nI_lt c2 (by omega)))
      simp only [mR_1, Option.bind_some, m_kind hz hg c2, ek] at hm
      have e := isOne_eq kd (by omega) w hw
      by_cases d : f_X1_isOne (nI kd) (nI w) = 0
      · rw [if_pos d] at hx e
        refine ⟨-13, hx, fun μ1 => (hm μ1).trans ?_⟩
        by_cases d1 : (6 : Int32) ≤ nI w
        · rw [if_pos d1]
        · rw [if_neg d1] at e ⊢
          by_cases d2 : f_X6_isUnder (nI kd) (nI w) = 0
          · rw [if_pos d2]
          · rw [if_neg d2] at e; exact absurd e (by decide)
      · rw [if_neg d] at hx e
        refine ⟨nI i, hx, fun μ1 => (hm μ1).trans ?_⟩
        by_cases d1 : (6 : Int32) ≤ nI w
        · rw [if_pos d1] at e; exact absurd e (by decide)
        · rw [if_neg d1] at e ⊢
          by_cases d2 : f_X6_isUnder (nI kd) (nI w) = 0
          · rw [if_pos d2] at e; exact absurd e (by decide)
          · rw [if_neg d2]
    · have bz : f_X5_isBelow (nI i) (nI (wN Z)) = 0 := by
        rw [f_X5_isBelow.eq_1, if_neg (nI_pos (by omega)), if_pos (nI_le (by omega) (by omega))]
      rw [if_pos bz] at hx
      exact ⟨-11, hx, fun μ1 => (hm μ1).trans (if_neg (nI_nlt (by omega) (by omega)))⟩
  · have e6 : nI i - (6 : Int32) = nI (i - 6) := pk_sub (b := 6) (by omega)
    rw [if_pos (show (6 : Int32) ≤ nI i from nI_le (a := 6) (by omega) (by omega)), if_pos rfl, h3, Option.bind_some, if_pos (isO_A zo11), e6, x_li zo11, Option.bind_some] at hx
    have hm := fun μ1 => (hm μ1).trans (if_neg (show ¬ nI i < (6 : Int32) from nI_nlt (b := 6) (by omega) (by omega)))
    simp only [e6, isO_M, if_true, m_li hz, Option.bind_some] at hm
    have hk8 : i - 6 < 8 := by omega
    generalize i - 6 = k at e6 hx hm hk8
    by_cases ql : liS Z (nI k) = 0
    · rw [if_pos ql] at hx
      exact ⟨-11, hx, fun μ1 => (hm μ1).trans (if_pos ql)⟩
    · rw [if_neg ql, f_X5_taken_71.eq_1, if_pos rfl] at hx
      have hm := fun μ1 => (hm μ1).trans (if_neg ql)
      by_cases c6 : nI w = (6 : Int32)
      · rw [if_pos c6, h3, Option.bind_some, gR_A zo11 8 (by decide), Option.bind_some, e6, aI_in zo11 8 (by decide) k hk8, Option.bind_some] at hx
        refine ⟨Z 8 k, hx, fun μ1 => (hm μ1).trans ?_⟩
        rw [if_pos c6, mR_4, Option.bind_some, three1, aM 3 (by decide) (3 * k + 1) (by show _ < 24; omega) (by omega), Option.bind_some, show O.2 (3 + 1) (3 * k + 1) = Z 8 k from hz.l1 hk8]
      · rw [if_neg c6] at hx
        exact ⟨-13, hx, fun μ1 => (hm μ1).trans (if_neg c6)⟩
def shS (S S' : XS) (o : Nat) : Prop := (∀ k, k ≠ o → S'.1 k = S.1 k) ∧ (∀ j, j ≠ o + 1 → S'.2.1 j = S.2.1 j) ∧ S'.2.2 = S.2.2
def shO (O O' : MS) : Prop := O'.1 = O.1 ∧ ∀ j, j < 12 ∨ 14 < j → O'.2 j = O.2 j
theorem shS.rf (S : XS) (o : Nat) : shS S S o := ⟨fun _ _ => rfl, fun _ _ => rfl, rfl⟩
theorem shS.tr {S1 S2 S3 : XS} {o : Nat} (h : shS S1 S2 o) (h2 : shS S2 S3 o) : shS S1 S3 o := ⟨fun k a => (h2.1 k a).trans (h.1 k a), fun k a => (h2.2.1 k a).trans (h.2.1 k a), h2.2.2.trans h.2.2⟩
theorem shO.rf (O : MS) : shO O O := ⟨rfl, fun _ _ => rfl⟩
theorem shO.tr {S1 S2 S3 : MS} (h : shO S1 S2) (h2 : shO S2 S3) : shO S1 S3 := ⟨h2.1.trans h.1, fun k a => (h2.2 k a).trans (h.2 k a)⟩
theorem shS.i (S : XS) (o k : Nat) (v : Int32) : shS S (sxI S o k v) o := ⟨fun _ a => up_ne _ _ a, fun _ _ => rfl, rfl⟩
theorem shS.a (S : XS) (o : Nat) (f : Nat → Int32) : shS S (sxA S (o + 1) f) o := ⟨fun _ _ => rfl, fun _ a => up_ne _ _ a, rfl⟩
theorem shO.a (O : MS) {j : Nat} (f : Nat → Int32) (h : 12 ≤ j ∧ j ≤ 14) : shO O (smA O j f) := ⟨rfl, fun i a => up_ne _ _ (by omega)⟩
theorem shS.z {o d : Nat} (h : shS S S' o) (ho : so o) (hz : zo d) : zof S' d = zof S d := by
  have q : d + 11 ≤ o := by rcases ho with rfl | rfl | rfl | rfl <;> rcases hz with rfl | rfl | rfl | rfl | rfl | rfl <;> omega
  funext j
  simp only [zof]
  split
  · rw [h.2.1 _ (by omega)]
  · rw [h.1 d (by omega)]
theorem RLx.sh {o : Nat} (h : RLx b m S O μ tc r T Q) (hso : so o) (hs : shS S S' o) (ho : shO O O') (ht : RSh S' O') : RLx b m S' O' μ tc r T Q := by
  obtain ⟨h1, h2, h3, h4, h5, h6, h7, h8⟩ := h
  have z11 := hs.z hso zo11
  have z22 := hs.z hso zo22
  have o77 : 77 ≤ o := by rcases hso with rfl | rfl | rfl | rfl <;> omega
  refine ⟨h1, ?_, ⟨h3.1, h3.2.1, by rw [hs.1 0 (by omega)]; exact h3.2.2.1, by rw [ho.1]; exact h3.2.2.2.1, fun t ht => ⟨by rw [hs.2.2]; exact (h3.2.2.2.2 t ht).1, (h3.2.2.2.2 t ht).2.go ⟨hs.1 8 (by omega), hs.2.1 9 (by omega)⟩ (ho.2 8 (by omega)) (ho.2 9 (by omega))⟩⟩, ⟨h4.1, by rw [ho.1]; exact h4.2.1, by rw [hs.2.2]; exact h4.2.2⟩, ?_, ht, ?_, fun k hk => ?_⟩
  · rw [z11]
    refine ⟨?_, h2.2⟩
    unfold MZ
    rw [ho.1, ho.2 1 (by omega), ho.2 2 (by omega), ho.2 3 (by omega), ho.2 4 (by omega), ho.2 5 (by omega), ho.2 6 (by omega)]
    exact h2.1
  · unfold RTp
    rw [hs.1 2 (by omega), hs.2.1 3 (by omega), ho.1, ho.2 7 (by omega)]
    exact h5
  · refine ⟨by rw [ho.1, hs.1 0 (by omega)]; exact h7.1, ?_⟩
    rw [hs.1 0 (by omega), z22, z11, hs.2.2, ho.2 11 (by omega)]
    unfold KI
    rw [ho.2 10 (by omega), ho.2 11 (by omega)]
    exact h7.2
  · rw [ho.2 16 (by omega)]
    exact h8 k hk
/-- one sheet changes -/
theorem RSh.one {s : Nat} (hs4 : s < 4) (h : RSh S O) (hs : shS S S' (77 + 2 * s)) (h12 : ∀ k, k ≠ s → O'.2 12 k = O.2 12 k) (h13 : ∀ k, k ≠ s → O'.2 13 k = O.2 13 k) (h14 : ∀ k, k < 40 * s ∨ 40 * s + 40 ≤ k → O'.2 14 k = O.2 14 k) (h1 : RS1 S' O' s) : RSh S' O' := by
  intro t ht
  by_cases e : t = s
  · subst e; exact h1
  · obtain ⟨a1, a2, a3, a4, a5⟩ := h t ht
    have e1 : S'.1 (77 + 2 * t) = S.1 (77 + 2 * t) := hs.1 _ (by omega)
    have e2 : S'.2.1 (77 + 2 * t + 1) = S.2.1 (77 + 2 * t + 1) := hs.2.1 _ (by omega)
    refine ⟨?_, ?_, ?_, ?_, fun k hk => ?_⟩
    · rw [h12 t e, e1]; exact a1
    · rw [h13 t e, e1]; exact a2
    · rw [e1]; exact a3
    · rw [e1]; exact a4
    · rw [h14 _ (by omega), e2]; exact a5 k hk
theorem x_fill {k n : Nat} (v : Int32) (hk : k < 85) (h : xArr k = some n) (hn : n < 4000) : ∃ f, f_J7_fill (b + k) v (memX b S μ) = some (memX b (sxA S k f) μ) ∧ ∀ i, f i = if i < n then v else S.2.1 k i := by
  have key : ∀ d j q f, j + d = n → d < q → ∃ f', f_J7_fill_5 q (b + k) v (nI j) (nI n) (memX b (sxA S k f) μ) = some (memX b (sxA S k f') μ) ∧ ∀ i, f' i = if j ≤ i ∧ i < n then v else f i := by
    intro d
    induction d with
    | zero =>
      intro j q f hj hq
      obtain ⟨q, rfl⟩ : ∃ z, q = z + 1 := ⟨q - 1, by omega⟩
      have : j = n := by omega
      subst this
      exact ⟨f, by rw [f_J7_fill_5.eq_2, if_pos (nI_le (Nat.le_refl _) (by omega))], fun i => by rw [if_neg (by omega)]⟩
    | succ d ih =>
      intro j q f hj hq
      obtain ⟨q, rfl⟩ : ∃ z, q = z + 1 := ⟨q - 1, by omega⟩
      obtain ⟨f', e1, e2⟩ := ih (j + 1) q (upd f j v) (by omega) (by omega)
      refine ⟨f', ?_, fun i => ?_⟩
      · have e3 : (sxA S k f).2.1 k = f := up_eq _ _ _
        have e4 : sxA (sxA S k f) k (upd f j v) = sxA S k (upd f j v) := by
          refine Prod.ext rfl (Prod.ext (funext fun z => ?_) rfl)
          simp only [sxA, va_up]
          split <;> rfl
        rw [f_J7_fill_5.eq_2, if_neg (nI_ge (by omega) (by omega)), sI_X hk h, if_neg (nI_in (show j < n by omega) (by omega)), nI_clamp (by omega), Option.bind_some, e3, e4]
        simp only [vl]
        rw [nI_1]
        exact e1
      · rw [e2 i, upd_at]
        by_cases c : i = j
        · rw [if_neg (by omega), if_pos c, if_pos (by omega)]
        · rw [if_neg c]
          by_cases c2 : j + 1 ≤ i ∧ i < n
          · rw [if_pos c2, if_pos (by omega)]
          · rw [if_neg c2, if_neg (by omega)]
  have e0 : sxA S k (S.2.1 k) = S := by
    refine Prod.ext rfl (Prod.ext (funext fun z => ?_) rfl)
    simp only [sxA, va_up]
    split
    · rename_i c; rw [c]
    · rfl
  obtain ⟨f, e1, e2⟩ := key n 0 fU (S.2.1 k) (by omega) (fU_lt (by omega))
  rw [e0] at e1
  refine ⟨f, ?_, fun i => ?_⟩
  · rw [f_J7_fill.eq_1, aL_X hk h, Option.bind_some]
    exact e1
  · rw [e2 i]
    by_cases c : i < n
    · rw [if_pos (by omega), if_pos c]
    · rw [if_neg (by omega), if_neg c]
theorem aRS {μ : mS} {k : Nat} (hk : k < 4) : aR (memX b S μ) (b + 6) 2 (nI k) = some (b + (77 + 2 * k)) := by
  rw [aR_S, if_neg (nI_in hk (by decide)), nI_clamp (by omega)]
theorem x_miss {o : Nat} (h : so o) : f_X3_isMissing (b + o) (memX b S μ) = some (if S.1 o 1 = -1 then 1 else 0) := by
  rw [f_X3_isMissing.eq_1, gI_S h 1 (by omega), Option.bind_some]
  split <;> rfl
end SH
