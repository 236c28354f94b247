/-! witnessesBy. -/
section WB
variable {b m : Nat} {S S' : XS} {O O' : MS} {μ : mS} {tc r : Nat} {T : Nat → Lw} {Q : Nat → Nat} {Z : Zt} {g : Nat → Int32}
def wbS (cl : Nat → Int32) (a : Nat) (x3 : Int32) : Nat → Nat → Int32 → Zt → Int32 × Zt
  | 0, _, came, Z => (came, Z)
  | d + 1, k, came, Z => if x3 + 3 * nI k < 0 ∨ a < (x3 + 3 * nI k).toNatClampNeg + 3 then (-12, Z) else wbS cl a x3 d (k + 1) (came + (if (wiS Z (cl (x3 + 3 * nI k).toNatClampNeg) (cl ((x3 + 3 * nI k).toNatClampNeg + 1)) (cl ((x3 + 3 * nI k).toNatClampNeg + 2))).1 < 0 then 0 else 1)) (wiS Z (cl (x3 + 3 * nI k).toNatClampNeg) (cl ((x3 + 3 * nI k).toNatClampNeg + 1)) (cl ((x3 + 3 * nI k).toNatClampNeg + 2))).2
theorem wi_gZ (hg : gZ Z) (x1 x2 x3 : Int32) : gZ (wiS Z x1 x2 x3).2 ∧ (wiS Z x1 x2 x3).2 10 1 = Z 10 1 ∧ stay Z (wiS Z x1 x2 x3).2 := by
  -- a reference that holds the same numbers
  let O : MS := (fun k => if k = 7 then Z 10 0 else if k = 8 then Z 10 1 else Z 10 2, fun j k => if j = 5 then Z 0 k else if j = 6 then Z 1 k else if j = 3 then (if k % 3 = 0 then Z 4 (k / 3) else if k % 3 = 1 then Z 5 (k / 3) else Z 6 (k / 3)) else if j = 4 then (if k % 3 = 0 then Z 7 (k / 3) else if k % 3 = 1 then Z 8 (k / 3) else Z 9 (k / 3)) else if j = 1 then Z 2 k else Z 3 k)
  have hz : MZ O Z := by
    have d0 : ∀ k, (3 * k) % 3 = 0 ∧ (3 * k) / 3 = k := fun k => by omega
    have d1 : ∀ k, (3 * k + 1) % 3 = 1 ∧ (3 * k + 1) / 3 = k := fun k => by omega
    have d2 : ∀ k, (3 * k + 2) % 3 = 2 ∧ (3 * k + 2) / 3 = k := fun k => by omega
    refine ⟨fun k hk => rfl, fun k hk => ⟨rfl, ?_, ?_, ?_⟩, fun k hk => ⟨?_, ?_, ?_⟩, ⟨rfl, rfl, rfl⟩, fun p hp => ⟨rfl, rfl⟩⟩
    · simp [O]
    · simp [O, (d1 k).1, (d1 k).2]
    · simp [O, (d2 k).1, (d2 k).2]
    · simp [O]
    · simp [O, (d1 k).1, (d1 k).2]
    · simp [O, (d2 k).1, (d2 k).2]
  exact (wi_all (m := 0) hz hg x1 x2 x3).2
theorem x_wbL {s a : Nat} (hs : s < 4) (ha : a ≤ 40) (en : S.1 (77 + 2 * s) 2 = nI a) (x3 : Int32) {N : Nat} (hN : N ≤ 6) : ∀ d k q came Z, gZ Z → k + d = N → d < q → f_X5_witnessesBy_66 q b x3 (nI N) (b + (77 + 2 * s)) came (nI k) (AZ b 11 S μ Z g) = some ((wbS (S.2.1 (77 + 2 * s + 1)) a x3 d k came Z).1, AZ b 11 S μ (wbS (S.2.1 (77 + 2 * s + 1)) a x3 d k came Z).2 g) := by
  have hso : so (77 + 2 * s) := so_of hs
  have hl := so_lt hso
  intro d
  induction d with
  | zero =>
    intro k q came Z hg hk hq
    obtain ⟨q, rfl⟩ : ∃ z, q = z + 1 := ⟨q - 1, by omega⟩
    have : k = N := by omega
    subst this
    rw [f_X5_witnessesBy_66.eq_2, if_pos (nI_le (Nat.le_refl _) (by omega)), wbS]
  | succ d ih =>
    intro k q came Z hg hk hq
    obtain ⟨q, rfl⟩ : ∃ z, q = z + 1 := ⟨q - 1, by omega⟩
    have e1 : ∀ x n, f_X3_has (b + (77 + 2 * s)) x n (AZ b 11 S μ Z g) = some (if x < 0 then 0 else if n < 0 then 0 else if a < x.toNatClampNeg + n.toNatClampNeg then 0 else 1) := fun x n => x_hasS hso ha (by rw [sx_1 zo11 (by omega)]; exact en) x n
    have e2 : gR (AZ b 11 S μ Z g) (b + (77 + 2 * s)) 2 0 = some (b + (77 + 2 * s + 1)) := gR_S hso
    have e3 : ∀ x, aI (AZ b 11 S μ Z g) (b + (77 + 2 * s + 1)) x = if x < 0 ∨ 40 ≤ x.toNatClampNeg then none else some (S.2.1 (77 + 2 * s + 1) x.toNatClampNeg) := fun x => by
      rw [AZ, aI_X (by omega) (so_arr hso), sx_2 zo11 (by omega)]
    have e4 : isO (AZ b 11 S μ Z g) b 4 = true := isO_H
    have e5 : isO (AZ b 11 S μ Z g) (b + (77 + 2 * s)) 2 = true := isO_S hso
    rw [f_X5_witnessesBy_66.eq_2, if_neg (nI_ge (by omega) (by omega))]
    simp only [vl]
    rw [if_pos e5, e1, Option.bind_some, wbS]
    have t3 : (3 : Int32).toNatClampNeg = 3 := by decide
    have p3 : ¬ (3 : Int32) < 0 := by decide
    generalize hi : x3 + 3 * nI k = i
    rw [t3, if_neg p3]
    by_cases c1 : i < 0
    · rw [if_pos c1, if_pos rfl, if_pos (Or.inl c1)]
    rw [if_neg c1]
    by_cases c2 : a < i.toNatClampNeg + 3
    · rw [if_pos c2, if_pos rfl, if_pos (Or.inr c2)]
    rw [if_neg c2, if_neg (by decide), if_neg (fun z => z.elim c1 c2)]
    obtain ⟨j, hj, rfl⟩ := nI_of c1
    rw [nI_clamp hj] at c2 ⊢
    have rd : ∀ j, j < 40 → aI (AZ b 11 S μ Z g) (b + (77 + 2 * s + 1)) (nI j) = some (S.2.1 (77 + 2 * s + 1) j) := fun j hj => by
      rw [e3, if_neg (nI_in hj (by decide)), nI_clamp (by omega)]
    rw [e2, Option.bind_some, rd j (by omega), Option.bind_some, Option.bind_some, nI_1, rd (j + 1) (by omega), Option.bind_some, Option.bind_some, show nI j + (2 : Int32) = nI (j + 2) from nI_add j 2, rd (j + 2) (by omega), Option.bind_some, if_pos e4, x_witness hg, Option.bind_some, nI_1]
    exact ih (k + 1) q _ _ (wi_gZ hg _ _ _).1 (by omega) (by omega)
theorem le_sub3 {k a : Nat} (hk : k < 2 ^ 31) (ha : a ≤ 40) : (nI k ≤ nI a - (3 : Int32)) ↔ k + 3 ≤ a := by
  rw [show (3 : Int32) = nI 3 from rfl, Int32.le_iff_toInt_le, Int32.toInt_sub, nI_toInt hk, nI_toInt (show a < 2 ^ 31 by omega), nI_toInt (show 3 < 2 ^ 31 by omega), Int.bmod_eq_of_le (by omega) (by omega)]
  omega
theorem big_neg {f k : Nat} (hf : f < 2 ^ 31) (hk : k ≤ 100) (h : 2 ^ 31 ≤ f + k) : nI (f + k) < 0 ∧ nI (f + k) < nI f := by
  have e : (nI (f + k)).toInt = ((f + k : Nat) : Int) - 2 ^ 32 := by
    rw [← nI_add, Int32.toInt_add, nI_toInt hf, nI_toInt (show k < 2 ^ 31 by omega), show ((f : Int) + k).bmod (2 ^ 32) = (f : Int) + k - 2 ^ 32 from by
      rw [Int.bmod_def, Int.emod_eq_of_lt (by omega) (by omega), if_neg (by omega)]
      omega]
    omega
  rw [Int32.lt_iff_toInt_lt, Int32.lt_iff_toInt_lt, e, nI_toInt hf]
  have e2 : ((0 : Int32)).toInt = 0 := by decide
  omega
theorem m_wbL {s a : Nat} (hs : s < 4) (ha : a ≤ 40) (cl : Nat → Int32) (x3 : Int32) {N : Nat} (hN : N ≤ 6) : ∀ d k q came Z O, gZ Z → MZ O Z → O.2 13 s = nI a → (∀ j, j < 40 → O.2 14 (40 * s + j) = cl j) → (k = 0 ∨ ¬ x3 < 0) → k + d = N → d < q → ∃ O', f_X6_witnessesBy_64 q m (nI s) x3 (nI N) came (nI k) (memM m O μ) = some ((wbS cl a x3 d k came Z).1, memM m O' μ) ∧ keepO O O' ∧ MZ O' (wbS cl a x3 d k came Z).2 ∧ gZ (wbS cl a x3 d k came Z).2 ∧ (wbS cl a x3 d k came Z).2 10 1 = Z 10 1 ∧ stay Z (wbS cl a x3 d k came Z).2 := by
  intro d
  induction d with
  | zero =>
    intro k q came Z O hg hz en ec h0 hk hq
    obtain ⟨q, rfl⟩ : ∃ z, q = z + 1 := ⟨q - 1, by omega⟩
    have : k = N := by omega
    subst this
    exact ⟨O, by rw [f_X6_witnessesBy_64.eq_2, if_pos (nI_le (Nat.le_refl _) (by omega)), wbS], keepO.rf O, hz, hg, rfl, stay.rf Z⟩
  | succ d ih =>
    intro k q came Z O hg hz en ec h0 hk hq
    obtain ⟨q, rfl⟩ : ∃ z, q = z + 1 := ⟨q - 1, by omega⟩
    have m13 : aI (memM m O μ) (m + (12 + 1)) (nI s) = some (nI a) := by
      rw [aM 12 (by decide) s (by show _ < 4; omega) (by omega)]
      exact congrArg some en
    have hx : f_X6_witnessesBy_64 (q + 1) m (nI s) x3 (nI N) came (nI k) (memM m O μ) = _ := f_X6_witnessesBy_64.eq_2 _ _ _ _ _ _ _ _
    rw [if_neg (nI_ge (by omega) (by omega))] at hx
    simp only [vl] at hx
    by_cases c0 : x3 < 0
    · have k0 : k = 0 := h0.resolve_right (fun z => z c0)
      subst k0
      rw [if_pos c0] at hx
      have e : x3 + 3 * nI 0 = x3 := by
        rw [show (3 : Int32) * nI 0 = 0 by decide]
        grind
      rw [wbS, e, if_pos (Or.inl c0)]
      exact ⟨O, hx, keepO.rf O, hz, hg, rfl, stay.rf Z⟩
    rw [if_neg c0] at hx
    obtain ⟨f, hf, rfl⟩ := nI_of c0
    have e3 : nI f + 3 * nI k = nI (f + 3 * k) := by rw [three, nI_add]
    rw [e3, mR_19, Option.bind_some, m13, Option.bind_some] at hx
    rw [wbS, e3]
    by_cases cb : 2 ^ 31 ≤ f + 3 * k
    · obtain ⟨n1, n2⟩ := big_neg hf (show 3 * k ≤ 100 by omega) cb
      rw [if_pos n2] at hx
      rw [if_pos (Or.inl n1)]
      exact ⟨O, hx, keepO.rf O, hz, hg, rfl, stay.rf Z⟩
    have hb : f + 3 * k < 2 ^ 31 := by omega
    rw [if_neg (nI_nlt (by omega) hb)] at hx
    rw [nI_clamp hb]
    by_cases c2 : a < f + 3 * k + 3
    · rw [if_neg (fun z => by have := (le_sub3 hb ha).mp z; omega)] at hx
      rw [if_pos (Or.inr c2)]
      exact ⟨O, hx, keepO.rf O, hz, hg, rfl, stay.rf Z⟩
    · have e40 : (40 : Int32) * nI s + nI (f + 3 * k) = nI (40 * s + (f + 3 * k)) := by rw [show (40 : Int32) = nI 40 from rfl, pk_mul, nI_add]
      have rd : ∀ j, j < 40 → aI (memM m O μ) (m + (13 + 1)) (nI (40 * s + j)) = some (cl j) := fun j hj => by
        rw [aM 13 (by decide) (40 * s + j) (by show _ < 160; omega) (by omega)]
        exact congrArg some (ec j hj)
      generalize f + 3 * k = i at *
      rw [if_pos ((le_sub3 hb ha).mpr (by omega)), e40, mR_20, Option.bind_some, rd i (by omega), Option.bind_some, Option.bind_some, nI_1, show 40 * s + i + 1 = 40 * s + (i + 1) from rfl, rd (i + 1) (by omega), Option.bind_some, Option.bind_some, show nI (40 * s + i) + (2 : Int32) = nI (40 * s + (i + 2)) from nI_add _ 2, rd (i + 2) (by omega), Option.bind_some, if_pos isO_M] at hx
      rw [if_neg (fun z => z.elim (nI_pos hb) c2)]
      obtain ⟨w1, w2, w3, w4⟩ := wi_all (m := m) hz hg (cl i) (cl (i + 1)) (cl (i + 2))
      obtain ⟨O1, f1, f2, f3⟩ := w1 μ
      rw [f1, Option.bind_some, nI_1] at hx
      obtain ⟨O', g1, g2, g3, g4, g5, g6⟩ := ih (k + 1) q (came + (if (wiS Z (cl i) (cl (i + 1)) (cl (i + 2))).1 < 0 then 0 else 1)) (wiS Z (cl i) (cl (i + 1)) (cl (i + 2))).2 O1 w2 f3 (by rw [f2.2 13 (by omega)]; exact en) (fun j hj => by rw [f2.2 14 (by omega)]; exact ec j hj) (Or.inr c0) (by omega) (by omega)
      exact ⟨O', hx.trans g1, f2.tr g2, g3, g4, g5.trans w3, w4.tr g6⟩
theorem k_wby (x1 x2 x3 x4 : Int32) : Call b m (f_X5_witnessesBy b x1 x2 x3 x4) (f_X6_witnessesBy m x1 x2 x3 x4) := by
  intro S O μ R
  have R0 := R
  obtain ⟨tc, r, T, Q, R⟩ := R
  have lm := R.lm
  have hx : f_X5_witnessesBy b x1 x2 x3 x4 (Wd b m S O μ) = _ := f_X5_witnessesBy.eq_1 _ _ _ _ _ _
  have hm : ∀ S', f_X6_witnessesBy m x1 x2 x3 x4 (Wd b m S' O μ) = _ := fun S' => f_X6_witnessesBy.eq_1 _ _ _ _ _ _
  simp only [i_4, i_3, i_7] at hm
  by_cases q : f_X5_isBelow x1 4 = 0
  · rw [if_pos q] at hx
    exact ⟨-2, S, O, μ, hx, (hm S).trans (if_pos q), R0⟩
  rw [if_neg q] at hx
  have hm := fun S' => (hm S').trans (if_neg q)
  by_cases q2 : f_X5_isBelow x2 3 = 0
  · rw [if_pos q2] at hx
    exact ⟨-2, S, O, μ, hx, (hm S).trans (if_pos q2), R0⟩
  rw [if_neg q2] at hx
  have hm := fun S' => (hm S').trans (if_neg q2)
  by_cases q3 : f_X5_isBelow x4 7 = 0
  · rw [if_pos q3] at hx
    exact ⟨-2, S, O, μ, hx, (hm S).trans (if_pos q3), R0⟩
  rw [if_neg q3] at hx
  have hm := fun S' => (hm S').trans (if_neg q3)
  obtain ⟨s, hs, rfl⟩ := b_4 x1 q
  obtain ⟨N, hN, rfl⟩ := b_7 x4 q3
  have hso : so (77 + 2 * s) := so_of hs
  obtain ⟨a1, a2, ⟨n, hn, en⟩, a4, a5⟩ := R.2.2.2.2.2.1 s hs
  have m12 : ∀ S' : XS, aI (memM m O (memX b S' μ)) (m + (11 + 1)) (nI s) = some (O.2 12 s) := fun S' => aM 11 (by decide) s (by show _ < 4; omega) (by omega)
  rw [Wd] at hx
  simp only [h2X, Option.bind_some, aRS hs, isO_S hso, x_miss hso, gI_S hso 1 (Or.inl rfl), if_true] at hx
  rw [← Wd] at hx
  simp only [Wd_M lm, mR_18, Option.bind_some, m12, a1] at hm
  by_cases c1 : S.1 (77 + 2 * s) 1 = -1
  · rw [if_pos c1, if_neg (by decide)] at hx
    refine ⟨-11, S, O, μ, hx, ?_, R0⟩
    rw [Wd_M lm]
    exact (hm S).trans (if_pos c1)
  rw [if_neg c1, if_pos rfl] at hx
  have hm := fun S' => (hm S').trans (if_neg c1)
  by_cases c2 : S.1 (77 + 2 * s) 1 = x2
  · rw [if_pos c2] at hx
    have hm := fun S' => (hm S').trans (if_pos c2)
    have e1 := x_wbL (b := b) (μ := memM m O μ) (g := S.2.1 10) hs hn en x3 (N := N) (by omega) N 0 fU 0 (zof S 11) R.g (by omega) (fU_lt (by omega))
    rw [← AZ_of] at e1
    obtain ⟨O', g1, g2, g3, g4, g5, g6⟩ := m_wbL (m := m) (μ := memX b (sxZ S 11 (wbS (S.2.1 (77 + 2 * s + 1)) n x3 N 0 0 (zof S 11)).2 (S.2.1 10)) μ) hs hn (S.2.1 (77 + 2 * s + 1)) x3 (N := N) (by omega) N 0 fU 0 (zof S 11) O R.g R.z (a2.trans en) a5 (Or.inl rfl) (by omega) (fU_lt (by omega))
    refine ⟨_, _, O', μ, hx.trans e1, ?_, R.no g2 g3 g4 ?_ g6⟩
    · show f_X6_witnessesBy m (nI s) x2 x3 (nI N) (Wd b m (sxZ S 11 (wbS (S.2.1 (77 + 2 * s + 1)) n x3 N 0 0 (zof S 11)).2 (S.2.1 10)) O μ) = _
      rw [Wd_M lm]
      refine (hm _).trans (g1.trans ?_)
      rw [← Wd_M lm]
    · rw [g5]; exact R.h
  · rw [if_neg c2] at hx
    refine ⟨-13, S, O, μ, hx, ?_, R0⟩
    rw [Wd_M lm]
    exact (hm S).trans (if_neg c2)
end WB
