/-! What the reference asks a text, how one looks, waits, drops: as the plain functions say. -/
def rng (N : Nat) (x : Int32) : Prop := ∃ n, n ≤ N ∧ x = nI n
def wN (Z : Zt) : Nat := (Z 10 2).toNatClampNeg
/-- all numbers of an assize are in their bounds -/
def gZ (Z : Zt) : Prop := rng 6 (Z 10 2) ∧ isSet (Z 10 0) ∧ (∀ k, k < 10 → -99 ≤ Z 0 k ∧ Z 0 k ≤ 99) ∧ (∀ k, k < 6 → rng 99 (Z 1 k) ∧ isSet (Z 4 k) ∧ rng 99 (Z 5 k) ∧ rng 99 (Z 6 k)) ∧ (∀ p, p < wN Z → rng 5 (Z 2 p) ∧ rng 9 (Z 3 p)) ∧ ∀ h, h < 8 → Z 7 h = -1 ∨ ((∃ p, p < wN Z ∧ Z 7 h = nI p) ∧ rng 9 (Z 8 h) ∧ ∃ t, 1 ≤ t ∧ t ≤ 99 ∧ Z 9 h = nI t)
theorem gZ.w6 {Z : Zt} (h : gZ Z) : wN Z ≤ 6 := by
  obtain ⟨n, hn, e⟩ := h.1
  rw [wN, e, nI_clamp (by omega)]
  exact hn
theorem gZ.wI {Z : Zt} (h : gZ Z) : Z 10 2 = nI (wN Z) := by
  obtain ⟨n, hn, e⟩ := h.1
  rw [wN, e, nI_clamp (by omega)]
theorem gZ.o {Z : Zt} (h : gZ Z) : okO Z := by
  intro k hk
  rcases h.2.2.2.2.2 k hk with e | ⟨⟨p, hp, e⟩, _⟩
  · exact Or.inl e
  · exact Or.inr ⟨p, by have := h.w6; omega, e⟩
theorem bw_eq {v lo hi : Int32} (h : lo ≤ hi) : f_X6_within v lo hi = f_X5_bounded v lo hi := by
  rw [f_X6_within.eq_1, f_X5_bounded.eq_1]
  by_cases c1 : lo ≤ v
  · rw [if_pos c1]
    by_cases c2 : v ≤ hi
    · rw [if_pos c2]
      by_cases c3 : v < hi
      · rw [if_pos c3]
        by_cases c4 : lo < v
        · rw [if_pos c4]
        · rw [if_neg c4]; grind
      · rw [if_neg c3]
        by_cases c4 : lo < hi
        · rw [if_pos c4]; grind
        · rw [if_neg c4]; grind
    · rw [if_neg c2]
      have c3 : ¬ v < hi := by grind
      rw [if_neg c3]
      by_cases c4 : lo < hi
      · rw [if_pos c4]
      · rw [if_neg c4]; grind
  · rw [if_neg c1]
    have c3 : v < hi := by grind
    rw [if_pos c3, if_neg (by grind)]
theorem bd_rng (v : Int32) : rng 99 (f_X5_bounded v 0 99) := by
  rw [← bw_eq (by decide), f_X6_within.eq_1]
  by_cases c1 : (0 : Int32) ≤ v
  · rw [if_pos c1]
    by_cases c2 : v ≤ 99
    · rw [if_pos c2]
      obtain ⟨j, hj, e⟩ := nI_of2 (x := v) (M := 99) (n := 99) (by decide) (by grind) c2
      exact ⟨j, hj, e⟩
    · rw [if_neg c2]
      exact ⟨99, by omega, rfl⟩
  · rw [if_neg c1]
    exact ⟨0, by omega, rfl⟩
theorem bd_id : ∀ v, v < 100 → f_X5_bounded (nI v) 0 99 = nI v := by decide +kernel
theorem bd_half : ∀ v, v < 100 → f_X5_bounded (nI v / 2) 0 99 = nI v / 2 := by decide +kernel
theorem bd_one : ∀ v, v < 100 → f_X5_bounded (nI v / 1) 0 99 = nI v := by decide +kernel
theorem bd_grey : ∀ v, v < 10 → f_X5_bounded ((1 : Int32) + nI v) 1 99 = (1 : Int32) + nI v := by decide +kernel
theorem bd_neg (v : Int32) : ∃ n, n < 199 ∧ f_X5_bounded v (-99) 99 = nI n - 99 := by
  rw [← bw_eq (by decide), f_X6_within.eq_1]
  by_cases c1 : (-99 : Int32) ≤ v
  · rw [if_pos c1]
    by_cases c2 : v ≤ 99
    · rw [if_pos c2]
      have h0 : ¬ v + 99 < 0 := by
        rw [Int32.lt_iff_toInt_lt, Int32.toInt_add]
        rw [Int32.le_iff_toInt_le] at c1 c2
        have e1 : (-99 : Int32).toInt = -99 := by decide
        have e2 : (99 : Int32).toInt = 99 := by decide
        have e3 : (0 : Int32).toInt = 0 := by decide
        rw [e1] at c1
        rw [e2] at c2 ⊢
        rw [e3, Int.bmod_eq_of_le (by omega) (by omega)]
        omega
      have h1 : v + 99 ≤ 198 := by
        rw [Int32.le_iff_toInt_le, Int32.toInt_add]
        rw [Int32.le_iff_toInt_le] at c1 c2
        have e1 : (-99 : Int32).toInt = -99 := by decide
        have e2 : (99 : Int32).toInt = 99 := by decide
        have e3 : (198 : Int32).toInt = 198 := by decide
        rw [e1] at c1
        rw [e2] at c2 ⊢
        rw [e3, Int.bmod_eq_of_le (by omega) (by omega)]
        omega
      obtain ⟨j, hj, e⟩ := nI_of2 (x := v + 99) (M := 198) (n := 198) (by decide) h0 h1
      exact ⟨j, by omega, by rw [← e]; grind⟩
    · rw [if_neg c2]
      exact ⟨198, by omega, by decide⟩
  · rw [if_neg c1]
    exact ⟨0, by omega, by decide⟩
theorem fm_eq : ∀ n, n < 11 → 0 < n → ∀ v, v < 199 → (if 0 ≤ ((nI v - 99) - (nI v - 99) / nI n * nI n) then ((nI v - 99) - (nI v - 99) / nI n * nI n) else ((nI v - 99) - (nI v - 99) / nI n * nI n) + nI n) = (f_J9_floorMod (nI v - 99) (nI n)).getD 0 ∧ (f_J9_floorMod (nI v - 99) (nI n)).isSome = true := by decide +kernel
theorem bc_rng : ∀ n, n < 1024 → (bc (nI n)).toNatClampNeg ≤ 10 ∧ ¬ bc (nI n) < 0 ∧ (bc (nI n) = 0 → n = 0) := by decide +kernel
theorem bc_of {x : Int32} (h : isSet x) : ∃ n, n ≤ 10 ∧ bc x = nI n := by
  obtain ⟨k, hk, rfl⟩ := h
  obtain ⟨h1, h2, _⟩ := bc_rng k hk
  obtain ⟨j, hj, e⟩ := nI_of h2
  rw [e, nI_clamp hj] at h1
  exact ⟨j, h1, e⟩
theorem sy_01 (L : Lw) (Z : Zt) (p part : Nat) (h : part < 2) (hok : okP (L part)) : rng 99 (syS L Z p part) := by
  obtain ⟨w, hw⟩ := hok (nmS Z p)
  have e : syS L Z p part = f_X5_bounded w 0 99 := by
    simp only [syS, evV, evP, hw, Option.getD_some]
    rw [if_neg (by omega)]
  rw [e]
  exact bd_rng w
theorem sy_2 (L : Lw) (Z : Zt) (p : Nat) (hok : okP (L 2)) : ∃ n, n < 199 ∧ syS L Z p 2 = nI n - 99 := by
  obtain ⟨w, hw⟩ := hok (nmS Z p)
  have e : syS L Z p 2 = f_X5_bounded w (-99) 99 := by
    simp only [syS, evV, evP, hw, Option.getD_some]
    rfl
  rw [e]
  exact bd_neg w
/-- the text in force of the reference -/
def LawR (O : MS) (L : Lw) : Prop := ∃ (t n wt dp : Nat) (code : Nat → Int32), O.1 14 = nI t ∧ LawM O t code n wt dp ∧ ∀ part, part < 3 → L part = partL code n wt dp part ∧ okP (L part)
theorem LawR.ok {O : MS} {L : Lw} (h : LawR O L) {part : Nat} (hp : part < 3) : okP (L part) := by
  obtain ⟨t, n, wt, dp, code, h1, h2, h3⟩ := h
  exact (h3 part hp).2
theorem LawR.k {O O' : MS} {L : Lw} (h : mkA O O') (hl : LawR O L) : LawR O' L := by
  obtain ⟨t, n, wt, dp, code, h1, h2, h3⟩ := hl
  exact ⟨t, n, wt, dp, code, by rw [h.1 14 (by decide) (by decide)]; exact h1, h2.k (h.2 8 (by decide) (by decide) (by decide) (by decide)) (h.2 9 (by decide) (by decide) (by decide) (by decide)), h3⟩
section MASK
variable {m : Nat} {O : MS} {μ : mS} {Z : Zt} {L : Lw}
theorem three1 (k : Nat) : (3 : Int32) * nI k + 1 = nI (3 * k + 1) := by rw [three, nI_1]
theorem three2 (k : Nat) : (3 : Int32) * nI k + 2 = nI (3 * k + 2) := by rw [three]; exact nI_add _ 2
theorem set_ad (hg : gZ Z) : isSet (Z 10 0) := hg.2.1
theorem set_kn (hg : gZ Z) {p : Nat} (hp : p < 6) : isSet (Z 4 p) := (hg.2.2.2.1 p hp).2.1
theorem m_asksOf (hz : MZ O Z) (hg : gZ Z) (hl : LawR O L) {p part : Nat} (hp : p < wN Z) (hpt : part < 3) : ∃ O', f_X6_asksOf m (nI part) (nI p) (memM m O μ) = some (syS L Z p part, memM m O' μ) ∧ mk18 O O' := by
  have hp6 : p < 6 := by have := hg.w6; omega
  obtain ⟨t, n, wt, dp, code, h1, h2, h3⟩ := hl
  obtain ⟨e1, e2⟩ := h3 part hpt
  obtain ⟨w, hw⟩ := e2 (nmS Z p)
  let O1 := smA O 19 (upd (O.2 19) 0 (Z 5 p))
  let O2 := smA O1 19 (upd (O1.2 19) 1 (bc (Z 4 p)))
  let O3 := smA O2 19 (upd (O2.2 19) 2 (Z 10 1))
  let O4 := smA O3 19 (upd (O3.2 19) 3 (lyA Z 8))
  let O5 := smA O4 19 (upd (O4.2 19) 4 (bc (Z 10 0)))
  let O6 := smA O5 19 (upd (O5.2 19) 5 (Z 3 p))
  have k1 : mk18 O O1 := mk18.n O _
  have k2 : mk18 O O2 := k1.tr (mk18.n _ _)
  have k3 : mk18 O O3 := k2.tr (mk18.n _ _)
  have k4 : mk18 O O4 := k3.tr (mk18.n _ _)
  have k5 : mk18 O O5 := k4.tr (mk18.n _ _)
  have k6 : mk18 O O6 := k5.tr (mk18.n _ _)
  have a : ∀ (P : MS) (i : Nat) (v : Int32) (j : Nat), (smA P 19 (upd (P.2 19) i v)).2 19 j = if j = i then v else P.2 19 j := by
    intro P i v j
    show va_up P.2 19 _ 19 j = _
    rw [up_eq]
    rfl
  have hnm : O6.2 19 0 = nmS Z p (-1) ∧ O6.2 19 1 = nmS Z p (-2) ∧ O6.2 19 2 = nmS Z p (-3) ∧ O6.2 19 3 = nmS Z p (-4) ∧ O6.2 19 4 = nmS Z p (-5) ∧ O6.2 19 5 = nmS Z p (-6) := by
    refine ⟨?_, ?_, ?_, ?_, ?_, ?_⟩
    all_goals simp only [O6, O5, O4, O3, O2, O1, a]
    all_goals rfl
  obtain ⟨O', f1, f2⟩ := m_says (m := m) (μ := μ) (nmS Z p) w hpt (h2.k (O' := O6) (k6.2 8 (by decide) (by decide)) (k6.2 9 (by decide) (by decide))) (by rw [k6.1]; exact h1) hnm (by rw [← e1]; exact hw)
  refine ⟨O', ?_, k6.tr f2⟩
  have s0 : (0 : Int32) = nI 0 := rfl
  have s1 : (1 : Int32) = nI 1 := rfl
  have s2 : (2 : Int32) = nI 2 := rfl
  have s3 : (3 : Int32) = nI 3 := rfl
  have s4 : (4 : Int32) = nI 4 := rfl
  have s5 : (5 : Int32) = nI 5 := rfl
  have g0 : ∀ (P : MS) (k : Nat) (hk : k < 6) (v : Int32), sI (memM m P μ) (m + (18 + 1)) (nI k) v = some (memM m (smA P 19 (upd (P.2 19) k v)) μ) := fun P k hk v => sM 18 (by omega) k (by show _ < 6; omega) (by omega) v
  rw [f_X6_asksOf.eq_1, mR_32, Option.bind_some, mR_3, Option.bind_some, three1, aM 2 (by omega) (3 * p + 1) (by show _ < 18; omega) (by omega), Option.bind_some, show O.2 (2 + 1) (3 * p + 1) = Z 5 p from hz.r1 hp6]
  rw [show sI (memM m O μ) (m + (18 + 1)) 0 (Z 5 p) = some (memM m O1 μ) from g0 O 0 (by omega) _, Option.bind_some, mR_32, Option.bind_some, mR_3, Option.bind_some, three, aM 2 (by omega) (3 * p) (by show _ < 18; omega) (by omega), Option.bind_some, show O1.2 (2 + 1) (3 * p) = Z 4 p from (congrFun (k1.2 3 (by decide) (by decide)) _).trans (hz.r0 hp6), ones_bc (set_kn hg hp6), Option.bind_some]
  rw [show sI (memM m O1 μ) (m + (18 + 1)) 1 (bc (Z 4 p)) = some (memM m O2 μ) from g0 O1 1 (by omega) _, Option.bind_some, mR_32, Option.bind_some, mI_8, Option.bind_some, show O2.1 8 = Z 10 1 from (congrFun k2.1 8).trans hz.hr]
  rw [show sI (memM m O2 μ) (m + (18 + 1)) 2 (Z 10 1) = some (memM m O3 μ) from g0 O2 2 (by omega) _, Option.bind_some, mR_32, Option.bind_some, if_pos isO_M, m_lying (hz.k k3), Option.bind_some]
  rw [show sI (memM m O3 μ) (m + (18 + 1)) 3 (lyA Z 8) = some (memM m O4 μ) from g0 O3 3 (by omega) _, Option.bind_some, mR_32, Option.bind_some, mI_7, Option.bind_some, show O4.1 7 = Z 10 0 from (congrFun k4.1 7).trans hz.ad, ones_bc (set_ad hg), Option.bind_some]
  rw [show sI (memM m O4 μ) (m + (18 + 1)) 4 (bc (Z 10 0)) = some (memM m O5 μ) from g0 O4 4 (by omega) _, Option.bind_some, mR_32, Option.bind_some, mR_2, Option.bind_some, aM 1 (by omega) p (by show _ < 6; omega) (by omega), Option.bind_some, show O5.2 (1 + 1) p = Z 3 p from (congrFun (k5.2 2 (by decide) (by decide)) _).trans (hz.mo hp)]
  rw [show sI (memM m O5 μ) (m + (18 + 1)) 5 (Z 3 p) = some (memM m O6 μ) from g0 O5 5 (by omega) _, Option.bind_some, if_pos isO_M, f1, Option.bind_some]
  simp only [vl]
  have e5 : syS L Z p part = f_X5_bounded w (if part = 2 then -99 else 0) 99 := by
    simp only [syS, evV, evP, hw, Option.getD_some]
  have e6 : (nI part = (2 : Int32)) = (part = 2) := propext (nI_eq (by omega) (by decide))
  rw [e5]
  simp only [e6]
  rw [bw_eq (by split <;> decide)]
end MASK
