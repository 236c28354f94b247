/-! cell, copy, witnessesBy. -/
section CP
variable {b m : Nat} {S S' : XS} {O O' : MS} {μ : mS} {tc r : Nat} {T : Nat → Lw} {Q : Nat → Nat}
theorem sub_lt40 {a n i : Nat} (ha : a ≤ 40) (hn : n < 2 ^ 31) (hi : i < 2 ^ 31) : (nI a - nI n < nI i) ↔ a < i + n := by
  rw [Int32.lt_iff_toInt_lt, Int32.toInt_sub, nI_toInt (show a < 2 ^ 31 by omega), nI_toInt hn, nI_toInt hi, Int.bmod_eq_of_le (by omega) (by omega)]
  omega
theorem x_hasS {o : Nat} (h : so o) {a : Nat} (ha : a ≤ 40) (hs : S.1 o 2 = nI a) (x n : Int32) : f_X3_has (b + o) x n (memX b S μ) = some (if x < 0 then 0 else if n < 0 then 0 else if a < x.toNatClampNeg + n.toNatClampNeg then 0 else 1) := by
  rw [f_X3_has.eq_1]
  by_cases c1 : x < 0
  · rw [if_pos c1, if_pos c1]
  by_cases c2 : n < 0
  · rw [if_neg c1, if_pos c2, if_neg c1, if_pos c2]
  obtain ⟨i, hi, rfl⟩ := nI_of c1
  obtain ⟨j, hj, rfl⟩ := nI_of c2
  rw [if_neg c1, if_neg c2, if_neg c1, if_neg c2, gI_S h 2 (by omega), Option.bind_some, hs, nI_clamp hi, nI_clamp hj]
  by_cases c3 : a < i + j
  · rw [if_pos c3, if_pos ((sub_lt40 ha hj hi).mpr c3)]
  · rw [if_neg c3, if_neg (fun z => c3 ((sub_lt40 ha hj hi).mp z))]
def cellV (sort v : Int32) : Int32 := if sort = 0 then v.toInt8.toInt32 else if sort = 1 then v.toInt16.toInt32 else v
theorem k_cell (x1 x2 x3 : Int32) : Call b m (f_X5_cell b x1 x2 x3) (f_X6_cell m x1 x2 x3) := by
  intro S O μ R
  have R0 := R
  obtain ⟨tc, r, T, Q, R⟩ := R
  have lm := R.lm
  have hx : f_X5_cell b x1 x2 x3 (Wd b m S O μ) = _ := f_X5_cell.eq_1 _ _ _ _ _
  have hm : ∀ S', f_X6_cell m x1 x2 x3 (Wd b m S' O μ) = _ := fun S' => f_X6_cell.eq_1 _ _ _ _ _
  simp only [i_4] at hm
  by_cases q : f_X5_isBelow x1 4 = 0
  · rw [if_pos q] at hx
    exact ⟨-2, S, O, μ, hx, (hm S).trans (if_pos q), R0⟩
  rw [if_neg q] at hx
  have hm := fun S' => (hm S').trans (if_neg q)
  obtain ⟨s, hs, rfl⟩ := b_4 x1 q
  have hso : so (77 + 2 * s) := so_of hs
  have hl := so_lt hso
  obtain ⟨a1, a2, ⟨n, hn, en⟩, a4, a5⟩ := R.2.2.2.2.2.1 s hs
  have m12 : ∀ S' : XS, aI (memM m O (memX b S' μ)) (m + (11 + 1)) (nI s) = some (O.2 12 s) := fun S' => aM 11 (by decide) s (by show _ < 4; omega) (by omega)
  have m13 : ∀ S' : XS, aI (memM m O (memX b S' μ)) (m + (12 + 1)) (nI s) = some (O.2 13 s) := fun S' => aM 12 (by decide) s (by show _ < 4; omega) (by omega)
  rw [Wd] at hx
  simp only [h2X, Option.bind_some, aRS hs, isO_S hso, x_miss hso, gI_S hso 2 (Or.inr rfl), en, if_true] at hx
  rw [← Wd] at hx
  simp only [Wd_M lm, mR_18, mR_19, mR_20, Option.bind_some, m12, m13, a1, a2, en, in_bel (show n < 2 ^ 31 by omega)] at hm
  by_cases c1 : S.1 (77 + 2 * s) 1 = -1
  · rw [if_pos c1, if_neg (by decide)] at hx
    exact ⟨-11, S, O, μ, hx, by rw [Wd_M lm]; exact (hm S).trans (if_pos c1), R0⟩
  rw [if_neg c1, if_pos rfl] at hx
  have hm := fun S' => (hm S').trans (if_neg c1)
  by_cases c2 : f_X5_isBelow x2 (nI n) = 0
  · rw [if_pos c2] at hx
    refine ⟨-12, S, O, μ, hx, ?_, R0⟩
    rw [Wd_M lm]
    exact (hm S).trans (if_pos c2)
  rw [if_neg c2] at hx
  have hm := fun S' => (hm S').trans (if_neg c2)
  obtain ⟨i, hi, rfl⟩ := bel_k (show n < 2 ^ 31 by omega) c2
  have e40 : (40 : Int32) * nI s + nI i = nI (40 * s + i) := by rw [show (40 : Int32) = nI 40 from rfl, pk_mul, nI_add]
  have hxa : ∀ v, sI (memX b S (memM m O μ)) (b + (77 + 2 * s + 1)) (nI i) v = some (memX b (sxA S (77 + 2 * s + 1) (upd (S.2.1 (77 + 2 * s + 1)) i v)) (memM m O μ)) := fun v => by
    rw [sI_X (by omega) (so_arr hso), if_neg (nI_in (show i < 40 by omega) (by decide)), nI_clamp (by omega)]
  have hma : ∀ (S' : XS) v, sI (memM m O (memX b S' μ)) (m + (13 + 1)) (nI (40 * s + i)) v = some (memM m (smA O 14 (upd (O.2 14) (40 * s + i) v)) (memX b S' μ)) := fun S' v => sM 13 (by decide) (40 * s + i) (by show _ < 160; omega) (by omega) v
  have ex : f_X5_cell b (nI s) (nI i) x3 (Wd b m S O μ) = some (1, Wd b m (sxA S (77 + 2 * s + 1) (upd (S.2.1 (77 + 2 * s + 1)) i (cellV (S.1 (77 + 2 * s) 1) x3))) O μ) := by
    rw [hx, Wd, f_X3_become.eq_1, gR_S hso, Option.bind_some, gI_S hso 1 (by omega), Option.bind_some, cellV]
    by_cases d : S.1 (77 + 2 * s) 1 = 0
    · rw [if_pos d, if_pos d, f_X3_become_31.eq_1, hxa, Option.bind_some, Option.bind_some]
      rfl
    · rw [if_neg d, if_neg d, Option.bind_some]
      simp only [vl]
      rw [f_X3_become_31.eq_1, hxa, Option.bind_some, Option.bind_some]
      rfl
  have em : ∀ S', f_X6_cell m (nI s) (nI i) x3 (Wd b m S' O μ) = some (1, Wd b m S' (smA O 14 (upd (O.2 14) (40 * s + i) (cellV (S.1 (77 + 2 * s) 1) x3))) μ) := fun S' => by
    rw [Wd_M lm, hm S', cellV, e40, Wd_M lm]
    by_cases d : S.1 (77 + 2 * s) 1 = 0
    · rw [if_pos d, if_pos d, f_X6_cell_84.eq_1, hma, Option.bind_some]
    · rw [if_neg d, if_neg d]
      simp only [vl]
      rw [f_X6_cell_84.eq_1, hma, Option.bind_some]
  generalize hv : cellV (S.1 (77 + 2 * s) 1) x3 = v at ex em
  refine ⟨1, _, _, μ, ex, em _, tc, r, T, Q, R.sh hso (shS.a S _ _) (shO.a O _ (by omega)) (RSh.one hs R.2.2.2.2.2.1 (shS.a S _ _) (fun k _ => by simp [smA, va_up]) (fun k _ => by simp [smA, va_up]) (fun k hk => ?_) ⟨?_, ?_, ?_, ?_, fun k hk => ?_⟩)⟩
  · rw [smA_at, if_pos rfl, upd_at, if_neg (by omega)]
  · simp [smA, va_up, sxA]; exact a1
  · simp [smA, va_up, sxA]; exact a2
  · exact ⟨n, hn, en⟩
  · exact a4
  · rw [smA_at, if_pos rfl, upd_at]
    rw [show (sxA S (77 + 2 * s + 1) (upd (S.2.1 (77 + 2 * s + 1)) i v)).2.1 (77 + 2 * s + 1) = upd (S.2.1 (77 + 2 * s + 1)) i v from up_eq _ _ _, upd_at]
    by_cases c : k = i
    · rw [if_pos (by omega), if_pos c]
    · rw [if_neg (by omega), if_neg c]; exact a5 k hk
/-- which are moved before the k-th -/
theorem m_copyL {n A B : Nat} (hA : A + n ≤ 160) (hB : B + n ≤ 160) (c : Nat → Int32) : ∀ d j q O, j + d = n → d < q → (∀ y, O.2 14 y = if (∃ x, x < n ∧ y = B + x ∧ (if B ≤ A then x < j else n ≤ x + j)) then c (A + (y - B)) else c y) → ∃ O', f_X6_copy_147 q m (nI n) (nI A) (nI B) (nI j) (memM m O μ) = some (nI n, memM m O' μ) ∧ O'.1 = O.1 ∧ (∀ i, i ≠ 14 → O'.2 i = O.2 i) ∧ ∀ y, O'.2 14 y = if B ≤ y ∧ y < B + n then c (A + (y - B)) else c y := by
  intro d
  induction d with
  | zero =>
    intro j q O hj hq hc
    obtain ⟨q, rfl⟩ : ∃ z, q = z + 1 := ⟨q - 1, by omega⟩
    have : j = n := by omega
    subst this
    refine ⟨O, by rw [f_X6_copy_147.eq_2, if_pos (nI_le (Nat.le_refl _) (by omega))], rfl, fun _ _ => rfl, fun y => ?_⟩
    rw [hc y]
    by_cases e : B ≤ y ∧ y < B + j
    · rw [if_pos e, if_pos ⟨y - B, by omega, by omega, by split <;> omega⟩]
    · rw [if_neg e, if_neg]
      rintro ⟨x, h1, h2, _⟩
      omega
  | succ d ih =>
    intro j q O hj hq hc
    obtain ⟨q, rfl⟩ : ∃ z, q = z + 1 := ⟨q - 1, by omega⟩
    -- the number moved now
    obtain ⟨x, hx, ex, exn⟩ : ∃ x, x < n ∧ (if nI B ≤ nI A then nI j else nI n - 1 - nI j) = nI x ∧ (if B ≤ A then x = j else x + j + 1 = n) := by
      by_cases cb : B ≤ A
      · exact ⟨j, by omega, by rw [if_pos (nI_le cb (by omega))], by rw [if_pos cb]⟩
      · refine ⟨n - 1 - j, by omega, ?_, by rw [if_neg cb]; omega⟩
        rw [if_neg (nI_ge (by omega) (by omega)), show (1 : Int32) = nI 1 from rfl, pk_sub (show 1 ≤ n by omega), pk_sub (show j ≤ n - 1 by omega)]
    have src : O.2 14 (A + x) = c (A + x) := by
      rw [hc (A + x), if_neg]
      rintro ⟨x', h1, h2, h3⟩
      split at exn <;> rename_i cb
      · rw [if_pos cb] at h3; omega
      · rw [if_neg cb] at h3; omega
    obtain ⟨O', e1, e2, e3, e4⟩ := ih (j + 1) q (smA O 14 (upd (O.2 14) (B + x) (c (A + x)))) (by omega) (by omega) (fun y => by
      rw [smA_at, if_pos rfl, upd_at]
      by_cases ey : y = B + x
      · rw [if_pos ey, if_pos ⟨x, hx, ey, by by_cases cb : B ≤ A <;> simp only [cb, if_true, if_false] at exn ⊢ <;> omega⟩]
        exact congrArg c (by omega)
      · rw [if_neg ey, hc y]
        by_cases e : ∃ x', x' < n ∧ y = B + x' ∧ (if B ≤ A then x' < j else n ≤ x' + j)
        · rw [if_pos e]
          obtain ⟨x', h1, h2, h3⟩ := e
          rw [if_pos ⟨x', h1, h2, by by_cases cb : B ≤ A <;> simp only [cb, if_true, if_false] at h3 ⊢ <;> omega⟩]
        · rw [if_neg e, if_neg]
          rintro ⟨x', h1, h2, h3⟩
          apply e
          refine ⟨x', h1, h2, ?_⟩
          split at h3 <;> rename_i cb
          · rw [if_pos cb] at exn ⊢; omega
          · rw [if_neg cb] at exn ⊢; omega)
    refine ⟨O', ?_, e2, fun i hi => (e3 i hi).trans (up_ne _ _ hi), e4⟩
    rw [f_X6_copy_147.eq_2, if_neg (nI_ge (by omega) (by omega))]
    simp only [vl]
    rw [ex, mR_20, Option.bind_some, Option.bind_some, nI_add, nI_add, aM 13 (by decide) (A + x) (by show _ < 160; omega) (by omega), Option.bind_some, show O.2 (13 + 1) (A + x) = c (A + x) from src, sM 13 (by decide) (B + x) (by show _ < 160; omega) (by omega), Option.bind_some, nI_1]
    exact e1
theorem k_copy (x1 x2 x3 x4 x5 : Int32) : Call b m (f_X5_copy b x1 x2 x3 x4 x5) (f_X6_copy m x1 x2 x3 x4 x5) := by
  intro S O μ R
  have R0 := R
  obtain ⟨tc, r, T, Q, R⟩ := R
  have lm := R.lm
  have hx : f_X5_copy b x1 x2 x3 x4 x5 (Wd b m S O μ) = _ := f_X5_copy.eq_1 _ _ _ _ _ _ _
  have hm : ∀ S', f_X6_copy m x1 x2 x3 x4 x5 (Wd b m S' O μ) = _ := fun S' => f_X6_copy.eq_1 _ _ _ _ _ _ _
  simp only [i_4] at hm
  by_cases q : f_X5_isBelow x1 4 = 0
  · rw [if_pos q] at hx
    exact ⟨-2, S, O, μ, hx, (hm S).trans (if_pos q), R0⟩
  rw [if_neg q] at hx
  have hm := fun S' => (hm S').trans (if_neg q)
  by_cases q2 : f_X5_isBelow x3 4 = 0
  · rw [if_pos q2] at hx
    exact ⟨-2, S, O, μ, hx, (hm S).trans (if_pos q2), R0⟩
  rw [if_neg q2] at hx
  have hm := fun S' => (hm S').trans (if_neg q2)
  obtain ⟨s, hs, rfl⟩ := b_4 x1 q
  obtain ⟨o, ho, rfl⟩ := b_4 x3 q2
  have hso : so (77 + 2 * s) := so_of hs
  have hsp : so (77 + 2 * o) := so_of ho
  have hl := so_lt hso
  have hl2 := so_lt hsp
  obtain ⟨a1, a2, ⟨n, hn, en⟩, a4, a5⟩ := R.2.2.2.2.2.1 s hs
  obtain ⟨d1, d2, ⟨k, hk, ek⟩, d4, d5⟩ := R.2.2.2.2.2.1 o ho
  have m12 : ∀ (S' : XS) {s}, s < 4 → aI (memM m O (memX b S' μ)) (m + (11 + 1)) (nI s) = some (O.2 12 s) := fun S' {s} hs => aM 11 (by decide) s (by show _ < 4; omega) (by omega)
  have m13 : ∀ (S' : XS) {s}, s < 4 → aI (memM m O (memX b S' μ)) (m + (12 + 1)) (nI s) = some (O.2 13 s) := fun S' {s} hs => aM 12 (by decide) s (by show _ < 4; omega) (by omega)
  rw [Wd] at hx
  simp only [h2X, Option.bind_some, aRS hs, aRS ho, isO_S hso, isO_S hsp, x_miss hso, x_miss hsp, gI_S hso 1 (Or.inl rfl), gI_S hsp 1 (Or.inl rfl), x_hasS hso hn en, x_hasS hsp hk ek, gR_S hso, gR_S hsp, if_true] at hx
  rw [← Wd] at hx
  simp only [Wd_M lm, mR_18, mR_19, mR_20, Option.bind_some, m12 _ hs, m12 _ ho, m13 _ hs, m13 _ ho, a1, a2, d1, d2, en, ek] at hm
  have refuse : ∀ v, f_X5_copy b (nI s) x2 (nI o) x4 x5 (Wd b m S O μ) = some (v, Wd b m S O μ) → f_X6_copy m (nI s) x2 (nI o) x4 x5 (memM m O (memX b S μ)) = some (v, memM m O (memX b S μ)) → ∃ v S' O' μ', f_X5_copy b (nI s) x2 (nI o) x4 x5 (Wd b m S O μ) = some (v, Wd b m S' O μ') ∧ f_X6_copy m (nI s) x2 (nI o) x4 x5 (Wd b m S' O μ') = some (v, Wd b m S' O' μ') ∧ Rlw b m S' O' μ' := fun v e1 e2 => ⟨v, S, O, μ, e1, by rw [Wd_M lm]; exact e2, R0⟩
  by_cases c1 : S.1 (77 + 2 * s) 1 = -1
  · rw [if_pos c1, if_neg (by decide)] at hx
    exact refuse (-11) hx ((hm S).trans (if_pos c1))
  rw [if_neg c1, if_pos rfl] at hx
  have hm := fun S' => (hm S').trans (if_neg c1)
  by_cases c2 : S.1 (77 + 2 * o) 1 = -1
  · rw [if_pos c2, if_neg (by decide)] at hx
    exact refuse (-11) hx ((hm S).trans (if_pos c2))
  rw [if_neg c2, if_pos rfl] at hx
  have hm := fun S' => (hm S').trans (if_neg c2)
  by_cases c3 : S.1 (77 + 2 * s) 1 = S.1 (77 + 2 * o) 1
  · rw [if_pos c3] at hx
    have hm := fun S' => (hm S').trans (if_pos c3)
    by_cases c5 : x5 < 0
    · refine refuse (-12) ?_ ((hm S).trans (if_pos c5))
      rw [hx, if_pos c5]
      split <;> rfl
    have hm := fun S' => (hm S').trans (if_neg c5)
    by_cases c6 : x2 < 0
    · rw [if_pos c6, if_pos rfl] at hx
      exact refuse (-12) hx ((hm S).trans (if_pos c6))
    rw [if_neg c6, if_neg c5] at hx
    have hm := fun S' => (hm S').trans (if_neg c6)
    obtain ⟨i, hi, rfl⟩ := nI_of c6
    obtain ⟨l, hll, rfl⟩ := nI_of c5
    rw [nI_clamp hi, nI_clamp hll] at hx
    by_cases c7 : x4 < 0
    · refine refuse (-12) ?_ ((hm S).trans (if_pos c7))
      rw [hx, if_pos c7]
      split <;> rfl
    rw [if_neg c7, if_neg c5] at hx
    have hm := fun S' => (hm S').trans (if_neg c7)
    obtain ⟨j, hj, rfl⟩ := nI_of c7
    rw [nI_clamp hj] at hx
    by_cases c8 : n < i + l
    · rw [if_pos c8, if_pos rfl] at hx
      refine refuse (-12) hx ((hm S).trans ?_)
      by_cases e1 : n < i
      · rw [if_pos (nI_lt e1 hi)]
      rw [if_neg (nI_nlt (by omega) (by omega))]
      by_cases e2 : k < j
      · rw [if_pos (nI_lt e2 hj)]
      rw [if_neg (nI_nlt (by omega) (by omega)), pk_sub (by omega), if_pos (nI_lt (by omega) hll)]
    rw [if_neg c8, if_neg (by decide)] at hx
    have hm := fun S' => (hm S').trans (if_neg (nI_nlt (show i ≤ n by omega) (by omega)))
    by_cases c9 : k < j + l
    · rw [if_pos c9, if_pos rfl] at hx
      refine refuse (-12) hx ((hm S).trans ?_)
      by_cases e2 : k < j
      · rw [if_pos (nI_lt e2 hj)]
      rw [if_neg (nI_nlt (by omega) (by omega)), pk_sub (show i ≤ n by omega), if_neg (nI_nlt (show l ≤ n - i by omega) (by omega)), pk_sub (by omega), if_neg (nI_ge (by omega) (by omega))]
    rw [if_neg c9, if_neg (by decide), Wd, cP_X (by omega) (so_arr hso) (by omega) (so_arr hsp), nI_clamp hi, nI_clamp hj, nI_clamp hll, if_neg (by simp only [not_or]; exact ⟨c6, c7, c5, by omega, by omega⟩), Option.bind_some, ← Wd, ← Wd] at hx
    have hm := fun S' => (hm S').trans (if_neg (nI_nlt (show j ≤ k by omega) (by omega)))
    have e40 : ∀ s i : Nat, (40 : Int32) * nI s + nI i = nI (40 * s + i) := fun s i => by rw [show (40 : Int32) = nI 40 from rfl, pk_mul, nI_add]
    obtain ⟨O', f1, f2, f3, f4⟩ := m_copyL (m := m) (μ := memX b (sxA S (77 + 2 * o + 1) (va_cpy (S.2.1 (77 + 2 * s + 1)) (S.2.1 (77 + 2 * o + 1)) i j l)) μ) (n := l) (A := 40 * s + i) (B := 40 * o + j) (by omega) (by omega) (O.2 14) l 0 fU O (by omega) (fU_lt (by omega)) (fun y => by
      rw [if_neg]
      rintro ⟨x, h1, h2, h3⟩
      split at h3 <;> omega)
    refine ⟨nI l, _, O', μ, hx, ?_, tc, r, T, Q, R.sh hsp (shS.a S _ _) ⟨f2, fun j hj => f3 j (by omega)⟩ (RSh.one ho R.2.2.2.2.2.1 (shS.a S _ _) (fun k _ => by rw [f3 12 (by decide)]) (fun k _ => by rw [f3 13 (by decide)]) (fun y hy => ?_) ⟨?_, ?_, ?_, ?_, fun y hy => ?_⟩)⟩
    · rw [Wd_M lm, hm, pk_sub (show i ≤ n by omega), if_neg (nI_nlt (show l ≤ n - i by omega) (by omega)), pk_sub (show j ≤ k by omega), if_pos (nI_le (show l ≤ k - j by omega) (by omega))]
      simp only [vl]
      rw [e40, e40, Wd_M lm]
      exact f1
    · rw [f4 y, if_neg (by omega)]
    · rw [f3 12 (by decide)]; exact d1
    · rw [f3 13 (by decide)]; exact d2
    · exact ⟨k, hk, ek⟩
    · exact d4
    · rw [show (sxA S (77 + 2 * o + 1) (va_cpy (S.2.1 (77 + 2 * s + 1)) (S.2.1 (77 + 2 * o + 1)) i j l)).2.1 (77 + 2 * o + 1) = va_cpy (S.2.1 (77 + 2 * s + 1)) (S.2.1 (77 + 2 * o + 1)) i j l from up_eq _ _ _, f4]
      by_cases e : j ≤ y ∧ y < j + l
      · rw [if_pos (by omega), pk_cpy_in e.1 e.2, ← a5 (i + (y - j)) (by omega)]
        exact congrArg (O.2 14) (by omega)
      · rw [if_neg (by omega), pk_cpy_out (by omega)]
        exact d5 y hy
  · rw [if_neg c3] at hx
    exact refuse (-13) hx ((hm S).trans (if_neg c3))
end CP
