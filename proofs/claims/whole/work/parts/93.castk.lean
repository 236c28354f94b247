/-! cast: both sides. -/
section CK
variable {b m : Nat} {S S' : XS} {O O' : MS} {μ : mS} {Z Y W : Zt} {L : Lw}
theorem rowsP_mem {α : Type} {f : Nat → List α} {x : α} : ∀ m p, x ∈ rowsP f m p → ∃ i, i < m ∧ x ∈ f (p + i) := by
  intro m
  induction m with
  | zero => intro p h; rw [rowsP] at h; cases h
  | succ m ih =>
    intro p h
    rw [rowsP, List.mem_append] at h
    rcases h with h | h
    · exact ⟨0, by omega, h⟩
    · obtain ⟨i, h1, h2⟩ := ih (p + 1) h
      exact ⟨i + 1, by omega, by rw [show p + (i + 1) = p + 1 + i by omega]; exact h2⟩
theorem rowsD_dg (L : Lw) (w : Nat) : ∀ d u k W x, x ∈ rowsD L w d u (nI k) W → ∃ k', x.1 = nI k' ∧ k' < (k + 1) * 10 ^ d := by
  intro d
  induction d with
  | zero =>
    intro u k W x h
    rw [rowsD, List.mem_singleton] at h
    exact ⟨k, by rw [h], by omega⟩
  | succ d ih =>
    intro u k W x h
    have h10 : 0 < 10 ^ d := Nat.pow_pos (by omega)
    have e10 : (10 : Nat) ^ (d + 1) = 10 * 10 ^ d := by rw [Nat.pow_succ, Nat.mul_comm]
    rw [rowsD, List.mem_cons] at h
    rcases h with h | h
    · refine ⟨k, by rw [h], ?_⟩
      rw [e10]
      calc k < (k + 1) * 1 := by omega
        _ ≤ (k + 1) * (10 * 10 ^ d) := Nat.mul_le_mul_left _ (by omega)
    · obtain ⟨i, hi, h2⟩ := rowsP_mem 6 0 h
      split at h2
      · have e : dgR (nI k) (0 + i) = nI (10 * k + i + 1) := by
          rw [dgR, show (10 : Int32) = nI 10 from rfl, pk_mul, nI_add, nI_1, Nat.zero_add]
        rw [e] at h2
        obtain ⟨k', h3, h4⟩ := ih _ _ _ _ h2
        refine ⟨k', h3, Nat.lt_of_lt_of_le h4 ?_⟩
        rw [e10, ← Nat.mul_assoc]
        exact Nat.mul_le_mul_right _ (by omega)
      · cases h2
theorem fold_eq (L : Lw) : ∀ (xs : List (Int32 × Zt)) (a : Int32 × Int32), a.1 ≠ -1 → (∀ x ∈ xs, x.1 ≠ -1) → xs.foldl (beM L) a = xs.foldl (beR L) a := by
  intro xs
  induction xs with
  | nil => intro a _ _; rfl
  | cons x xs ih =>
    intro a ha hx
    have e : beM L a x = beR L a x := by
      unfold beM beR
      by_cases c : vaR L x.2 ≤ a.2
      · rw [if_pos c, if_neg (fun z => Or.elim z ha (fun y => y c))]
      · rw [if_neg c, if_pos (Or.inr c)]
    rw [List.foldl_cons, List.foldl_cons, e]
    refine ih _ ?_ (fun y hy => hx y (List.mem_cons_of_mem _ hy))
    unfold beR
    split
    · exact ha
    · exact hx x List.mem_cons_self
theorem rows_head (L : Lw) (w d : Nat) (W : Zt) : ∃ xs, rowsD L w d 0 0 W = (0, W) :: xs := by
  cases d with
  | zero => exact ⟨[], rfl⟩
  | succ d => exact ⟨_, rfl⟩
theorem k_cast (x1 x2 : Int32) : Call b m (f_X5_cast b x1 x2) (f_X6_cast m x1 x2) := by
  intro S O μ R0
  have RR := R0
  obtain ⟨tc, r, T, Q, R⟩ := R0
  have lm := R.lm
  by_cases q : f_X5_isBelow x1 4 = 0
  · exact ⟨-5000, S, O, μ, by rw [f_X5_cast.eq_1, if_pos q], by rw [f_X6_cast.eq_1, i_4, if_pos q], RR⟩
  by_cases q2 : f_X5_isBelow x2 2 = 0
  · exact ⟨-5000, S, O, μ, by rw [f_X5_cast.eq_1, if_neg q, if_pos q2], by rw [f_X6_cast.eq_1, i_4, if_neg q, i_2, if_pos q2], RR⟩
  obtain ⟨n, hn, rfl⟩ := b_4 x1 q
  obtain ⟨t, ht, et⟩ := R.h
  have hg := R.g
  -- the class
  have d1 : dfS 44 S (sxI (sxI S 0 9 0) 0 10 (-2147483648)) := (dfS.i S 44 0 (Or.inl rfl)).tr (dfS.i _ 44 _ (Or.inr rfl))
  obtain ⟨S', e1, e2, e3⟩ := x_try (b := b) (μm := memM m O μ) (L := T r) (S0 := S) (q0 := S.2.2.1 11) (w := wN (zof S 11)) (n := n) hg.w6 (by omega) ⟨O, R.lr (keepO.rf O)⟩ (fun S' o hz hs hq => R.lx hz hs hq O) n 0 5 (by omega) (by omega) (sxI (sxI S 0 9 0) 0 10 (-2147483648)) 0 0 (zof S 11) t d1.1 (zEq.rf _) rfl hg rfl et (by omega)
  have d2 : dfS 44 S S' := d1.tr e2
  obtain ⟨t1, t2⟩ := d2.th
  obtain ⟨xs, hxs⟩ := rows_head (T r) (wN (zof S 11)) n (zof S 11)
  obtain ⟨v1, v2⟩ := ver_rng (gZ_hN (L := T r) hg 12) (hN (T r) (zof S 11) 12 10 0)
  have hv : ¬ vaR (T r) (zof S 11) ≤ -2147483648 := by
    intro z
    have := Int32.le_iff_toInt_le.mp z
    have em : ((-2147483648 : Int32)).toInt = -2147483648 := by decide
    have ev : (vaR (T r) (zof S 11)).toInt = (wtA (hN (T r) (zof S 11) 12 0) (hN (T r) (zof S 11) 12 10 0) 10).toInt := rfl
    omega
  have i0 : ((sxI (sxI S 0 9 0) 0 10 (-2147483648)).1 0 9, (sxI (sxI S 0 9 0) 0 10 (-2147483648)).1 0 10) = ((0 : Int32), (-2147483648 : Int32)) := by simp [sxI, va_up, upd]
  have hb0 : beR (T r) (0, -2147483648) (0, zof S 11) = (0, vaR (T r) (zof S 11)) := if_neg hv
  have hm0 : beM (T r) (-1, 0) (0, zof S 11) = (0, vaR (T r) (zof S 11)) := if_pos (Or.inl rfl)
  have fe : (rowsD (T r) (wN (zof S 11)) n 0 0 (zof S 11)).foldl (beM (T r)) (-1, 0) = (S'.1 0 9, S'.1 0 10) := by
    rw [e3, i0, hxs, List.foldl_cons, List.foldl_cons, hb0, hm0]
    refine fold_eq _ xs _ (show (0 : Int32) ≠ -1 by decide) (fun x hx => ?_)
    obtain ⟨k', h1, h2⟩ := rowsD_dg (T r) (wN (zof S 11)) n 0 0 (zof S 11) x (by
      rw [show nI 0 = (0 : Int32) from rfl, hxs]
      exact List.mem_cons_of_mem _ hx)
    rw [h1]
    have : (10 : Nat) ^ n ≤ 1000 := by
      have : n = 0 ∨ n = 1 ∨ n = 2 ∨ n = 3 := by omega
      rcases this with rfl | rfl | rfl | rfl <;> decide
    exact neg1_ne (by omega)
  -- the reference
  obtain ⟨O', f1, f2, f3⟩ := m_cast (m := m) (L := T r) hg R.z (R.lr (keepO.rf O)) et ht (n := n) (by omega) x2 (memX b S' μ)
  rw [fe] at f1
  refine ⟨if x2 = 0 then S'.1 0 9 else S'.1 0 10, S', O', μ, ?_, ?_, R.th t1 t2 f2 f3⟩
  · rw [f_X5_cast.eq_1, if_neg q, if_neg q2, Wd, pI_H 9 (by omega), Option.bind_some, pI_H 10 (by omega), Option.bind_some, if_pos isO_H, show f_X5_tryRow 5 b 0 (nI n) 0 0 (memX b (sxI (sxI S 0 9 0) 0 10 (-2147483648)) (memM m O μ)) = some (memX b S' (memM m O μ)) from e1, Option.bind_some]
    by_cases c : x2 = 0
    · rw [if_pos c, if_pos c, gI_H 9 (by omega), Option.bind_some]
      rfl
    · rw [if_neg c, if_neg c, gI_H 10 (by omega), Option.bind_some]
      rfl
  · have en : (if nI n = 0 then (1 : Int32) else if nI n = (1 : Int32) then (7 : Int32) else if nI n = (2 : Int32) then (49 : Int32) else (343 : Int32)) = nI (7 ^ n) := by
      have : n = 0 ∨ n = 1 ∨ n = 2 ∨ n = 3 := by omega
      rcases this with rfl | rfl | rfl | rfl <;> decide
    rw [Wd_M lm, f_X6_cast.eq_1, i_4, if_neg q, i_2, if_neg q2, en, vl_eq, if_pos isO_M, f1, Wd_M lm]
end CK
