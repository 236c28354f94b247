/-! The reference's texts: the same lists, in its own signs. -/
def cvt (op : Int32) : Int32 := if 0 ≤ op then op + 100000 else if -6 ≤ op then -1 - op else if op = -7 then 19 else if op = -8 then 13 else if op = -9 then 16 else if op = -10 then 17 else if op = -11 then 18 else if op = -12 then 14 else if op = -13 then 15 else if op = -14 then 12 else 11
def okOp (op : Int32) : Prop := (∃ k, k ≤ 9999 ∧ op = nI k) ∨ op = -1 ∨ op = -2 ∨ op = -3 ∨ op = -4 ∨ op = -5 ∨ op = -6 ∨ op = -7 ∨ op = -8 ∨ op = -9 ∨ op = -10 ∨ op = -11 ∨ op = -12 ∨ op = -13 ∨ op = -14 ∨ op = -15
def LawM (O : MS) (t : Nat) (code : Nat → Int32) (n wt dp : Nat) : Prop := t < 6 ∧ n ≤ 160 ∧ wt ≤ dp ∧ dp ≤ n ∧ O.2 9 (4 * t) = nI 0 ∧ O.2 9 (4 * t + 1) = nI wt ∧ O.2 9 (4 * t + 2) = nI dp ∧ O.2 9 (4 * t + 3) = nI n ∧ ∀ k, k < n → O.2 8 (200 * t + k) = cvt (code k) ∧ okOp (code k)
theorem LawM.k {O O' : MS} {t n wt dp : Nat} {code : Nat → Int32} (h8 : O'.2 8 = O.2 8) (h9 : O'.2 9 = O.2 9) (h : LawM O t code n wt dp) : LawM O' t code n wt dp := by
  unfold LawM
  rw [h8, h9]
  exact h
theorem two_joined {op : Int32} (h : op = -9 ∨ op = -10 ∨ op = -11 ∨ op = -12 ∨ op = -13 ∨ op = -14 ∨ op = -15) (x y : Int32) : f_X6_two (cvt op) x y = f_X2_joined op x y := by
  rcases h with rfl | rfl | rfl | rfl | rfl | rfl | rfl
  · rw [show cvt (-9) = 16 by decide, f_X6_two.eq_1, f_X2_joined.eq_1]; rfl
  · rw [show cvt (-10) = 17 by decide, f_X6_two.eq_1, f_X2_joined.eq_1]; rfl
  · rw [show cvt (-11) = 18 by decide, f_X6_two.eq_1, f_X2_joined.eq_1]; rfl
  · rw [show cvt (-12) = 14 by decide, f_X6_two.eq_1, f_X2_joined.eq_1]
    by_cases c : y ≤ x
    · simp [c, vl, f_X2_truth]
    · simp [c, vl, f_X2_truth]
  · rw [show cvt (-13) = 15 by decide, f_X6_two.eq_1, f_X2_joined.eq_1]
    by_cases c : x = y
    · simp [c, vl, f_X2_truth]
    · simp [c, vl, f_X2_truth]
  · rw [show cvt (-14) = 12 by decide, f_X6_two.eq_1, f_X2_joined.eq_1]
    by_cases c : x = 0 <;> by_cases c2 : y = 0 <;> simp [c, c2, vl, f_X2_truth]
  · rw [show cvt (-15) = 11 by decide, f_X6_two.eq_1, f_X2_joined.eq_1]
    by_cases c : x = 0 <;> by_cases c2 : y = 0 <;> simp [c, c2, vl, f_X2_truth]
theorem le_100000 (j : Nat) (h : j < 100000) : (100000 : Int32) ≤ nI (j + 100000) := nI_le (a := 100000) (by omega) (by omega)
theorem le_11 (j : Nat) (h : j < 100000) : (11 : Int32) ≤ nI (j + 100000) := nI_le (a := 11) (by omega) (by omega)
theorem sub_100000 (j : Nat) : nI (j + 100000) - (100000 : Int32) = nI j := by
  have h : nI (j + 100000) - nI 100000 = nI j := by rw [pk_sub (show 100000 ≤ j + 100000 by omega), Nat.add_sub_cancel]
  exact h
section MSY
variable {m : Nat} {μ : mS}
theorem m_says_loop {t n wt dp to part : Nat} {code : Nat → Int32} (nm : Int32 → Int32) (w : Int32) (hp : part < 3) (hto : to ≤ n) :
    ∀ mm k sz f (O : MS), k + mm = to → mm < f → sz + mm ≤ 200 → LawM O t code n wt dp → O.1 14 = nI t → O.2 9 (4 * t + part + 1) = nI to →
      (O.2 19 0 = nm (-1) ∧ O.2 19 1 = nm (-2) ∧ O.2 19 2 = nm (-3) ∧ O.2 19 3 = nm (-4) ∧ O.2 19 4 = nm (-5) ∧ O.2 19 5 = nm (-6)) →
      evL nm (sl code k mm) (stk (O.2 18) sz) = some [w] → ∃ O', f_X6_says_16 f m (nI part) (nI sz) (nI k) (memM m O μ) = some (w, memM m O' μ) ∧ mk18 O O' := by
  intro mm
  induction mm with
  | zero =>
    intro k sz f O hk hf hs hL ht hto2 hnm he
    obtain ⟨f, rfl⟩ : ∃ q, f = q + 1 := ⟨f - 1, by omega⟩
    have hk2 : k = to := by omega
    subst hk2
    have he2 : stk (O.2 18) sz = [w] := Option.some.inj he
    have hsz : sz = 1 := by have := congrArg List.length he2; rw [stk_len] at this; simpa using this
    subst hsz
    have h0 : O.2 18 0 = w := by simp only [stk] at he2; exact (List.cons.inj he2).1
    have ht6 := hL.1
    have hn160 := hL.2.1
    have i1 : (((4 : Int32) * nI t) + nI part) + 1 = nI (4 * t + part + 1) := by rw [show (4 : Int32) = nI 4 from rfl, pk_mul, nI_add, nI_1]
    refine ⟨O, ?_, mk18.rf O⟩
    rw [f_X6_says_16.eq_2, mR_12, Option.bind_some, mI_14, Option.bind_some, ht, i1, aM 8 (by omega) (4 * t + part + 1) (by show _ < 24; omega) (by omega), Option.bind_some, hto2, if_pos (nI_le (Nat.le_refl k) (by omega)), mR_31, Option.bind_some, show (0 : Int32) = nI 0 from rfl, aM 17 (by omega) 0 (by show _ < 200; omega) (by omega), Option.bind_some, h0]
  | succ mm ih =>
    intro k sz f O hk hf hs hL ht hto2 hnm he
    obtain ⟨f, rfl⟩ : ∃ q, f = q + 1 := ⟨f - 1, by omega⟩
    have ht6 := hL.1
    have hn160 := hL.2.1
    have i1 : (((4 : Int32) * nI t) + nI part) + 1 = nI (4 * t + part + 1) := by rw [show (4 : Int32) = nI 4 from rfl, pk_mul, nI_add, nI_1]
    have i2 : ((200 : Int32) * nI t) + nI k = nI (200 * t + k) := by rw [show (200 : Int32) = nI 200 from rfl, pk_mul, nI_add]
    obtain ⟨hc, hop⟩ := hL.2.2.2.2.2.2.2.2 k (by omega)
    rw [f_X6_says_16.eq_2, mR_12, Option.bind_some, mI_14, Option.bind_some, ht, i1, aM 8 (by omega) (4 * t + part + 1) (by show _ < 24; omega) (by omega), Option.bind_some, hto2, if_neg (nI_ge (by omega) (by omega)), mR_11, Option.bind_some, Option.bind_some, i2, aM 7 (by omega) (200 * t + k) (by show _ < 1200; omega) (by omega), Option.bind_some, hc]
    simp only [sl, evL] at he
    -- what is pushed
    have push : ∀ v, evL nm (sl code (k + 1) mm) (v :: stk (O.2 18) sz) = some [w] → ∃ O', f_X6_says_93 (f_X6_says_16 f) m (nI part) (nI sz) (nI k) (m + (17 + 1)) (nI sz) v (memM m O μ) = some (w, memM m O' μ) ∧ mk18 O O' := by
      intro v hv
      obtain ⟨O', e1, e2⟩ := ih (k + 1) (sz + 1) f (smA O 18 (upd (O.2 18) sz v)) (by omega) (by omega) (by omega) (hL.k rfl rfl) ht hto2 hnm (by
        show evL nm _ (stk (upd (O.2 18) sz v) (sz + 1)) = _
        simp only [stk]
        rw [upd_eq, stk_upd (Nat.le_refl _)]
        exact hv)
      refine ⟨O', ?_, (mk18.s _ _).tr e2⟩
      rw [f_X6_says_93.eq_1, sM 17 (by omega) sz (by show _ < 200; omega) (by omega), Option.bind_some]
      simp only [vl]
      rw [nI_1, nI_1]
      exact e1
    -- goes on with the top of the stack changed
    have again : ∀ s v, evL nm (sl code (k + 1) mm) (v :: stk (O.2 18) s) = some [w] → s + 1 + (mm + 1) ≤ 200 → ∃ O', f_X6_says_16 f m (nI part) (nI (s + 1)) (nI k + 1) (memM m (smA O 18 (upd (O.2 18) s v)) μ) = some (w, memM m O' μ) ∧ mk18 O O' := by
      intro s v hv hs2
      obtain ⟨O', e1, e2⟩ := ih (k + 1) (s + 1) f (smA O 18 (upd (O.2 18) s v)) (by omega) (by omega) (by omega) (hL.k rfl rfl) ht hto2 hnm (by
        show evL nm _ (stk (upd (O.2 18) s v) (s + 1)) = _
        simp only [stk]
        rw [upd_eq, stk_upd (Nat.le_refl _)]
        exact hv)
      exact ⟨O', by rw [nI_1]; exact e1, (mk18.s _ _).tr e2⟩
    have both : ∀ op : Int32, (op = -9 ∨ op = -10 ∨ op = -11 ∨ op = -12 ∨ op = -13 ∨ op = -14 ∨ op = -15) → code k = op → (match stk (O.2 18) sz with
        | y :: x :: s => evL nm (sl code (k + 1) mm) (f_X2_joined op x y :: s)
        | _ => none) = some [w] → ∀ {cv : Int32}, cvt op = cv → ¬ (100000 : Int32) ≤ cv → (11 : Int32) ≤ cv → ¬ cv = 13 → ¬ cv = 19 → ∃ O', (if (100000 : Int32) ≤ cvt op then f_X6_says_66 (f_X6_says_16 f) m (nI part) (nI sz) (nI k) (cvt op) (memM m O μ) else if (11 : Int32) ≤ cvt op then (    if (cvt op) = (13 : Int32) then     (gR (memM m O μ) m 5 31).bind fun r77 =>     (gR (memM m O μ) m 5 31).bind fun r78 =>     (aI (memM m O μ) r78 ((nI sz) - (1 : Int32))).bind fun v79 =>     vl (if v79 = 0 then (1 : Int32) else (0 : Int32)) fun v81 =>     (sI (memM m O μ) r77 ((nI sz) - (1 : Int32)) v81).bind fun t82 =>     vl ((nI k) + (1 : Int32)) fun v83 =>     f_X6_says_16 f m (nI part) (nI sz) v83 t82     else     if (cvt op) = (19 : Int32) then     (gR (memM m O μ) m 5 31).bind fun r72 =>     (gR (memM m O μ) m 5 31).bind fun r73 =>     (aI (memM m O μ) r73 ((nI sz) - (1 : Int32))).bind fun v74 =>     (sI (memM m O μ) r72 ((nI sz) - (1 : Int32)) (-v74)).bind fun t75 =>     vl ((nI k) + (1 : Int32)) fun v76 =>     f_X6_says_16 f m (nI part) (nI sz) v76 t75     else     vl ((nI sz) + (-1 : Int32)) fun v64 =>     (gR (memM m O μ) m 5 31).bind fun r65 =>     (gR (memM m O μ) m 5 31).bind fun r66 =>     (aI (memM m O μ) r66 (v64 - (1 : Int32))).bind fun v67 =>     (gR (memM m O μ) m 5 31).bind fun r68 =>     (aI (memM m O μ) r68 v64).bind fun v69 =>     (sI (memM m O μ) r65 (v64 - (1 : Int32)) (f_X6_two (cvt op) v67 v69)).bind fun t70 =>     vl ((nI k) + (1 : Int32)) fun v71 =>     f_X6_says_16 f m (nI part) v64 v71 t70 ) else f_X6_says_66 (f_X6_says_16 f) m (nI part) (nI sz) (nI k) (cvt op) (memM m O μ)) = some (w, memM m O' μ) ∧ mk18 O O' := by
      intro op hop2 hck he2 cv hcv v1 v2 v3 v4
      match sz, hs, he2 with
      | 0, hs, he2 => simp only [stk] at he2; cases he2
      | 1, hs, he2 => simp only [stk] at he2; cases he2
      | s + 2, hs, he2 =>
        simp only [stk] at he2
        have i3 : nI (s + 2) + (-1 : Int32) = nI (s + 1) := pk_m1 (s + 1)
        have i4 : nI (s + 1) - 1 = nI s := nI_pred s
        obtain ⟨O', e1, e2⟩ := again s _ he2 (by omega)
        refine ⟨O', ?_, e2⟩
        rw [hcv, if_neg v1, if_pos v2, if_neg v3, if_neg v4]
        simp only [vl]
        rw [i3, mR_31, Option.bind_some, Option.bind_some, i4, aM 17 (by omega) s (by show _ < 200; omega) (by omega), Option.bind_some, Option.bind_some, aM 17 (by omega) (s + 1) (by show _ < 200; omega) (by omega), Option.bind_some, sM 17 (by omega) s (by show _ < 200; omega) (by omega), Option.bind_some, ← hcv, two_joined hop2]
        exact e1
    rcases hop with ⟨j, hj, hcj⟩ | hcj | hcj | hcj | hcj | hcj | hcj | hcj | hcj | hcj | hcj | hcj | hcj | hcj | hcj | hcj
    · have hcv : cvt (code k) = nI (j + 100000) := by rw [cvt, hcj, if_pos (nI_pos' (by omega)), show (100000 : Int32) = nI 100000 from rfl, nI_add]
      have c0 : ¬ code k < 0 := by rw [hcj]; exact nI_pos (by omega)
      have c6 : ¬ code k < -6 := fun q => c0 (Int32.lt_trans q (by decide))
      rw [if_neg c6, if_neg c0] at he
      obtain ⟨O', e1, e2⟩ := push _ he
      refine ⟨O', ?_, e2⟩
      rw [hcv, if_pos (le_100000 j (by omega)), f_X6_says_66.eq_1, mR_31, Option.bind_some, if_pos (le_11 j (by omega)), sub_100000 j, ← hcj]
      exact e1
    · rw [hcj] at he ⊢
      rw [if_neg (by decide), if_pos (by decide)] at he
      obtain ⟨O', e1, e2⟩ := push _ he
      refine ⟨O', ?_, e2⟩
      rw [show cvt (-1) = nI 0 by decide, if_neg (by decide), if_neg (by decide), f_X6_says_66.eq_1, mR_31, Option.bind_some, if_neg (by decide), mR_32, Option.bind_some, aM 18 (by omega) 0 (by decide) (by omega), Option.bind_some, show O.2 (18 + 1) 0 = nm (-1) from hnm.1]
      exact e1
    · rw [hcj] at he ⊢
      rw [if_neg (by decide), if_pos (by decide)] at he
      obtain ⟨O', e1, e2⟩ := push _ he
      refine ⟨O', ?_, e2⟩
      rw [show cvt (-2) = nI 1 by decide, if_neg (by decide), if_neg (by decide), f_X6_says_66.eq_1, mR_31, Option.bind_some, if_neg (by decide), mR_32, Option.bind_some, aM 18 (by omega) 1 (by decide) (by omega), Option.bind_some, show O.2 (18 + 1) 1 = nm (-2) from hnm.2.1]
      exact e1
    · rw [hcj] at he ⊢
      rw [if_neg (by decide), if_pos (by decide)] at he
      obtain ⟨O', e1, e2⟩ := push _ he
      refine ⟨O', ?_, e2⟩
      rw [show cvt (-3) = nI 2 by decide, if_neg (by decide), if_neg (by decide), f_X6_says_66.eq_1, mR_31, Option.bind_some, if_neg (by decide), mR_32, Option.bind_some, aM 18 (by omega) 2 (by decide) (by omega), Option.bind_some, show O.2 (18 + 1) 2 = nm (-3) from hnm.2.2.1]
      exact e1
    · rw [hcj] at he ⊢
      rw [if_neg (by decide), if_pos (by decide)] at he
      obtain ⟨O', e1, e2⟩ := push _ he
      refine ⟨O', ?_, e2⟩
      rw [show cvt (-4) = nI 3 by decide, if_neg (by decide), if_neg (by decide), f_X6_says_66.eq_1, mR_31, Option.bind_some, if_neg (by decide), mR_32, Option.bind_some, aM 18 (by omega) 3 (by decide) (by omega), Option.bind_some, show O.2 (18 + 1) 3 = nm (-4) from hnm.2.2.2.1]
      exact e1
    · rw [hcj] at he ⊢
      rw [if_neg (by decide), if_pos (by decide)] at he
      obtain ⟨O', e1, e2⟩ := push _ he
      refine ⟨O', ?_, e2⟩
      rw [show cvt (-5) = nI 4 by decide, if_neg (by decide), if_neg (by decide), f_X6_says_66.eq_1, mR_31, Option.bind_some, if_neg (by decide), mR_32, Option.bind_some, aM 18 (by omega) 4 (by decide) (by omega), Option.bind_some, show O.2 (18 + 1) 4 = nm (-5) from hnm.2.2.2.2.1]
      exact e1
    · rw [hcj] at he ⊢
      rw [if_neg (by decide), if_pos (by decide)] at he
      obtain ⟨O', e1, e2⟩ := push _ he
      refine ⟨O', ?_, e2⟩
      rw [show cvt (-6) = nI 5 by decide, if_neg (by decide), if_neg (by decide), f_X6_says_66.eq_1, mR_31, Option.bind_some, if_neg (by decide), mR_32, Option.bind_some, aM 18 (by omega) 5 (by decide) (by omega), Option.bind_some, show O.2 (18 + 1) 5 = nm (-6) from hnm.2.2.2.2.2]
      exact e1
    · rw [hcj] at he ⊢
      rw [if_pos (by decide), if_neg (by decide)] at he
      match sz, hs, he with
      | 0, hs, he => simp only [stk] at he; cases he
      | s + 1, hs, he =>
        simp only [stk] at he
        have i3 : nI (s + 1) - 1 = nI s := nI_pred s
        obtain ⟨O', e1, e2⟩ := again s (-O.2 18 s) (by rw [unS] at he; exact he) hs
        refine ⟨O', ?_, e2⟩
        rw [show cvt (-7) = 19 by decide, if_neg (by decide), if_pos (by decide), if_neg (by decide), if_pos rfl, mR_31, Option.bind_some, Option.bind_some, i3, aM 17 (by omega) s (by show _ < 200; omega) (by omega), Option.bind_some, sM 17 (by omega) s (by show _ < 200; omega) (by omega), Option.bind_some]
        simp only [vl]
        exact e1
    · rw [hcj] at he ⊢
      rw [if_pos (by decide), if_neg (by decide)] at he
      match sz, hs, he with
      | 0, hs, he => simp only [stk] at he; cases he
      | s + 1, hs, he =>
        simp only [stk] at he
        have i3 : nI (s + 1) - 1 = nI s := nI_pred s
        obtain ⟨O', e1, e2⟩ := again s (if O.2 18 s = 0 then 1 else 0) (by rw [unS] at he; exact he) hs
        refine ⟨O', ?_, e2⟩
        rw [show cvt (-8) = 13 by decide, if_neg (by decide), if_pos (by decide), if_pos rfl, mR_31, Option.bind_some, Option.bind_some, i3, aM 17 (by omega) s (by show _ < 200; omega) (by omega), Option.bind_some]
        simp only [vl]
        rw [sM 17 (by omega) s (by show _ < 200; omega) (by omega), Option.bind_some]
        exact e1
    · rw [hcj] at he ⊢
      exact both _ (by left; rfl) (by rw [hcj]) (by rw [if_pos (by decide), if_pos (by decide)] at he; exact he) (show cvt (-9) = 16 by decide) (by decide) (by decide) (by decide) (by decide)
    · rw [hcj] at he ⊢
      exact both _ (by right; left; rfl) (by rw [hcj]) (by rw [if_pos (by decide), if_pos (by decide)] at he; exact he) (show cvt (-10) = 17 by decide) (by decide) (by decide) (by decide) (by decide)
    · rw [hcj] at he ⊢
      exact both _ (by right; right; left; rfl) (by rw [hcj]) (by rw [if_pos (by decide), if_pos (by decide)] at he; exact he) (show cvt (-11) = 18 by decide) (by decide) (by decide) (by decide) (by decide)
    · rw [hcj] at he ⊢
      exact both _ (by right; right; right; left; rfl) (by rw [hcj]) (by rw [if_pos (by decide), if_pos (by decide)] at he; exact he) (show cvt (-12) = 14 by decide) (by decide) (by decide) (by decide) (by decide)
    · rw [hcj] at he ⊢
      exact both _ (by right; right; right; right; left; rfl) (by rw [hcj]) (by rw [if_pos (by decide), if_pos (by decide)] at he; exact he) (show cvt (-13) = 15 by decide) (by decide) (by decide) (by decide) (by decide)
    · rw [hcj] at he ⊢
      exact both _ (by right; right; right; right; right; left; rfl) (by rw [hcj]) (by rw [if_pos (by decide), if_pos (by decide)] at he; exact he) (show cvt (-14) = 12 by decide) (by decide) (by decide) (by decide) (by decide)
    · rw [hcj] at he ⊢
      exact both _ (by right; right; right; right; right; right; rfl) (by rw [hcj]) (by rw [if_pos (by decide), if_pos (by decide)] at he; exact he) (show cvt (-15) = 11 by decide) (by decide) (by decide) (by decide) (by decide)
theorem m_says {t n wt dp part : Nat} {code : Nat → Int32} {O : MS} (nm : Int32 → Int32) (w : Int32) (hp : part < 3) (hL : LawM O t code n wt dp) (ht : O.1 14 = nI t) (hnm : O.2 19 0 = nm (-1) ∧ O.2 19 1 = nm (-2) ∧ O.2 19 2 = nm (-3) ∧ O.2 19 3 = nm (-4) ∧ O.2 19 4 = nm (-5) ∧ O.2 19 5 = nm (-6)) (he : evL nm (partL code n wt dp part) [] = some [w]) : ∃ O', f_X6_says m (nI part) (memM m O μ) = some (w, memM m O' μ) ∧ mk18 O O' := by
  have hL2 := hL
  obtain ⟨ht6, hn, hw, hd, a0, a1, a2, a3, hc⟩ := hL2
  have i1 : ((4 : Int32) * nI t) + nI part = nI (4 * t + part) := by rw [show (4 : Int32) = nI 4 from rfl, pk_mul, nI_add]
  rw [f_X6_says.eq_1, mR_12, Option.bind_some, mI_14, Option.bind_some, ht, i1, aM 8 (by omega) (4 * t + part) (by show _ < 24; omega) (by omega), Option.bind_some]
  match part, hp with
  | 0, _ => rw [show O.2 (8 + 1) (4 * t + 0) = nI 0 from a0]; exact m_says_loop (to := wt) nm w (by omega) (by omega) wt 0 0 fU O (by omega) (fU_lt (by omega)) (by omega) hL ht a1 hnm he
  | 1, _ => rw [show O.2 (8 + 1) (4 * t + 1) = nI wt from a1]; exact m_says_loop (to := dp) nm w (by omega) (by omega) (dp - wt) wt 0 fU O (by omega) (fU_lt (by omega)) (by omega) hL ht a2 hnm he
  | 2, _ => rw [show O.2 (8 + 1) (4 * t + 2) = nI dp from a2]; exact m_says_loop (to := n) nm w (by omega) (by omega) (n - dp) dp 0 fU O (by omega) (fU_lt (by omega)) (by omega) hL ht a3 hnm he
end MSY
