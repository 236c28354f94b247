/-! THE START: the constant text read, both sides' first memory. -/
theorem aw_0 (k : Nat) : aw [] k = 0 := by simp [aw]
section MST2
variable {m : Nat} {ν : mS}
theorem m6_loop : ∀ d k fu (O : MS), k + d = 35 → d < fu → (∀ j, j < 35 → O.2 15 j = aw tapeL j) → (∀ j, j < k → O.2 7 j = aw tapeL j) → ∃ O1 : MS, f_X6_init_1102 fu m (nI k) (memM m O ν) = ((f_X6_text m (memM m (smI O1 10 35) ν)).bind fun q => some q.2) ∧ O1.1 = O.1 ∧ (∀ j, j ≠ 7 → O1.2 j = O.2 j) ∧ ∀ j, j < 35 → O1.2 7 j = aw tapeL j := by
  intro d
  induction d with
  | zero =>
    intro k fu O hk hf h1 h2
    obtain ⟨fu, rfl⟩ : ∃ q, fu = q + 1 := ⟨fu - 1, by omega⟩
    have hk : k = 35 := by omega
    subst hk
    refine ⟨O, ?_, rfl, fun _ _ => rfl, h2⟩
    rw [f_X6_init_1102.eq_2, if_pos (show (35 : Int32) ≤ nI 35 from nI_le (Nat.le_refl _) (by decide)), mp_10, Option.bind_some, if_pos isO_M]
  | succ d ih =>
    intro k fu O hk hf h1 h2
    obtain ⟨fu, rfl⟩ : ∃ q, fu = q + 1 := ⟨fu - 1, by omega⟩
    have g7 : (smA O 7 (upd (O.2 7) k (aw tapeL k))).2 7 = upd (O.2 7) k (aw tapeL k) := by simp [smA, va_up]
    have g7' : ∀ j, j ≠ 7 → (smA O 7 (upd (O.2 7) k (aw tapeL k))).2 j = O.2 j := fun j hj => up_ne _ _ hj
    obtain ⟨O1, e1, e2, e3, e4⟩ := ih (k + 1) fu (smA O 7 (upd (O.2 7) k (aw tapeL k))) (by omega) (by omega) (fun j hj => by rw [g7' 15 (by decide)]; exact h1 j hj) (fun j hj => by
      rw [g7, upd_at]
      by_cases c : j = k
      · rw [if_pos c, c]
      · rw [if_neg c]; exact h2 j (by omega))
    refine ⟨O1, ?_, e2, fun j hj => (e3 j hj).trans (g7' j hj), e4⟩
    rw [f_X6_init_1102.eq_2, if_neg (show ¬ (35 : Int32) ≤ nI k from nI_ge (show k < 35 by omega) (by decide)), mR_9, Option.bind_some, mR_21, Option.bind_some, aM 14 (by omega) k (by show k < 35; omega) (by omega), Option.bind_some, h1 k (by omega), sM 6 (by omega) k (by show k < 160; omega) (by omega), Option.bind_some, vl_eq, nI_1]
    exact e1
end MST2
def tS (x2 : Nat) (s : TS) (L : List Int32) : TS := match prP (aw tapeL) 35 x2 s L with
  | some q => q.2.1
  | none => (0, 0, 0, 0)
def tS0 : TS := tS 0 (lx (aw tapeL) 35 0) []
def tS1 : TS := tS 1 (lx (aw tapeL) 35 tS0.2.2.2) [-1]
def tS2 : TS := tS 2 (lx (aw tapeL) 35 tS1.2.2.2) [-1, 6]
set_option maxRecDepth 20000 in
theorem tp_0 : prP (aw tapeL) 35 0 (lx (aw tapeL) 35 0) [] = some (true, tS0, [-1]) := by decide +kernel
set_option maxRecDepth 20000 in
theorem tp_1 : prP (aw tapeL) 35 1 (lx (aw tapeL) 35 tS0.2.2.2) [-1] = some (true, tS1, [-1] ++ [6]) := by decide +kernel
set_option maxRecDepth 20000 in
theorem tp_2 : prP (aw tapeL) 35 2 (lx (aw tapeL) 35 tS1.2.2.2) ([-1] ++ [6]) = some (true, tS2, [-1] ++ [6] ++ [-3]) := by decide +kernel
set_option maxRecDepth 20000 in
theorem tp_3 : (lx (aw tapeL) 35 tS2.2.2.2).1 = 0 := by decide +kernel
theorem tp_y : txY (aw tapeL) 35 tS0 tS1 tS2 [-1] [6] [-3] := by
  refine ⟨tp_0, tp_1, tp_2, ⟨⟨evO_1 (by decide), fun x hx => ?_⟩, ⟨evO_1 (by decide), fun x hx => ?_⟩, ⟨evO_1 (by decide), fun x hx => ?_⟩⟩, by decide⟩
  · rw [List.mem_singleton.mp hx]; exact Or.inr (Or.inl rfl)
  · rw [List.mem_singleton.mp hx]; exact Or.inl ⟨6, by decide, rfl⟩
  · rw [List.mem_singleton.mp hx]; exact Or.inr (Or.inr (Or.inr (Or.inl rfl)))
theorem tp_r : ∀ k, k < 35 → rng 255 (aw tapeL k) := by
  intro k hk
  have h : ∀ k, k < 35 → aw tapeL k = nI (aw tapeL k).toNatClampNeg ∧ (aw tapeL k).toNatClampNeg ≤ 255 := by decide +kernel
  exact ⟨_, (h k hk).2, (h k hk).1⟩
theorem z0_MZ : MZ mO0 (zof (xS0 0) 11) := ⟨by decide +kernel, by decide +kernel, by decide +kernel, by decide +kernel, by decide +kernel⟩
theorem z0_eq (b : Nat) : zof (xS0 b) 11 = zof (xS0 0) 11 := rfl
theorem z0_gZ : gZ (zof (xS0 0) 11) := by
  refine ⟨⟨0, by decide, rfl⟩, ⟨0, by decide, rfl⟩, by decide +kernel, fun k hk => ⟨⟨50, by decide, ?_⟩, ⟨0, by decide, rfl⟩, ⟨0, by decide, rfl⟩, ⟨0, by decide, rfl⟩⟩, fun p hp => absurd hp (Nat.not_lt_zero _), fun h hh => Or.inl ?_⟩
  · show (if k < 6 then (50 : Int32) else 0) = nI 50
    rw [if_pos hk]; rfl
  · show (if h < 8 then (-1 : Int32) else 0) = -1
    rw [if_pos hh]
theorem w0_all : ∀ k, k < 96 → mO0.2 16 k = wordsM k := by decide +kernel
theorem z0_sh (O' : MS) (h2 : ∀ j, 12 ≤ j → j ≤ 14 → O'.2 j = mO0.2 j) : RSh (xS0 0) O' := by
  intro s hs
  unfold RS1
  rw [h2 12 (by decide) (by decide), h2 13 (by decide) (by decide), h2 14 (by decide) (by decide)]
  match s, hs with
  | 0, _ => exact ⟨rfl, rfl, ⟨0, by decide, rfl⟩, Or.inl rfl, fun k _ => aw_0 (40 * 0 + k)⟩
  | 1, _ => exact ⟨rfl, rfl, ⟨0, by decide, rfl⟩, Or.inl rfl, fun k _ => aw_0 (40 * 1 + k)⟩
  | 2, _ => exact ⟨rfl, rfl, ⟨0, by decide, rfl⟩, Or.inl rfl, fun k _ => aw_0 (40 * 2 + k)⟩
  | 3, _ => exact ⟨rfl, rfl, ⟨0, by decide, rfl⟩, Or.inl rfl, fun k _ => aw_0 (40 * 3 + k)⟩
theorem law0_is {b m : Nat} {S' : XS} {O' : MS} {μ : mS} (e : sameL (xS0 b) S') : lawIs (Wd b m S' O' μ) (b + 8) (nI 0) (b + 9) 3 1 2 (aw [-1, 6, -3]) := by
  obtain ⟨e1, e2⟩ := e
  refine ⟨?_, ?_⟩
  · rw [Wd, mx_get (k := 8) (by omega)]
    show some (Sum.inr (1, [Value.int (S'.1 8 0), Value.ref (b + 9), Value.int (S'.1 8 2), Value.int (S'.1 8 3)]) : mE) = _
    rw [e1]
    rfl
  · rw [Wd, mx_get (k := 9) (by omega)]
    show some (iArr 3 (S'.2.1 9)) = _
    rw [e2]
    rfl
/-- THE FIRST WORLD: both sides have begun -/
theorem both_start (b : Nat) (σ : mS) (hb : σ.1 = b) : ∃ S O μ, f_X5_init b (nO σ 4 df_X5) = some (memX b (xS0 b) (b + 85, σ.2)) ∧ f_X6_init (b + 85) (nO (memX b (xS0 b) (b + 85, σ.2)) 5 df_X6) = some (Wd b (b + 85) S O μ) ∧ μ.1 = b + 106 ∧ Rlw b (b + 85) S O μ := by
  have e0 : nO σ 4 df_X5 = LM b [.inr (4, df_X5)] σ := by
    have : σ = LM b [] σ := by
      refine Prod.ext hb (funext fun a => ?_)
      show σ.2 a = if b ≤ a ∧ a < b + 0 then _ else σ.2 a
      rw [if_neg (by omega)]
    exact (congrArg (fun t => nO t 4 df_X5) this).trans (lm_nO 4 df_X5)
  have h1 : f_X5_init b (nO σ 4 df_X5) = some (memX b (xS0 b) (b + 85, σ.2)) := by
    rw [e0, x5_start, x5_mem]
  generalize hν : memX b (xS0 b) (b + 85, σ.2) = ν at *
  have hν1 : ν.1 = b + 85 := by rw [← hν]; rfl
  have e1 : nO ν 5 df_X6 = LM (b + 85) [.inr (5, df_X6)] ν := by
    have : ν = LM (b + 85) [] ν := by
      refine Prod.ext hν1 (funext fun a => ?_)
      show ν.2 a = if b + 85 ≤ a ∧ a < b + 85 + 0 then _ else ν.2 a
      rw [if_neg (by omega)]
    exact (congrArg (fun t => nO t 5 df_X6) this).trans (lm_nO 5 df_X6)
  obtain ⟨O1, l1, l2, l3, l4⟩ := m6_loop (m := b + 85) (ν := (b + 85 + 21, ν.2)) 35 0 fU mO0 (by omega) (fU_lt (by decide)) (fun j _ => rfl) (fun j h => absurd h (Nat.not_lt_zero _))
  have hB : txB (smI O1 10 35) (aw tapeL) 35 0 := by
    refine ⟨?_, ?_, fun k hk => l4 k hk, fun k hk => ?_⟩
    · rw [sm1, if_neg (by omega), l2]; rfl
    · rw [sm1, if_pos rfl]; rfl
    · rw [smI_2, l3 16 (by decide)]; exact w0_all k hk
  obtain ⟨O', t1, t2, t3, t4, t5, t6, t7, t8, t9⟩ := m_textY (m := b + 85) (μ := (b + 85 + 21, ν.2)) (by decide) tp_r (by decide) hB tp_y tp_3
  obtain ⟨f1, f2, f3, f4⟩ := t2
  have k2 : ∀ j, j ≠ 7 → j ≠ 8 → j ≠ 9 → j ≠ 17 → O'.2 j = mO0.2 j := fun j a1 a2 a3 a4 => by
    rw [f2 j a2 a3 a4, smI_2, l3 j a1]
  have k1 : ∀ k, k < 10 ∨ k = 14 ∨ k = 15 → O'.1 k = 0 := fun k hk => by
    rw [f1 k hk, sm1, if_neg (by omega), l2]; rfl
  have hw : memM (b + 85) O' (b + 85 + 21, ν.2) = Wd b (b + 85) (xS0 b) O' (b + 106, σ.2) := by
    rw [Wd_M (by omega), ← hν]
    refine Prod.ext (by show b + 85 + 21 = b + 106; omega) rfl
  refine ⟨xS0 b, O', (b + 106, σ.2), h1, ?_, rfl, 1, 0, fun _ => partL (aw [-1, 6, -3]) 3 1 2, fun _ => b + 8, ⟨by omega, by show b + 85 + 21 ≤ b + 106; omega⟩, ⟨?_, ?_⟩, ⟨by decide, by decide, rfl, t4, fun t ht => ?_⟩, ⟨by decide, (k1 14 (by omega)).trans rfl, rfl⟩, ⟨0, by decide, rfl, t3.trans rfl, fun k h => absurd h (Nat.not_lt_zero _)⟩, ?_, ⟨(k1 15 (by omega)).trans rfl, Or.inl rfl⟩, fun k hk => by rw [k2 16 (by decide) (by decide) (by decide) (by decide)]; exact w0_all k hk⟩
  · rw [e1, x6_start, m6_mem]
    show f_X6_init_1102 fU (b + 85) (nI 0) (memM (b + 85) mO0 (b + 85 + 21, ν.2)) = _
    rw [l1, t1, Option.bind_some, hw]
  · rw [z0_eq]
    have := z0_MZ
    unfold MZ at this ⊢
    rw [k2 1 (by decide) (by decide) (by decide) (by decide), k2 2 (by decide) (by decide) (by decide) (by decide), k2 3 (by decide) (by decide) (by decide) (by decide), k2 4 (by decide) (by decide) (by decide) (by decide), k2 5 (by decide) (by decide) (by decide) (by decide), k2 6 (by decide) (by decide) (by decide) (by decide), k1 7 (by omega), k1 8 (by omega), k1 0 (by omega)]
    exact this
  · rw [z0_eq]
    exact ⟨z0_gZ, ⟨0, by decide, rfl⟩⟩
  · have ht : t = 0 := by omega
    subst ht
    refine ⟨rfl, b + 9, 3, 1, 2, aw [-1, 6, -3], ⟨by show b + 8 < b + 106; omega, by show b + 9 < b + 106; omega⟩, fun S' O1 e => law0_is e, ⟨by decide, by decide, by decide, by decide, t6, t7, t8, t9, fun k hk => ?_⟩, fun part hp => ⟨rfl, ?_⟩⟩
    · rw [t5 k hk]
      match k, hk with
      | 0, _ => exact ⟨rfl, Or.inr (Or.inl rfl)⟩
      | 1, _ => exact ⟨rfl, Or.inl ⟨6, by decide, rfl⟩⟩
      | 2, _ => exact ⟨rfl, Or.inr (Or.inr (Or.inr (Or.inl rfl)))⟩
    · have : part = 0 ∨ part = 1 ∨ part = 2 := by omega
      rcases this with rfl | rfl | rfl
      · exact fun nm => (evO_1 (op := -1) (by decide)) nm []
      · exact fun nm => (evO_1 (op := 6) (by decide)) nm []
      · exact fun nm => (evO_1 (op := -3) (by decide)) nm []
  · have := z0_sh O' (fun j h1 h2 => k2 j (by omega) (by omega) (by omega) (by omega))
    exact this
