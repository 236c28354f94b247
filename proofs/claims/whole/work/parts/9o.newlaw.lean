/-! text: a law made new. -/
section NL
variable {b m : Nat} {S S' : XS} {O O' : MS} {μ : mS}
theorem wd_at (a : Nat) : (Wd b m S O μ).2 a = if b ≤ a ∧ a < b + 85 then some (cellX b (a - b) (S.1 (a - b)) (S.2.1 (a - b)) (S.2.2.1 (a - b)) S.2.2.2) else if m ≤ a ∧ a < m + 21 then some (cellM m (a - m) O) else μ.2 a := rfl
theorem wd_get {q : Nat} (hm : b + 85 ≤ m) (hq : m + 21 ≤ q) : (Wd b m S O μ).2 q = μ.2 q := by
  rw [wd_at, if_neg (by omega), if_neg (by omega)]
theorem wd_put {q c : Nat} {e : Option mE} (hm : b + 85 ≤ m) (hq : m + 21 ≤ q) : (c, va_up (Wd b m S O μ).2 q e) = Wd b m S O (c, va_up μ.2 q e) := by
  refine Prod.ext rfl (funext fun a => ?_)
  show va_up (Wd b m S O μ).2 q e a = (Wd b m S O (c, va_up μ.2 q e)).2 a
  by_cases h : a = q
  · subst h
    rw [up_eq, wd_get hm hq]
    exact (up_eq _ _ _).symm
  · rw [up_ne _ _ h, wd_at, wd_at]
    split
    · rfl
    · split
      · rfl
      · exact (up_ne _ _ h).symm
theorem wd_pV {q k : Nat} {fs : List Value} {v : Value} (hm : b + 85 ≤ m) (hq : m + 21 ≤ q) (h : μ.2 q = some (.inr (1, fs))) (hk : k < fs.length) : pV (Wd b m S O μ) q 1 k v = some (Wd b m S O (μ.1, va_up μ.2 q (some (.inr (1, fs.set k v))))) := by
  rw [pV, wd_get hm hq, h, Option.bind_some, show xO 1 (.inr (1, fs)) = some fs by simp [xO], Option.bind_some, if_pos hk]
  exact congrArg some (wd_put hm hq)
theorem wd_copy {len : Nat} (hm : b + 85 ≤ m) (hμ : m + 21 ≤ μ.1) (hl : len ≤ 160) : f_copyOf (b + 4) (nI len) (Wd b m S O μ) = some (μ.1, Wd b m S O (μ.1 + 1, va_up μ.2 μ.1 (some (iArr len (S.2.1 4))))) := by
  have e : (Wd b m S O μ).2 (b + 4) = some (iArr 160 (S.2.1 4)) := by
    rw [Wd, mx_get (k := 4) (by omega)]
    rfl
  rw [f_copyOf, e, Option.bind_some, xI_i, Option.bind_some, if_neg, nI_clamp (by omega)]
  · exact congrArg some (Prod.ext rfl (wd_put hm hμ))
  · rw [nI_clamp (by omega)]
    simp only [not_or]
    exact ⟨nI_pos (by omega), by omega, by omega⟩
theorem x_lawRead {nr : Int32} {len wt dp : Nat} (hm : b + 85 ≤ m) (hμ : m + 21 ≤ μ.1) (h8 : S.1 2 8 = nI len) (hl : len ≤ 160) (h1 : S.2.1 5 1 = nI wt) (h2 : S.2.1 5 2 = nI dp) : ∃ μ2, f_X4_lawRead (b + 2) nr (Wd b m S O μ) = some (μ.1, Wd b m S O μ2) ∧ μ2.1 = μ.1 + 2 ∧ (∀ a, a < μ.1 → μ2.2 a = μ.2 a) ∧ μ2.2 μ.1 = some (.inr (1, [.int nr, .ref (μ.1 + 1), .int (nI wt), .int (nI dp)])) ∧ μ2.2 (μ.1 + 1) = some (iArr len (S.2.1 4)) := by
  have t1 : ∀ ν, gR (Wd b m S O ν) (b + 2) 3 1 = some (b + 4) := fun ν => tp1
  have t2 : ∀ ν, gR (Wd b m S O ν) (b + 2) 3 2 = some (b + 5) := fun ν => tp2
  have g8 : ∀ ν, gI (Wd b m S O ν) (b + 2) 3 8 = some (nI len) := fun ν => (gI_T 8 (by omega)).trans (congrArg some h8)
  have a1 : ∀ ν, aI (Wd b m S O ν) (b + 5) (1 : Int32) = some (nI wt) := fun ν => by
    rw [Wd, aI_X (k := 5) (by omega) rfl, if_neg (by decide)]
    exact congrArg some h1
  have a2 : ∀ ν, aI (Wd b m S O ν) (b + 5) (2 : Int32) = some (nI dp) := fun ν => by
    rw [Wd, aI_X (k := 5) (by omega) rfl, if_neg (by decide)]
    exact congrArg some h2
  have e0 : nO (Wd b m S O μ) 1 df_X2 = Wd b m S O (μ.1 + 1, va_up μ.2 μ.1 (some (.inr (1, df_X2)))) := wd_put hm hμ
  have c1 := wd_copy (b := b) (m := m) (S := S) (O := O) (μ := (μ.1 + 1, va_up μ.2 μ.1 (some (.inr (1, df_X2))))) hm (show m + 21 ≤ μ.1 + 1 by omega) hl
  have w1 : (Wd b m S O μ).1 = μ.1 := rfl
  rw [f_X4_lawRead.eq_1, vl_eq, vl_eq, e0, t1, Option.bind_some, g8, Option.bind_some, c1, Option.bind_some]
  dsimp only
  rw [t2, Option.bind_some, a1, Option.bind_some, Option.bind_some, a2, Option.bind_some, f_X2_init.eq_1, w1]
  rw [pI, wd_pV (fs := df_X2) hm hμ (by simp [va_up]) (by simp [df_X2]), Option.bind_some, pR, wd_pV (fs := df_X2.set 0 (.int nr)) hm hμ (by simp [va_up]) (by simp [df_X2]), Option.bind_some, pI, wd_pV (fs := (df_X2.set 0 (.int nr)).set 1 (.ref (μ.1 + 1))) hm hμ (by simp [va_up]) (by simp [df_X2]), Option.bind_some, pI, wd_pV (fs := ((df_X2.set 0 (.int nr)).set 1 (.ref (μ.1 + 1))).set 2 (.int (nI wt))) hm hμ (by simp [va_up]) (by simp [df_X2]), Option.bind_some, Option.bind_some]
  refine ⟨_, rfl, rfl, fun a ha => ?_, ?_, ?_⟩
  · simp [va_up, show ¬ a = μ.1 by omega, show ¬ a = μ.1 + 1 by omega]
  · simp [va_up, df_X2]
  · simp [va_up, iArr]
end NL
