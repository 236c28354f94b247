/-! THE START: cells laid one behind another. -/
def LM (b : Nat) (l : List mE) (μ : mS) : mS := (b + l.length, fun a => if b ≤ a ∧ a < b + l.length then l[a - b]? else μ.2 a)
section LMM
variable {b : Nat} {l : List mE} {μ : mS}
theorem lm_get {k : Nat} (hk : k < l.length) : (LM b l μ).2 (b + k) = l[k]? := by
  show (if b ≤ b + k ∧ b + k < b + l.length then l[b + k - b]? else μ.2 (b + k)) = l[k]?
  rw [if_pos (by omega), Nat.add_sub_cancel_left]
theorem lm_new (e : mE) : ((LM b l μ).1 + 1, va_up (LM b l μ).2 (LM b l μ).1 (some e)) = LM b (l ++ [e]) μ := by
  refine Prod.ext ?_ (funext fun a => ?_)
  · show b + l.length + 1 = b + (l ++ [e]).length
    rw [List.length_append]; rfl
  · show va_up (fun a => if b ≤ a ∧ a < b + l.length then l[a - b]? else μ.2 a) (b + l.length) (some e) a = if b ≤ a ∧ a < b + (l ++ [e]).length then (l ++ [e])[a - b]? else μ.2 a
    have hl : (l ++ [e]).length = l.length + 1 := by rw [List.length_append]; rfl
    rw [hl]
    by_cases c : a = b + l.length
    · subst c
      rw [up_eq, if_pos (by omega), Nat.add_sub_cancel_left]
      simp
    · rw [up_ne _ _ c]
      by_cases d : b ≤ a ∧ a < b + l.length
      · rw [if_pos d, if_pos (by omega), List.getElem?_append_left (by omega)]
      · rw [if_neg d, if_neg (by omega)]
theorem lm_set {k : Nat} (hk : k < l.length) (e : mE) : ((LM b l μ).1, va_up (LM b l μ).2 (b + k) (some e)) = LM b (l.set k e) μ := by
  refine Prod.ext ?_ (funext fun a => ?_)
  · show b + l.length = b + (l.set k e).length
    rw [List.length_set]
  · show va_up (fun a => if b ≤ a ∧ a < b + l.length then l[a - b]? else μ.2 a) (b + k) (some e) a = if b ≤ a ∧ a < b + (l.set k e).length then (l.set k e)[a - b]? else μ.2 a
    rw [List.length_set]
    by_cases c : a = b + k
    · subst c
      rw [up_eq, if_pos (by omega), Nat.add_sub_cancel_left, List.getElem?_set_self hk]
    · rw [up_ne _ _ c]
      by_cases d : b ≤ a ∧ a < b + l.length
      · rw [if_pos d, if_pos d, List.getElem?_set_ne (by omega)]
      · rw [if_neg d, if_neg d]
theorem lm_lt {k : Nat} {e : mE} (h : l[k]? = some e) : k < l.length := (List.getElem?_eq_some_iff.mp h).1
theorem lm_nI (n : Nat) : nI_ (LM b l μ) n = LM b (l ++ [iArr n fun _ => 0]) μ := lm_new _
theorem lm_nR (t n : Nat) : nR_ (LM b l μ) t n = LM b (l ++ [rArr t n fun _ => none]) μ := lm_new _
theorem lm_nO (ci : Nat) (fs : List Value) : nO (LM b l μ) ci fs = LM b (l ++ [.inr (ci, fs)]) μ := lm_new _
theorem lm_pV {k ci j : Nat} {fs : List Value} {v : Value} (h : l[k]? = some (.inr (ci, fs))) (hj : j < fs.length) : pV (LM b l μ) (b + k) ci j v = some (LM b (l.set k (.inr (ci, fs.set j v))) μ) := by
  rw [pV, lm_get (lm_lt h), h, Option.bind_some, show xO ci (.inr (ci, fs)) = some fs by simp [xO], Option.bind_some, if_pos hj]
  exact congrArg some (lm_set (lm_lt h) _)
theorem lm_sI {k n : Nat} {f : Nat → Int32} {i x : Int32} (h : l[k]? = some (iArr n f)) (hi : ¬ (i < 0 ∨ n ≤ i.toNatClampNeg)) : sI (LM b l μ) (b + k) i x = some (LM b (l.set k (iArr n (upd f i.toNatClampNeg x))) μ) := by
  rw [sI, lm_get (lm_lt h), h, Option.bind_some, xI_i, Option.bind_some, if_neg hi]
  exact congrArg some (lm_set (lm_lt h) _)
theorem lm_sR {k t n : Nat} {f : Nat → Option Nat} {i : Int32} {x : Nat} (h : l[k]? = some (rArr t n f)) (hi : ¬ (i < 0 ∨ n ≤ i.toNatClampNeg)) : sR (LM b l μ) (b + k) t i x = some (LM b (l.set k (rArr t n (va_up f i.toNatClampNeg (some x)))) μ) := by
  rw [sR, lm_get (lm_lt h), h, Option.bind_some, xR_r, Option.bind_some, if_neg hi]
  exact congrArg some (lm_set (lm_lt h) _)
theorem lm_gR {k ci j x : Nat} {fs : List Value} (h : l[k]? = some (.inr (ci, fs))) (hj : fs[j]? = some (.ref x)) : gR (LM b l μ) (b + k) ci j = some x := by
  rw [gR, gV, lm_get (lm_lt h), h, Option.bind_some, show xO ci (.inr (ci, fs)) = some fs by simp [xO], Option.bind_some, hj, Option.bind_some]
  rfl
theorem lm_isO {k ci : Nat} {fs : List Value} (h : l[k]? = some (.inr (ci, fs))) : isO (LM b l μ) (b + k) ci = true := by
  rw [isO, lm_get (lm_lt h), h, Option.bind_some, show xO ci (.inr (ci, fs)) = some fs by simp [xO]]
  rfl
end LMM
