/-! text: the class's token. -/
theorem wst_next : ∀ j, j < 12 → wst j + wl j + 1 = wst (j + 1) := by decide
theorem wst_le : ∀ j, j < 12 → wst j + wl j < 65 := by decide
theorem wl_le : ∀ j, j < 12 → wl j ≤ 8 := by decide
theorem cA_w {j i : Nat} (hj : j < 12) (hi : i ≤ wl j) : f_J0_charAt_k1 (nI (wst j + i)) = some (wc j i) := by
  have := wst_le j hj
  exact cA_1 _ (by omega)
theorem wc_sp : ∀ j, j < 12 → wc j (wl j) = 32 := by decide
theorem wc_ns : ∀ j, j < 12 → ∀ i, i < wl j → ¬ wc j i = 32 := by decide
def cntW (f : Nat → Int32) (s len j : Nat) : Nat → Nat
  | 0 => 0
  | i + 1 => cntW f s len j i + if i < len ∧ f (s + i) = wc j i then 1 else 0
theorem cntW_le {f : Nat → Int32} {s len j : Nat} : ∀ i, cntW f s len j i ≤ i ∧ cntW f s len j i ≤ len := by
  intro i
  induction i with
  | zero => exact ⟨Nat.le_refl _, Nat.zero_le _⟩
  | succ i ih =>
    have h : ∀ i, len ≤ i → cntW f s len j i ≤ len → cntW f s len j (i + 1) ≤ len := by
      intro i h1 h2
      rw [cntW, if_neg (by omega)]
      exact h2
    refine ⟨?_, ?_⟩
    · rw [cntW]; split <;> omega
    · rcases Nat.lt_or_ge i len with q | q
      · rw [cntW]; split <;> omega
      · exact h i q ih.2
theorem cntW_all {f : Nat → Int32} {s len j : Nat} : ∀ i, i ≤ len → (cntW f s len j i = i ↔ ∀ k, k < i → f (s + k) = wc j k) := by
  intro i
  induction i with
  | zero => intro _; exact ⟨fun _ k hk => absurd hk (by omega), fun _ => rfl⟩
  | succ i ih =>
    intro h
    have hl := (cntW_le (f := f) (s := s) (len := len) (j := j) i).1
    have ih := ih (by omega)
    rw [cntW]
    constructor
    · intro e k hk
      by_cases c : i < len ∧ f (s + i) = wc j i
      · rw [if_pos c] at e
        rcases Nat.lt_or_ge k i with q | q
        · exact ih.mp (by omega) k q
        · rw [show k = i by omega]; exact c.2
      · rw [if_neg c] at e; omega
    · intro e
      rw [if_pos ⟨by omega, e i (by omega)⟩, ih.mpr fun k hk => e k (by omega)]
theorem wm_is {f : Nat → Int32} {s len j : Nat} : wm f s len j = true ↔ (cntW f s len j (wl j) = len ∧ wl j = len) := by
  rw [wm]
  simp only [Bool.and_eq_true, decide_eq_true_eq, List.all_eq_true, List.mem_range, beq_iff_eq]
  constructor
  · intro h
    exact ⟨by rw [← h.1]; exact (cntW_all len (Nat.le_refl _)).mpr h.2, h.1.symm⟩
  · intro h
    refine ⟨h.2.symm, ?_⟩
    have h1 := h.1
    rw [h.2] at h1
    exact (cntW_all len (Nat.le_refl _)).mp h1
section LX
variable {b m : Nat} {S S' : XS} {O O' : MS} {μ : mS}
theorem aI_3 {p : Nat} (hp : p < 160) : aI (memX b S μ) (b + 3) (nI p) = some (S.2.1 3 p) := by
  rw [aI_X (k := 3) (by omega) rfl, if_neg (nI_in hp (by decide)), nI_clamp (by omega)]
theorem x_wordL {s len : Nat} (hs : s + len ≤ 160) {j : Nat} (hj : j < 12) : ∀ d i fu, i + d = wl j → d < fu → f_X4_wordNumber_11 (memX b S μ) fu (b + 2) (nI s) (nI len) (nI j) (nI (cntW (S.2.1 3) s len j i)) (nI i) (nI (wst j + i)) = if wm (S.2.1 3) s len j = true then some (nI j) else f_X4_wordNumber_11 (memX b S μ) (fu - d - 1) (b + 2) (nI s) (nI len) (nI (j + 1)) 0 0 (nI (wst (j + 1))) := by
  have hw8 := wl_le j hj
  have hw65 := wst_le j hj
  intro d
  induction d with
  | zero =>
    intro i fu h hf
    obtain ⟨fu, rfl⟩ : ∃ q, fu = q + 1 := ⟨fu - 1, by omega⟩
    have e : i = wl j := by omega
    subst e
    have hc := (cntW_le (f := S.2.1 3) (s := s) (len := len) (j := j) (wl j)).2
    rw [f_X4_wordNumber_11.eq_2, if_neg (show ¬ (65 : Int32) ≤ nI (wst j + wl j) from nI_ge (show wst j + wl j < 65 by omega) (by decide)), cA_w hj (Nat.le_refl _), Option.bind_some, wc_sp j hj, if_pos rfl]
    have e51 : f_X4_wordNumber_51 (memX b S μ) (f_X4_wordNumber_11 (memX b S μ) fu) (b + 2) (nI s) (nI len) (nI j) (nI (wst j + wl j)) = f_X4_wordNumber_11 (memX b S μ) (fu + 1 - 0 - 1) (b + 2) (nI s) (nI len) (nI (j + 1)) 0 0 (nI (wst (j + 1))) := by
      rw [f_X4_wordNumber_51.eq_1, vl_eq, vl_eq, nI_1, nI_1, wst_next j hj]
      rfl
    by_cases c : wm (S.2.1 3) s len j = true
    · have c2 := wm_is.mp c
      rw [if_pos (congrArg nI c2.1), if_pos (congrArg nI c2.2), if_pos c]
    · rw [if_neg c]
      by_cases c1 : cntW (S.2.1 3) s len j (wl j) = len
      · have c2 : ¬ wl j = len := fun q => c (wm_is.mpr ⟨c1, q⟩)
        rw [if_pos (congrArg nI c1), if_neg (fun q => c2 ((nI_eq (by omega) (by omega)).mp q)), e51]
      · rw [if_neg (fun q => c1 ((nI_eq (by omega) (by omega)).mp q)), e51]
  | succ d ih =>
    intro i fu h hf
    obtain ⟨fu, rfl⟩ : ∃ q, fu = q + 1 := ⟨fu - 1, by omega⟩
    have hc := cntW_le (f := S.2.1 3) (s := s) (len := len) (j := j) i
    have ih := ih (i + 1) fu (by omega) (by omega)
    rw [show fu + 1 - (d + 1) - 1 = fu - d - 1 by omega, ← ih, f_X4_wordNumber_11.eq_2, if_neg (show ¬ (65 : Int32) ≤ nI (wst j + i) from nI_ge (show wst j + i < 65 by omega) (by decide)), cA_w hj (by omega), Option.bind_some, if_neg (wc_ns j hj i (by omega))]
    by_cases c : len ≤ i
    · rw [if_pos (nI_le c (by omega)), vl_eq, vl_eq, vl_eq, cntW, if_neg (by omega), nI_1, nI_1, Int32.add_zero]
      rfl
    · have hcl : i < len := by omega
      rw [if_neg (nI_ge (by omega) (by omega)), tp0, Option.bind_some, nI_add, aI_3 (by omega), Option.bind_some, vl_eq, vl_eq, vl_eq, vl_eq, nI_1, nI_1, cntW]
      by_cases c2 : S.2.1 3 (s + i) = wc j i
      · rw [if_pos c2, if_pos ⟨hcl, c2⟩, nI_1]
        rfl
      · rw [if_neg c2, if_neg (fun q => c2 q.2), Int32.add_zero]
        rfl
theorem x_wordO {s len : Nat} (hs : s + len ≤ 160) : ∀ k j fu, j + k = 12 → 66 ≤ fu + wst j → f_X4_wordNumber_11 (memX b S μ) fu (b + 2) (nI s) (nI len) (nI j) 0 0 (nI (wst j)) = some (if wdF (S.2.1 3) s len k j = 12 then -1 else nI (wdF (S.2.1 3) s len k j)) := by
  intro k
  induction k with
  | zero =>
    intro j fu h hf
    have e : j = 12 := by omega
    subst e
    obtain ⟨fu, rfl⟩ : ∃ q, fu = q + 1 := ⟨fu - 1, by have : wst 12 = 65 := rfl; omega⟩
    rw [f_X4_wordNumber_11.eq_2, if_pos (by decide), wdF, if_pos rfl]
  | succ k ih =>
    intro j fu h hf
    have hn := wst_next j (by omega)
    have hw := wst_le j (by omega)
    have h1 := x_wordL (b := b) (S := S) (μ := μ) hs (show j < 12 by omega) (wl j) 0 fu (by omega) (by omega)
    rw [Nat.add_zero] at h1
    refine h1.trans ?_
    rw [wdF]
    by_cases c : wm (S.2.1 3) s len j = true
    · rw [if_pos c, if_pos c, if_neg (by omega)]
    · rw [if_neg c, if_neg c]
      exact ih (j + 1) _ (by omega) (by omega)
theorem x_wordN {s len : Nat} (hs : s + len ≤ 160) : f_X4_wordNumber (b + 2) (nI s) (nI len) (memX b S μ) = some (if wdI (S.2.1 3) s len = 12 then -1 else nI (wdI (S.2.1 3) s len)) := by
  rw [f_X4_wordNumber.eq_1]
  exact x_wordO hs 12 0 fU rfl (by show _ ≤ 4096 + _; omega)
end LX
