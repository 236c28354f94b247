section MN
variable {b m : Nat} {S S' : XS} {O O' : MS} {μ : mS}
theorem agW_s {f : Nat → Int32} {s len q i : Nat} (h : agW f s len q i) (h2 : wordsM (8 * q + i) = if len ≤ i then 32 else f (s + i)) : agW f s len q (i + 1) := by
  refine ⟨h.1, fun k hk => ?_⟩
  rcases Nat.lt_or_ge k i with c | c
  · exact h.2 k c
  · rw [show k = i by omega]; exact h2
theorem agW_n {f : Nat → Int32} {s len q i : Nat} (hi : i < 8) (h2 : ¬ wordsM (8 * q + i) = if len ≤ i then 32 else f (s + i)) : ¬ agW f s len q 8 := fun h => h2 (h.2 i hi)
theorem eight (q i : Nat) : (8 : Int32) * nI q + nI i = nI (8 * q + i) := by rw [show (8 : Int32) = nI 8 from rfl, pk_mul, nI_add]
theorem m_wordI {f : Nat → Int32} (K : Nat → Int32 → Int32 → Int32 → Int32 → Option Int32) {s e q : Nat} (hs : s ≤ e) (he : e ≤ 160) (hq : q < 12) (hw : RWo O) (hf : ∀ k, k < e → O.2 7 k = f k) (hl : ∀ k, k < e - s → ¬ f (s + k) = 32) : ∀ d i fu, i + d = 8 → d < fu → agW f s (e - s) q i → f_X6_wordFrom_26 (memM m O μ) K fu m (nI s) (nI e) (nI q) 1 (nI i) = K m (nI s) (nI e) (nI q) (if wm f s (e - s) (pj q) = true then 1 else 0) := by
  intro d
  induction d with
  | zero =>
    intro i fu h hfu ha
    obtain ⟨fu, rfl⟩ : ∃ q, fu = q + 1 := ⟨fu - 1, by omega⟩
    have h8 : i = 8 := by omega
    subst h8
    rw [f_X6_wordFrom_26.eq_2, if_pos (by decide), if_pos ((agW_8 hq hl).mp ha)]
  | succ d ih =>
    intro i fu h hfu ha
    obtain ⟨fu, rfl⟩ : ∃ q, fu = q + 1 := ⟨fu - 1, by omega⟩
    rw [f_X6_wordFrom_26.eq_2, if_neg (ge_8 (by omega)), if_neg (by decide), mR_26, Option.bind_some, eight, aM 15 (by omega) _ (by show _ < 96; omega) (by omega), Option.bind_some, hw _ (by omega), nI_add]
    have go : ∀ x, x = (if e - s ≤ i then 32 else f (s + i)) → f_X6_wordFrom_72 (memM m O μ) (f_X6_wordFrom_26 (memM m O μ) K fu) m (nI s) (nI e) (nI q) (nI i) (wordsM (8 * q + i)) x = K m (nI s) (nI e) (nI q) (if wm f s (e - s) (pj q) = true then 1 else 0) := by
      intro x hx
      rw [f_X6_wordFrom_72.eq_1, vl_eq, vl_eq, nI_1]
      by_cases c : wordsM (8 * q + i) = x
      · rw [if_pos c]
        exact ih (i + 1) fu (by omega) (by omega) (agW_s ha (c.trans hx))
      · rw [if_neg c]
        obtain ⟨fu, rfl⟩ : ∃ q, fu = q + 1 := ⟨fu - 1, by omega⟩
        have hn : ¬ wm f s (e - s) (pj q) = true := fun h => agW_n (i := i) (by omega) (by rw [← hx]; exact c) ((agW_8 hq hl).mpr h)
        rw [f_X6_wordFrom_26.eq_2, if_pos rfl, if_neg hn]
        split <;> rfl
    by_cases c : e - s ≤ i
    · rw [if_pos (nI_le (by omega) (by omega))]
      exact go _ (by rw [if_pos c])
    · rw [if_neg (nI_ge (by omega) (by omega)), mR_9, Option.bind_some, aM 6 (by omega) _ (by show _ < 160; omega) (by omega), Option.bind_some, hf _ (by omega)]
      exact go _ (by rw [if_neg c])
theorem m_wordO {f : Nat → Int32} {s e : Nat} (hs : s ≤ e) (he : e ≤ 160) (hw : RWo O) (hf : ∀ k, k < e → O.2 7 k = f k) (hl : ∀ k, k < e - s → ¬ f (s + k) = 32) : ∀ k q fu, q + k = 12 → k < fu → f_X6_wordFrom_2 (memM m O μ) fu m (nI s) (nI e) (nI q) = some (nI (wqF f s (e - s) k q)) := by
  intro k
  induction k with
  | zero =>
    intro q fu h hfu
    obtain ⟨fu, rfl⟩ : ∃ q, fu = q + 1 := ⟨fu - 1, by omega⟩
    have h8 : q = 12 := by omega
    subst h8
    rw [f_X6_wordFrom_2.eq_2, if_pos (by decide), wqF]
    rfl
  | succ k ih =>
    intro q fu h hfu
    obtain ⟨fu, rfl⟩ : ∃ q, fu = q + 1 := ⟨fu - 1, by omega⟩
    have ih := ih (q + 1) fu (by omega) (by omega)
    rw [f_X6_wordFrom_2.eq_2, if_neg (show ¬ (12 : Int32) ≤ nI q from nI_ge (show q < 12 by omega) (by decide)), pk_sub hs, vl_eq, wqF]
    by_cases c : e - s ≤ 8
    · rw [if_neg (show ¬ (8 : Int32) < nI (e - s) from nI_nlt c (by decide)), show (0 : Int32) = nI 0 from rfl, m_wordI _ hs he (by omega) hw hf hl 8 0 fU rfl (fU_lt (by omega)) ⟨c, fun k hk => absurd hk (by omega)⟩]
      by_cases d : wm f s (e - s) (pj q) = true
      · rw [if_pos d, if_pos d, if_neg (by decide)]
      · rw [if_neg d, if_neg d, if_pos (by decide), vl_eq, nI_1]
        exact ih
    · have d : ¬ wm f s (e - s) (pj q) = true := fun h => c (by
        have h8 := wl_le _ (pj_lt q (by omega)).1
        have := (wm_iff.mp h).1
        omega)
      rw [if_pos (show (8 : Int32) < nI (e - s) from nI_lt (show 8 < e - s by omega) (by omega)), show fU = 4095 + 1 from rfl, f_X6_wordFrom_26.eq_2, if_neg (by decide), if_pos rfl, if_pos rfl, if_neg d, vl_eq, nI_1]
      exact ih
theorem m_wordF {f : Nat → Int32} {s e : Nat} (hs : s ≤ e) (he : e ≤ 160) (hw : RWo O) (hf : ∀ k, k < e → O.2 7 k = f k) (hl : ∀ k, k < e - s → ¬ f (s + k) = 32) : f_X6_wordFrom m (nI s) (nI e) (memM m O μ) = some (nI (jp (wdI f s (e - s)))) := by
  rw [f_X6_wordFrom.eq_1, show (0 : Int32) = nI 0 from rfl, m_wordO hs he hw hf hl 12 0 fU rfl (fU_lt (by omega)), wq_wd]
end MN
