/-! The reference's assize does as the same plain functions say. -/
def MZ (O : MS) (Z : Zt) : Prop := (∀ k, k < 10 → O.2 5 k = Z 0 k) ∧ (∀ k, k < 6 → O.2 6 k = Z 1 k ∧ O.2 3 (3 * k) = Z 4 k ∧ O.2 3 (3 * k + 1) = Z 5 k ∧ O.2 3 (3 * k + 2) = Z 6 k) ∧ (∀ k, k < 8 → O.2 4 (3 * k) = Z 7 k ∧ O.2 4 (3 * k + 1) = Z 8 k ∧ O.2 4 (3 * k + 2) = Z 9 k) ∧ (O.1 7 = Z 10 0 ∧ O.1 8 = Z 10 1 ∧ O.1 0 = Z 10 2) ∧ ∀ p, p < (Z 10 2).toNatClampNeg → O.2 1 p = Z 2 p ∧ O.2 2 p = Z 3 p
section MZP
variable {O : MS} {Z : Zt}
theorem MZ.wt (h : MZ O Z) {k : Nat} (hk : k < 10) : O.2 5 k = Z 0 k := h.1 k hk
theorem MZ.kn (h : MZ O Z) {k : Nat} (hk : k < 6) : O.2 6 k = Z 1 k := (h.2.1 k hk).1
theorem MZ.r0 (h : MZ O Z) {k : Nat} (hk : k < 6) : O.2 3 (3 * k) = Z 4 k := (h.2.1 k hk).2.1
theorem MZ.r1 (h : MZ O Z) {k : Nat} (hk : k < 6) : O.2 3 (3 * k + 1) = Z 5 k := (h.2.1 k hk).2.2.1
theorem MZ.r2 (h : MZ O Z) {k : Nat} (hk : k < 6) : O.2 3 (3 * k + 2) = Z 6 k := (h.2.1 k hk).2.2.2
theorem MZ.l0 (h : MZ O Z) {k : Nat} (hk : k < 8) : O.2 4 (3 * k) = Z 7 k := (h.2.2.1 k hk).1
theorem MZ.l1 (h : MZ O Z) {k : Nat} (hk : k < 8) : O.2 4 (3 * k + 1) = Z 8 k := (h.2.2.1 k hk).2.1
theorem MZ.l2 (h : MZ O Z) {k : Nat} (hk : k < 8) : O.2 4 (3 * k + 2) = Z 9 k := (h.2.2.1 k hk).2.2
theorem MZ.ad (h : MZ O Z) : O.1 7 = Z 10 0 := h.2.2.2.1.1
theorem MZ.hr (h : MZ O Z) : O.1 8 = Z 10 1 := h.2.2.2.1.2.1
theorem MZ.wi (h : MZ O Z) : O.1 0 = Z 10 2 := h.2.2.2.1.2.2
theorem MZ.kd (h : MZ O Z) {p : Nat} (hp : p < (Z 10 2).toNatClampNeg) : O.2 1 p = Z 2 p := (h.2.2.2.2 p hp).1
theorem MZ.mo (h : MZ O Z) {p : Nat} (hp : p < (Z 10 2).toNatClampNeg) : O.2 2 p = Z 3 p := (h.2.2.2.2 p hp).2
end MZP
/-- only the scratch rows differ -/
def mk18 (O O' : MS) : Prop := O'.1 = O.1 ∧ ∀ j, j ≠ 18 → j ≠ 19 → O'.2 j = O.2 j
/-- of what is kept only what is known, faces, vanity, handkerchiefs, what is admitted, the hour differ, and the scratch -/
def mkA (O O' : MS) : Prop := (∀ k, k ≠ 7 → k ≠ 8 → O'.1 k = O.1 k) ∧ ∀ j, j ≠ 3 → j ≠ 4 → j ≠ 18 → j ≠ 19 → O'.2 j = O.2 j
theorem mk18.rf (O : MS) : mk18 O O := ⟨rfl, fun _ _ _ => rfl⟩
theorem mk18.tr {O1 O2 O3 : MS} (h : mk18 O1 O2) (h2 : mk18 O2 O3) : mk18 O1 O3 := ⟨h2.1.trans h.1, fun j a b => (h2.2 j a b).trans (h.2 j a b)⟩
theorem mkA.rf (O : MS) : mkA O O := ⟨fun _ _ _ => rfl, fun _ _ _ _ _ => rfl⟩
theorem mkA.tr {O1 O2 O3 : MS} (h : mkA O1 O2) (h2 : mkA O2 O3) : mkA O1 O3 := ⟨fun k a b => (h2.1 k a b).trans (h.1 k a b), fun j a b c d => (h2.2 j a b c d).trans (h.2 j a b c d)⟩
theorem mk18.a {O O' : MS} (h : mk18 O O') : mkA O O' := ⟨fun k _ _ => by rw [h.1], fun j _ _ c d => h.2 j c d⟩
theorem mk18.s (O : MS) (g : Nat → Int32) : mk18 O (smA O 18 g) := ⟨rfl, fun j a _ => up_ne _ _ a⟩
theorem mk18.n (O : MS) (g : Nat → Int32) : mk18 O (smA O 19 g) := ⟨rfl, fun j _ a => up_ne _ _ a⟩
theorem MZ.k {O O' : MS} {Z : Zt} (h : mk18 O O') (hz : MZ O Z) : MZ O' Z := by
  obtain ⟨h1, h2⟩ := h
  unfold MZ
  rw [h1, h2 1 (by decide) (by decide), h2 2 (by decide) (by decide), h2 3 (by decide) (by decide), h2 4 (by decide) (by decide), h2 5 (by decide) (by decide), h2 6 (by decide) (by decide)]
  exact hz
theorem in_nI {k N : Nat} (h : k < 2 ^ 31) (hN : N < 2 ^ 31) : f_X6_in (nI k) 0 (nI N) = if N < k then 0 else 1 := by
  rw [f_X6_in.eq_1, if_neg (nI_pos h)]
  by_cases c : N < k
  · rw [if_pos (nI_lt c h), if_pos c]
  · rw [if_neg (nI_nlt (by omega) hN), if_neg c]
theorem within_nI {k N : Nat} (h : k ≤ N) (hN : N < 2 ^ 31) : f_X6_within (nI k) 0 (nI N) = nI k := by
  rw [f_X6_within.eq_1, if_pos (nI_pos' (by omega)), if_pos (nI_le h hN)]
/-- ones of the first k places -/
def onA (x : Int32) : Nat → Int32
  | 0 => 0
  | k + 1 => onA x k + ((x >>> (nI k &&& 31)) &&& 1)
theorem onesOf_eq (x : Int32) : f_X6_onesOf x = some (onA x 10) := by
  rw [f_X6_onesOf.eq_1]
  refine loopN (fun k n => f_X6_onesOf_4 n x (onA x k) (nI k) = some (onA x 10)) 10 (fun n => ?_) (fun k n hk ih => ?_) fU (fU_lt (by decide))
  · rw [f_X6_onesOf_4.eq_2, if_pos (by decide)]
  · rw [f_X6_onesOf_4.eq_2, if_neg (ge_10 hk)]
    simp only [vl]
    rw [nI_1]
    exact ih
theorem on_bc : ∀ n, n < 1024 → onA (nI n) 10 = bc (nI n) := by decide +kernel
/-- a set of facts -/
def isSet (x : Int32) : Prop := ∃ n, n < 1024 ∧ x = nI n
theorem ones_bc {x : Int32} (h : isSet x) : f_X6_onesOf x = some (bc x) := by
  obtain ⟨n, hn, rfl⟩ := h
  rw [onesOf_eq, on_bc n hn]
theorem nthOf_eq (x nth : Int32) : f_X6_nthOf x nth = some (nthA x 10 0 nth) := by
  have key : ∀ m k c n, k + m = 10 → m < n → f_X6_nthOf_4 n x nth c (nI k) = some (nthA x m k (nth - c)) := by
    intro m
    induction m with
    | zero =>
      intro k c n hk hn
      obtain ⟨n, rfl⟩ : ∃ q, n = q + 1 := ⟨n - 1, by omega⟩
      have : k = 10 := by omega
      subst this
      rw [f_X6_nthOf_4.eq_2, if_pos (by decide)]
      rfl
    | succ m ih =>
      intro k c n hk hn
      obtain ⟨n, rfl⟩ : ∃ q, n = q + 1 := ⟨n - 1, by omega⟩
      rw [f_X6_nthOf_4.eq_2, if_neg (ge_10 (by omega)), nthA]
      simp only [vl]
      rw [nI_1]
      split
      · by_cases c1 : c = nth
        · rw [if_pos c1, if_pos (by rw [c1]; exact Int32.sub_self nth)]
        · rw [if_neg c1, if_neg (fun q => c1 (by grind)), ih (k + 1) (c + 1) n (by omega) (by omega), show nth - c + (-1 : Int32) = nth - (c + 1) by grind]
      · exact ih (k + 1) c n (by omega) (by omega)
  have e := key 10 0 0 fU (by omega) (fU_lt (by omega))
  rw [show nth - (0 : Int32) = nth by grind] at e
  rw [f_X6_nthOf.eq_1]
  exact e
section MD
variable {m : Nat} {O : MS} {μ : mS} {Z : Zt}
theorem three (k : Nat) : (3 : Int32) * nI k = nI (3 * k) := pk_mul 3 k
theorem m_isLinen (hz : MZ O Z) {k : Nat} (hk : k < 8) : f_X6_isLinen m (nI k) (memM m O μ) = some (if Z 7 k = -1 then 0 else 1) := by
  rw [f_X6_isLinen.eq_1, show (7 : Int32) = nI 7 from rfl, in_nI (by omega) (by omega), if_neg (by omega : ¬ 7 < k), if_neg (by decide), mR_4, Option.bind_some, within_nI (by omega) (by omega), three, aM 3 (by omega) (3 * k) (by show _ < 24; omega) (by omega), Option.bind_some]
  rw [show O.2 (3 + 1) (3 * k) = Z 7 k from hz.l0 hk]
  split <;> rfl
theorem m_lying (hz : MZ O Z) : f_X6_lying m (memM m O μ) = some (lyA Z 8) := by
  rw [f_X6_lying.eq_1]
  refine loopN (fun k n => f_X6_lying_4 (memM m O μ) n m (lyA Z k) (nI k) = some (lyA Z 8)) 8 (fun n => ?_) (fun k n hk ih => ?_) fU (fU_lt (by decide))
  · rw [f_X6_lying_4.eq_2, if_pos (by decide)]
  · rw [f_X6_lying_4.eq_2, if_neg (ge_8 hk), if_pos isO_M, m_isLinen hz hk, Option.bind_some]
    simp only [vl]
    rw [nI_1]
    rw [lyA] at ih
    by_cases c : Z 7 k = -1
    · rw [if_pos c] at ih ⊢
      rw [if_pos rfl]
      exact ih
    · rw [if_neg c] at ih ⊢
      rw [if_neg (by decide)]
      exact ih
theorem m_verdictOf (hz : MZ O Z) (set : Int32) : f_X6_verdictOf m set (memM m O μ) = some (wtA (Z 0) set 10) := by
  rw [f_X6_verdictOf.eq_1]
  refine loopN (fun k n => f_X6_verdictOf_4 (memM m O μ) n m set (wtA (Z 0) set k) (nI k) = some (wtA (Z 0) set 10)) 10 (fun n => ?_) (fun k n hk ih => ?_) fU (fU_lt (by decide))
  · rw [f_X6_verdictOf_4.eq_2, if_pos (by decide)]
  · rw [f_X6_verdictOf_4.eq_2, if_neg (ge_10 hk)]
    rw [wtA] at ih
    by_cases c : ((set >>> (nI k &&& 31)) &&& 1) = 1
    · rw [if_pos c, mR_5, Option.bind_some, aM 4 (by omega) k (by show _ < 10; omega) (by omega), Option.bind_some]
      rw [if_pos c] at ih
      simp only [vl]
      rw [nI_1, show O.2 (4 + 1) k = Z 0 k from hz.wt hk]
      exact ih
    · rw [if_neg c]
      rw [if_neg c] at ih
      simp only [vl]
      rw [nI_1]
      exact ih
theorem m_ownLinens (hz : MZ O Z) (p : Int32) : f_X6_ownLinens m p (memM m O μ) = some (ownA Z p 8) := by
  rw [f_X6_ownLinens.eq_1]
  refine loopN (fun k n => f_X6_ownLinens_4 (memM m O μ) n m p (ownA Z p k) (nI k) = some (ownA Z p 8)) 8 (fun n => ?_) (fun k n hk ih => ?_) fU (fU_lt (by decide))
  · rw [f_X6_ownLinens_4.eq_2, if_pos (by decide)]
  · rw [f_X6_ownLinens_4.eq_2, if_neg (ge_8 hk), mR_4, Option.bind_some, three, aM 3 (by omega) (3 * k) (by show _ < 24; omega) (by omega), Option.bind_some]
    simp only [vl]
    rw [nI_1, show O.2 (3 + 1) (3 * k) = Z 7 k from hz.l0 hk]
    exact ih
end MD
