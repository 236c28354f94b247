/-! ONE ASSIZE of the class as a picture Z (rows 0..9: weights keen kind more known face vain owner fact left; 10: admitted, hour, witnesses), its stack g. -/
abbrev Zt : Type := Nat → Nat → Int32
def zs (Z : Zt) (j k : Nat) (v : Int32) : Zt := va_up Z j (upd (Z j) k v)
def sxZ (S : XS) (o : Nat) (Z : Zt) (g : Nat → Int32) : XS := (fun k => if k = o then (fun f => if f = 11 then Z 10 0 else if f = 12 then Z 10 1 else if f = 13 then Z 10 2 else S.1 o f) else S.1 k, fun k => if o < k ∧ k ≤ o + 10 then Z (k - o - 1) else if k = 10 then g else S.2.1 k, S.2.2)
def AZ (b o : Nat) (S : XS) (μ : mS) (Z : Zt) (g : Nat → Int32) : mS := memX b (sxZ S o Z g) μ
theorem sxZ_A {S : XS} {o : Nat} {Z : Zt} {g : Nat → Int32} (j : Nat) (hj : j < 10) : (sxZ S o Z g).2.1 (o + (j + 1)) = Z j := by
  simp only [sxZ]
  rw [if_pos (by omega)]
  congr 1
  omega
theorem sxZ_g {S : XS} {o : Nat} {Z : Zt} {g : Nat → Int32} (h : zo o) : (sxZ S o Z g).2.1 10 = g := by
  simp only [sxZ]
  rw [if_neg (by rcases h with rfl | rfl | rfl | rfl | rfl | rfl <;> omega), if_pos trivial]
theorem sxZ_setA {S : XS} {o : Nat} {Z : Zt} {g : Nat → Int32} (j : Nat) (hj : j < 10) (v : Int32) (i : Nat) : sxA (sxZ S o Z g) (o + (j + 1)) (upd (Z j) i v) = sxZ S o (zs Z j i v) g := by
  refine Prod.ext (funext fun k => ?_) (Prod.ext (funext fun k => ?_) rfl)
  · simp only [sxA, sxZ, zs]
    rw [up_ne _ _ (show (10 : Nat) ≠ j by omega)]
  · simp only [sxA, sxZ, zs]
    by_cases hk : k = o + (j + 1)
    · subst hk
      rw [up_eq, if_pos (by omega), show o + (j + 1) - o - 1 = j by omega, up_eq]
    · rw [up_ne _ _ hk]
      by_cases hr : o < k ∧ k ≤ o + 10
      · rw [if_pos hr, if_pos hr, up_ne _ _ (show k - o - 1 ≠ j by omega)]
      · rw [if_neg hr, if_neg hr]
theorem sxZ_setG {S : XS} {o : Nat} {Z : Zt} {g g' : Nat → Int32} (h : zo o) : sxA (sxZ S o Z g) 10 g' = sxZ S o Z g' := by
  refine Prod.ext rfl (Prod.ext (funext fun k => ?_) rfl)
  simp only [sxA, sxZ]
  by_cases hk : k = 10
  · subst hk
    rw [up_eq, if_neg (by rcases h with rfl | rfl | rfl | rfl | rfl | rfl <;> omega), if_pos rfl]
  · rw [up_ne _ _ hk, if_neg hk, if_neg hk]
theorem sxZ_setI {S : XS} {o : Nat} {Z : Zt} {g : Nat → Int32} (k : Nat) (hk : k < 3) (v : Int32) : sxI (sxZ S o Z g) o (11 + k) v = sxZ S o (zs Z 10 k v) g := by
  refine Prod.ext (funext fun q => ?_) (Prod.ext (funext fun q => ?_) rfl)
  · simp only [sxI, sxZ, zs]
    by_cases hq : q = o
    · subst hq
      rw [up_eq, if_pos trivial]
      funext f
      rw [up_eq]
      match k, hk with
      | 0, _ => by_cases h1 : f = 11 <;> simp [upd, h1]
      | 1, _ => by_cases h1 : f = 12 <;> simp [upd, h1]
      | 2, _ => by_cases h1 : f = 13 <;> simp [upd, h1]
    · rw [up_ne _ _ hq, if_neg hq, if_neg hq]
  · simp only [sxI, sxZ, zs]
    by_cases hr : o < q ∧ q ≤ o + 10
    · rw [if_pos hr, if_pos hr, up_ne _ _ (show q - o - 1 ≠ 10 by omega)]
    · rw [if_neg hr, if_neg hr]
section AZR
variable {b o : Nat} {S : XS} {μ : mS} {Z : Zt} {g : Nat → Int32}
theorem isO_A (h : zo o) : isO (AZ b o S μ Z g) (b + o) 0 = true := isO_Z h
theorem gR_A (h : zo o) (j : Nat) (hj : j < 10) : gR (AZ b o S μ Z g) (b + o) 0 j = some (b + (o + (j + 1))) := gR_Z h j hj
theorem gS_A (h : zo o) : gR (AZ b o S μ Z g) (b + o) 0 10 = some (b + 10) := gS_Z h
theorem gL_A (h : zo o) : gR (AZ b o S μ Z g) (b + o) 0 14 = some (S.2.2.1 o) := gL_Z h
theorem gA_A (h : zo o) : gI (AZ b o S μ Z g) (b + o) 0 11 = some (Z 10 0) := by
  rw [AZ, gI_Z h 11 (Or.inl rfl)]
  simp [sxZ]
theorem gH_A (h : zo o) : gI (AZ b o S μ Z g) (b + o) 0 12 = some (Z 10 1) := by
  rw [AZ, gI_Z h 12 (Or.inr (Or.inl rfl))]
  simp [sxZ]
theorem gW_A (h : zo o) : gI (AZ b o S μ Z g) (b + o) 0 13 = some (Z 10 2) := by
  rw [AZ, gI_Z h 13 (Or.inr (Or.inr rfl))]
  simp [sxZ]
theorem pA_A (h : zo o) (v : Int32) : pI (AZ b o S μ Z g) (b + o) 0 11 v = some (AZ b o S μ (zs Z 10 0 v) g) := by
  rw [AZ, pI_Z h 11 (Or.inl rfl), AZ, sxZ_setI 0 (by omega)]
theorem pH_A (h : zo o) (v : Int32) : pI (AZ b o S μ Z g) (b + o) 0 12 v = some (AZ b o S μ (zs Z 10 1 v) g) := by
  rw [AZ, pI_Z h 12 (Or.inr (Or.inl rfl)), AZ, sxZ_setI 1 (by omega)]
theorem pW_A (h : zo o) (v : Int32) : pI (AZ b o S μ Z g) (b + o) 0 13 v = some (AZ b o S μ (zs Z 10 2 v) g) := by
  rw [AZ, pI_Z h 13 (Or.inr (Or.inr rfl)), AZ, sxZ_setI 2 (by omega)]
theorem aI_A (h : zo o) (j : Nat) (hj : j < 10) (i : Int32) : aI (AZ b o S μ Z g) (b + (o + (j + 1))) i = if i < 0 ∨ zLen j ≤ i.toNatClampNeg then none else some (Z j i.toNatClampNeg) := by
  rw [AZ, aI_X (zo_lt h (by omega)) (zo_arr h hj), sxZ_A j hj]
theorem sI_A (h : zo o) (j : Nat) (hj : j < 10) (i v : Int32) : sI (AZ b o S μ Z g) (b + (o + (j + 1))) i v = if i < 0 ∨ zLen j ≤ i.toNatClampNeg then none else some (AZ b o S μ (zs Z j i.toNatClampNeg v) g) := by
  rw [AZ, sI_X (zo_lt h (by omega)) (zo_arr h hj), sxZ_A j hj, sxZ_setA j hj]
  rfl
theorem aI_G (h : zo o) (i : Int32) : aI (AZ b o S μ Z g) (b + 10) i = if i < 0 ∨ 160 ≤ i.toNatClampNeg then none else some (g i.toNatClampNeg) := by
  rw [AZ, aI_X (by omega) (show xArr 10 = some 160 from rfl), sxZ_g h]
theorem aL_G : aL (AZ b o S μ Z g) (b + 10) = some 160 := by
  rw [AZ, aL_X (by omega) (show xArr 10 = some 160 from rfl)]
  rfl
theorem sI_G (h : zo o) (i v : Int32) : sI (AZ b o S μ Z g) (b + 10) i v = if i < 0 ∨ 160 ≤ i.toNatClampNeg then none else some (AZ b o S μ Z (upd g i.toNatClampNeg v)) := by
  rw [AZ, sI_X (by omega) (show xArr 10 = some 160 from rfl), sxZ_g h, sxZ_setG h]
  rfl
/-- in range -/
theorem aI_in (h : zo o) (j : Nat) (hj : j < 10) (k : Nat) (hk : k < zLen j) : aI (AZ b o S μ Z g) (b + (o + (j + 1))) (nI k) = some (Z j k) := by
  have hz : zLen j ≤ 10 := by
    match j, hj with
    | 0, _ => exact Nat.le_refl _ | 1, _ => decide | 2, _ => decide | 3, _ => decide | 4, _ => decide | 5, _ => decide | 6, _ => decide | 7, _ => decide | 8, _ => decide | 9, _ => decide
  rw [aI_A h j hj, if_neg (nI_in hk (by omega)), nI_clamp (by omega)]
theorem sI_in (h : zo o) (j : Nat) (hj : j < 10) (k : Nat) (hk : k < zLen j) (v : Int32) : sI (AZ b o S μ Z g) (b + (o + (j + 1))) (nI k) v = some (AZ b o S μ (zs Z j k v) g) := by
  have hz : zLen j ≤ 10 := by
    match j, hj with
    | 0, _ => exact Nat.le_refl _ | 1, _ => decide | 2, _ => decide | 3, _ => decide | 4, _ => decide | 5, _ => decide | 6, _ => decide | 7, _ => decide | 8, _ => decide | 9, _ => decide
  rw [sI_A h j hj, if_neg (nI_in hk (by omega)), nI_clamp (by omega)]
end AZR
/-- a loop that counts up to N -/
theorem loopN (P : Nat → Nat → Prop) (N : Nat) (h0 : ∀ n, P N (n + 1)) (hs : ∀ k n, k < N → P (k + 1) n → P k (n + 1)) : ∀ n, N < n → P 0 n := by
  have key : ∀ d k n, k + d = N → d < n → P k n := by
    intro d
    induction d with
    | zero =>
      intro k n hk hn
      obtain ⟨m, rfl⟩ : ∃ m, n = m + 1 := ⟨n - 1, by omega⟩
      rw [show k = N by omega]
      exact h0 m
    | succ d ih =>
      intro k n hk hn
      obtain ⟨m, rfl⟩ : ∃ m, n = m + 1 := ⟨n - 1, by omega⟩
      exact hs k m (by omega) (ih (k + 1) m (by omega) (by omega))
  intro n hn
  exact key N 0 n (by omega) hn
theorem ge_6 {k : Nat} (h : k < 6) : ¬ (6 : Int32) ≤ nI k := nI_ge h (by decide)
theorem ge_8 {k : Nat} (h : k < 8) : ¬ (8 : Int32) ≤ nI k := nI_ge h (by decide)
theorem ge_10 {k : Nat} (h : k < 10) : ¬ (10 : Int32) ≤ nI k := nI_ge h (by decide)
theorem ge_160 {k : Nat} (h : k < 160) : ¬ (160 : Int32) ≤ nI k := nI_ge h (by decide)
theorem nlt_2 {k : Nat} (h : 2 ≤ k) (hk : k < 2 ^ 31) : ¬ nI k < (2 : Int32) := nI_nlt h hk
theorem nlt_1 {k : Nat} (h : 1 ≤ k) (hk : k < 2 ^ 31) : ¬ nI k < (1 : Int32) := nI_nlt h hk
theorem fU_lt {k : Nat} (h : k < 4096) : k < fU := h
-- plain functions
/-- how many lie there, of the first k -/
def lyA (Z : Zt) : Nat → Int32
  | 0 => 0
  | k + 1 => lyA Z k + (if Z 7 k = -1 then 0 else 1)
/-- the weight of the first k of the facts -/
def wtA (w : Nat → Int32) (set : Int32) : Nat → Int32
  | 0 => 0
  | k + 1 => wtA w set k + (if ((set >>> (nI k &&& 31)) &&& 1) = 1 then w k else 0)
def ownA (Z : Zt) (p : Int32) : Nat → Int32
  | 0 => 0
  | k + 1 => ownA Z p k ||| (if Z 7 k = p then (1 : Int32) <<< (nI k &&& 31) else 0)
section AZF
variable {b o : Nat} {S : XS} {μ : mS} {Z : Zt} {g : Nat → Int32}
theorem x_lying (h : zo o) : f_X0_lying (b + o) (AZ b o S μ Z g) = some (lyA Z 8) := by
  rw [f_X0_lying.eq_1]
  refine loopN (fun k n => f_X0_lying_4 (AZ b o S μ Z g) n (b + o) (lyA Z k) (nI k) = some (lyA Z 8)) 8 (fun n => ?_) (fun k n hk ih => ?_) fU (fU_lt (by decide))
  · rw [f_X0_lying_4.eq_2, if_pos (by decide)]
  · rw [f_X0_lying_4.eq_2, if_neg (ge_8 hk), gR_A h 7 (by omega), Option.bind_some, aI_in h 7 (by omega) k hk, Option.bind_some]
    simp only [vl]
    rw [nI_1]
    exact ih
theorem x_weightOf (h : zo o) (set : Int32) : f_X0_weightOf (b + o) set (AZ b o S μ Z g) = some (wtA (Z 0) set 10) := by
  rw [f_X0_weightOf.eq_1]
  refine loopN (fun k n => f_X0_weightOf_4 (AZ b o S μ Z g) n (b + o) set (wtA (Z 0) set k) (nI k) = some (wtA (Z 0) set 10)) 10 (fun n => ?_) (fun k n hk ih => ?_) fU (fU_lt (by decide))
  · rw [f_X0_weightOf_4.eq_2, if_pos (by decide)]
  · rw [f_X0_weightOf_4.eq_2, if_neg (ge_10 hk)]
    rw [wtA] at ih
    by_cases c : ((set >>> (nI k &&& 31)) &&& 1) = 1
    · rw [if_pos c, gR_A h 0 (by omega), Option.bind_some, aI_in h 0 (by omega) k hk, Option.bind_some]
      rw [if_pos c] at ih
      simp only [vl]
      rw [nI_1]
      exact ih
    · rw [if_neg c]
      rw [if_neg c] at ih
      simp only [vl]
      rw [nI_1]
      exact ih
theorem x_verdict (h : zo o) : f_X0_verdict (b + o) (AZ b o S μ Z g) = some (wtA (Z 0) (Z 10 0) 10) := by
  rw [f_X0_verdict.eq_1, gA_A h, Option.bind_some, if_pos (isO_A h), x_weightOf h, Option.bind_some]
theorem x_linensOf (h : zo o) (p : Int32) : f_X0_linensOf (b + o) p (AZ b o S μ Z g) = some (ownA Z p 8) := by
  rw [f_X0_linensOf.eq_1]
  refine loopN (fun k n => f_X0_linensOf_4 (AZ b o S μ Z g) n (b + o) p (ownA Z p k) (nI k) = some (ownA Z p 8)) 8 (fun n => ?_) (fun k n hk ih => ?_) fU (fU_lt (by decide))
  · rw [f_X0_linensOf_4.eq_2, if_pos (by decide)]
  · rw [f_X0_linensOf_4.eq_2, if_neg (ge_8 hk), gR_A h 7 (by omega), Option.bind_some, aI_in h 7 (by omega) k hk, Option.bind_some]
    simp only [vl]
    rw [nI_1]
    exact ih
theorem x_lies (h : zo o) (i : Int32) : f_X0_lies (b + o) i (AZ b o S μ Z g) = some (if i < 0 ∨ 8 ≤ i.toNatClampNeg then 0 else if Z 7 i.toNatClampNeg = -1 then 0 else 1) := by
  rw [f_X0_lies.eq_1, f_X5_isBelow.eq_1]
  by_cases h0 : i < 0
  · rw [if_pos h0, if_pos rfl, if_pos (Or.inl h0)]
  · rw [if_neg h0]
    obtain ⟨k, hk, rfl⟩ := nI_of h0
    rw [nI_clamp hk]
    by_cases h8 : 8 ≤ k
    · rw [if_pos (show (8 : Int32) ≤ nI k from nI_le h8 hk), if_pos rfl, if_pos (Or.inr h8)]
    · rw [if_neg (ge_8 (Nat.lt_of_not_le h8)), if_neg (by decide), gR_A h 7 (by omega), Option.bind_some, aI_in h 7 (by omega) k (Nat.lt_of_not_le h8), Option.bind_some, if_neg (show ¬ (nI k < 0 ∨ 8 ≤ k) from fun q => q.elim h0 h8)]
      split <;> rfl
end AZF
