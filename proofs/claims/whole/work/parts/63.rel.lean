/-! The class's assizes, read off the picture; one becomes another one. -/
def zof (S : XS) (o : Nat) : Zt := fun j => if j < 10 then S.2.1 (o + (j + 1)) else (fun f => S.1 o (11 + f))
def zEq (Z Y : Zt) : Prop := (∀ j k, j < 10 → k < zLen j → Z j k = Y j k) ∧ ∀ k, k < 3 → Z 10 k = Y 10 k
theorem zEq.rf (Z : Zt) : zEq Z Z := ⟨fun _ _ _ _ => rfl, fun _ _ => rfl⟩
theorem zEq.sy {Z Y : Zt} (h : zEq Z Y) : zEq Y Z := ⟨fun j k a c => (h.1 j k a c).symm, fun k a => (h.2 k a).symm⟩
theorem zEq.tr {Z Y V : Zt} (h : zEq Z Y) (h2 : zEq Y V) : zEq Z V := ⟨fun j k a c => (h.1 j k a c).trans (h2.1 j k a c), fun k a => (h.2 k a).trans (h2.2 k a)⟩
theorem zEq.w {Z Y : Zt} (h : zEq Z Y) : wN Z = wN Y := by unfold wN; rw [h.2 2 (by decide)]
theorem MZ.eq {O : MS} {Z Y : Zt} (h : zEq Z Y) (hw : wN Z ≤ 6) (hz : MZ O Z) : MZ O Y := by
  obtain ⟨a, c⟩ := h
  refine ⟨fun k hk => ?_, fun k hk => ⟨?_, ?_, ?_, ?_⟩, fun k hk => ⟨?_, ?_, ?_⟩, ⟨?_, ?_, ?_⟩, fun p hp => ?_⟩
  · rw [hz.wt hk]; exact a 0 k (by decide) hk
  · rw [hz.kn hk]; exact a 1 k (by decide) hk
  · rw [hz.r0 hk]; exact a 4 k (by decide) hk
  · rw [hz.r1 hk]; exact a 5 k (by decide) hk
  · rw [hz.r2 hk]; exact a 6 k (by decide) hk
  · rw [hz.l0 hk]; exact a 7 k (by decide) hk
  · rw [hz.l1 hk]; exact a 8 k (by decide) hk
  · rw [hz.l2 hk]; exact a 9 k (by decide) hk
  · rw [hz.ad]; exact c 0 (by decide)
  · rw [hz.hr]; exact c 1 (by decide)
  · rw [hz.wi]; exact c 2 (by decide)
  · rw [← c 2 (by decide)] at hp
    have h6 : p < 6 := by unfold wN at hw; omega
    exact ⟨by rw [hz.kd hp]; exact a 2 p (by decide) h6, by rw [hz.mo hp]; exact a 3 p (by decide) h6⟩
theorem gZ.eq {Z Y : Zt} (h : zEq Z Y) (hg : gZ Z) : gZ Y := by
  have h6 := hg.w6
  have hw := h.w
  obtain ⟨a, c⟩ := h
  obtain ⟨h1, h2, h3, h4, h5, hl⟩ := hg
  refine ⟨?_, ?_, fun k hk => ?_, fun k hk => ?_, fun p hp => ?_, fun k hk => ?_⟩
  · rw [← c 2 (by decide)]; exact h1
  · rw [← c 0 (by decide)]; exact h2
  · rw [← a 0 k (by decide) hk]; exact h3 k hk
  · rw [← a 1 k (by decide) hk, ← a 4 k (by decide) hk, ← a 5 k (by decide) hk, ← a 6 k (by decide) hk]; exact h4 k hk
  · rw [← hw] at hp
    rw [← a 2 p (by decide) (show p < 6 by omega), ← a 3 p (by decide) (show p < 6 by omega)]; exact h5 p hp
  · rw [← a 7 k (by decide) hk, ← a 8 k (by decide) hk, ← a 9 k (by decide) hk, ← hw]; exact hl k hk
section ZOF
variable {b o d s : Nat} {S : XS} {μ : mS} {Z : Zt} {g : Nat → Int32}
theorem zof_lt {j : Nat} (h : j < 10) : zof S o j = S.2.1 (o + (j + 1)) := by simp only [zof]; rw [if_pos h]
theorem zof_10 (f : Nat) : zof S o 10 f = S.1 o (11 + f) := rfl
theorem sxZ_self : sxZ S o (zof S o) (S.2.1 10) = S := by
  refine Prod.ext (funext fun k => ?_) (Prod.ext (funext fun k => ?_) rfl)
  · simp only [sxZ]
    by_cases h : k = o
    · subst h
      rw [if_pos rfl]
      funext f
      by_cases c1 : f = 11
      · subst c1; rfl
      by_cases c2 : f = 12
      · subst c2; rfl
      by_cases c3 : f = 13
      · subst c3; rfl
      rw [if_neg c1, if_neg c2, if_neg c3]
    · rw [if_neg h]
  · simp only [sxZ]
    by_cases h : o < k ∧ k ≤ o + 10
    · rw [if_pos h, zof_lt (j := k - o - 1) (by omega)]
      exact congrArg S.2.1 (by omega)
    · rw [if_neg h]
      by_cases c : k = 10
      · subst c; rw [if_pos rfl]
      · rw [if_neg c]
theorem AZ_of (b o : Nat) (S : XS) (μ : mS) : memX b S μ = AZ b o S μ (zof S o) (S.2.1 10) := by rw [AZ, sxZ_self]
theorem zof_sx : zEq Z (zof (sxZ S o Z g) o) := by
  refine ⟨fun j k hj hk => ?_, fun k hk => ?_⟩
  · rw [zof_lt hj, sxZ_A j hj]
  · rw [zof_10]
    simp only [sxZ, if_true]
    match k, hk with
    | 0, _ => rfl
    | 1, _ => rfl
    | 2, _ => rfl
theorem zo_apart (h : zo o) (h2 : zo d) (hn : d ≠ o) {i : Nat} (hi : i ≤ 10) : ¬ (o < d + i ∧ d + i ≤ o + 10) ∧ d + i ≠ 10 ∧ d + i ≠ 8 ∧ d + i ≠ 9 := by
  rcases h with rfl | rfl | rfl | rfl | rfl | rfl <;> rcases h2 with rfl | rfl | rfl | rfl | rfl | rfl <;> omega
theorem zof_ne (h : zo o) (h2 : zo d) (hn : d ≠ o) : zof (sxZ S o Z g) d = zof S d := by
  funext j
  simp only [zof]
  by_cases c : j < 10
  · rw [if_pos c, if_pos c]
    have q := zo_apart h h2 hn (i := j + 1) (by omega)
    simp only [sxZ]
    rw [if_neg q.1, if_neg q.2.1]
  · rw [if_neg c, if_neg c]
    simp only [sxZ]
    rw [if_neg hn]
theorem sxZ_sx {Y : Zt} {g' : Nat → Int32} (h : zo o) : sxZ (sxZ S o Z g) o Y g' = sxZ S o Y g' := by
  refine Prod.ext (funext fun k => ?_) (Prod.ext (funext fun k => ?_) rfl)
  · simp only [sxZ]
    by_cases c : k = o
    · rw [if_pos c, if_pos c]
      funext f
      rw [if_pos trivial]
      by_cases c1 : f = 11
      · simp [c1]
      by_cases c2 : f = 12
      · simp [c2]
      by_cases c3 : f = 13
      · simp [c3]
      simp [c1, c2, c3]
    · rw [if_neg c, if_neg c, if_neg c]
  · simp only [sxZ]
    by_cases c : o < k ∧ k ≤ o + 10
    · rw [if_pos c, if_pos c]
    · rw [if_neg c, if_neg c, if_neg c]
      by_cases c2 : k = 10
      · rw [if_pos c2, if_pos c2]
      · rw [if_neg c2, if_neg c2, if_neg c2]
theorem sxZ_setR (j : Nat) (hj : j < 10) (f : Nat → Int32) : sxA (sxZ S o Z g) (o + (j + 1)) f = sxZ S o (va_up Z j f) g := by
  refine Prod.ext (funext fun k => ?_) (Prod.ext (funext fun k => ?_) rfl)
  · simp only [sxA, sxZ]
    rw [up_ne _ _ (show (10 : Nat) ≠ j by omega)]
  · simp only [sxA, sxZ]
    by_cases hk : k = o + (j + 1)
    · subst hk
      rw [up_eq, if_pos (by omega), show o + (j + 1) - o - 1 = j by omega, up_eq]
    · rw [up_ne _ _ hk]
      by_cases hr : o < k ∧ k ≤ o + 10
      · rw [if_pos hr, if_pos hr, up_ne _ _ (show k - o - 1 ≠ j by omega)]
      · rw [if_neg hr, if_neg hr]
theorem cP_A (hd : zo d) (hs : zo s) (hn : s ≠ d) (j : Nat) (hj : j < 10) (n : Int32) (hn2 : n = nI (zLen j)) : cP (AZ b d S μ Z g) (b + (s + (j + 1))) 0 (b + (d + (j + 1))) 0 n = some (AZ b d S μ (va_up Z j (va_cpy (S.2.1 (s + (j + 1))) (Z j) 0 0 (zLen j))) g) := by
  have hz : zLen j ≤ 10 := by
    match j, hj with
    | 0, _ => exact Nat.le_refl _ | 1, _ => decide | 2, _ => decide | 3, _ => decide | 4, _ => decide | 5, _ => decide | 6, _ => decide | 7, _ => decide | 8, _ => decide | 9, _ => decide
  have z0 : (0 : Int32).toNatClampNeg = 0 := by decide
  have q := zo_apart hd hs hn (i := j + 1) (by omega)
  have e : (sxZ S d Z g).2.1 (s + (j + 1)) = S.2.1 (s + (j + 1)) := by
    simp only [sxZ]
    rw [if_neg q.1, if_neg q.2.1]
  rw [AZ, cP_X (zo_lt hs (by omega)) (zo_arr hs hj) (zo_lt hd (by omega)) (zo_arr hd hj), hn2, nI_clamp (by omega), z0, if_neg (by
    have := nI_pos (show zLen j < 2 ^ 31 by omega)
    have h0 : ¬ (0 : Int32) < 0 := by decide
    simp only [not_or]
    exact ⟨h0, h0, this, by omega, by omega⟩), e, sxZ_A j hj, sxZ_setR j hj]
  rfl
theorem gI_As (hd : zo d) (hs : zo s) (hn : s ≠ d) (k : Nat) (hk : k = 11 ∨ k = 12 ∨ k = 13) : gI (AZ b d S μ Z g) (b + s) 0 k = some (S.1 s k) := by
  rw [AZ, gI_Z hs k hk]
  simp only [sxZ]
  rw [if_neg hn]
theorem pL_A (h : zo o) (q : Nat) : pR (AZ b o S μ Z g) (b + o) 0 14 q = some (AZ b o (sxL S o q) μ Z g) := by
  rw [AZ, pL_Z h]
  rfl
/-- one becomes another one -/
theorem x_becomeA (hd : zo d) (hs : zo s) (hn : s ≠ d) : ∃ Y, f_X0_become (b + d) (b + s) (AZ b d S μ Z g) = some (AZ b d (sxL S d (S.2.2.1 s)) μ Y g) ∧ zEq (zof S s) Y := by
  rw [f_X0_become.eq_1]
  have gs : ∀ (Z : Zt) j, j < 10 → gR (AZ b d S μ Z g) (b + s) 0 j = some (b + (s + (j + 1))) := fun Z j hj => gR_Z hs j hj
  have gd : ∀ (Z : Zt) j, j < 10 → gR (AZ b d S μ Z g) (b + d) 0 j = some (b + (d + (j + 1))) := fun Z j hj => gR_Z hd j hj
  have st : ∀ (Z : Zt) (j : Nat) (n : Int32) (K : mS → Option mS), j < 10 → n = nI (zLen j) → ((gR (AZ b d S μ Z g) (b + s) 0 j).bind fun r => (gR (AZ b d S μ Z g) (b + d) 0 j).bind fun r2 => (cP (AZ b d S μ Z g) r (0 : Int32) r2 (0 : Int32) n).bind K) = K (AZ b d S μ (va_up Z j (va_cpy (S.2.1 (s + (j + 1))) (Z j) 0 0 (zLen j))) g) := by
    intro Z j n K hj hn2
    rw [gs Z j hj, Option.bind_some, gd Z j hj, Option.bind_some, cP_A hd hs hn j hj n hn2, Option.bind_some]
  rw [st _ 0 10 _ (by decide) rfl, st _ 1 6 _ (by decide) rfl, st _ 2 6 _ (by decide) rfl, st _ 3 6 _ (by decide) rfl, st _ 4 6 _ (by decide) rfl, st _ 5 6 _ (by decide) rfl, st _ 6 6 _ (by decide) rfl, st _ 7 8 _ (by decide) rfl, st _ 8 8 _ (by decide) rfl, st _ 9 8 _ (by decide) rfl]
  rw [gI_As hd hs hn 11 (Or.inl rfl), Option.bind_some, pA_A hd, Option.bind_some, gI_As hd hs hn 12 (Or.inr (Or.inl rfl)), Option.bind_some, pH_A hd, Option.bind_some, gI_As hd hs hn 13 (Or.inr (Or.inr rfl)), Option.bind_some, pW_A hd, Option.bind_some]
  have gl : ∀ Y, gR (AZ b d S μ Y g) (b + s) 0 14 = some (S.2.2.1 s) := fun Y => gL_Z hs
  rw [gl, Option.bind_some, pL_A hd, Option.bind_some]
  refine ⟨_, rfl, fun j k hj hk => ?_, fun k hk => ?_⟩
  · rw [zof_lt hj]
    have cp : ∀ f g' : Nat → Int32, va_cpy f g' 0 0 (zLen j) k = f k := by
      intro f g'
      unfold va_cpy
      rw [if_pos (by omega)]
      congr 1
      omega
    rw [zs_j _ _ (by omega), zs_j _ _ (by omega), zs_j _ _ (by omega)]
    match j, hj with
    | 0, _ => simp [va_up, cp]
    | 1, _ => simp [va_up, cp]
    | 2, _ => simp [va_up, cp]
    | 3, _ => simp [va_up, cp]
    | 4, _ => simp [va_up, cp]
    | 5, _ => simp [va_up, cp]
    | 6, _ => simp [va_up, cp]
    | 7, _ => simp [va_up, cp]
    | 8, _ => simp [va_up, cp]
    | 9, _ => simp [va_up, cp]
  · rw [zof_10]
    match k, hk with
    | 0, _ => rw [zs_k _ (by decide), zs_k _ (by decide), zs_eq]
    | 1, _ => rw [zs_k _ (by decide), zs_eq]
    | 2, _ => rw [zs_eq]
end ZOF
