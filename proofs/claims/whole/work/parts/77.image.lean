/-! image, back. -/
def cpL (O : MS) (dst src off off2 : Nat) : Nat → MS
  | 0 => O
  | k + 1 => smA (cpL O dst src off off2 k) dst (upd ((cpL O dst src off off2 k).2 dst) (off + k) ((cpL O dst src off off2 k).2 src (off2 + k)))
theorem cpL_1 (O : MS) (dst src off off2 : Nat) : ∀ k, (cpL O dst src off off2 k).1 = O.1 := by
  intro k
  induction k with
  | zero => rfl
  | succ k ih => rw [cpL, smA_1, ih]
theorem cpL_ne (O : MS) (dst src off off2 : Nat) {j : Nat} (h : j ≠ dst) : ∀ k, (cpL O dst src off off2 k).2 j = O.2 j := by
  intro k
  induction k with
  | zero => rfl
  | succ k ih => rw [cpL, show (smA (cpL O dst src off off2 k) dst _).2 j = (cpL O dst src off off2 k).2 j from up_ne _ _ h, ih]
theorem cpL_at (O : MS) (dst src off off2 : Nat) (h : src ≠ dst) (i : Nat) : ∀ k, (cpL O dst src off off2 k).2 dst i = if off ≤ i ∧ i < off + k then O.2 src (off2 + (i - off)) else O.2 dst i := by
  intro k
  induction k with
  | zero => rw [cpL, if_neg (by omega)]
  | succ k ih =>
    rw [cpL, smA_at, if_pos rfl, upd_at, cpL_ne O dst src off off2 h]
    by_cases c : i = off + k
    · rw [if_pos c, if_pos (by omega)]
      exact congrArg (O.2 src) (by omega)
    · rw [if_neg c, ih]
      by_cases c2 : off ≤ i ∧ i < off + k
      · rw [if_pos c2, if_pos (by omega)]
      · rw [if_neg c2, if_neg (by omega)]
theorem KI.eq {O : MS} {Z Y : Zt} (h : zEq Z Y) (hk : KI O Z) : KI O Y := by
  obtain ⟨a, c⟩ := h
  obtain ⟨h1, h2, h3, h4, h5, h6, h7⟩ := hk
  refine ⟨fun k j hk hj => ?_, fun k j hk hj => ?_, fun k hk => ?_, fun k hk => ?_, ?_, ?_, ?_⟩
  · rw [h1 k j hk hj]
    exact a (4 + j) k (by omega) (by
      have : j = 0 ∨ j = 1 ∨ j = 2 := by omega
      rcases this with rfl | rfl | rfl <;> exact hk)
  · rw [h2 k j hk hj]
    exact a (7 + j) k (by omega) (by
      have : j = 0 ∨ j = 1 ∨ j = 2 := by omega
      rcases this with rfl | rfl | rfl <;> exact hk)
  · rw [h3 k hk]; exact a 0 k (by decide) hk
  · rw [h4 k hk]; exact a 1 k (by decide) hk
  · rw [h5]; exact c 2 (by decide)
  · rw [h6]; exact c 0 (by decide)
  · rw [h7]; exact c 1 (by decide)
section IM
variable {b m : Nat} {S S' : XS} {O O' : MS} {μ : mS} {tc r : Nat} {T : Nat → Lw} {Q : Nat → Nat}
theorem im_7 (K : Nat → Int32 → mS → Option (Int32 × mS)) : f_X6_image_7 K fU m 0 (memM m O μ) = K m 0 (memM m (cpL O 10 3 0 0 18) μ) := by
  refine loopN (fun k n => f_X6_image_7 K n m (nI k) (memM m (cpL O 10 3 0 0 k) μ) = K m 0 (memM m (cpL O 10 3 0 0 18) μ)) 18 (fun n => ?_) (fun k n hk ih => ?_) fU (fU_lt (by decide))
  · rw [f_X6_image_7.eq_2, if_pos (by decide)]
  · rw [f_X6_image_7.eq_2, if_neg (ge_18 hk), mR_16, Option.bind_some, mR_3, Option.bind_some, aM 2 (by decide) k (by show _ < 18; omega) (by omega), Option.bind_some, sM 9 (by decide) k (by show _ < 58; omega) (by omega), Option.bind_some]
    simp only [vl]
    rw [nI_1]
    rw [cpL, Nat.zero_add] at ih
    exact ih
theorem im_33 (K : Nat → Int32 → mS → Option (Int32 × mS)) : f_X6_image_33 K fU m 0 (memM m O μ) = K m 0 (memM m (cpL O 10 4 18 0 24) μ) := by
  refine loopN (fun k n => f_X6_image_33 K n m (nI k) (memM m (cpL O 10 4 18 0 k) μ) = K m 0 (memM m (cpL O 10 4 18 0 24) μ)) 24 (fun n => ?_) (fun k n hk ih => ?_) fU (fU_lt (by decide))
  · rw [f_X6_image_33.eq_2, if_pos (by decide)]
  · rw [f_X6_image_33.eq_2, if_neg (ge_24 hk), mR_16, Option.bind_some, mR_4, Option.bind_some, aM 3 (by decide) k (by show _ < 24; omega) (by omega), Option.bind_some, show (18 : Int32) + nI k = nI (18 + k) from nI_add 18 k, sM 9 (by decide) (18 + k) (by show _ < 58; omega) (by omega), Option.bind_some]
    simp only [vl]
    rw [nI_1]
    rw [cpL, Nat.zero_add] at ih
    exact ih
theorem im_62 (K : Nat → Int32 → mS → Option (Int32 × mS)) : f_X6_image_62 K fU m 0 (memM m O μ) = K m 0 (memM m (cpL O 10 5 42 0 10) μ) := by
  refine loopN (fun k n => f_X6_image_62 K n m (nI k) (memM m (cpL O 10 5 42 0 k) μ) = K m 0 (memM m (cpL O 10 5 42 0 10) μ)) 10 (fun n => ?_) (fun k n hk ih => ?_) fU (fU_lt (by decide))
  · rw [f_X6_image_62.eq_2, if_pos (by decide)]
  · rw [f_X6_image_62.eq_2, if_neg (ge_10 hk), mR_16, Option.bind_some, mR_5, Option.bind_some, aM 4 (by decide) k (by show _ < 10; omega) (by omega), Option.bind_some, show (42 : Int32) + nI k = nI (42 + k) from nI_add 42 k, sM 9 (by decide) (42 + k) (by show _ < 58; omega) (by omega), Option.bind_some]
    simp only [vl]
    rw [nI_1]
    rw [cpL, Nat.zero_add] at ih
    exact ih
def imE (O : MS) : MS := smA (smA (smA (smA O 11 (upd (O.2 11) 0 (O.1 0))) 11 (upd (upd (O.2 11) 0 (O.1 0)) 1 (O.1 7))) 11 (upd (upd (upd (O.2 11) 0 (O.1 0)) 1 (O.1 7)) 2 (O.1 8))) 11 (upd (upd (upd (upd (O.2 11) 0 (O.1 0)) 1 (O.1 7)) 2 (O.1 8)) 3 (O.1 14))
theorem im_91 : f_X6_image_91 fU m 0 (memM m O μ) = some (O.1 0, memM m (imE (cpL O 10 6 52 0 6)) μ) := by
  refine loopN (fun k n => f_X6_image_91 n m (nI k) (memM m (cpL O 10 6 52 0 k) μ) = some (O.1 0, memM m (imE (cpL O 10 6 52 0 6)) μ)) 6 (fun n => ?_) (fun k n hk ih => ?_) fU (fU_lt (by decide))
  · have s0 : ∀ (P : MS) (k : Nat) (hk : k < 4) (v : Int32), sI (memM m P μ) (m + (10 + 1)) (nI k) v = some (memM m (smA P 11 (upd (P.2 11) k v)) μ) := fun P k hk v => sM 10 (by decide) k (by show _ < 4; omega) (by omega) v
    rw [← cpL_1 O 10 6 52 0 6]
    generalize cpL O 10 6 52 0 6 = P
    rw [f_X6_image_91.eq_2, if_pos (by decide), mR_17, Option.bind_some, mI_0, Option.bind_some, show (0 : Int32) = nI 0 from rfl, s0 P 0 (by decide), Option.bind_some, mR_17, Option.bind_some, mI_7, Option.bind_some, show (1 : Int32) = nI 1 from rfl, s0 _ 1 (by decide), Option.bind_some, mR_17, Option.bind_some, mI_8, Option.bind_some, show (2 : Int32) = nI 2 from rfl, s0 _ 2 (by decide), Option.bind_some, mR_17, Option.bind_some, mI_14, Option.bind_some, show (3 : Int32) = nI 3 from rfl, s0 _ 3 (by decide), Option.bind_some, mI_0, Option.bind_some]
    simp only [smA_1]
    have e : ∀ (P : MS) f, (smA P 11 f).2 11 = f := fun P f => by simp [smA, va_up]
    simp only [e]
    rfl
  · rw [f_X6_image_91.eq_2, if_neg (ge_6 hk), mR_16, Option.bind_some, mR_6, Option.bind_some, aM 5 (by decide) k (by show _ < 6; omega) (by omega), Option.bind_some, show (52 : Int32) + nI k = nI (52 + k) from nI_add 52 k, sM 9 (by decide) (52 + k) (by show _ < 58; omega) (by omega), Option.bind_some]
    simp only [vl]
    rw [nI_1]
    rw [cpL, Nat.zero_add] at ih
    exact ih
theorem m_image (O : MS) : ∃ O', f_X6_image m (memM m O μ) = some (O.1 0, memM m O' μ) ∧ O'.1 = upd O.1 15 1 ∧ (∀ j, j ≠ 10 → j ≠ 11 → O'.2 j = O.2 j) ∧ (∀ i, i < 18 → O'.2 10 i = O.2 3 i) ∧ (∀ i, i < 24 → O'.2 10 (18 + i) = O.2 4 i) ∧ (∀ i, i < 10 → O'.2 10 (42 + i) = O.2 5 i) ∧ (∀ i, i < 6 → O'.2 10 (52 + i) = O.2 6 i) ∧ O'.2 11 0 = O.1 0 ∧ O'.2 11 1 = O.1 7 ∧ O'.2 11 2 = O.1 8 ∧ O'.2 11 3 = O.1 14 := by
  have hx : f_X6_image m (memM m O μ) = _ := f_X6_image.eq_1 _ _
  rw [mp_15, Option.bind_some, im_7, im_33, im_62, im_91] at hx
  generalize ha : cpL (smI O 15 1) 10 3 0 0 18 = A at hx
  generalize hb : cpL A 10 4 18 0 24 = B at hx
  generalize hc : cpL B 10 5 42 0 10 = C at hx
  generalize hd : cpL C 10 6 52 0 6 = D at hx
  have a1 : A.1 = upd O.1 15 1 := by rw [← ha, cpL_1]; rfl
  have b1 : B.1 = upd O.1 15 1 := by rw [← hb, cpL_1, a1]
  have c1 : C.1 = upd O.1 15 1 := by rw [← hc, cpL_1, b1]
  have d1 : D.1 = upd O.1 15 1 := by rw [← hd, cpL_1, c1]
  have an : ∀ j, j ≠ 10 → A.2 j = O.2 j := fun j hj => by rw [← ha, cpL_ne _ _ _ _ _ hj]; rfl
  have bn : ∀ j, j ≠ 10 → B.2 j = O.2 j := fun j hj => by rw [← hb, cpL_ne _ _ _ _ _ hj, an j hj]
  have cn : ∀ j, j ≠ 10 → C.2 j = O.2 j := fun j hj => by rw [← hc, cpL_ne _ _ _ _ _ hj, bn j hj]
  have dn : ∀ j, j ≠ 10 → D.2 j = O.2 j := fun j hj => by rw [← hd, cpL_ne _ _ _ _ _ hj, cn j hj]
  have da : ∀ i, D.2 10 i = if 52 ≤ i ∧ i < 52 + 6 then O.2 6 (0 + (i - 52)) else C.2 10 i := fun i => by rw [← hd, cpL_at _ _ _ _ _ (by decide), cn 6 (by decide)]
  have ca : ∀ i, C.2 10 i = if 42 ≤ i ∧ i < 42 + 10 then O.2 5 (0 + (i - 42)) else B.2 10 i := fun i => by rw [← hc, cpL_at _ _ _ _ _ (by decide), bn 5 (by decide)]
  have ba : ∀ i, B.2 10 i = if 18 ≤ i ∧ i < 18 + 24 then O.2 4 (0 + (i - 18)) else A.2 10 i := fun i => by rw [← hb, cpL_at _ _ _ _ _ (by decide), an 4 (by decide)]
  have aa : ∀ i, A.2 10 i = if 0 ≤ i ∧ i < 0 + 18 then O.2 3 (0 + (i - 0)) else (smI O 15 1).2 10 i := fun i => by rw [← ha, cpL_at _ _ _ _ _ (by decide)]; rfl
  have i10 : (imE D).2 10 = D.2 10 := by simp [imE, smA, va_up]
  have i11 : ∀ i, (imE D).2 11 i = upd (upd (upd (upd (D.2 11) 0 (D.1 0)) 1 (D.1 7)) 2 (D.1 8)) 3 (D.1 14) i := fun i => by simp [imE, smA, va_up]
  refine ⟨imE D, hx.trans (by rw [c1]; rfl), d1, fun j h10 h11 => ?_, fun i hi => ?_, fun i hi => ?_, fun i hi => ?_, fun i hi => ?_, ?_, ?_, ?_, ?_⟩
  · have : (imE D).2 j = D.2 j := by simp [imE, smA, va_up, h11]
    rw [this, dn j h10]
  · rw [i10, da, if_neg (by omega), ca, if_neg (by omega), ba, if_neg (by omega), aa, if_pos (by omega)]
    exact congrArg (O.2 3) (by omega)
  · rw [i10, da, if_neg (by omega), ca, if_neg (by omega), ba, if_pos (by omega)]
    exact congrArg (O.2 4) (by omega)
  · rw [i10, da, if_neg (by omega), ca, if_pos (by omega)]
    exact congrArg (O.2 5) (by omega)
  · rw [i10, da, if_pos (by omega)]
    exact congrArg (O.2 6) (by omega)
  · rw [i11, d1]; rfl
  · rw [i11, d1]; rfl
  · rw [i11, d1]; rfl
  · rw [i11, d1]; rfl
theorem b3n (i : Nat) (hi : i < 18) : ∃ k j, k < 6 ∧ j < 3 ∧ i = 3 * k + j := ⟨i / 3, i % 3, by omega, by omega, by omega⟩
theorem k_image : Call b m (f_X5_image b) (f_X6_image m) := by
  intro S O μ R
  obtain ⟨tc, r, T, Q, R⟩ := R
  have lm := R.lm
  have hz := R.z
  obtain ⟨Y, e1, eY⟩ := x_becomeA (b := b) (S := S) (μ := memM m O μ) (Z := zof S 22) (g := S.2.1 10) zo22 zo11 (by decide)
  rw [← AZ_of] at e1
  have hx : f_X5_image b (Wd b m S O μ) = some (S.1 11 13, Wd b m (sxI (sxZ (sxL S 22 (S.2.2.1 11)) 22 Y (S.2.1 10)) 0 8 1) O μ) := by
    have q1 : gI (memX b (sxI (sxZ (sxL S 22 (S.2.2.1 11)) 22 Y (S.2.1 10)) 0 8 1) (memM m O μ)) (b + 11) 0 13 = some (S.1 11 13) := by
      rw [gI_Z zo11 13 (by omega)]
      have : (sxI (sxZ (sxL S 22 (S.2.2.1 11)) 22 Y (S.2.1 10)) 0 8 1).1 11 = S.1 11 := by simp [sxI, sxZ, sxL, va_up]
      rw [this]
    rw [f_X5_image.eq_1, Wd, h4X, Option.bind_some, h3X, Option.bind_some, if_pos (isO_Z zo22), e1, Option.bind_some, AZ, pI_H 8 (by omega), Option.bind_some, h3X, Option.bind_some, q1, Option.bind_some]
    rfl
  generalize hS' : sxI (sxZ (sxL S 22 (S.2.2.1 11)) 22 Y (S.2.1 10)) 0 8 1 = S' at hx
  obtain ⟨O', f1, f2, f3, f4, f5, f6, f7, g0, g1, g2, g3⟩ := m_image (m := m) (μ := memX b S' μ) O
  have s1 : ∀ k, k ≠ 0 → k ≠ 22 → S'.1 k = S.1 k := fun k h0 h22 => by rw [← hS']; simp [sxI, sxZ, sxL, va_up, h0, h22]
  have s0 : S'.1 0 = upd (S.1 0) 8 1 := by rw [← hS']; simp [sxI, sxZ, sxL, va_up]
  have sz : ∀ k, k < 10 ∨ 77 ≤ k → S'.2.1 k = S.2.1 k := fun k hk => by
    rw [← hS']
    show (sxZ (sxL S 22 (S.2.2.1 11)) 22 Y (S.2.1 10)).2.1 k = _
    rw [sx_2 zo22 hk]
    rfl
  have sl : ∀ k, k ≠ 22 → S'.2.2.1 k = S.2.2.1 k := fun k hk => by rw [← hS']; exact up_ne _ _ hk
  have sl2 : S'.2.2.1 22 = S.2.2.1 11 := by rw [← hS']; simp [sxI, sxZ, sxL, va_up]
  have st : S'.2.2.2 = S.2.2.2 := by rw [← hS']; rfl
  have z11 : zof S' 11 = zof S 11 := by
    rw [← hS', zof_i _ (by decide), zof_ne zo22 zo11 (by decide), zof_l]
  have z22 : zEq (zof S 11) (zof S' 22) := by
    rw [← hS', zof_i _ (by decide)]
    exact eY.tr zof_sx
  have sL : sameL S S' := ⟨s1 8 (by decide) (by decide), sz 9 (by omega)⟩
  obtain ⟨h1, h2, h3, h4, h5, h6, h7, h8⟩ := R
  have k1 : ∀ k, k ≠ 15 → O'.1 k = O.1 k := fun k hk => by rw [f2]; exact upd_ne _ _ hk
  refine ⟨S.1 11 13, S', O', μ, hx, ?_, tc, r, T, Q, h1, ⟨?_, ?_⟩, ⟨h3.1, h3.2.1, ?_, ?_, fun t ht => ⟨by rw [st]; exact (h3.2.2.2.2 t ht).1, (h3.2.2.2.2 t ht).2.go sL (f3 8 (by decide) (by decide)) (f3 9 (by decide) (by decide))⟩⟩, ⟨h4.1, ?_, ?_⟩, ?_, fun s hs => ?_, ⟨?_, Or.inr ⟨?_, r, h4.1, ?_, ?_, KI.eq z22 ⟨fun k j hk hj => ?_, fun k j hk hj => ?_, fun k hk => ?_, fun k hk => ?_, ?_, ?_, ?_⟩, h2.2.1.eq z22, ?_, ?_⟩⟩, fun k hk => ?_⟩
  · rw [Wd_M lm, f1, Wd_M lm, hz.wi]
    rfl
  · rw [z11]
    unfold MZ
    rw [k1 7 (by decide), k1 8 (by decide), k1 0 (by decide), f3 1 (by decide) (by decide), f3 2 (by decide) (by decide), f3 3 (by decide) (by decide), f3 4 (by decide) (by decide), f3 5 (by decide) (by decide), f3 6 (by decide) (by decide)]
    exact h2.1
  · rw [z11]; exact h2.2
  · rw [s0, upd_ne _ _ (by decide)]; exact h3.2.2.1
  · rw [k1 13 (by decide)]; exact h3.2.2.2.1
  · rw [k1 14 (by decide)]; exact h4.2.1
  · rw [sl 11 (by decide)]; exact h4.2.2
  · unfold RTp
    rw [s1 2 (by decide) (by decide), sz 3 (by omega), k1 10 (by decide), f3 7 (by decide) (by decide)]
    exact h5
  · unfold RS1
    rw [s1 _ (by omega) (by omega), sz _ (by omega), f3 12 (by decide) (by decide), f3 13 (by decide) (by decide), f3 14 (by decide) (by decide)]
    exact h6 s hs
  · rw [f2, upd_eq, s0, upd_eq]
  · rw [s0, upd_eq]
  · rw [g3]; exact h4.2.1
  · rw [sl2]; exact h4.2.2
  · rw [f4 _ (by omega)]
    have : j = 0 ∨ j = 1 ∨ j = 2 := by omega
    rcases this with rfl | rfl | rfl
    · exact hz.r0 hk
    · exact hz.r1 hk
    · exact hz.r2 hk
  · rw [f5 _ (by omega)]
    have : j = 0 ∨ j = 1 ∨ j = 2 := by omega
    rcases this with rfl | rfl | rfl
    · exact hz.l0 hk
    · exact hz.l1 hk
    · exact hz.l2 hk
  · rw [f6 k hk]; exact hz.wt hk
  · rw [f7 k hk]; exact hz.kn hk
  · rw [g0]; exact hz.wi
  · rw [g1]; exact hz.ad
  · rw [g2]; exact hz.hr
  · rw [← z22.2 1 (by decide)]; exact h2.2.2
  · rw [z11]
    refine ⟨by rw [z22.w]; exact Nat.le_refl _, fun p hp => ?_⟩
    rw [← z22.w] at hp
    have h6 : p < 6 := by have := h2.2.1.w6; omega
    exact ⟨(z22.1 2 p (by decide) h6).symm, (z22.1 3 p (by decide) h6).symm⟩
  · rw [f3 16 (by decide) (by decide)]; exact h8 k hk
theorem bk_12 (K : Nat → Int32 → mS → Option (Int32 × mS)) : f_X6_back_12 K fU m 0 (memM m O μ) = K m 0 (memM m (cpL O 3 10 0 0 18) μ) := by
  refine loopN (fun k n => f_X6_back_12 K n m (nI k) (memM m (cpL O 3 10 0 0 k) μ) = K m 0 (memM m (cpL O 3 10 0 0 18) μ)) 18 (fun n => ?_) (fun k n hk ih => ?_) fU (fU_lt (by decide))
  · rw [f_X6_back_12.eq_2, if_pos (by decide)]
  · rw [f_X6_back_12.eq_2, if_neg (ge_18 hk), mR_3, Option.bind_some, mR_16, Option.bind_some, aM 9 (by decide) k (by show _ < 58; omega) (by omega), Option.bind_some, sM 2 (by decide) k (by show _ < 18; omega) (by omega), Option.bind_some]
    simp only [vl]
    rw [nI_1]
    rw [cpL, Nat.zero_add] at ih
    exact ih
theorem bk_38 (K : Nat → Int32 → mS → Option (Int32 × mS)) : f_X6_back_38 K fU m 0 (memM m O μ) = K m 0 (memM m (cpL O 4 10 0 18 24) μ) := by
  refine loopN (fun k n => f_X6_back_38 K n m (nI k) (memM m (cpL O 4 10 0 18 k) μ) = K m 0 (memM m (cpL O 4 10 0 18 24) μ)) 24 (fun n => ?_) (fun k n hk ih => ?_) fU (fU_lt (by decide))
  · rw [f_X6_back_38.eq_2, if_pos (by decide)]
  · rw [f_X6_back_38.eq_2, if_neg (ge_24 hk), mR_4, Option.bind_some, mR_16, Option.bind_some, show (18 : Int32) + nI k = nI (18 + k) from nI_add 18 k, aM 9 (by decide) (18 + k) (by show _ < 58; omega) (by omega), Option.bind_some, sM 3 (by decide) k (by show _ < 24; omega) (by omega), Option.bind_some]
    simp only [vl]
    rw [nI_1]
    rw [cpL, Nat.zero_add] at ih
    exact ih
theorem bk_67 (K : Nat → Int32 → mS → Option (Int32 × mS)) : f_X6_back_67 K fU m 0 (memM m O μ) = K m 0 (memM m (cpL O 5 10 0 42 10) μ) := by
  refine loopN (fun k n => f_X6_back_67 K n m (nI k) (memM m (cpL O 5 10 0 42 k) μ) = K m 0 (memM m (cpL O 5 10 0 42 10) μ)) 10 (fun n => ?_) (fun k n hk ih => ?_) fU (fU_lt (by decide))
  · rw [f_X6_back_67.eq_2, if_pos (by decide)]
  · rw [f_X6_back_67.eq_2, if_neg (ge_10 hk), mR_5, Option.bind_some, mR_16, Option.bind_some, show (42 : Int32) + nI k = nI (42 + k) from nI_add 42 k, aM 9 (by decide) (42 + k) (by show _ < 58; omega) (by omega), Option.bind_some, sM 4 (by decide) k (by show _ < 10; omega) (by omega), Option.bind_some]
    simp only [vl]
    rw [nI_1]
    rw [cpL, Nat.zero_add] at ih
    exact ih
def bkE (O : MS) : MS := smI (smI (smI (smI O 0 (O.2 11 0)) 7 (O.2 11 1)) 8 (O.2 11 2)) 14 (O.2 11 3)
theorem bk_96 : f_X6_back_96 fU m 0 (memM m O μ) = some (O.2 11 0, memM m (bkE (cpL O 6 10 0 52 6)) μ) := by
  refine loopN (fun k n => f_X6_back_96 n m (nI k) (memM m (cpL O 6 10 0 52 k) μ) = some (O.2 11 0, memM m (bkE (cpL O 6 10 0 52 6)) μ)) 6 (fun n => ?_) (fun k n hk ih => ?_) fU (fU_lt (by decide))
  · have s0 : ∀ (P : MS) (k : Nat) (hk : k < 4), aI (memM m P μ) (m + (10 + 1)) (nI k) = some (P.2 11 k) := fun P k hk => aM 10 (by decide) k (by show _ < 4; omega) (by omega)
    rw [← cpL_ne O 6 10 0 52 (show 11 ≠ 6 by decide) 6]
    generalize cpL O 6 10 0 52 6 = P
    rw [f_X6_back_96.eq_2, if_pos (by decide), mR_17, Option.bind_some, show (0 : Int32) = nI 0 from rfl, s0 P 0 (by decide), Option.bind_some, mp_0, Option.bind_some, mR_17, Option.bind_some, show (1 : Int32) = nI 1 from rfl, s0 _ 1 (by decide), Option.bind_some, mp_7, Option.bind_some, mR_17, Option.bind_some, show (2 : Int32) = nI 2 from rfl, s0 _ 2 (by decide), Option.bind_some, mp_8, Option.bind_some, mR_17, Option.bind_some, show (3 : Int32) = nI 3 from rfl, s0 _ 3 (by decide), Option.bind_some, mp_14, Option.bind_some, mI_0, Option.bind_some]
    simp only [smI_2]
    rfl
  · rw [f_X6_back_96.eq_2, if_neg (ge_6 hk), mR_6, Option.bind_some, mR_16, Option.bind_some, show (52 : Int32) + nI k = nI (52 + k) from nI_add 52 k, aM 9 (by decide) (52 + k) (by show _ < 58; omega) (by omega), Option.bind_some, sM 5 (by decide) k (by show _ < 6; omega) (by omega), Option.bind_some]
    simp only [vl]
    rw [nI_1]
    rw [cpL, Nat.zero_add] at ih
    exact ih
theorem m_back (O : MS) (h15 : O.1 15 = 1) : ∃ O', f_X6_back m (memM m O μ) = some (O.2 11 0, memM m O' μ) ∧ (∀ k, k ≠ 0 → k ≠ 7 → k ≠ 8 → k ≠ 14 → O'.1 k = O.1 k) ∧ (∀ j, j ≠ 3 → j ≠ 4 → j ≠ 5 → j ≠ 6 → O'.2 j = O.2 j) ∧ (∀ i, i < 18 → O'.2 3 i = O.2 10 i) ∧ (∀ i, i < 24 → O'.2 4 i = O.2 10 (18 + i)) ∧ (∀ i, i < 10 → O'.2 5 i = O.2 10 (42 + i)) ∧ (∀ i, i < 6 → O'.2 6 i = O.2 10 (52 + i)) ∧ O'.1 0 = O.2 11 0 ∧ O'.1 7 = O.2 11 1 ∧ O'.1 8 = O.2 11 2 ∧ O'.1 14 = O.2 11 3 := by
  have hx : f_X6_back m (memM m O μ) = _ := f_X6_back.eq_1 _ _
  rw [mI_15, Option.bind_some, h15, if_neg (by decide), bk_12, bk_38, bk_67, bk_96] at hx
  generalize ha : cpL O 3 10 0 0 18 = A at hx
  generalize hb : cpL A 4 10 0 18 24 = B at hx
  generalize hc : cpL B 5 10 0 42 10 = C at hx
  generalize hd : cpL C 6 10 0 52 6 = D at hx
  have a1 : A.1 = O.1 := by rw [← ha, cpL_1]
  have b1 : B.1 = O.1 := by rw [← hb, cpL_1, a1]
  have c1 : C.1 = O.1 := by rw [← hc, cpL_1, b1]
  have d1 : D.1 = O.1 := by rw [← hd, cpL_1, c1]
  have an : ∀ j, j ≠ 3 → A.2 j = O.2 j := fun j hj => by rw [← ha, cpL_ne _ _ _ _ _ hj]
  have bn : ∀ j, j ≠ 4 → B.2 j = A.2 j := fun j hj => by rw [← hb, cpL_ne _ _ _ _ _ hj]
  have cn : ∀ j, j ≠ 5 → C.2 j = B.2 j := fun j hj => by rw [← hc, cpL_ne _ _ _ _ _ hj]
  have dn : ∀ j, j ≠ 6 → D.2 j = C.2 j := fun j hj => by rw [← hd, cpL_ne _ _ _ _ _ hj]
  have k11 : C.2 11 = O.2 11 := by rw [cn 11 (by decide), bn 11 (by decide), an 11 (by decide)]
  have k11d : D.2 11 = O.2 11 := by rw [dn 11 (by decide), k11]
  have b10 : B.2 10 = O.2 10 := by rw [bn 10 (by decide), an 10 (by decide)]
  have c10 : C.2 10 = O.2 10 := by rw [cn 10 (by decide), b10]
  refine ⟨bkE D, hx.trans (by rw [k11]), fun k h0 h7 h8 h14 => ?_, fun j h3 h4 h5 h6 => ?_, fun i hi => ?_, fun i hi => ?_, fun i hi => ?_, fun i hi => ?_, ?_, ?_, ?_, ?_⟩
  · simp [bkE, smI, upd, h0, h7, h8, h14, d1]
  · show D.2 j = _
    rw [dn j h6, cn j h5, bn j h4, an j h3]
  · show D.2 3 i = _
    rw [dn 3 (by decide), cn 3 (by decide), bn 3 (by decide), ← ha, cpL_at _ _ _ _ _ (by decide), if_pos (by omega)]
    exact congrArg (O.2 10) (by omega)
  · show D.2 4 i = _
    rw [dn 4 (by decide), cn 4 (by decide), ← hb, cpL_at _ _ _ _ _ (by decide), if_pos (by omega), an 10 (by decide)]
    exact congrArg (O.2 10) (by omega)
  · show D.2 5 i = _
    rw [dn 5 (by decide), ← hc, cpL_at _ _ _ _ _ (by decide), if_pos (by omega), b10]
    exact congrArg (O.2 10) (by omega)
  · show D.2 6 i = _
    rw [← hd, cpL_at _ _ _ _ _ (by decide), if_pos (by omega), c10]
    exact congrArg (O.2 10) (by omega)
  · simp [bkE, smI, upd, k11d]
  · simp [bkE, smI, upd, k11d]
  · simp [bkE, smI, upd, k11d]
  · simp [bkE, smI, upd, k11d]
theorem k_back : Call b m (f_X5_back b) (f_X6_back m) := by
  intro S O μ R
  have R0 := R
  obtain ⟨tc, r, T, Q, R⟩ := R
  have lm := R.lm
  have hz := R.z
  obtain ⟨h1, h2, h3, h4, h5, h6, h7, h8⟩ := R
  obtain ⟨h15, hI⟩ := h7
  rcases hI with e | ⟨e, k, q1, q2, q3, q4, q5, q6, q7⟩
  · refine ⟨-3, S, O, μ, ?_, ?_, R0⟩
    · rw [f_X5_back.eq_1, Wd, gI_H 8 (by omega), Option.bind_some, e, if_pos rfl]
    · rw [f_X6_back.eq_1, Wd_M lm, mI_15, Option.bind_some, h15, e, if_pos rfl]
  obtain ⟨Y, e1, eY⟩ := x_becomeA (b := b) (S := S) (μ := memM m O μ) (Z := zof S 11) (g := S.2.1 10) zo11 zo22 (by decide)
  rw [← AZ_of] at e1
  have hx : f_X5_back b (Wd b m S O μ) = some (Y 10 2, Wd b m (sxZ (sxL S 11 (S.2.2.1 22)) 11 Y (S.2.1 10)) O μ) := by
    rw [f_X5_back.eq_1, Wd, gI_H 8 (by omega), Option.bind_some, e, if_neg (by decide), h3X, Option.bind_some, h4X, Option.bind_some, if_pos (isO_Z zo11), e1, Option.bind_some, AZ, h3X, Option.bind_some, ← AZ, gW_A zo11, Option.bind_some]
    rfl
  generalize hS' : sxZ (sxL S 11 (S.2.2.1 22)) 11 Y (S.2.1 10) = S' at hx
  obtain ⟨O', f1, f2, f3, f4, f5, f6, f7, g0, g1, g2, g3⟩ := m_back (m := m) (μ := memX b S' μ) O (h15.trans e)
  have s1 : ∀ k, k ≠ 11 → S'.1 k = S.1 k := fun k h => by rw [← hS']; simp [sxZ, sxL, h]
  have sz : ∀ k, k < 10 ∨ 77 ≤ k → S'.2.1 k = S.2.1 k := fun k hk => by rw [← hS', sx_2 zo11 hk]; rfl
  have sl : ∀ k, k ≠ 11 → S'.2.2.1 k = S.2.2.1 k := fun k hk => by rw [← hS']; exact up_ne _ _ hk
  have sl2 : S'.2.2.1 11 = S.2.2.1 22 := by rw [← hS']; simp [sxZ, sxL, va_up]
  have st : S'.2.2.2 = S.2.2.2 := by rw [← hS']; rfl
  have z22 : zof S' 22 = zof S 22 := by rw [← hS', zof_ne zo11 zo22 (by decide), zof_l]
  have z11 : zEq (zof S 22) (zof S' 11) := by rw [← hS']; exact eY.tr zof_sx
  have sL : sameL S S' := ⟨s1 8 (by decide), sz 9 (by omega)⟩
  have g6 := q5.w6
  obtain ⟨i1, i2, i3, i4, i5, i6, i7⟩ := q4
  have hm : MZ O' (zof S 22) := by
    refine ⟨fun k hk => ?_, fun k hk => ⟨?_, ?_, ?_, ?_⟩, fun k hk => ⟨?_, ?_, ?_⟩, ⟨?_, ?_, ?_⟩, fun p hp => ?_⟩
    · rw [f6 k hk]; exact i3 k hk
    · rw [f7 k hk]; exact i4 k hk
    · rw [f4 _ (by omega)]; exact i1 k 0 hk (by omega)
    · rw [f4 _ (by omega)]; exact i1 k 1 hk (by omega)
    · rw [f4 _ (by omega)]; exact i1 k 2 hk (by omega)
    · rw [f5 _ (by omega)]; exact i2 k 0 hk (by omega)
    · rw [f5 _ (by omega)]; exact i2 k 1 hk (by omega)
    · rw [f5 _ (by omega)]; exact i2 k 2 hk (by omega)
    · rw [g1]; exact i6
    · rw [g2]; exact i7
    · rw [g0]; exact i5
    · have hp2 : p < wN (zof S 11) := Nat.lt_of_lt_of_le hp q7.1
      rw [f3 1 (by decide) (by decide) (by decide) (by decide), f3 2 (by decide) (by decide) (by decide) (by decide), (q7.2 p hp).1, (q7.2 p hp).2]
      exact ⟨hz.kd hp2, hz.mo hp2⟩
  refine ⟨Y 10 2, S', O', μ, hx, ?_, tc, k, T, Q, h1, ⟨hm.eq z11 g6, q5.eq z11, ?_⟩, ⟨h3.1, h3.2.1, ?_, ?_, fun t ht => ⟨by rw [st]; exact (h3.2.2.2.2 t ht).1, (h3.2.2.2.2 t ht).2.go sL (f3 8 (by decide) (by decide) (by decide) (by decide)) (f3 9 (by decide) (by decide) (by decide) (by decide))⟩⟩, ⟨q1, ?_, ?_⟩, ?_, fun s hs => ?_, ⟨?_, Or.inr ⟨?_, k, q1, ?_, ?_, ?_, ?_, ?_, ?_⟩⟩, fun k hk => ?_⟩
  · rw [Wd_M lm, f1, Wd_M lm, i5, eY.2 2 (by decide)]
  · rw [← z11.2 1 (by decide)]; exact q6
  · rw [s1 0 (by decide)]; exact h3.2.2.1
  · rw [f2 13 (by decide) (by decide) (by decide) (by decide)]; exact h3.2.2.2.1
  · rw [g3]; exact q2
  · rw [sl2]; exact q3
  · unfold RTp
    rw [s1 2 (by decide), sz 3 (by omega), f2 10 (by decide) (by decide) (by decide) (by decide), f3 7 (by decide) (by decide) (by decide) (by decide)]
    exact h5
  · unfold RS1
    rw [s1 _ (by omega), sz _ (by omega), f3 12 (by decide) (by decide) (by decide) (by decide), f3 13 (by decide) (by decide) (by decide) (by decide), f3 14 (by decide) (by decide) (by decide) (by decide)]
    exact h6 s hs
  · rw [f2 15 (by decide) (by decide) (by decide) (by decide), s1 0 (by decide)]; exact h15
  · rw [s1 0 (by decide)]; exact e
  · rw [f3 11 (by decide) (by decide) (by decide) (by decide)]; exact q2
  · rw [sl 22 (by decide)]; exact q3
  · rw [z22]
    unfold KI
    rw [f3 10 (by decide) (by decide) (by decide) (by decide), f3 11 (by decide) (by decide) (by decide) (by decide)]
    exact ⟨i1, i2, i3, i4, i5, i6, i7⟩
  · rw [z22]; exact q5
  · rw [z22]; exact q6
  · rw [z22]; exact stay.eq z11 g6
  · rw [f3 16 (by decide) (by decide) (by decide) (by decide)]; exact h8 k hk
end IM
