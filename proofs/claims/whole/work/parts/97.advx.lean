/-! text: the class's next token. -/
theorem wdF_le {f : Nat → Int32} {s len : Nat} : ∀ k j, j + k = 12 → wdF f s len k j ≤ 12 := by
  intro k
  induction k with
  | zero => intro j _; rw [wdF]; exact Nat.le_refl _
  | succ k ih =>
    intro j h
    rw [wdF]
    split
    · omega
    · exact ih (j + 1) (by omega)
theorem wdI_le {f : Nat → Int32} {s len : Nat} : wdI f s len ≤ 12 := wdF_le 12 0 rfl
theorem lxN_at {f : Nat → Int32} {s e : Nat} : (lxN f s e).2.2.1 = s ∧ (lxN f s e).2.2.2 = e := by
  rw [lxN]; split <;> exact ⟨rfl, rfl⟩
theorem lxW_at {f : Nat → Int32} {s e : Nat} : (lxW f s e).2.2.1 = s ∧ (lxW f s e).2.2.2 = e := by
  rw [lxW]; split
  · exact ⟨rfl, rfl⟩
  · split <;> exact ⟨rfl, rfl⟩
theorem small_idx : ∀ j, j < 12 → (nI j = (-1 : Int32)) = False ∧ ((6 : Int32) ≤ nI j ↔ 6 ≤ j) ∧ (6 ≤ j → nI j - 6 = nI (j - 6)) ∧ (4 : Int32) + nI j = nI (4 + j) := by decide
theorem tok_small : ∀ j, j < 6 → ¬ (nI (4 + j) = (2 : Int32) ∨ nI (4 + j) = (3 : Int32)) := by decide
section AV
variable {b m : Nat} {S S' : XS} {O O' : MS} {μ : mS}
theorem x_readWord {n s : Nat} (hn : n ≤ 160) (hs : s ≤ n) (h3 : S.1 2 3 = nI n) (h4 : S.1 2 4 = nI s) (h6 : S.1 2 6 = nI s) : ∃ S', f_X4_readWord (b + 2) (memX b S μ) = some (memX b S' μ) ∧ tqS S S' ∧ ctk S' (lxW (S.2.1 3) s (upto ltB (S.2.1 3) n s)) := by
  rw [f_X4_readWord.eq_1]
  obtain ⟨S1, e1, e2, e3, e4⟩ := x_wordR (b := b) (μ := μ) (fun h0 σ => (gI (σ) h0 3 6).bind fun v30 =>
(gI (σ) h0 3 4).bind fun v31 =>
(gI (σ) h0 3 6).bind fun v32 =>
if isO (σ) h0 3 = true then
(f_X4_wordNumber h0 v30 (v31 - v32) (σ)).bind fun q34 =>
if q34 = (-1 : Int32) then
(pI (σ) h0 3 5 (1 : Int32)).bind fun t40 =>
some t40
else
if (6 : Int32) ≤ q34 then
(pI (σ) h0 3 5 (3 : Int32)).bind fun t37 =>
(pI t37 h0 3 7 ((-1 : Int32) - (q34 - (6 : Int32)))).bind fun t38 =>
some t38
else
(pI (σ) h0 3 5 ((4 : Int32) + q34)).bind fun t39 =>
some t39 else none) hn (n - s) s fU S (by omega) (fU_lt (by omega)) h3 h4
  obtain ⟨u1, u2⟩ := upto_le (P := ltB) (f := S.2.1 3) (n := n) (n - s) s (by omega)
  generalize hE : upto ltB (S.2.1 3) n s = e at *
  have hb : S1.2.1 3 = S.2.1 3 := by rw [e2.2.2]
  rw [e1]
  rw [gI_T 6 (by omega), Option.bind_some, gI_T 4 (by omega), Option.bind_some, Option.bind_some, if_pos isO_T, e3, e4, h6, pk_sub u1, x_wordN (by omega), Option.bind_some, hb]
  have hj := wdI_le (f := S.2.1 3) (s := s) (len := e - s)
  rw [lxW]
  generalize wdI (S.2.1 3) s (e - s) = j at hj ⊢
  by_cases c : j = 12
  · rw [if_pos c, if_pos c, if_pos rfl, pI_T 5 (by omega), Option.bind_some]
    refine ⟨_, rfl, e2.tr (tqS.i _ _ (by omega)), ?_, ?_, ?_, fun q => absurd q (show ¬ ((1 : Int32) = 2 ∨ (1 : Int32) = 3) by decide)⟩
    · rw [sx2_at, if_neg (by omega), e3]
    · rw [sx2_at, if_pos rfl]
    · rw [sx2_at, if_neg (by omega), e4, h6]
  · obtain ⟨k1, k2, k3, k4⟩ := small_idx j (by omega)
    rw [if_neg c, if_neg c, if_neg (fun q => k1 ▸ q)]
    by_cases c6 : 6 ≤ j
    · rw [if_pos (k2.mpr c6), if_pos c6, pI_T 5 (by omega), Option.bind_some, pI_T 7 (by omega), Option.bind_some]
      refine ⟨_, rfl, (e2.tr (tqS.i _ _ (by omega))).tr (tqS.i _ _ (by omega)), ?_, ?_, ?_, fun _ => ?_⟩
      · rw [sx2_at, if_neg (by omega), sx2_at, if_neg (by omega), e3]
      · rw [sx2_at, if_neg (by omega), sx2_at, if_pos rfl]
      · rw [sx2_at, if_neg (by omega), sx2_at, if_neg (by omega), e4, h6]
      · rw [sx2_at, if_pos rfl, k3 c6]
    · rw [if_neg (fun q => c6 (k2.mp q)), if_neg c6, pI_T 5 (by omega), Option.bind_some]
      refine ⟨_, rfl, e2.tr (tqS.i _ _ (by omega)), ?_, ?_, ?_, fun q => absurd q (tok_small j (by omega))⟩
      · rw [sx2_at, if_neg (by omega), e3]
      · rw [sx2_at, if_pos rfl, k4]
      · rw [sx2_at, if_neg (by omega), e4, h6]
theorem x_readNumber {n s : Nat} (hn : n ≤ 160) (hs : s ≤ n) (h3 : S.1 2 3 = nI n) (h4 : S.1 2 4 = nI s) (h6 : S.1 2 6 = nI s) : ∃ S', f_X4_readNumber (b + 2) (memX b S μ) = some (memX b S' μ) ∧ tqS S S' ∧ ctk S' (lxN (S.2.1 3) s (upto dgB (S.2.1 3) n s)) := by
  rw [f_X4_readNumber.eq_1, pI_T 7 (by omega), Option.bind_some]
  obtain ⟨S1, e, e1, e2, e3, e4, e5, e6, e7⟩ := x_numR (b := b) (μ := μ) (S := sxI S 2 7 0) (p := s) (fun h0 x1 σ => vl (if x1 ≤ (4 : Int32) then (2 : Int32) else (1 : Int32)) fun v41 =>
(pI (σ) h0 3 5 v41).bind fun t42 =>
some t42) hn (n - s) 0 fU (by omega) (fU_lt (by omega)) (by rw [sx2_at, if_neg (by omega)]; exact h3) (by rw [sx2_at, if_neg (by omega)]; exact h4) (by rw [sx2_at, if_pos rfl]; rfl)
  rw [show (nI 0 : Int32) = 0 from rfl] at e1
  rw [e1]
  have hb : (sxI S 2 7 0).2.1 3 = S.2.1 3 := rfl
  rw [hb] at e2 e7
  rw [Nat.add_zero] at e2 e3
  obtain ⟨u1, u2⟩ := upto_le (P := dgB) (f := S.2.1 3) (n := n) (n - s) s (by omega)
  rw [← e2] at u2 ⊢
  rw [vl_eq, pI_T 5 (by omega), Option.bind_some]
  refine ⟨_, rfl, ((tqS.i S _ (by omega)).tr e4).tr (tqS.i _ _ (by omega)), ?_⟩
  rw [lxN]
  have h6' : S1.1 2 6 = nI s := by rw [e6, sx2_at, if_neg (by omega)]; exact h6
  by_cases c : e - s ≤ 4
  · rw [if_pos c, if_pos (show nI (e - s) ≤ (4 : Int32) from nI_le c (by decide))]
    refine ⟨?_, ?_, ?_, fun _ => ?_⟩
    · rw [sx2_at, if_neg (by omega), e5]
    · rw [sx2_at, if_pos rfl]
    · rw [sx2_at, if_neg (by omega), h6']
    · rw [sx2_at, if_neg (by omega), e7, Nat.min_eq_left c]
  · rw [if_neg c, if_neg (show ¬ nI (e - s) ≤ (4 : Int32) from nI_ge (show 4 < e - s by omega) (by omega))]
    refine ⟨?_, ?_, ?_, fun q => absurd q (show ¬ ((1 : Int32) = 2 ∨ (1 : Int32) = 3) by decide)⟩
    · rw [sx2_at, if_neg (by omega), e5]
    · rw [sx2_at, if_pos rfl]
    · rw [sx2_at, if_neg (by omega), h6']
theorem x_adv {n p : Nat} (hn : n ≤ 160) (hp : p ≤ n) (h3 : S.1 2 3 = nI n) (h4 : S.1 2 4 = nI p) (hr : ∀ k, k < n → rng 255 (S.2.1 3 k)) : ∃ S', f_X4_advance (b + 2) (memX b S μ) = some (memX b S' μ) ∧ tqS S S' ∧ ctk S' (lx (S.2.1 3) n p) := by
  have ex : f_X4_advance (b + 2) (memX b S μ) = _ := f_X4_advance.eq_1 _ _
  obtain ⟨S1, e1, e2, e3⟩ := x_skip (b := b) (μ := μ) _ hn (n - p) p fU S (by omega) (fU_lt (by omega)) h3 h4
  rw [e1] at ex
  obtain ⟨u1, u2⟩ := upto_le (P := blB) (f := S.2.1 3) (n := n) (n - p) p (by omega)
  rw [ex, lx]
  generalize upto blB (S.2.1 3) n p = s at *
  have hb : S1.2.1 3 = S.2.1 3 := by rw [e2.2.2]
  have h3' : (sxI S1 2 6 (nI s)).1 2 3 = nI n := by rw [sx2_at, if_neg (by omega), e2.2.1 3 (by omega)]; exact h3
  have h4' : (sxI S1 2 6 (nI s)).1 2 4 = nI s := by rw [sx2_at, if_neg (by omega)]; exact e3
  have h6' : (sxI S1 2 6 (nI s)).1 2 6 = nI s := by rw [sx2_at, if_pos rfl]
  have hb' : (sxI S1 2 6 (nI s)).2.1 3 = S.2.1 3 := hb
  have t2 : tqS S (sxI S1 2 6 (nI s)) := e2.tr (tqS.i _ _ (by omega))
  rw [gI_T 4 (by omega), Option.bind_some, e3, pI_T 6 (by omega), Option.bind_some]
  generalize sxI S1 2 6 (nI s) = S2 at *
  rw [gI_T 4 (by omega), Option.bind_some, gI_T 3 (by omega), Option.bind_some, h3', h4', lxA]
  by_cases c : n ≤ s
  · rw [if_neg (nI_nlt c (by omega)), if_pos c, pI_T 5 (by omega), Option.bind_some]
    refine ⟨_, rfl, t2.tr (tqS.i _ _ (by omega)), ?_, ?_, ?_, fun q => absurd q (show ¬ ((0 : Int32) = 2 ∨ (0 : Int32) = 3) by decide)⟩
    · rw [sx2_at, if_neg (by omega), h4']
    · rw [sx2_at, if_pos rfl]
    · rw [sx2_at, if_neg (by omega), h6']
  rw [if_pos (nI_lt (by omega) (by omega)), if_neg c, tp0, Option.bind_some, Option.bind_some, aI_3 (by omega), Option.bind_some, hb']
  by_cases cl : ltB (S.2.1 3 s) = true
  · obtain ⟨S', f1, f2, f3⟩ := x_readWord (b := b) (μ := μ) (S := S2) hn (by omega) h3' h4' h6'
    rw [if_neg (fun q => (lt_is _).mp q cl), if_pos cl, if_pos isO_T, f1, Option.bind_some]
    rw [hb'] at f3
    exact ⟨S', rfl, t2.tr f2, f3⟩
  rw [if_pos ((lt_is _).mpr cl), if_neg cl, Option.bind_some, Option.bind_some, aI_3 (by omega), Option.bind_some, hb']
  by_cases cd : dgB (S.2.1 3 s) = true
  · obtain ⟨S', f1, f2, f3⟩ := x_readNumber (b := b) (μ := μ) (S := S2) hn (by omega) h3' h4' h6'
    rw [if_neg (fun q => (dg_is _).mp q cd), if_pos cd, if_pos isO_T, f1, Option.bind_some]
    rw [hb'] at f3
    exact ⟨S', rfl, t2.tr f2, f3⟩
  rw [if_pos ((dg_is _).mpr cd), if_neg cd, Option.bind_some, Option.bind_some, aI_3 (by omega), Option.bind_some, hb']
  obtain ⟨k, hk, hx⟩ := hr s (by omega)
  obtain ⟨w, i1, i2⟩ : ∃ w, f_J0_indexOf_k0 ((((nI k).toUInt32 % 65536).toInt32)) = some w ∧ decide (w < 0) = !(sgB (nI k)) := ⟨_, idx_0 k (by omega)⟩
  rw [hx]
  rw [i1, Option.bind_some]
  have hd : ∀ t, ∃ S', f_X4_advance_155 (b + 2) (b + 2) t (memX b S2 μ) = some (memX b S' μ) ∧ tqS S2 S' ∧ S'.1 2 4 = nI (s + 1) ∧ S'.1 2 5 = t ∧ S'.1 2 6 = nI s := by
    intro t
    refine ⟨sxI (sxI S2 2 5 t) 2 4 (nI (s + 1)), ?_, (tqS.i _ _ (by omega)).tr (tqS.i _ _ (by omega)), ?_, ?_, ?_⟩
    · rw [f_X4_advance_155.eq_1, pI_T 5 (by omega), Option.bind_some, gI_T 4 (by omega), Option.bind_some, sx2_at, if_neg (by omega), h4', nI_1, pI_T 4 (by omega), Option.bind_some]
    · rw [sx2_at, if_pos rfl]
    · rw [sx2_at, if_neg (by omega), sx2_at, if_pos rfl]
    · rw [sx2_at, if_neg (by omega), sx2_at, if_neg (by omega), h6']
  by_cases cs : sgB (nI k) = true
  · rw [cs] at i2
    obtain ⟨S', f1, f2, f3, f4, f5⟩ := hd (nI k)
    rw [if_neg (by simpa using i2), if_pos cs, Option.bind_some, Option.bind_some, aI_3 (by omega), Option.bind_some, hb', hx, f1]
    refine ⟨S', rfl, t2.tr f2, f3, f4, f5, fun q => ?_⟩
    have : ¬ sgB (nI k) = true := by
      rcases q with q | q
      · rw [show nI k = 2 from q]; decide
      · rw [show nI k = 3 from q]; decide
    exact absurd cs this
  · obtain ⟨S', f1, f2, f3, f4, f5⟩ := hd 1
    rw [if_pos (by simpa [cs] using i2), if_neg cs, f1]
    exact ⟨S', rfl, t2.tr f2, f3, f4, f5, fun q => absurd q (show ¬ ((1 : Int32) = 2 ∨ (1 : Int32) = 3) by decide)⟩
end AV
