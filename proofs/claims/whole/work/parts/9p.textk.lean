/-! text: both sides. -/
theorem sl_get (code : Nat → Int32) (A : List Int32) : ∀ (l : List Int32) (k : Nat), (∀ i, i < l.length → code (k + i) = l.getD i 0) → sl code k l.length = l := by
  intro l
  induction l with
  | nil => intro k h; rfl
  | cons x l ih =>
    intro k h
    show code k :: sl code (k + 1) l.length = x :: l
    rw [ih (k + 1) fun i hi => by
      have := h (i + 1) (show i + 1 < l.length + 1 by omega)
      rw [show k + 1 + i = k + (i + 1) by omega, this]
      simp]
    have := h 0 (show 0 < l.length + 1 by omega)
    rw [Nat.add_zero] at this
    rw [this]
    simp
section KT
variable {b m : Nat} {S S' : XS} {O O' : MS} {μ μ' : mS} {tc r : Nat} {T : Nat → Lw} {Q : Nat → Nat}
theorem LawM.f {t n wt dp : Nat} {code : Nat → Int32} (ht : t < tc) (h : LawM O t code n wt dp) (hf : txF tc O O') : LawM O' t code n wt dp := by
  obtain ⟨h1, h2, h3, h4, h5, h6, h7, h8, h9⟩ := h
  obtain ⟨_, _, f8, f9⟩ := hf
  exact ⟨h1, h2, h3, h4, (f9 _ (by omega)).trans h5, (f9 _ (by omega)).trans h6, (f9 _ (by omega)).trans h7, (f9 _ (by omega)).trans h8, fun k hk => by
    rw [f8 _ (by omega)]
    exact h9 k hk⟩
theorem wd_mu {a : Nat} (h : μ'.2 a = μ.2 a) : (Wd b m S O μ').2 a = (Wd b m S O μ).2 a := by
  rw [wd_at, wd_at, h]
theorem TX.f {t q : Nat} {L : Lw} (h : TX b m S O μ t q L) (ht : t < tc) (hf : txF tc O O') (hs : sameL S S') (h1 : μ.1 ≤ μ'.1) (h2 : ∀ a, a < μ.1 → μ'.2 a = μ.2 a) : TX b m S' O' μ' t q L := by
  obtain ⟨a, n, wt, dp, code, k1, k2, k3, k4⟩ := h
  refine ⟨a, n, wt, dp, code, ⟨by omega, by omega⟩, fun S1 O1 e => ?_, k3.f ht hf, k4⟩
  obtain ⟨w1, w2⟩ := k2 S1 O1 (hs.tr e)
  exact ⟨by rw [wd_mu (h2 q k1.1)]; exact w1, by rw [wd_mu (h2 a k1.2)]; exact w2⟩
/-- all but the texts goes on -/
theorem RLx.rest (h : RLx b m S O μ tc r T Q) (hf : txF tc O O') (ht : RTp S' O') (hs1 : ∀ k, k ≠ 2 → k ≠ 0 → S'.1 k = S.1 k) (hs0 : ∀ k, k ≠ 7 → S'.1 0 k = S.1 0 k) (hs2 : ∀ j, j < 3 ∨ 5 < j → S'.2.1 j = S.2.1 j) (hs3 : S'.2.2.1 = S.2.2.1) (hm : m + 21 ≤ μ'.1) {tc' : Nat} {T' : Nat → Lw} {Q' : Nat → Nat} (hle : tc ≤ tc') (hq : ∀ t, t < tc → Q' t = Q t) (hx : RTx b m S' O' μ' tc' T' Q') : RLx b m S' O' μ' tc' r T' Q' := by
  obtain ⟨h1, h2, h3, h4, h5, h6, h7, h8⟩ := h
  have zz : ∀ o, zo o → zof S' o = zof S o := fun o hz => by
    have ho : 11 ≤ o := by rcases hz with rfl | rfl | rfl | rfl | rfl | rfl <;> omega
    funext j
    simp only [zof]
    split
    · rw [hs2 _ (by omega)]
    · rw [hs1 o (by omega) (by omega)]
  have z11 := zz 11 zo11
  have z22 := zz 22 zo22
  have o2 : ∀ j, j ≠ 8 → j ≠ 9 → j ≠ 17 → O'.2 j = O.2 j := hf.2.1
  refine ⟨⟨h1.1, hm⟩, ?_, hx, ⟨by have := h4.1; omega, (hf.1 14 (by omega)).trans h4.2.1, by rw [hs3, hq r h4.1]; exact h4.2.2⟩, ht, fun s h => ?_, ?_, fun k hk => ?_⟩
  · rw [z11]
    refine ⟨?_, h2.2⟩
    unfold MZ
    rw [o2 1 (by omega) (by omega) (by omega), o2 2 (by omega) (by omega) (by omega), o2 3 (by omega) (by omega) (by omega), o2 4 (by omega) (by omega) (by omega), o2 5 (by omega) (by omega) (by omega), o2 6 (by omega) (by omega) (by omega), hf.1 7 (by omega), hf.1 8 (by omega), hf.1 0 (by omega)]
    exact h2.1
  · unfold RS1
    rw [o2 12 (by omega) (by omega) (by omega), o2 13 (by omega) (by omega) (by omega), o2 14 (by omega) (by omega) (by omega), hs1 _ (by omega) (by omega), hs2 _ (by omega)]
    exact h6 s h
  · refine ⟨(hf.1 15 (by omega)).trans (h7.1.trans (hs0 8 (by omega)).symm), ?_⟩
    rw [hs0 8 (by omega), z22, z11, hs3, o2 11 (by omega) (by omega) (by omega)]
    unfold KI
    rw [o2 10 (by omega) (by omega) (by omega), o2 11 (by omega) (by omega) (by omega)]
    rcases h7.2 with e | ⟨e, k, f1, f2, f3, f4⟩
    · exact Or.inl e
    · exact Or.inr ⟨e, k, by omega, f2, by rw [hq k f1]; exact f3, f4⟩
  · rw [o2 16 (by omega) (by omega) (by omega)]
    exact h8 k hk
theorem k_text : Call b m (f_X5_text b) (f_X6_text m) := by
  intro S O μ R
  have R0 := R
  obtain ⟨tc, r, T, Q, R⟩ := R
  have lm := R.lm
  have R1 := R
  obtain ⟨h1, h2, ht, hr, htp, h6, h7, h8⟩ := R
  obtain ⟨n, n1, n2, n3, n4⟩ := htp
  have hrb : ∀ k, k < n → rng 255 (S.2.1 3 k) := fun k hk => (n4 k hk).2
  have e7 : gI (Wd b m S O μ) b 4 7 = some (nI tc) := (gI_H 7 (by omega)).trans (congrArg some ht.2.2.1)
  have hx : f_X5_text b (Wd b m S O μ) = _ := f_X5_text.eq_1 _ _
  rw [e7, Option.bind_some] at hx
  by_cases c6 : tc < 6
  · have hB : txB O (S.2.1 3) n tc := ⟨ht.2.2.2.1, n3, fun k hk => (n4 k hk).1, h8⟩
    obtain ⟨rr, S1, x1, x2, x3⟩ := x_fault (b := b) (μ := memM m O μ) n1 n2 hrb
    rw [if_pos (show nI tc < (6 : Int32) from nI_lt c6 (by decide)), Wd, h1X, Option.bind_some, if_pos isO_T, x1, Option.bind_some] at hx
    dsimp only at hx
    rw [h1X, Option.bind_some, pI_T 3 (by omega), Option.bind_some] at hx
    have u1 : ∀ k, k ≠ 2 → k ≠ 0 → (sxI S1 2 3 0).1 k = S.1 k := fun k a _ => (up_ne _ _ a).trans (x2.1.1 k a)
    have u0 : (sxI S1 2 3 0).1 0 = S.1 0 := (show (sxI S1 2 3 0).1 0 = S1.1 0 by simp [sxI, va_up]).trans (x2.1.1 0 (by decide))
    have u2 : ∀ j, j < 3 ∨ 5 < j → (sxI S1 2 3 0).2.1 j = S.2.1 j := fun j a => x2.1.2.1 j a
    have u3 : (sxI S1 2 3 0).2.2 = S.2.2 := x2.1.2.2
    have u4 : (sxI S1 2 3 0).1 2 3 = 0 := by rw [sx2_at, if_pos rfl]
    have slx : sameL S (sxI S1 2 3 0) := ⟨u1 8 (by decide) (by decide), u2 9 (by omega)⟩
    rcases x3 with ⟨s, s1, rfl, hN⟩ | ⟨rfl, s0, s1, s2, X0, X1, X2, hy, hend, q8, q4, q51, q52⟩
    · obtain ⟨O', m1, m2, m3, m4⟩ := m_textN (m := m) (μ := memX b (sxI S1 2 3 0) μ) n1 hrb c6 hB hN
      rw [if_neg (show ¬ nI s.2.2.1 = (-1 : Int32) from fun q => nI_pos (n := s.2.2.1) (by omega) (by rw [q]; decide))] at hx
      refine ⟨-100 - nI s.2.2.1, sxI S1 2 3 0, O', μ, hx, by rw [Wd_M lm, Wd_M lm]; exact m1, tc, r, T, Q, R1.rest m2 ⟨0, by omega, u4, m3, fun k hk => absurd hk (by omega)⟩ u1 (fun k _ => by rw [u0]) u2 (by rw [u3]) h1.2 (Nat.le_refl _) (fun _ _ => rfl) ⟨ht.1, ht.2.1, by rw [u0]; exact ht.2.2.1, m4, fun t h => ⟨by rw [u3]; exact (ht.2.2.2.2 t h).1, (ht.2.2.2.2 t h).2.f h m2 slx (Nat.le_refl _) (fun _ _ => rfl)⟩⟩⟩
    · have v8 : (sxI S1 2 3 0).1 2 8 = nI (X0 ++ X1 ++ X2).length := by rw [sx2_at, if_neg (by omega)]; exact q8
      obtain ⟨μ2, l1, l2, l3, l4, l5⟩ := x_lawRead (b := b) (m := m) (S := sxI S1 2 3 0) (O := O) (μ := μ) (nr := nI tc) lm h1.2 v8 hy.2.2.2.2 q51 q52
      have v7 : (sxI S1 2 3 0).1 0 7 = nI tc := by rw [u0]; exact ht.2.2.1
      have il : ∀ S' O', lawIs (Wd b m S' O' μ2) μ.1 (nI tc) (μ.1 + 1) (X0 ++ X1 ++ X2).length X0.length (X0 ++ X1).length (S1.2.1 4) := fun S' O' => ⟨(wd_get lm h1.2).trans l4, (wd_get lm (by have := h1.2; omega)).trans l5⟩
      have l1 : f_X4_lawRead (b + 2) (nI tc) (memX b (sxI S1 2 3 0) (memM m O μ)) = some (μ.1, memX b (sxI S1 2 3 0) (memM m O μ2)) := l1
      have io : isO (memX b (sxI S1 2 3 0) (memM m O μ2)) μ.1 1 = true := (il (sxI S1 2 3 0) O).o
      rw [if_pos rfl, gI_H 7 (by omega), Option.bind_some, v7, h0X, Option.bind_some, h1X, Option.bind_some, if_pos isO_T, l1, Option.bind_some] at hx
      dsimp only at hx
      rw [if_pos io, sR_X, if_neg (nI_in (show tc < 6 by omega) (by decide)), nI_clamp (by omega), Option.bind_some, gI_H 7 (by omega), Option.bind_some, show (sxT (sxI S1 2 3 0) (va_up (sxI S1 2 3 0).2.2.2 tc (some μ.1))).1 0 7 = nI tc from v7, nI_1, pI_H 7 (by omega), Option.bind_some] at hx
      generalize hS4 : sxI (sxT (sxI S1 2 3 0) (va_up (sxI S1 2 3 0).2.2.2 tc (some μ.1))) 0 7 (nI (tc + 1)) = S4 at hx
      have w1 : ∀ k, k ≠ 2 → k ≠ 0 → S4.1 k = S.1 k := fun k a c => by rw [← hS4]; exact (up_ne _ _ c).trans (u1 k a c)
      have w0 : ∀ k, k ≠ 7 → S4.1 0 k = S.1 0 k := fun k a => by
        rw [← hS4, ← u0]
        simp [sxI, sxT, va_up, upd, a]
      have w7 : S4.1 0 7 = nI (tc + 1) := by
        rw [← hS4]
        simp [sxI, va_up, upd]
      have w2 : ∀ j, j < 3 ∨ 5 < j → S4.2.1 j = S.2.1 j := fun j a => by rw [← hS4]; exact u2 j a
      have w3 : S4.2.2.1 = S.2.2.1 := by
        rw [← hS4]
        show (sxI S1 2 3 0).2.2.1 = S.2.2.1
        exact congrArg Prod.fst u3
      have w4 : S4.2.2.2 = va_up S.2.2.2 tc (some μ.1) := by
        rw [← hS4, ← show (sxI S1 2 3 0).2.2.2 = S.2.2.2 from congrArg Prod.snd u3]
        rfl
      have w5 : S4.1 2 3 = 0 := by
        rw [← hS4]
        show va_up (sxI S1 2 3 0).1 0 (upd ((sxI S1 2 3 0).1 0) 7 (nI (tc + 1))) 2 3 = 0
        rw [up_ne _ _ (show (2 : Nat) ≠ 0 by decide)]
        exact u4
      have sl4 : sameL S S4 := ⟨w1 8 (by decide) (by decide), w2 9 (by omega)⟩
      obtain ⟨O', m1, m2, m3, m4, m5, m6, m7, m8, m9⟩ := m_textY (m := m) (μ := memX b S4 μ2) n1 hrb c6 hB hy hend
      have lX : (X0 ++ X1).length = X0.length + X1.length := List.length_append
      have lY : (X0 ++ X1 ++ X2).length = X0.length + X1.length + X2.length := by rw [List.length_append, lX]
      have c0 : sl (S1.2.1 4) 0 X0.length = X0 := sl_get _ [] X0 0 fun i hi => by
        rw [Nat.zero_add, q4 i (by omega), List.append_assoc]
        simp [List.getElem?_append_left hi]
      have c1 : sl (S1.2.1 4) X0.length X1.length = X1 := sl_get _ [] X1 X0.length fun i hi => by
        rw [q4 _ (by omega)]
        simp only [List.getD_eq_getElem?_getD]
        rw [List.append_assoc, List.getElem?_append_right (show X0.length ≤ X0.length + i by omega), Nat.add_sub_cancel_left, List.getElem?_append_left hi]
      have c2 : sl (S1.2.1 4) (X0 ++ X1).length X2.length = X2 := sl_get _ [] X2 (X0 ++ X1).length fun i hi => by
        rw [q4 _ (by omega)]
        simp only [List.getD_eq_getElem?_getD]
        rw [List.getElem?_append_right (show (X0 ++ X1).length ≤ (X0 ++ X1).length + i by omega), Nat.add_sub_cancel_left]
      have okx : ∀ X, goodX X → okP X := fun X hX nm => hX.1 nm []
      have hP : ∀ part, part < 3 → okP (partL (S1.2.1 4) (X0 ++ X1 ++ X2).length X0.length (X0 ++ X1).length part) := fun part hp => by
        have : part = 0 ∨ part = 1 ∨ part = 2 := by omega
        rcases this with rfl | rfl | rfl
        · rw [partL, if_pos rfl, c0]; exact okx _ hy.2.2.2.1.1
        · rw [partL, if_neg (by decide), if_pos rfl, show (X0 ++ X1).length - X0.length = X1.length by omega, c1]; exact okx _ hy.2.2.2.1.2.1
        · rw [partL, if_neg (by decide), if_neg (by decide), show (X0 ++ X1 ++ X2).length - (X0 ++ X1).length = X2.length by omega, c2]; exact okx _ hy.2.2.2.1.2.2
      have hL : LawM O' tc (S1.2.1 4) (X0 ++ X1 ++ X2).length X0.length (X0 ++ X1).length := ⟨c6, hy.2.2.2.2, by omega, by omega, m6, m7, m8, m9, fun k hk => by
        rw [m5 k hk, q4 k hk]
        refine ⟨rfl, ?_⟩
        have hmem : (X0 ++ X1 ++ X2).getD k 0 ∈ X0 ++ X1 ++ X2 := by
          rw [List.getD_eq_getElem?_getD, List.getElem?_eq_getElem hk]
          exact List.getElem_mem hk
        obtain ⟨gx0, gx1, gx2⟩ := hy.2.2.2.1
        rcases List.mem_append.mp hmem with q | q
        · rcases List.mem_append.mp q with q | q
          · exact gx0.2 _ q
          · exact gx1.2 _ q
        · exact gx2.2 _ q⟩
      refine ⟨nI tc, S4, O', μ2, hx, by rw [Wd_M lm, Wd_M lm]; exact m1, tc + 1, r, fun t => if t = tc then partL (S1.2.1 4) (X0 ++ X1 ++ X2).length X0.length (X0 ++ X1).length else T t, fun t => if t = tc then μ.1 else Q t, R1.rest m2 ⟨0, by omega, w5, m3, fun k hk => absurd hk (by omega)⟩ w1 w0 w2 w3 (by have := h1.2; omega) (by omega) (fun t h => if_neg (by omega)) ⟨by omega, by omega, w7, m4, fun t h => ?_⟩⟩
      rw [w4]
      dsimp only
      by_cases e : t = tc
      · subst e
        rw [up_eq, if_pos rfl, if_pos rfl]
        exact ⟨rfl, μ.1 + 1, (X0 ++ X1 ++ X2).length, X0.length, (X0 ++ X1).length, S1.2.1 4, ⟨by omega, by omega⟩, fun S' O' _ => il S' O', hL, fun part hp => ⟨rfl, hP part hp⟩⟩
      · have h : t < tc := by omega
        rw [up_ne _ _ e, if_neg e, if_neg e]
        refine ⟨(ht.2.2.2.2 t h).1, ?_⟩
        exact (ht.2.2.2.2 t h).2.f h m2 sl4 (by omega) l3
  · have e6 : tc = 6 := by have := ht.2.1; omega
    subst e6
    rw [if_neg (by decide)] at hx
    refine ⟨-4, S, O, μ, hx, ?_, R0⟩
    rw [f_X6_text.eq_1, Wd_M lm, mI_13, Option.bind_some, ht.2.2.2.1, if_pos (by decide)]
end KT
