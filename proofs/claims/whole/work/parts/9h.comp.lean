/-! text: comparisons; all levels. -/
section PA
variable {b m n : Nat} {f : Nat → Int32} {S S' : XS} {μ : mS}
theorem x_comp (hn : n ≤ 160) (hr : ∀ k, k < n → rng 255 (f k)) {E : Nat → Int32 → mS → Option (Int32 × mS)} {o : Nat} (hU : LVL b n f μ 5 o (f_X4_isSum E (b + 2) (nI o))) : LVL b n f μ 4 o (f_X4_isComparison E (b + 2) (nI o)) := by
  intro S s L H md h ht hL hH hp
  obtain ⟨p1, p2, p3, p4⟩ := hp
  obtain ⟨ok, S2, s', X, g1, g2, g3, g4, g5, g6⟩ := hU S s L H md h ht hL (by omega) ⟨p1, fun q => absurd q (by omega), fun _ => p3 (by omega), fun q => absurd q (by omega)⟩
  have a2 := g4.at
  have hx : f_X4_isComparison E (b + 2) (nI o) (memX b S μ) = (if (ok, memX b S2 μ).1 = 0 then
if (ok, memX b S2 μ).1 &&& 1 = (ok, memX b S2 μ).1 then some ((ok, memX b S2 μ).1, (ok, memX b S2 μ).2) else none
else
(gI (ok, memX b S2 μ).2 (b + 2) 3 5).bind fun v40 =>
if v40 = (60 : Int32) then
f_X4_isComparison_28 E (b + 2) (nI o) (ok, memX b S2 μ).2
else
(gI (ok, memX b S2 μ).2 (b + 2) 3 5).bind fun v42 =>
if v42 = (61 : Int32) then
f_X4_isComparison_28 E (b + 2) (nI o) (ok, memX b S2 μ).2
else
if (ok, memX b S2 μ).1 &&& 1 = (ok, memX b S2 μ).1 then some ((ok, memX b S2 μ).1, (ok, memX b S2 μ).2) else none) := by
    rw [f_X4_isComparison.eq_1, if_pos isO_T, g1, Option.bind_some]
  rcases g6 with ⟨rfl, g6⟩ | ⟨rfl, gX, H1, o1, L1, g7, g8, g9⟩
  · exact ⟨0, S2, s', X, hx.trans (by rw [if_pos rfl, if_pos (show (0 : Int32) &&& 1 = 0 by decide)]), g2, g3, g4, g5, Or.inl ⟨rfl, g6⟩⟩
  · dsimp only at hx
    rw [if_neg (by decide), gI_T 5 (by omega), Option.bind_some, g3.2.2.1.2.1] at hx
    by_cases c : s'.1 = 60 ∨ s'.1 = 61
    · have hs0 : ¬ s'.1 = 0 := by rcases c with c | c <;> rw [c] <;> decide
      have ht1 := g4.go
      have hp1 := ht1.2 hs0
      have hpl := a2.2.2 hs0
      obtain ⟨S3, e1, e2, e3⟩ := x_go (b := b) (μ := μ) hn hr g3 g4
      have hm : ∀ i, mR f n (i + 1) 0 s' H1 o1 L1 = mR f n i 1 (lx f n s'.2.2.2) (sgOf s'.1 :: H) o (L ++ X) := fun i => by
        have e := g8 5 (by omega) (by omega) (by omega)
        rw [unw_stop (r := 5) (H := H) (by omega)] at e
        have hg : ¬ s'.1 = 59 ∧ ¬ s'.1 = 41 ∧ ¬ sgOf s'.1 = 0 ∧ rk (sgOf s'.1) = 4 := by rcases c with c | c <;> rw [c] <;> decide
        obtain ⟨h1, h2, h3, h4⟩ := hg
        rw [mR, if_pos rfl, if_neg h1, if_neg h2, if_neg h3, if_pos h4, e, if_neg (show ¬ topR H = 4 by omega)]
      have hk : rk (sgOf s'.1) = 4 := by rcases c with c | c <;> rw [c] <;> decide
      obtain ⟨ok, S4, s4, Y, i1, i2, i3, i4, i5, i6⟩ := hU S3 (lx f n s'.2.2.2) (L ++ X) (sgOf s'.1 :: H) 1 e3 ht1.1 (by rw [List.length_append]; omega) (show rk (sgOf s'.1) < 5 by omega) ⟨Or.inl rfl, fun q => absurd q (by omega), fun _ _ => Or.inl rfl, fun q => absurd q (by omega)⟩
      have a4 := i4.at
      have h28 : f_X4_isComparison_28 E (b + 2) (nI o) (memX b S2 μ) = (if (ok, memX b S4 μ).1 = 0 then
some ((0 : Int32), (ok, memX b S4 μ).2)
else
if isO (ok, memX b S4 μ).2 (b + 2) 3 = true then
(f_X4_isNoted (b + 2) (if s'.1 = (60 : Int32) then (-12 : Int32) else (-13 : Int32)) (1 : Int32) (ok, memX b S4 μ).2).bind fun q32 =>
vl (if q32.1 = 0 then (0 : Int32) else (1 : Int32)) fun v34 =>
if v34 &&& 1 = v34 then some (v34, q32.2) else none else none) := by
        rw [f_X4_isComparison_28.eq_1, gI_T 5 (by omega), Option.bind_some, g3.2.2.1.2.1, vl_eq, if_pos isO_T, e1, Option.bind_some, if_pos isO_T, i1, Option.bind_some]
      have hx2 : f_X4_isComparison E (b + 2) (nI o) (memX b S μ) = f_X4_isComparison_28 E (b + 2) (nI o) (memX b S2 μ) := by
        rw [hx]
        rcases c with c | c
        · rw [if_pos c]
        · rw [if_neg (by rw [c]; decide), Option.bind_some, if_pos c]
      rcases i6 with ⟨rfl, i6⟩ | ⟨rfl, gY, H2, o2, L2, i7, i8, i9⟩
      · refine ⟨0, S4, s4, X ++ Y, ?_, (g2.tr e2).tr i2, by rw [← List.append_assoc]; exact i3, i4, by rw [List.length_append]; omega, Or.inl ⟨rfl, g7.fail (i6.step hp1 hm)⟩⟩
        rw [hx2, h28, if_pos rfl]
      · obtain ⟨S5, j1, j2, j3⟩ := x_note (b := b) (μ := μ) (if s'.1 = (60 : Int32) then (-12 : Int32) else (-13 : Int32)) (c := 1) (by omega) (by rw [List.length_append, List.length_append]; omega) i3
        have eX : L ++ X ++ Y ++ List.replicate 1 (if s'.1 = (60 : Int32) then (-12 : Int32) else (-13 : Int32)) = L ++ (X ++ Y ++ [(if s'.1 = (60 : Int32) then (-12 : Int32) else (-13 : Int32))]) := by
          rw [List.append_assoc, List.append_assoc, List.append_assoc]; rfl
        rw [eX] at j3
        refine ⟨1, S5, s4, X ++ Y ++ [(if s'.1 = (60 : Int32) then (-12 : Int32) else (-13 : Int32))], ?_, ((g2.tr e2).tr i2).tr j2, j3, i4, ?_, Or.inr ⟨rfl, ⟨evO_2 gX.1 gY.1 (by rcases c with c | c <;> rw [c] <;> decide), fun x hx => ?_⟩, H2, o2, L2, g7.tr (i7.step hp1 hm), fun r' h1 h2 h3 => ?_, ?_⟩⟩
        · rw [hx2, h28]
          dsimp only
          rw [if_neg (by decide), if_pos isO_T, show (1 : Int32) = nI 1 from rfl, j1, Option.bind_some]
          dsimp only
          rw [if_neg (by decide), vl_eq, if_pos (by decide)]
        · rw [List.length_append, List.length_append]; show X.length + Y.length + 1 + _ ≤ _; omega
        · rcases List.mem_append.mp hx with q | q
          · rcases List.mem_append.mp q with q | q
            · exact gX.2 x q
            · exact gY.2 x q
          · rw [List.mem_singleton.mp q]
            rcases c with c | c
            · rw [c]; exact Or.inr (Or.inr (Or.inr (Or.inr (Or.inr (Or.inr (Or.inr (Or.inr (Or.inr (Or.inr (Or.inr (Or.inr (Or.inl rfl))))))))))))
            · rw [c]; exact Or.inr (Or.inr (Or.inr (Or.inr (Or.inr (Or.inr (Or.inr (Or.inr (Or.inr (Or.inr (Or.inr (Or.inr (Or.inr (Or.inl rfl)))))))))))))
        · have hsg : ¬ (sgOf s'.1 = 13 ∨ sgOf s'.1 = 19) ∧ opc (sgOf s'.1) = (if s'.1 = (60 : Int32) then (-12 : Int32) else (-13 : Int32)) := by rcases c with c | c <;> rw [c] <;> exact ⟨by decide, by decide⟩
          rw [i8 r' h1 (by omega) h3, unw_go (x := sgOf s'.1) (by omega), if_neg hsg.1, hsg.2, List.append_assoc, List.append_assoc, List.append_assoc]
        · refine ⟨fun _ => i9.1 (by omega), fun _ => i9.2.1 (by omega), fun _ _ => ?_, fun q => absurd q (by omega), fun q => absurd q (by omega)⟩
          rw [i8 5 (by omega) (by omega) (by omega), unw_stop (H := sgOf s'.1 :: H) (show rk (sgOf s'.1) < 5 by omega)]
          exact hk
    · refine ⟨1, S2, s', X, ?_, g2, g3, g4, g5, Or.inr ⟨rfl, gX, H1, o1, L1, g7, fun r' h1 h2 h3 => g8 r' h1 (by omega) h3, ⟨fun _ => g9.1 (by omega), fun _ => g9.2.1 (by omega), fun _ q => absurd q c, fun q => absurd q (by omega), fun q => absurd q (by omega)⟩⟩⟩
      rw [hx, if_neg (fun q => c (Or.inl q)), Option.bind_some, if_neg (fun q => c (Or.inr q)), if_pos (by decide)]
theorem x_eitherD (hn : n ≤ 160) (hr : ∀ k, k < n → rng 255 (f k)) : ∀ d o, o ≤ 5 → 5 < o + d → LVL b n f μ 1 o (f_X4_isEither d (b + 2) (nI o)) := by
  intro d
  induction d with
  | zero => intro o h1 h2; omega
  | succ d ih =>
    intro o h1 h2
    have u : ∀ o', o ≤ o' → o' ≤ 5 → LVL b n f μ 8 o' (f_X4_isUnsigned (f_X4_isEither d) (b + 2) (nI o')) := fun o' q1 q2 => x_uns hn hr q2 fun q3 => ih (o' + 1) (by omega) (by omega)
    have one : ∀ o', o ≤ o' → o' ≤ 5 → LVL b n f μ 7 o' (f_X4_isOne (f_X4_isEither d) (b + 2) (nI o')) := fun o' q1 q2 => x_one hn hr q2 fun o'' q3 q4 => u o'' (by omega) q4
    have cmp : ∀ o', o ≤ o' → o' ≤ 5 → LVL b n f μ 4 o' (f_X4_isComparison (f_X4_isEither d) (b + 2) (nI o')) := fun o' q1 q2 => x_comp hn hr (x_sum hn hr (x_term hn hr (one o' q1 q2)))
    exact x_either hn hr (x_both hn hr (x_no hn hr h1 fun o' q1 q2 => cmp o' q1 q2))
end PA
