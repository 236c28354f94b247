/-! text: rows of like signs. -/
section PA
variable {b m n : Nat} {f : Nat → Int32} {S S' : XS} {μ : mS}
theorem x_term0 {E : Nat → Int32 → mS → Option (Int32 × mS)} {o i fu : Nat} (hf : 0 < fu) : f_X4_isTerm_8 E fu (b + 2) (nI o) 0 (nI i) (memX b S μ) = some (0, memX b S μ) := by
  obtain ⟨fu, rfl⟩ : ∃ q, fu = q + 1 := ⟨fu - 1, by omega⟩
  rw [f_X4_isTerm_8.eq_2, if_pos (show (0 : Int32) = 0 from rfl), if_pos (show (0 : Int32) &&& 1 = 0 by decide)]
  split <;> rfl
theorem x_termL (hn : n ≤ 160) (hr : ∀ k, k < n → rng 255 (f k)) {E : Nat → Int32 → mS → Option (Int32 × mS)} {o : Nat} {L : List Int32} {H : List Nat} (hU : LVL b n f μ 7 o (f_X4_isOne E (b + 2) (nI o))) (hH : topR H < 6) : ∀ d i fu S s X H1 o1 L1, n < s.2.2.1 + d → d < fu → i ≤ s.2.2.1 → cst f n S s (L ++ X) → tok f n s → (L ++ X).length ≤ s.2.2.1 → goodX X → AG 6 H1 o1 L1 H o (L ++ X) → side 7 s H1 o1 L1 → ∃ ok S' s' X', f_X4_isTerm_8 E fu (b + 2) (nI o) 1 (nI i) (memX b S μ) = some (ok, memX b S' μ) ∧ tgS S S' ∧ cst f n S' s' (L ++ X') ∧ tok f n s' ∧ X'.length + s.2.2.1 ≤ s'.2.2.1 + X.length ∧ ((ok = 0 ∧ failR f n 0 s H1 o1 L1 s') ∨ (ok = 1 ∧ goodX X' ∧ ∃ H2 o2 L2, runR f n 0 s H1 o1 L1 s' H2 o2 L2 ∧ AG 6 H2 o2 L2 H o (L ++ X') ∧ side 6 s' H2 o2 L2)) := by
  intro d
  induction d with
  | zero =>
    intro i fu S s X H1 o1 L1 hd hf hi h ht hL gX ha hs
    have := ht.at
    omega
  | succ d ih =>
    intro i fu S s X H1 o1 L1 hd hf hi h ht hL gX ha hs
    obtain ⟨fu, rfl⟩ : ∃ q, fu = q + 1 := ⟨fu - 1, by omega⟩
    have hat := ht.at
    by_cases c : s.1 = 42
    · have hs0 : ¬ s.1 = 0 := by skip <;> rw [c] <;> decide
      have ht1 := ht.go
      have hp1 := ht1.2 hs0
      have hpl := hat.2.2 hs0
      obtain ⟨S1, e1, e2, e3⟩ := x_go (b := b) (μ := μ) hn hr h ht
      have hm : ∀ i, mR f n (i + 1) 0 s H1 o1 L1 = mR f n i 1 (lx f n s.2.2.2) (18 :: H) o (L ++ X) := fun i => by
        have e := ha 6 (by omega) (by omega) (by omega)
        rw [unw_stop hH] at e
        have hg : ¬ s.1 = 59 ∧ ¬ s.1 = 41 ∧ ¬ sgOf s.1 = 0 ∧ ¬ rk (sgOf s.1) = 4 ∧ sgOf s.1 = 18 ∧ rk 18 = 6 ∧ (if 12 < 18 then 1 else 2) = 1 := by skip <;> rw [c] <;> decide
        obtain ⟨h1, h2, h3, h4, h5, h6, h7⟩ := hg
        rw [mR, if_pos rfl, if_neg h1, if_neg h2, if_neg h3, if_neg h4, h5, h6, e, h7]
      obtain ⟨ok, S2, s', Y, g1, g2, g3, g4, g5, g6⟩ := hU S1 (lx f n s.2.2.2) (L ++ X) (18 :: H) 1 e3 ht1.1 (by omega) (show rk 18 < 7 by decide) ⟨Or.inl rfl, fun q => absurd q (by omega), fun _ _ => Or.inl rfl, fun q => absurd q (by omega)⟩
      have a2 := g4.at
      have lX : (L ++ X).length = L.length + X.length := List.length_append
      have hx : f_X4_isTerm_8 E (fu + 1) (b + 2) (nI o) 1 (nI i) (memX b S μ) = (if (ok, memX b S2 μ).1 = 0 then
    vl (nI i + (1 : Int32)) fun v33 =>
    f_X4_isTerm_8 E fu (b + 2) (nI o) (0 : Int32) v33 (ok, memX b S2 μ).2
    else
    if isO (ok, memX b S2 μ).2 (b + 2) 3 = true then
    (f_X4_isNoted (b + 2) (-11) (1 : Int32) (ok, memX b S2 μ).2).bind fun q35 =>
    vl (if q35.1 = 0 then (0 : Int32) else (1 : Int32)) fun v37 =>
    vl (nI i + (1 : Int32)) fun v38 =>
    f_X4_isTerm_8 E fu (b + 2) (nI o) v37 v38 q35.2 else none) := by
        rw [f_X4_isTerm_8.eq_2, if_neg (ge_160 (by omega)), if_neg (by decide), gI_T 5 (by omega), Option.bind_some, h.2.2.1.2.1]
        rw [if_pos c, if_pos isO_T, e1, Option.bind_some, if_pos isO_T, g1, Option.bind_some]
      rcases g6 with ⟨rfl, g6⟩ | ⟨rfl, gY, H2, o2, L2, g7, g8, g9⟩
      · refine ⟨0, S2, s', X ++ Y, ?_, e2.tr g2, by rw [← List.append_assoc]; exact g3, g4, by rw [List.length_append]; omega, Or.inl ⟨rfl, g6.step hp1 hm⟩⟩
        rw [hx, if_pos rfl, vl_eq, nI_1]
        exact x_term0 (by omega)
      · obtain ⟨S3, i1, i2, i3⟩ := x_note (b := b) (μ := μ) ((-11)) (c := 1) (by omega) (by rw [List.length_append]; omega) g3
        have eX : L ++ X ++ Y ++ List.replicate 1 (-11) = L ++ (X ++ Y ++ [(-11)]) := by
          rw [List.append_assoc, List.append_assoc, List.append_assoc]; rfl
        rw [eX] at i3
        have lZ : (X ++ Y ++ [(-11)]).length = X.length + Y.length + 1 := by rw [List.length_append, List.length_append]; rfl
        obtain ⟨ok, S4, s4, X4, j1, j2, j3, j4, j5, j6⟩ := ih (i + 1) fu S3 s' (X ++ Y ++ [(-11)]) H2 o2 L2 (by omega) (by omega) (by omega) i3 g4 (by rw [List.length_append, lZ]; omega) ⟨evO_2 gX.1 gY.1 (by decide), fun x hx => by
          rcases List.mem_append.mp hx with q | q
          · rcases List.mem_append.mp q with q | q
            · exact gX.2 x q
            · exact gY.2 x q
          · rw [List.mem_singleton.mp q]; exact Or.inr (Or.inr (Or.inr (Or.inr (Or.inr (Or.inr (Or.inr (Or.inr (Or.inr (Or.inr (Or.inr (Or.inl rfl)))))))))))⟩ (fun r' h1 h2 h3 => by
            have hsg : r' ≤ rk 18 ∧ ¬ (18 = 13 ∨ 18 = 19) ∧ opc 18 = (-11) := by refine ⟨?_, by decide, by decide⟩; have : rk 18 = 6 := rfl; omega
            rw [g8 r' h1 (by omega) h3, unw_go (x := 18) hsg.1, if_neg hsg.2.1, hsg.2.2, List.append_assoc, List.append_assoc, List.append_assoc]) g9
        refine ⟨ok, S4, s4, X4, ?_, ((e2.tr g2).tr i2).tr j2, j3, j4, by omega, ?_⟩
        · rw [hx]
          dsimp only
          rw [if_neg (by decide), if_pos isO_T, show (1 : Int32) = nI 1 from rfl, i1, Option.bind_some]
          dsimp only
          rw [if_neg (by decide), vl_eq, vl_eq, show (nI 1 : Int32) = 1 from rfl, nI_1]
          exact j1
        · rcases j6 with ⟨e, j6⟩ | ⟨e, gX4, H5, o5, L5, k1, k2, k3⟩
          · exact Or.inl ⟨e, (g7.fail j6).step hp1 hm⟩
          · exact Or.inr ⟨e, gX4, H5, o5, L5, (g7.tr k1).step hp1 hm, k2, k3⟩
    · refine ⟨1, S, s, X, ?_, tgS.rf S, h, ht, by omega, Or.inr ⟨rfl, gX, H1, o1, L1, runR.rf, ha, ⟨fun _ => c, fun q => absurd q (by omega), fun q => absurd q (by omega), fun q => absurd q (by omega), fun q => absurd q (by omega)⟩⟩⟩
      rw [f_X4_isTerm_8.eq_2, if_neg (show ¬ (1 : Int32) = 0 by decide), gI_T 5 (by omega), Option.bind_some, h.2.2.1.2.1, if_neg c, if_pos (show (1 : Int32) &&& 1 = 1 by decide)]
      split <;> rfl
theorem x_term (hn : n ≤ 160) (hr : ∀ k, k < n → rng 255 (f k)) {E : Nat → Int32 → mS → Option (Int32 × mS)} {o : Nat} (hU : LVL b n f μ 7 o (f_X4_isOne E (b + 2) (nI o))) : LVL b n f μ 6 o (f_X4_isTerm E (b + 2) (nI o)) := by
  intro S s L H md h ht hL hH hp
  obtain ⟨p1, p2, p3, p4⟩ := hp
  obtain ⟨ok, S2, s', X, g1, g2, g3, g4, g5, g6⟩ := hU S s L H md h ht hL (by omega) ⟨p1, fun q => absurd q (by omega), fun _ => p3 (by omega), fun q => absurd q (by omega)⟩
  have a2 := g4.at
  have hx : f_X4_isTerm E (b + 2) (nI o) (memX b S μ) = f_X4_isTerm_8 E fU (b + 2) (nI o) ok 0 (memX b S2 μ) := by
    rw [f_X4_isTerm.eq_1, if_pos isO_T, g1, Option.bind_some]
  rcases g6 with ⟨rfl, g6⟩ | ⟨rfl, gX, H1, o1, L1, g7, g8, g9⟩
  · exact ⟨0, S2, s', X, hx.trans (x_term0 (i := 0) (fU_lt (by omega))), g2, g3, g4, g5, Or.inl ⟨rfl, g6⟩⟩
  · obtain ⟨ok, S4, s4, X4, j1, j2, j3, j4, j5, j6⟩ := x_termL (b := b) (μ := μ) hn hr hU hH (n + 1) 0 fU S2 s' X H1 o1 L1 (by omega) (fU_lt (by omega)) (by omega) g3 g4 (by rw [List.length_append]; omega) gX (fun r' h1 h2 h3 => g8 r' h1 (by omega) h3) g9
    refine ⟨ok, S4, s4, X4, hx.trans j1, g2.tr j2, j3, j4, by omega, ?_⟩
    rcases j6 with ⟨e, j6⟩ | ⟨e, gX4, H5, o5, L5, k1, k2, k3⟩
    · exact Or.inl ⟨e, g7.fail j6⟩
    · exact Or.inr ⟨e, gX4, H5, o5, L5, g7.tr k1, k2, k3⟩
theorem x_sum0 {E : Nat → Int32 → mS → Option (Int32 × mS)} {o i fu : Nat} (hf : 0 < fu) : f_X4_isSum_8 E fu (b + 2) (nI o) 0 (nI i) (memX b S μ) = some (0, memX b S μ) := by
  obtain ⟨fu, rfl⟩ : ∃ q, fu = q + 1 := ⟨fu - 1, by omega⟩
  rw [f_X4_isSum_8.eq_2, if_pos (show (0 : Int32) = 0 from rfl), if_pos (show (0 : Int32) &&& 1 = 0 by decide)]
  split <;> rfl
theorem x_sumL (hn : n ≤ 160) (hr : ∀ k, k < n → rng 255 (f k)) {E : Nat → Int32 → mS → Option (Int32 × mS)} {o : Nat} {L : List Int32} {H : List Nat} (hU : LVL b n f μ 6 o (f_X4_isTerm E (b + 2) (nI o))) (hH : topR H < 5) : ∀ d i fu S s X H1 o1 L1, n < s.2.2.1 + d → d < fu → i ≤ s.2.2.1 → cst f n S s (L ++ X) → tok f n s → (L ++ X).length ≤ s.2.2.1 → goodX X → AG 5 H1 o1 L1 H o (L ++ X) → side 6 s H1 o1 L1 → ∃ ok S' s' X', f_X4_isSum_8 E fu (b + 2) (nI o) 1 (nI i) (memX b S μ) = some (ok, memX b S' μ) ∧ tgS S S' ∧ cst f n S' s' (L ++ X') ∧ tok f n s' ∧ X'.length + s.2.2.1 ≤ s'.2.2.1 + X.length ∧ ((ok = 0 ∧ failR f n 0 s H1 o1 L1 s') ∨ (ok = 1 ∧ goodX X' ∧ ∃ H2 o2 L2, runR f n 0 s H1 o1 L1 s' H2 o2 L2 ∧ AG 5 H2 o2 L2 H o (L ++ X') ∧ side 5 s' H2 o2 L2)) := by
  intro d
  induction d with
  | zero =>
    intro i fu S s X H1 o1 L1 hd hf hi h ht hL gX ha hs
    have := ht.at
    omega
  | succ d ih =>
    intro i fu S s X H1 o1 L1 hd hf hi h ht hL gX ha hs
    obtain ⟨fu, rfl⟩ : ∃ q, fu = q + 1 := ⟨fu - 1, by omega⟩
    have hat := ht.at
    by_cases c : s.1 = 43 ∨ s.1 = 45
    · have hs0 : ¬ s.1 = 0 := by rcases c with c | c <;> rw [c] <;> decide
      have ht1 := ht.go
      have hp1 := ht1.2 hs0
      have hpl := hat.2.2 hs0
      obtain ⟨S1, e1, e2, e3⟩ := x_go (b := b) (μ := μ) hn hr h ht
      have hm : ∀ i, mR f n (i + 1) 0 s H1 o1 L1 = mR f n i 1 (lx f n s.2.2.2) ((sgOf s.1) :: H) o (L ++ X) := fun i => by
        have e := ha 5 (by omega) (by omega) (by omega)
        rw [unw_stop hH] at e
        have hg : ¬ s.1 = 59 ∧ ¬ s.1 = 41 ∧ ¬ sgOf s.1 = 0 ∧ ¬ rk (sgOf s.1) = 4 ∧ sgOf s.1 = (sgOf s.1) ∧ rk (sgOf s.1) = 5 ∧ (if 12 < (sgOf s.1) then 1 else 2) = 1 := by rcases c with c | c <;> rw [c] <;> decide
        obtain ⟨h1, h2, h3, h4, h5, h6, h7⟩ := hg
        rw [mR, if_pos rfl, if_neg h1, if_neg h2, if_neg h3, if_neg h4, h5, h6, e, h7]
      obtain ⟨ok, S2, s', Y, g1, g2, g3, g4, g5, g6⟩ := hU S1 (lx f n s.2.2.2) (L ++ X) ((sgOf s.1) :: H) 1 e3 ht1.1 (by omega) (show rk (sgOf s.1) < 6 by rcases c with c | c <;> rw [c] <;> decide) ⟨Or.inl rfl, fun q => absurd q (by omega), fun _ _ => Or.inl rfl, fun q => absurd q (by omega)⟩
      have a2 := g4.at
      have lX : (L ++ X).length = L.length + X.length := List.length_append
      have hx : f_X4_isSum_8 E (fu + 1) (b + 2) (nI o) 1 (nI i) (memX b S μ) = (if (ok, memX b S2 μ).1 = 0 then
    vl (nI i + (1 : Int32)) fun v33 =>
    f_X4_isSum_8 E fu (b + 2) (nI o) (0 : Int32) v33 (ok, memX b S2 μ).2
    else
    if isO (ok, memX b S2 μ).2 (b + 2) 3 = true then
    (f_X4_isNoted (b + 2) (if s.1 = (43 : Int32) then (-9 : Int32) else (-10 : Int32)) (1 : Int32) (ok, memX b S2 μ).2).bind fun q35 =>
    vl (if q35.1 = 0 then (0 : Int32) else (1 : Int32)) fun v37 =>
    vl (nI i + (1 : Int32)) fun v38 =>
    f_X4_isSum_8 E fu (b + 2) (nI o) v37 v38 q35.2 else none) := by
        rw [f_X4_isSum_8.eq_2, if_neg (ge_160 (by omega)), if_neg (by decide), gI_T 5 (by omega), Option.bind_some, h.2.2.1.2.1]
        have h37 : f_X4_isSum_37 E (f_X4_isSum_8 E fu) (b + 2) (nI o) (nI i) (memX b S μ) = _ := f_X4_isSum_37.eq_1 _ _ _ _ _ _
        rw [gI_T 5 (by omega), Option.bind_some, h.2.2.1.2.1, vl_eq, if_pos isO_T, e1, Option.bind_some, if_pos isO_T, g1, Option.bind_some] at h37
        rcases c with c | c
        · rw [if_pos c, h37]
        · rw [if_neg (by rw [c]; decide), Option.bind_some, if_pos c, h37]
      rcases g6 with ⟨rfl, g6⟩ | ⟨rfl, gY, H2, o2, L2, g7, g8, g9⟩
      · refine ⟨0, S2, s', X ++ Y, ?_, e2.tr g2, by rw [← List.append_assoc]; exact g3, g4, by rw [List.length_append]; omega, Or.inl ⟨rfl, g6.step hp1 hm⟩⟩
        rw [hx, if_pos rfl, vl_eq, nI_1]
        exact x_sum0 (by omega)
      · obtain ⟨S3, i1, i2, i3⟩ := x_note (b := b) (μ := μ) ((if s.1 = (43 : Int32) then (-9 : Int32) else (-10 : Int32))) (c := 1) (by omega) (by rw [List.length_append]; omega) g3
        have eX : L ++ X ++ Y ++ List.replicate 1 (if s.1 = (43 : Int32) then (-9 : Int32) else (-10 : Int32)) = L ++ (X ++ Y ++ [(if s.1 = (43 : Int32) then (-9 : Int32) else (-10 : Int32))]) := by
          rw [List.append_assoc, List.append_assoc, List.append_assoc]; rfl
        rw [eX] at i3
        have lZ : (X ++ Y ++ [(if s.1 = (43 : Int32) then (-9 : Int32) else (-10 : Int32))]).length = X.length + Y.length + 1 := by rw [List.length_append, List.length_append]; rfl
        obtain ⟨ok, S4, s4, X4, j1, j2, j3, j4, j5, j6⟩ := ih (i + 1) fu S3 s' (X ++ Y ++ [(if s.1 = (43 : Int32) then (-9 : Int32) else (-10 : Int32))]) H2 o2 L2 (by omega) (by omega) (by omega) i3 g4 (by rw [List.length_append, lZ]; omega) ⟨evO_2 gX.1 gY.1 (by rcases c with c | c <;> rw [c] <;> decide), fun x hx => by
          rcases List.mem_append.mp hx with q | q
          · rcases List.mem_append.mp q with q | q
            · exact gX.2 x q
            · exact gY.2 x q
          · rw [List.mem_singleton.mp q]; rcases c with c | c
            · rw [c]; exact Or.inr (Or.inr (Or.inr (Or.inr (Or.inr (Or.inr (Or.inr (Or.inr (Or.inr (Or.inl rfl)))))))))
            · rw [c]; exact Or.inr (Or.inr (Or.inr (Or.inr (Or.inr (Or.inr (Or.inr (Or.inr (Or.inr (Or.inr (Or.inl rfl))))))))))⟩ (fun r' h1 h2 h3 => by
            have hsg : r' ≤ rk (sgOf s.1) ∧ ¬ ((sgOf s.1) = 13 ∨ (sgOf s.1) = 19) ∧ opc (sgOf s.1) = (if s.1 = (43 : Int32) then (-9 : Int32) else (-10 : Int32)) := by rcases c with c | c <;> rw [c] <;> exact ⟨h2, by decide, by decide⟩
            rw [g8 r' h1 (by omega) h3, unw_go (x := (sgOf s.1)) hsg.1, if_neg hsg.2.1, hsg.2.2, List.append_assoc, List.append_assoc, List.append_assoc]) g9
        refine ⟨ok, S4, s4, X4, ?_, ((e2.tr g2).tr i2).tr j2, j3, j4, by omega, ?_⟩
        · rw [hx]
          dsimp only
          rw [if_neg (by decide), if_pos isO_T, show (1 : Int32) = nI 1 from rfl, i1, Option.bind_some]
          dsimp only
          rw [if_neg (by decide), vl_eq, vl_eq, show (nI 1 : Int32) = 1 from rfl, nI_1]
          exact j1
        · rcases j6 with ⟨e, j6⟩ | ⟨e, gX4, H5, o5, L5, k1, k2, k3⟩
          · exact Or.inl ⟨e, (g7.fail j6).step hp1 hm⟩
          · exact Or.inr ⟨e, gX4, H5, o5, L5, (g7.tr k1).step hp1 hm, k2, k3⟩
    · refine ⟨1, S, s, X, ?_, tgS.rf S, h, ht, by omega, Or.inr ⟨rfl, gX, H1, o1, L1, runR.rf, ha, ⟨fun _ => hs.1 (by omega), fun _ => ⟨fun q => c (Or.inl q), fun q => c (Or.inr q)⟩, fun q => absurd q (by omega), fun q => absurd q (by omega), fun q => absurd q (by omega)⟩⟩⟩
      rw [f_X4_isSum_8.eq_2, if_neg (show ¬ (1 : Int32) = 0 by decide), gI_T 5 (by omega), Option.bind_some, h.2.2.1.2.1, if_neg (fun q => c (Or.inl q)), Option.bind_some, if_neg (fun q => c (Or.inr q)), if_pos (show (1 : Int32) &&& 1 = 1 by decide)]
      split <;> rfl
theorem x_sum (hn : n ≤ 160) (hr : ∀ k, k < n → rng 255 (f k)) {E : Nat → Int32 → mS → Option (Int32 × mS)} {o : Nat} (hU : LVL b n f μ 6 o (f_X4_isTerm E (b + 2) (nI o))) : LVL b n f μ 5 o (f_X4_isSum E (b + 2) (nI o)) := by
  intro S s L H md h ht hL hH hp
  obtain ⟨p1, p2, p3, p4⟩ := hp
  obtain ⟨ok, S2, s', X, g1, g2, g3, g4, g5, g6⟩ := hU S s L H md h ht hL (by omega) ⟨p1, fun q => absurd q (by omega), fun _ => p3 (by omega), fun q => absurd q (by omega)⟩
  have a2 := g4.at
  have hx : f_X4_isSum E (b + 2) (nI o) (memX b S μ) = f_X4_isSum_8 E fU (b + 2) (nI o) ok 0 (memX b S2 μ) := by
    rw [f_X4_isSum.eq_1, if_pos isO_T, g1, Option.bind_some]
  rcases g6 with ⟨rfl, g6⟩ | ⟨rfl, gX, H1, o1, L1, g7, g8, g9⟩
  · exact ⟨0, S2, s', X, hx.trans (x_sum0 (i := 0) (fU_lt (by omega))), g2, g3, g4, g5, Or.inl ⟨rfl, g6⟩⟩
  · obtain ⟨ok, S4, s4, X4, j1, j2, j3, j4, j5, j6⟩ := x_sumL (b := b) (μ := μ) hn hr hU hH (n + 1) 0 fU S2 s' X H1 o1 L1 (by omega) (fU_lt (by omega)) (by omega) g3 g4 (by rw [List.length_append]; omega) gX (fun r' h1 h2 h3 => g8 r' h1 (by omega) h3) g9
    refine ⟨ok, S4, s4, X4, hx.trans j1, g2.tr j2, j3, j4, by omega, ?_⟩
    rcases j6 with ⟨e, j6⟩ | ⟨e, gX4, H5, o5, L5, k1, k2, k3⟩
    · exact Or.inl ⟨e, g7.fail j6⟩
    · exact Or.inr ⟨e, gX4, H5, o5, L5, g7.tr k1, k2, k3⟩
theorem x_both0 {E : Nat → Int32 → mS → Option (Int32 × mS)} {o i fu : Nat} (hf : 0 < fu) : f_X4_isBoth_8 E fu (b + 2) (nI o) 0 (nI i) (memX b S μ) = some (0, memX b S μ) := by
  obtain ⟨fu, rfl⟩ : ∃ q, fu = q + 1 := ⟨fu - 1, by omega⟩
  rw [f_X4_isBoth_8.eq_2, if_pos (show (0 : Int32) = 0 from rfl), if_pos (show (0 : Int32) &&& 1 = 0 by decide)]
  split <;> rfl
theorem x_bothL (hn : n ≤ 160) (hr : ∀ k, k < n → rng 255 (f k)) {E : Nat → Int32 → mS → Option (Int32 × mS)} {o : Nat} {L : List Int32} {H : List Nat} (hU : LVL b n f μ 3 o (f_X4_isNot E (b + 2) (nI o))) (hH : topR H < 2) : ∀ d i fu S s X H1 o1 L1, n < s.2.2.1 + d → d < fu → i ≤ s.2.2.1 → cst f n S s (L ++ X) → tok f n s → (L ++ X).length ≤ s.2.2.1 → goodX X → AG 2 H1 o1 L1 H o (L ++ X) → side 3 s H1 o1 L1 → ∃ ok S' s' X', f_X4_isBoth_8 E fu (b + 2) (nI o) 1 (nI i) (memX b S μ) = some (ok, memX b S' μ) ∧ tgS S S' ∧ cst f n S' s' (L ++ X') ∧ tok f n s' ∧ X'.length + s.2.2.1 ≤ s'.2.2.1 + X.length ∧ ((ok = 0 ∧ failR f n 0 s H1 o1 L1 s') ∨ (ok = 1 ∧ goodX X' ∧ ∃ H2 o2 L2, runR f n 0 s H1 o1 L1 s' H2 o2 L2 ∧ AG 2 H2 o2 L2 H o (L ++ X') ∧ side 2 s' H2 o2 L2)) := by
  intro d
  induction d with
  | zero =>
    intro i fu S s X H1 o1 L1 hd hf hi h ht hL gX ha hs
    have := ht.at
    omega
  | succ d ih =>
    intro i fu S s X H1 o1 L1 hd hf hi h ht hL gX ha hs
    obtain ⟨fu, rfl⟩ : ∃ q, fu = q + 1 := ⟨fu - 1, by omega⟩
    have hat := ht.at
    by_cases c : s.1 = 7
    · have hs0 : ¬ s.1 = 0 := by skip <;> rw [c] <;> decide
      have ht1 := ht.go
      have hp1 := ht1.2 hs0
      have hpl := hat.2.2 hs0
      obtain ⟨S1, e1, e2, e3⟩ := x_go (b := b) (μ := μ) hn hr h ht
      have hm : ∀ i, mR f n (i + 1) 0 s H1 o1 L1 = mR f n i 2 (lx f n s.2.2.2) (12 :: H) o (L ++ X) := fun i => by
        have e := ha 2 (by omega) (by omega) (by omega)
        rw [unw_stop hH] at e
        have hg : ¬ s.1 = 59 ∧ ¬ s.1 = 41 ∧ ¬ sgOf s.1 = 0 ∧ ¬ rk (sgOf s.1) = 4 ∧ sgOf s.1 = 12 ∧ rk 12 = 2 ∧ (if 12 < 12 then 1 else 2) = 2 := by skip <;> rw [c] <;> decide
        obtain ⟨h1, h2, h3, h4, h5, h6, h7⟩ := hg
        rw [mR, if_pos rfl, if_neg h1, if_neg h2, if_neg h3, if_neg h4, h5, h6, e, h7]
      obtain ⟨ok, S2, s', Y, g1, g2, g3, g4, g5, g6⟩ := hU S1 (lx f n s.2.2.2) (L ++ X) (12 :: H) 2 e3 ht1.1 (by omega) (show rk 12 < 3 by decide) ⟨Or.inr rfl, fun _ => rfl, fun q => absurd q (by omega), fun q => absurd q (by omega)⟩
      have a2 := g4.at
      have lX : (L ++ X).length = L.length + X.length := List.length_append
      have hx : f_X4_isBoth_8 E (fu + 1) (b + 2) (nI o) 1 (nI i) (memX b S μ) = (if (ok, memX b S2 μ).1 = 0 then
    vl (nI i + (1 : Int32)) fun v33 =>
    f_X4_isBoth_8 E fu (b + 2) (nI o) (0 : Int32) v33 (ok, memX b S2 μ).2
    else
    if isO (ok, memX b S2 μ).2 (b + 2) 3 = true then
    (f_X4_isNoted (b + 2) (-14) (1 : Int32) (ok, memX b S2 μ).2).bind fun q35 =>
    vl (if q35.1 = 0 then (0 : Int32) else (1 : Int32)) fun v37 =>
    vl (nI i + (1 : Int32)) fun v38 =>
    f_X4_isBoth_8 E fu (b + 2) (nI o) v37 v38 q35.2 else none) := by
        rw [f_X4_isBoth_8.eq_2, if_neg (ge_160 (by omega)), if_neg (by decide), gI_T 5 (by omega), Option.bind_some, h.2.2.1.2.1]
        rw [if_pos c, if_pos isO_T, e1, Option.bind_some, if_pos isO_T, g1, Option.bind_some]
      rcases g6 with ⟨rfl, g6⟩ | ⟨rfl, gY, H2, o2, L2, g7, g8, g9⟩
      · refine ⟨0, S2, s', X ++ Y, ?_, e2.tr g2, by rw [← List.append_assoc]; exact g3, g4, by rw [List.length_append]; omega, Or.inl ⟨rfl, g6.step hp1 hm⟩⟩
        rw [hx, if_pos rfl, vl_eq, nI_1]
        exact x_both0 (by omega)
      · obtain ⟨S3, i1, i2, i3⟩ := x_note (b := b) (μ := μ) ((-14)) (c := 1) (by omega) (by rw [List.length_append]; omega) g3
        have eX : L ++ X ++ Y ++ List.replicate 1 (-14) = L ++ (X ++ Y ++ [(-14)]) := by
          rw [List.append_assoc, List.append_assoc, List.append_assoc]; rfl
        rw [eX] at i3
        have lZ : (X ++ Y ++ [(-14)]).length = X.length + Y.length + 1 := by rw [List.length_append, List.length_append]; rfl
        obtain ⟨ok, S4, s4, X4, j1, j2, j3, j4, j5, j6⟩ := ih (i + 1) fu S3 s' (X ++ Y ++ [(-14)]) H2 o2 L2 (by omega) (by omega) (by omega) i3 g4 (by rw [List.length_append, lZ]; omega) ⟨evO_2 gX.1 gY.1 (by decide), fun x hx => by
          rcases List.mem_append.mp hx with q | q
          · rcases List.mem_append.mp q with q | q
            · exact gX.2 x q
            · exact gY.2 x q
          · rw [List.mem_singleton.mp q]; exact Or.inr (Or.inr (Or.inr (Or.inr (Or.inr (Or.inr (Or.inr (Or.inr (Or.inr (Or.inr (Or.inr (Or.inr (Or.inr (Or.inr (Or.inl rfl))))))))))))))⟩ (fun r' h1 h2 h3 => by
            have hsg : r' ≤ rk 12 ∧ ¬ (12 = 13 ∨ 12 = 19) ∧ opc 12 = (-14) := by refine ⟨?_, by decide, by decide⟩; have : rk 12 = 2 := rfl; omega
            rw [g8 r' h1 (by omega) h3, unw_go (x := 12) hsg.1, if_neg hsg.2.1, hsg.2.2, List.append_assoc, List.append_assoc, List.append_assoc]) g9
        refine ⟨ok, S4, s4, X4, ?_, ((e2.tr g2).tr i2).tr j2, j3, j4, by omega, ?_⟩
        · rw [hx]
          dsimp only
          rw [if_neg (by decide), if_pos isO_T, show (1 : Int32) = nI 1 from rfl, i1, Option.bind_some]
          dsimp only
          rw [if_neg (by decide), vl_eq, vl_eq, show (nI 1 : Int32) = 1 from rfl, nI_1]
          exact j1
        · rcases j6 with ⟨e, j6⟩ | ⟨e, gX4, H5, o5, L5, k1, k2, k3⟩
          · exact Or.inl ⟨e, (g7.fail j6).step hp1 hm⟩
          · exact Or.inr ⟨e, gX4, H5, o5, L5, (g7.tr k1).step hp1 hm, k2, k3⟩
    · refine ⟨1, S, s, X, ?_, tgS.rf S, h, ht, by omega, Or.inr ⟨rfl, gX, H1, o1, L1, runR.rf, ha, ⟨fun _ => hs.1 (by omega), fun _ => hs.2.1 (by omega), fun _ => hs.2.2.1 (by omega), fun _ => c, fun q => absurd q (by omega)⟩⟩⟩
      rw [f_X4_isBoth_8.eq_2, if_neg (show ¬ (1 : Int32) = 0 by decide), gI_T 5 (by omega), Option.bind_some, h.2.2.1.2.1, if_neg c, if_pos (show (1 : Int32) &&& 1 = 1 by decide)]
      split <;> rfl
theorem x_both (hn : n ≤ 160) (hr : ∀ k, k < n → rng 255 (f k)) {E : Nat → Int32 → mS → Option (Int32 × mS)} {o : Nat} (hU : LVL b n f μ 3 o (f_X4_isNot E (b + 2) (nI o))) : LVL b n f μ 2 o (f_X4_isBoth E (b + 2) (nI o)) := by
  intro S s L H md h ht hL hH hp
  obtain ⟨p1, p2, p3, p4⟩ := hp
  obtain ⟨ok, S2, s', X, g1, g2, g3, g4, g5, g6⟩ := hU S s L H md h ht hL (by omega) ⟨p1, fun _ => p2 (by omega), fun q => absurd q (by omega), fun q => absurd q (by omega)⟩
  have a2 := g4.at
  have hx : f_X4_isBoth E (b + 2) (nI o) (memX b S μ) = f_X4_isBoth_8 E fU (b + 2) (nI o) ok 0 (memX b S2 μ) := by
    rw [f_X4_isBoth.eq_1, if_pos isO_T, g1, Option.bind_some]
  rcases g6 with ⟨rfl, g6⟩ | ⟨rfl, gX, H1, o1, L1, g7, g8, g9⟩
  · exact ⟨0, S2, s', X, hx.trans (x_both0 (i := 0) (fU_lt (by omega))), g2, g3, g4, g5, Or.inl ⟨rfl, g6⟩⟩
  · obtain ⟨ok, S4, s4, X4, j1, j2, j3, j4, j5, j6⟩ := x_bothL (b := b) (μ := μ) hn hr hU hH (n + 1) 0 fU S2 s' X H1 o1 L1 (by omega) (fU_lt (by omega)) (by omega) g3 g4 (by rw [List.length_append]; omega) gX (fun r' h1 h2 h3 => g8 r' h1 (by omega) h3) g9
    refine ⟨ok, S4, s4, X4, hx.trans j1, g2.tr j2, j3, j4, by omega, ?_⟩
    rcases j6 with ⟨e, j6⟩ | ⟨e, gX4, H5, o5, L5, k1, k2, k3⟩
    · exact Or.inl ⟨e, g7.fail j6⟩
    · exact Or.inr ⟨e, gX4, H5, o5, L5, g7.tr k1, k2, k3⟩
theorem x_either0 {E : Nat → Int32 → mS → Option (Int32 × mS)} {o i fu : Nat} (hf : 0 < fu) : f_X4_isEither_8 E fu (b + 2) (nI o) 0 (nI i) (memX b S μ) = some (0, memX b S μ) := by
  obtain ⟨fu, rfl⟩ : ∃ q, fu = q + 1 := ⟨fu - 1, by omega⟩
  rw [f_X4_isEither_8.eq_2, if_pos (show (0 : Int32) = 0 from rfl), if_pos (show (0 : Int32) &&& 1 = 0 by decide)]
  split <;> rfl
theorem x_eitherL (hn : n ≤ 160) (hr : ∀ k, k < n → rng 255 (f k)) {E : Nat → Int32 → mS → Option (Int32 × mS)} {o : Nat} {L : List Int32} {H : List Nat} (hU : LVL b n f μ 2 o (f_X4_isBoth E (b + 2) (nI o))) (hH : topR H < 1) : ∀ d i fu S s X H1 o1 L1, n < s.2.2.1 + d → d < fu → i ≤ s.2.2.1 → cst f n S s (L ++ X) → tok f n s → (L ++ X).length ≤ s.2.2.1 → goodX X → AG 1 H1 o1 L1 H o (L ++ X) → side 2 s H1 o1 L1 → ∃ ok S' s' X', f_X4_isEither_8 E fu (b + 2) (nI o) 1 (nI i) (memX b S μ) = some (ok, memX b S' μ) ∧ tgS S S' ∧ cst f n S' s' (L ++ X') ∧ tok f n s' ∧ X'.length + s.2.2.1 ≤ s'.2.2.1 + X.length ∧ ((ok = 0 ∧ failR f n 0 s H1 o1 L1 s') ∨ (ok = 1 ∧ goodX X' ∧ ∃ H2 o2 L2, runR f n 0 s H1 o1 L1 s' H2 o2 L2 ∧ AG 1 H2 o2 L2 H o (L ++ X') ∧ side 1 s' H2 o2 L2)) := by
  intro d
  induction d with
  | zero =>
    intro i fu S s X H1 o1 L1 hd hf hi h ht hL gX ha hs
    have := ht.at
    omega
  | succ d ih =>
    intro i fu S s X H1 o1 L1 hd hf hi h ht hL gX ha hs
    obtain ⟨fu, rfl⟩ : ∃ q, fu = q + 1 := ⟨fu - 1, by omega⟩
    have hat := ht.at
    by_cases c : s.1 = 8
    · have hs0 : ¬ s.1 = 0 := by skip <;> rw [c] <;> decide
      have ht1 := ht.go
      have hp1 := ht1.2 hs0
      have hpl := hat.2.2 hs0
      obtain ⟨S1, e1, e2, e3⟩ := x_go (b := b) (μ := μ) hn hr h ht
      have hm : ∀ i, mR f n (i + 1) 0 s H1 o1 L1 = mR f n i 2 (lx f n s.2.2.2) (11 :: H) o (L ++ X) := fun i => by
        have e := ha 1 (by omega) (by omega) (by omega)
        rw [unw_stop hH] at e
        have hg : ¬ s.1 = 59 ∧ ¬ s.1 = 41 ∧ ¬ sgOf s.1 = 0 ∧ ¬ rk (sgOf s.1) = 4 ∧ sgOf s.1 = 11 ∧ rk 11 = 1 ∧ (if 12 < 11 then 1 else 2) = 2 := by skip <;> rw [c] <;> decide
        obtain ⟨h1, h2, h3, h4, h5, h6, h7⟩ := hg
        rw [mR, if_pos rfl, if_neg h1, if_neg h2, if_neg h3, if_neg h4, h5, h6, e, h7]
      obtain ⟨ok, S2, s', Y, g1, g2, g3, g4, g5, g6⟩ := hU S1 (lx f n s.2.2.2) (L ++ X) (11 :: H) 2 e3 ht1.1 (by omega) (show rk 11 < 2 by decide) ⟨Or.inr rfl, fun _ => rfl, fun q => absurd q (by omega), fun q => absurd q (by omega)⟩
      have a2 := g4.at
      have lX : (L ++ X).length = L.length + X.length := List.length_append
      have hx : f_X4_isEither_8 E (fu + 1) (b + 2) (nI o) 1 (nI i) (memX b S μ) = (if (ok, memX b S2 μ).1 = 0 then
    vl (nI i + (1 : Int32)) fun v33 =>
    f_X4_isEither_8 E fu (b + 2) (nI o) (0 : Int32) v33 (ok, memX b S2 μ).2
    else
    if isO (ok, memX b S2 μ).2 (b + 2) 3 = true then
    (f_X4_isNoted (b + 2) (-15) (1 : Int32) (ok, memX b S2 μ).2).bind fun q35 =>
    vl (if q35.1 = 0 then (0 : Int32) else (1 : Int32)) fun v37 =>
    vl (nI i + (1 : Int32)) fun v38 =>
    f_X4_isEither_8 E fu (b + 2) (nI o) v37 v38 q35.2 else none) := by
        rw [f_X4_isEither_8.eq_2, if_neg (ge_160 (by omega)), if_neg (by decide), gI_T 5 (by omega), Option.bind_some, h.2.2.1.2.1]
        rw [if_pos c, if_pos isO_T, e1, Option.bind_some, if_pos isO_T, g1, Option.bind_some]
      rcases g6 with ⟨rfl, g6⟩ | ⟨rfl, gY, H2, o2, L2, g7, g8, g9⟩
      · refine ⟨0, S2, s', X ++ Y, ?_, e2.tr g2, by rw [← List.append_assoc]; exact g3, g4, by rw [List.length_append]; omega, Or.inl ⟨rfl, g6.step hp1 hm⟩⟩
        rw [hx, if_pos rfl, vl_eq, nI_1]
        exact x_either0 (by omega)
      · obtain ⟨S3, i1, i2, i3⟩ := x_note (b := b) (μ := μ) ((-15)) (c := 1) (by omega) (by rw [List.length_append]; omega) g3
        have eX : L ++ X ++ Y ++ List.replicate 1 (-15) = L ++ (X ++ Y ++ [(-15)]) := by
          rw [List.append_assoc, List.append_assoc, List.append_assoc]; rfl
        rw [eX] at i3
        have lZ : (X ++ Y ++ [(-15)]).length = X.length + Y.length + 1 := by rw [List.length_append, List.length_append]; rfl
        obtain ⟨ok, S4, s4, X4, j1, j2, j3, j4, j5, j6⟩ := ih (i + 1) fu S3 s' (X ++ Y ++ [(-15)]) H2 o2 L2 (by omega) (by omega) (by omega) i3 g4 (by rw [List.length_append, lZ]; omega) ⟨evO_2 gX.1 gY.1 (by decide), fun x hx => by
          rcases List.mem_append.mp hx with q | q
          · rcases List.mem_append.mp q with q | q
            · exact gX.2 x q
            · exact gY.2 x q
          · rw [List.mem_singleton.mp q]; exact Or.inr (Or.inr (Or.inr (Or.inr (Or.inr (Or.inr (Or.inr (Or.inr (Or.inr (Or.inr (Or.inr (Or.inr (Or.inr (Or.inr (Or.inr rfl))))))))))))))⟩ (fun r' h1 h2 h3 => by
            have hsg : r' ≤ rk 11 ∧ ¬ (11 = 13 ∨ 11 = 19) ∧ opc 11 = (-15) := by refine ⟨?_, by decide, by decide⟩; have : rk 11 = 1 := rfl; omega
            rw [g8 r' h1 (by omega) h3, unw_go (x := 11) hsg.1, if_neg hsg.2.1, hsg.2.2, List.append_assoc, List.append_assoc, List.append_assoc]) g9
        refine ⟨ok, S4, s4, X4, ?_, ((e2.tr g2).tr i2).tr j2, j3, j4, by omega, ?_⟩
        · rw [hx]
          dsimp only
          rw [if_neg (by decide), if_pos isO_T, show (1 : Int32) = nI 1 from rfl, i1, Option.bind_some]
          dsimp only
          rw [if_neg (by decide), vl_eq, vl_eq, show (nI 1 : Int32) = 1 from rfl, nI_1]
          exact j1
        · rcases j6 with ⟨e, j6⟩ | ⟨e, gX4, H5, o5, L5, k1, k2, k3⟩
          · exact Or.inl ⟨e, (g7.fail j6).step hp1 hm⟩
          · exact Or.inr ⟨e, gX4, H5, o5, L5, (g7.tr k1).step hp1 hm, k2, k3⟩
    · refine ⟨1, S, s, X, ?_, tgS.rf S, h, ht, by omega, Or.inr ⟨rfl, gX, H1, o1, L1, runR.rf, ha, ⟨fun _ => hs.1 (by omega), fun _ => hs.2.1 (by omega), fun _ => hs.2.2.1 (by omega), fun _ => hs.2.2.2.1 (by omega), fun _ => c⟩⟩⟩
      rw [f_X4_isEither_8.eq_2, if_neg (show ¬ (1 : Int32) = 0 by decide), gI_T 5 (by omega), Option.bind_some, h.2.2.1.2.1, if_neg c, if_pos (show (1 : Int32) &&& 1 = 1 by decide)]
      split <;> rfl
theorem x_either (hn : n ≤ 160) (hr : ∀ k, k < n → rng 255 (f k)) {E : Nat → Int32 → mS → Option (Int32 × mS)} {o : Nat} (hU : LVL b n f μ 2 o (f_X4_isBoth E (b + 2) (nI o))) : LVL b n f μ 1 o (f_X4_isEitherB E (b + 2) (nI o)) := by
  intro S s L H md h ht hL hH hp
  obtain ⟨p1, p2, p3, p4⟩ := hp
  obtain ⟨ok, S2, s', X, g1, g2, g3, g4, g5, g6⟩ := hU S s L H md h ht hL (by omega) ⟨p1, fun _ => p2 (by omega), fun q => absurd q (by omega), fun q => absurd q (by omega)⟩
  have a2 := g4.at
  have hx : f_X4_isEitherB E (b + 2) (nI o) (memX b S μ) = f_X4_isEither_8 E fU (b + 2) (nI o) ok 0 (memX b S2 μ) := by
    rw [f_X4_isEitherB.eq_1, if_pos isO_T, g1, Option.bind_some]
  rcases g6 with ⟨rfl, g6⟩ | ⟨rfl, gX, H1, o1, L1, g7, g8, g9⟩
  · exact ⟨0, S2, s', X, hx.trans (x_either0 (i := 0) (fU_lt (by omega))), g2, g3, g4, g5, Or.inl ⟨rfl, g6⟩⟩
  · obtain ⟨ok, S4, s4, X4, j1, j2, j3, j4, j5, j6⟩ := x_eitherL (b := b) (μ := μ) hn hr hU hH (n + 1) 0 fU S2 s' X H1 o1 L1 (by omega) (fU_lt (by omega)) (by omega) g3 g4 (by rw [List.length_append]; omega) gX (fun r' h1 h2 h3 => g8 r' h1 (by omega) h3) g9
    refine ⟨ok, S4, s4, X4, hx.trans j1, g2.tr j2, j3, j4, by omega, ?_⟩
    rcases j6 with ⟨e, j6⟩ | ⟨e, gX4, H5, o5, L5, k1, k2, k3⟩
    · exact Or.inl ⟨e, g7.fail j6⟩
    · exact Or.inr ⟨e, gX4, H5, o5, L5, g7.tr k1, k2, k3⟩
end PA
