/-! text: signs and nots before. -/
section PA
variable {b m n : Nat} {f : Nat → Int32} {S S' : XS} {μ : mS}
def oneK (E : Nat → Int32 → mS → Option (Int32 × mS)) : Nat → Int32 → Int32 → mS → Option (Int32 × mS) := fun h0 x1 x2 σ => if isO (σ) h0 3 = true then
(f_X4_isUnsigned E h0 x2 (σ)).bind fun q20 =>
if q20.1 = 0 then
some ((0 : Int32), q20.2)
else
if isO q20.2 h0 3 = true then
(f_X4_isNoted h0 ((-7) : Int32) (x2 - x1) q20.2).bind fun q23 =>
if q23.1 = 0 then
some ((0 : Int32), q23.2)
else
some ((1 : Int32), q23.2) else none else none
theorem oneK_eq (E : Nat → Int32 → mS → Option (Int32 × mS)) (h0 : Nat) (x1 : Int32) (σ : mS) : f_X4_isOne E h0 x1 σ = f_X4_isOne_2 E (oneK E) fU h0 x1 x1 σ := by
  rw [f_X4_isOne.eq_1]
  rfl
theorem x_oneE (hn : n ≤ 160) (hr : ∀ k, k < n → rng 255 (f k)) {E : Nat → Int32 → mS → Option (Int32 × mS)} {o j md : Nat} {s : TS} {L : List Int32} {H : List Nat} (hU : ∀ o', o ≤ o' → o' ≤ 5 → LVL b n f μ 8 o' (f_X4_isUnsigned E (b + 2) (nI o'))) (h : cst f n S s L) (ht : tok f n s) (hL : L.length + j ≤ s.2.2.1) (hj : o + j ≤ 5) (hH : topR H < 8) (hp : preL 8 (o + j) md s) : ∃ ok S' s' X, oneK E (b + 2) (nI o) (nI (o + j)) (memX b S μ) = some (ok, memX b S' μ) ∧ tgS S S' ∧ cst f n S' s' (L ++ X) ∧ tok f n s' ∧ X.length + s.2.2.1 ≤ s'.2.2.1 + j ∧ ((ok = 0 ∧ failR f n md s H (o + j) L s') ∨ (ok = 1 ∧ ∃ Y, X = Y ++ List.replicate j (-7) ∧ goodX Y ∧ ∃ H1 o1 L1, runR f n md s H (o + j) L s' H1 o1 L1 ∧ AG 7 H1 o1 L1 H (o + j) (L ++ Y) ∧ side 8 s' H1 o1 L1)) := by
  obtain ⟨ok, S2, s', X, g1, g2, g3, g4, g5, g6⟩ := hU (o + j) (by omega) hj S s L H md h ht (by omega) hH hp
  have a := g4.at
  have hx : oneK E (b + 2) (nI o) (nI (o + j)) (memX b S μ) = (if (ok, memX b S2 μ).1 = 0 then
some ((0 : Int32), (ok, memX b S2 μ).2)
else
if isO (ok, memX b S2 μ).2 (b + 2) 3 = true then
(f_X4_isNoted (b + 2) ((-7) : Int32) (nI (o + j) - nI o) (ok, memX b S2 μ).2).bind fun q23 =>
if q23.1 = 0 then
some ((0 : Int32), q23.2)
else
some ((1 : Int32), q23.2) else none) := by
    rw [oneK, if_pos isO_T, g1, Option.bind_some]
  rcases g6 with ⟨rfl, g6⟩ | ⟨rfl, gX, H1, o1, L1, g7, g8, g9⟩
  · exact ⟨0, S2, s', X, hx.trans (if_pos rfl), g2, g3, g4, by omega, Or.inl ⟨rfl, g6⟩⟩
  · obtain ⟨S3, i1, i2, i3⟩ := x_note (b := b) (μ := μ) ((-7)) (c := j) (by omega) (by rw [List.length_append]; omega) g3
    refine ⟨1, S3, s', X ++ List.replicate j (-7), ?_, g2.tr i2, by rw [← List.append_assoc]; exact i3, g4, by rw [List.length_append, List.length_replicate]; omega, Or.inr ⟨rfl, X, rfl, gX, H1, o1, L1, g7, fun r' h1 h2 h3 => g8 r' h1 (by omega) h3, g9⟩⟩
    rw [hx]
    dsimp only
    rw [if_neg (by decide), if_pos isO_T, pk_sub (by omega), Nat.add_sub_cancel_left, i1, Option.bind_some]
    rfl
theorem x_oneL (hn : n ≤ 160) (hr : ∀ k, k < n → rng 255 (f k)) {E : Nat → Int32 → mS → Option (Int32 × mS)} {o : Nat} (hU : ∀ o', o ≤ o' → o' ≤ 5 → LVL b n f μ 8 o' (f_X4_isUnsigned E (b + 2) (nI o'))) : ∀ d j fu S s L H md, o + j + d = 5 → d < fu → cst f n S s L → tok f n s → L.length + j ≤ s.2.2.1 → topR H < 8 → ((md = 1 ∨ md = 2) ∧ (s.1 = 9 → md = 1 ∨ o + j = 5)) → ∃ ok S' s' X, f_X4_isOne_2 E (oneK E) fu (b + 2) (nI o) (nI (o + j)) (memX b S μ) = some (ok, memX b S' μ) ∧ tgS S S' ∧ cst f n S' s' (L ++ X) ∧ tok f n s' ∧ X.length + s.2.2.1 ≤ s'.2.2.1 + j ∧ ((ok = 0 ∧ failR f n md s H (o + j) L s') ∨ (ok = 1 ∧ ∃ Y, X = Y ++ List.replicate j (-7) ∧ goodX Y ∧ ∃ H1 o1 L1, runR f n md s H (o + j) L s' H1 o1 L1 ∧ AG 7 H1 o1 L1 H (o + j) (L ++ Y) ∧ side 8 s' H1 o1 L1)) := by
  intro d
  induction d with
  | zero =>
    intro j fu S s L H md hd hf h ht hL hH hmd
    obtain ⟨fu, rfl⟩ : ∃ q, fu = q + 1 := ⟨fu - 1, by omega⟩
    have hx : f_X4_isOne_2 E (oneK E) (fu + 1) (b + 2) (nI o) (nI (o + j)) (memX b S μ) = oneK E (b + 2) (nI o) (nI (o + j)) (memX b S μ) := by
      rw [f_X4_isOne_2.eq_2, if_pos (show (5 : Int32) ≤ nI (o + j) from nI_le (show 5 ≤ o + j by omega) (by omega))]
    rw [hx]
    exact x_oneE hn hr hU h ht hL (by omega) hH ⟨hmd.1, fun q => absurd q (by omega), fun _ => hmd.2, fun _ _ => by omega⟩
  | succ d ih =>
    intro j fu S s L H md hd hf h ht hL hH hmd
    obtain ⟨fu, rfl⟩ : ∃ q, fu = q + 1 := ⟨fu - 1, by omega⟩
    rw [f_X4_isOne_2.eq_2, if_neg (show ¬ (5 : Int32) ≤ nI (o + j) from nI_ge (show o + j < 5 by omega) (by decide)), gI_T 5 (by omega), Option.bind_some, h.2.2.1.2.1]
    by_cases c : s.1 = 45
    · have hs0 : ¬ s.1 = 0 := by rw [c]; decide
      have ht1 := ht.go
      have hp1 := ht1.2 hs0
      obtain ⟨S1, e1, e2, e3⟩ := x_go (b := b) (μ := μ) hn hr h ht
      have hm : ∀ i, mR f n (i + 1) md s H (o + j) L = mR f n i 1 (lx f n s.2.2.2) (19 :: H) (o + j + 1) L := fun i => by
        rw [mR, if_neg (by omega), if_neg (by rw [c]; decide), if_neg (fun q => absurd q.1 (by rw [c]; decide)), if_pos c, if_neg (by omega)]
      obtain ⟨ok, S2, s', X, g1, g2, g3, g4, g5, g6⟩ := ih (j + 1) fu S1 (lx f n s.2.2.2) L (19 :: H) 1 (by omega) (by omega) e3 ht1.1 (by omega) (show rk 19 < 8 by decide) ⟨Or.inl rfl, fun _ => Or.inl rfl⟩
      rw [if_pos c, if_pos isO_T, e1, Option.bind_some, vl_eq, nI_1]
      rcases g6 with ⟨rfl, g6⟩ | ⟨rfl, Y, rfl, gY, H1, o1, L1, g7, g8, g9⟩
      · exact ⟨0, S2, s', X, g1, e2.tr g2, g3, g4, by omega, Or.inl ⟨rfl, g6.step hp1 hm⟩⟩
      · refine ⟨1, S2, s', Y ++ List.replicate (j + 1) (-7), g1, e2.tr g2, g3, g4, by omega, Or.inr ⟨rfl, Y ++ [(-7)], by rw [List.replicate_succ, List.append_assoc]; rfl, ⟨evO_u gY.1 (by decide) (by decide), fun x hx => ?_⟩, H1, o1, L1, g7.step hp1 hm, fun r' h1 h2 h3 => ?_, g9⟩⟩
        · rcases List.mem_append.mp hx with q | q
          · exact gY.2 x q
          · rw [List.mem_singleton.mp q]; exact Or.inr (Or.inr (Or.inr (Or.inr (Or.inr (Or.inr (Or.inr (Or.inl rfl)))))))
        · rw [g8 r' h1 h2 h3, unw_go (x := 19) (show r' ≤ 7 from h2), if_pos (by decide), List.append_assoc]
          rfl
    · rw [if_neg c]
      exact x_oneE hn hr hU h ht hL (by omega) hH ⟨hmd.1, fun q => absurd q (by omega), fun _ => hmd.2, fun _ q => absurd q c⟩
theorem x_one (hn : n ≤ 160) (hr : ∀ k, k < n → rng 255 (f k)) {E : Nat → Int32 → mS → Option (Int32 × mS)} {o : Nat} (ho : o ≤ 5) (hU : ∀ o', o ≤ o' → o' ≤ 5 → LVL b n f μ 8 o' (f_X4_isUnsigned E (b + 2) (nI o'))) : LVL b n f μ 7 o (f_X4_isOne E (b + 2) (nI o)) := by
  intro S s L H md h ht hL hH hp
  obtain ⟨p1, p2, p3, p4⟩ := hp
  obtain ⟨ok, S2, s', X, g1, g2, g3, g4, g5, g6⟩ := x_oneL (b := b) (μ := μ) (o := o) hn hr hU (5 - o) 0 fU S s L H md (by omega) (fU_lt (by omega)) h ht hL (by omega) ⟨p1, p3 (by omega)⟩
  refine ⟨ok, S2, s', X, (oneK_eq _ _ _ _).trans g1, g2, g3, g4, g5, ?_⟩
  rcases g6 with ⟨rfl, g6⟩ | ⟨rfl, Y, e, gY, H1, o1, L1, g7, g8, g9⟩
  · exact Or.inl ⟨rfl, g6⟩
  · have e : X = Y := by simpa using e
    subst e
    exact Or.inr ⟨rfl, gY, H1, o1, L1, g7, g8, ⟨fun q => absurd q (by omega), fun q => absurd q (by omega), fun q => absurd q (by omega), fun q => absurd q (by omega), fun q => absurd q (by omega)⟩⟩
def notK (E : Nat → Int32 → mS → Option (Int32 × mS)) : Nat → Int32 → Int32 → mS → Option (Int32 × mS) := fun h0 x1 x2 σ => if isO (σ) h0 3 = true then
(f_X4_isComparison E h0 x2 (σ)).bind fun q20 =>
if q20.1 = 0 then
some ((0 : Int32), q20.2)
else
if isO q20.2 h0 3 = true then
(f_X4_isNoted h0 ((-8) : Int32) (x2 - x1) q20.2).bind fun q23 =>
if q23.1 = 0 then
some ((0 : Int32), q23.2)
else
some ((1 : Int32), q23.2) else none else none
theorem notK_eq (E : Nat → Int32 → mS → Option (Int32 × mS)) (h0 : Nat) (x1 : Int32) (σ : mS) : f_X4_isNot E h0 x1 σ = f_X4_isNot_2 E (notK E) fU h0 x1 x1 σ := by
  rw [f_X4_isNot.eq_1]
  rfl
theorem x_noE (hn : n ≤ 160) (hr : ∀ k, k < n → rng 255 (f k)) {E : Nat → Int32 → mS → Option (Int32 × mS)} {o j md : Nat} {s : TS} {L : List Int32} {H : List Nat} (hU : ∀ o', o ≤ o' → o' ≤ 5 → LVL b n f μ 4 o' (f_X4_isComparison E (b + 2) (nI o'))) (h : cst f n S s L) (ht : tok f n s) (hL : L.length + j ≤ s.2.2.1) (hj : o + j ≤ 5) (hH : topR H < 4) (hp : preL 4 (o + j) md s) : ∃ ok S' s' X, notK E (b + 2) (nI o) (nI (o + j)) (memX b S μ) = some (ok, memX b S' μ) ∧ tgS S S' ∧ cst f n S' s' (L ++ X) ∧ tok f n s' ∧ X.length + s.2.2.1 ≤ s'.2.2.1 + j ∧ ((ok = 0 ∧ failR f n md s H (o + j) L s') ∨ (ok = 1 ∧ ∃ Y, X = Y ++ List.replicate j (-8) ∧ goodX Y ∧ ∃ H1 o1 L1, runR f n md s H (o + j) L s' H1 o1 L1 ∧ AG 3 H1 o1 L1 H (o + j) (L ++ Y) ∧ side 4 s' H1 o1 L1)) := by
  obtain ⟨ok, S2, s', X, g1, g2, g3, g4, g5, g6⟩ := hU (o + j) (by omega) hj S s L H md h ht (by omega) hH hp
  have a := g4.at
  have hx : notK E (b + 2) (nI o) (nI (o + j)) (memX b S μ) = (if (ok, memX b S2 μ).1 = 0 then
some ((0 : Int32), (ok, memX b S2 μ).2)
else
if isO (ok, memX b S2 μ).2 (b + 2) 3 = true then
(f_X4_isNoted (b + 2) ((-8) : Int32) (nI (o + j) - nI o) (ok, memX b S2 μ).2).bind fun q23 =>
if q23.1 = 0 then
some ((0 : Int32), q23.2)
else
some ((1 : Int32), q23.2) else none) := by
    rw [notK, if_pos isO_T, g1, Option.bind_some]
  rcases g6 with ⟨rfl, g6⟩ | ⟨rfl, gX, H1, o1, L1, g7, g8, g9⟩
  · exact ⟨0, S2, s', X, hx.trans (if_pos rfl), g2, g3, g4, by omega, Or.inl ⟨rfl, g6⟩⟩
  · obtain ⟨S3, i1, i2, i3⟩ := x_note (b := b) (μ := μ) ((-8)) (c := j) (by omega) (by rw [List.length_append]; omega) g3
    refine ⟨1, S3, s', X ++ List.replicate j (-8), ?_, g2.tr i2, by rw [← List.append_assoc]; exact i3, g4, by rw [List.length_append, List.length_replicate]; omega, Or.inr ⟨rfl, X, rfl, gX, H1, o1, L1, g7, fun r' h1 h2 h3 => g8 r' h1 (by omega) h3, g9⟩⟩
    rw [hx]
    dsimp only
    rw [if_neg (by decide), if_pos isO_T, pk_sub (by omega), Nat.add_sub_cancel_left, i1, Option.bind_some]
    rfl
theorem x_noL (hn : n ≤ 160) (hr : ∀ k, k < n → rng 255 (f k)) {E : Nat → Int32 → mS → Option (Int32 × mS)} {o : Nat} (hU : ∀ o', o ≤ o' → o' ≤ 5 → LVL b n f μ 4 o' (f_X4_isComparison E (b + 2) (nI o'))) : ∀ d j fu S s L H md, o + j + d = 5 → d < fu → cst f n S s L → tok f n s → L.length + j ≤ s.2.2.1 → topR H < 4 → md = 2 → ∃ ok S' s' X, f_X4_isNot_2 E (notK E) fu (b + 2) (nI o) (nI (o + j)) (memX b S μ) = some (ok, memX b S' μ) ∧ tgS S S' ∧ cst f n S' s' (L ++ X) ∧ tok f n s' ∧ X.length + s.2.2.1 ≤ s'.2.2.1 + j ∧ ((ok = 0 ∧ failR f n md s H (o + j) L s') ∨ (ok = 1 ∧ ∃ Y, X = Y ++ List.replicate j (-8) ∧ goodX Y ∧ ∃ H1 o1 L1, runR f n md s H (o + j) L s' H1 o1 L1 ∧ AG 3 H1 o1 L1 H (o + j) (L ++ Y) ∧ side 4 s' H1 o1 L1)) := by
  intro d
  induction d with
  | zero =>
    intro j fu S s L H md hd hf h ht hL hH hmd
    obtain ⟨fu, rfl⟩ : ∃ q, fu = q + 1 := ⟨fu - 1, by omega⟩
    have hx : f_X4_isNot_2 E (notK E) (fu + 1) (b + 2) (nI o) (nI (o + j)) (memX b S μ) = notK E (b + 2) (nI o) (nI (o + j)) (memX b S μ) := by
      rw [f_X4_isNot_2.eq_2, if_pos (show (5 : Int32) ≤ nI (o + j) from nI_le (show 5 ≤ o + j by omega) (by omega))]
    rw [hx]
    exact x_noE hn hr hU h ht hL (by omega) hH ⟨Or.inr hmd, fun q => absurd q (by omega), fun _ _ => Or.inr (by omega), fun q => absurd q (by omega)⟩
  | succ d ih =>
    intro j fu S s L H md hd hf h ht hL hH hmd
    obtain ⟨fu, rfl⟩ : ∃ q, fu = q + 1 := ⟨fu - 1, by omega⟩
    rw [f_X4_isNot_2.eq_2, if_neg (show ¬ (5 : Int32) ≤ nI (o + j) from nI_ge (show o + j < 5 by omega) (by decide)), gI_T 5 (by omega), Option.bind_some, h.2.2.1.2.1]
    by_cases c : s.1 = 9
    · have hs0 : ¬ s.1 = 0 := by rw [c]; decide
      have ht1 := ht.go
      have hp1 := ht1.2 hs0
      obtain ⟨S1, e1, e2, e3⟩ := x_go (b := b) (μ := μ) hn hr h ht
      have hm : ∀ i, mR f n (i + 1) md s H (o + j) L = mR f n i md (lx f n s.2.2.2) (13 :: H) (o + j + 1) L := fun i => by
        rw [mR, if_neg (by omega), if_neg (by rw [c]; decide), if_pos ⟨c, hmd⟩, if_neg (by omega)]
      obtain ⟨ok, S2, s', X, g1, g2, g3, g4, g5, g6⟩ := ih (j + 1) fu S1 (lx f n s.2.2.2) L (13 :: H) md (by omega) (by omega) e3 ht1.1 (by omega) (show rk 13 < 4 by decide) hmd
      rw [if_pos c, if_pos isO_T, e1, Option.bind_some, vl_eq, nI_1]
      rcases g6 with ⟨rfl, g6⟩ | ⟨rfl, Y, rfl, gY, H1, o1, L1, g7, g8, g9⟩
      · exact ⟨0, S2, s', X, g1, e2.tr g2, g3, g4, by omega, Or.inl ⟨rfl, g6.step hp1 hm⟩⟩
      · refine ⟨1, S2, s', Y ++ List.replicate (j + 1) (-8), g1, e2.tr g2, g3, g4, by omega, Or.inr ⟨rfl, Y ++ [(-8)], by rw [List.replicate_succ, List.append_assoc]; rfl, ⟨evO_u gY.1 (by decide) (by decide), fun x hx => ?_⟩, H1, o1, L1, g7.step hp1 hm, fun r' h1 h2 h3 => ?_, g9⟩⟩
        · rcases List.mem_append.mp hx with q | q
          · exact gY.2 x q
          · rw [List.mem_singleton.mp q]; exact Or.inr (Or.inr (Or.inr (Or.inr (Or.inr (Or.inr (Or.inr (Or.inr (Or.inl rfl))))))))
        · rw [g8 r' h1 h2 h3, unw_go (x := 13) (show r' ≤ 3 from h2), if_pos (by decide), List.append_assoc]
          rfl
    · rw [if_neg c]
      exact x_noE hn hr hU h ht hL (by omega) hH ⟨Or.inr hmd, fun q => absurd q (by omega), fun _ q => absurd q c, fun q => absurd q (by omega)⟩
theorem x_no (hn : n ≤ 160) (hr : ∀ k, k < n → rng 255 (f k)) {E : Nat → Int32 → mS → Option (Int32 × mS)} {o : Nat} (ho : o ≤ 5) (hU : ∀ o', o ≤ o' → o' ≤ 5 → LVL b n f μ 4 o' (f_X4_isComparison E (b + 2) (nI o'))) : LVL b n f μ 3 o (f_X4_isNot E (b + 2) (nI o)) := by
  intro S s L H md h ht hL hH hp
  obtain ⟨p1, p2, p3, p4⟩ := hp
  obtain ⟨ok, S2, s', X, g1, g2, g3, g4, g5, g6⟩ := x_noL (b := b) (μ := μ) (o := o) hn hr hU (5 - o) 0 fU S s L H md (by omega) (fU_lt (by omega)) h ht hL (by omega) (p2 (by omega))
  refine ⟨ok, S2, s', X, (notK_eq _ _ _ _).trans g1, g2, g3, g4, g5, ?_⟩
  rcases g6 with ⟨rfl, g6⟩ | ⟨rfl, Y, e, gY, H1, o1, L1, g7, g8, g9⟩
  · exact Or.inl ⟨rfl, g6⟩
  · have e : X = Y := by simpa using e
    subst e
    exact Or.inr ⟨rfl, gY, H1, o1, L1, g7, g8, ⟨fun _ => g9.1 (by omega), fun _ => g9.2.1 (by omega), fun _ => g9.2.2.1 (by omega), fun q => absurd q (by omega), fun q => absurd q (by omega)⟩⟩
end PA
