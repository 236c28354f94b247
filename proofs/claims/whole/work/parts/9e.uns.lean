section PA
variable {b m n : Nat} {f : Nat → Int32} {S S' : XS} {μ : mS}
theorem x_go {s : TS} {L : List Int32} (hn : n ≤ 160) (hr : ∀ k, k < n → rng 255 (f k)) (h : cst f n S s L) (ht : tok f n s) : ∃ S', f_X4_advance (b + 2) (memX b S μ) = some (memX b S' μ) ∧ tgS S S' ∧ cst f n S' (lx f n s.2.2.2) L := by
  obtain ⟨h1, h2, h3, h4, h5⟩ := h
  subst h1
  obtain ⟨S', e1, e2, e3⟩ := x_adv (b := b) (μ := μ) hn ht.at.2.1 h2 h3.1 hr
  refine ⟨S', e1, e2.g, by rw [e2.2.2], (e2.2.1 3 (by omega)).trans h2, e3, (e2.2.1 8 (by omega)).trans h4, fun k hk => ?_⟩
  rw [e2.2.2]
  exact h5 k hk
theorem x_taken {s : TS} {L : List Int32} (hn : n ≤ 160) (hr : ∀ k, k < n → rng 255 (f k)) (h : cst f n S s L) (ht : tok f n s) {t : Int32} (e : s.1 = t) : ∃ S', f_X4_isTaken (b + 2) t (memX b S μ) = some (1, memX b S' μ) ∧ tgS S S' ∧ cst f n S' (lx f n s.2.2.2) L := by
  obtain ⟨S', e1, e2, e3⟩ := x_go (b := b) (μ := μ) hn hr h ht
  refine ⟨S', ?_, e2, e3⟩
  rw [f_X4_isTaken.eq_1, gI_T 5 (by omega), Option.bind_some, h.2.2.1.2.1, if_pos e, if_pos isO_T, e1, Option.bind_some]
theorem x_not {s : TS} {L : List Int32} (h : cst f n S s L) {t : Int32} (e : ¬ s.1 = t) : f_X4_isTaken (b + 2) t (memX b S μ) = some (0, memX b S μ) := by
  rw [f_X4_isTaken.eq_1, gI_T 5 (by omega), Option.bind_some, h.2.2.1.2.1, if_neg e]
theorem getD_app (L : List Int32) (x : Int32) (k : Nat) (hk : k < (L ++ [x]).length) : (if k = L.length then x else L.getD k 0) = (L ++ [x]).getD k 0 := by
  rw [List.length_append] at hk
  simp only [List.length_cons, List.length_nil] at hk
  by_cases c : k = L.length
  · subst c; simp
  · rw [if_neg c]
    simp [List.getElem?_append_left (show k < L.length by omega)]
theorem x_note1 {s : TS} {L : List Int32} (op : Int32) (h : cst f n S s L) : ∃ S', S' = sxI (sxA S 4 (upd (S.2.1 4) L.length op)) 2 8 (nI (L.length + 1)) ∧ tgS S S' ∧ cst f n S' s (L ++ [op]) := by
  obtain ⟨h1, h2, h3, h4, h5⟩ := h
  refine ⟨_, rfl, ⟨(tpS.a S _ (by omega)).tr (tpS.i _ _ _), by rw [sx2_at, if_neg (by omega)]; rfl, by simp [sxI, sxA, va_up], by simp [sxI, sxA, va_up]⟩, by simp [sxI, sxA, va_up]; exact h1, by rw [sx2_at, if_neg (by omega)]; exact h2, ?_, ?_, fun k hk => ?_⟩
  · obtain ⟨c1, c2, c3, c4⟩ := h3
    refine ⟨?_, ?_, ?_, fun q => ?_⟩
    · rw [sx2_at, if_neg (by omega)]; exact c1
    · rw [sx2_at, if_neg (by omega)]; exact c2
    · rw [sx2_at, if_neg (by omega)]; exact c3
    · rw [sx2_at, if_neg (by omega)]; exact c4 q
  · rw [sx2_at, if_pos rfl, List.length_append]; rfl
  · have e5 : (sxI (sxA S 4 (upd (S.2.1 4) L.length op)) 2 8 (nI (L.length + 1))).2.1 4 k = upd (S.2.1 4) L.length op k := by simp [sxI, sxA, va_up]
    rw [e5, upd_at, ← getD_app L op k hk]
    rw [List.length_append] at hk
    simp only [List.length_cons, List.length_nil] at hk
    by_cases c : k = L.length
    · rw [if_pos c, if_pos c]
    · rw [if_neg c, if_neg c]; exact h5 k (by omega)
theorem tp1 {μ : mS} : gR (memX b S μ) (b + 2) 3 1 = some (b + 4) := gR_T 1 (by decide)
theorem x_noteL {s : TS} (op : Int32) {c : Nat} (hc : c ≤ 160) : ∀ d i fu S L, i + d = c → d < fu → L.length + d ≤ 160 → cst f n S s L → ∃ S', f_X4_isNoted_2 fu (b + 2) op (nI c) (nI i) (memX b S μ) = some (1, memX b S' μ) ∧ tgS S S' ∧ cst f n S' s (L ++ List.replicate d op) := by
  intro d
  induction d with
  | zero =>
    intro i fu S L hi hf hl h
    obtain ⟨fu, rfl⟩ : ∃ q, fu = q + 1 := ⟨fu - 1, by omega⟩
    refine ⟨S, ?_, tgS.rf S, by simpa using h⟩
    rw [f_X4_isNoted_2.eq_2, if_pos (nI_le (by omega) (by omega))]
  | succ d ih =>
    intro i fu S L hi hf hl h
    obtain ⟨fu, rfl⟩ : ∃ q, fu = q + 1 := ⟨fu - 1, by omega⟩
    obtain ⟨S1, e1, e2, e3⟩ := x_note1 op h
    obtain ⟨S', f1, f2, f3⟩ := ih (i + 1) fu S1 (L ++ [op]) (by omega) (by omega) (by rw [List.length_append]; show L.length + 1 + d ≤ 160; omega) e3
    have h8 := h.2.2.2.1
    refine ⟨S', ?_, e2.tr f2, ?_⟩
    · rw [f_X4_isNoted_2.eq_2, if_neg (nI_ge (by omega) (by omega)), gI_T 8 (by omega), Option.bind_some, h8, tp1, Option.bind_some, aL_X (k := 4) (by omega) rfl, Option.bind_some, if_pos (show nI L.length < Int32.ofNat 160 from nI_lt (show L.length < 160 by omega) (by decide)), Option.bind_some, Option.bind_some, sI_X (k := 4) (by omega) rfl, if_neg (nI_in (show L.length < 160 by omega) (by decide)), nI_clamp (by omega), Option.bind_some, gI_T 8 (by omega), Option.bind_some, show (sxA S 4 (upd (S.2.1 4) L.length op)).1 2 8 = nI L.length from h8, nI_1, pI_T 8 (by omega), Option.bind_some, vl_eq, nI_1, ← e1]
      exact f1
    · rw [List.replicate_succ]
      simpa using f3
theorem x_note {s : TS} {L : List Int32} (op : Int32) {c : Nat} (hc : c ≤ 160) (hl : L.length + c ≤ 160) (h : cst f n S s L) : ∃ S', f_X4_isNoted (b + 2) op (nI c) (memX b S μ) = some (1, memX b S' μ) ∧ tgS S S' ∧ cst f n S' s (L ++ List.replicate c op) := by
  rw [f_X4_isNoted.eq_1]
  exact x_noteL op hc c 0 fU S L (by omega) (fU_lt (by omega)) hl h
theorem x_uns (hn : n ≤ 160) (hr : ∀ k, k < n → rng 255 (f k)) {E : Nat → Int32 → mS → Option (Int32 × mS)} {o : Nat} (ho : o ≤ 5) (hE : o < 5 → LVL b n f μ 1 (o + 1) (E (b + 2) (nI (o + 1)))) : LVL b n f μ 8 o (f_X4_isUnsigned E (b + 2) (nI o)) := by
  intro S s L H md h ht hL hH hp
  have hs := ht.at
  have ht1 := ht.go
  obtain ⟨p1, p2, p3, p4⟩ := hp
  have hmd : ¬ md = 0 := by omega
  by_cases c23 : s.1 = 2 ∨ s.1 = 3
  · have hs0 : ¬ s.1 = 0 := by rcases c23 with c | c <;> rw [c] <;> decide
    have hpl := hs.2.2 hs0
    obtain ⟨S1, e1, e2, e3⟩ := x_note (b := b) (μ := μ) s.2.1 (c := 1) (by omega) (by omega) h
    obtain ⟨S2, f1, f2, f3⟩ := x_taken (b := b) (μ := μ) hn hr e3 ht rfl
    have e40 : f_X4_isUnsigned_40 E (b + 2) (memX b S μ) = some (1, memX b S2 μ) := by
      rw [f_X4_isUnsigned_40.eq_1, gI_T 7 (by omega), Option.bind_some, if_pos isO_T, h.2.2.1.2.2.2 c23, show (1 : Int32) = nI 1 from rfl, e1, Option.bind_some]
      dsimp only
      rw [if_neg (by decide), gI_T 5 (by omega), Option.bind_some, if_pos isO_T, e3.2.2.1.2.1, f1, Option.bind_some]
      rfl
    have hv : okOp s.2.1 ∧ ¬ s.2.1 < (-6 : Int32) := by
      obtain ⟨p, hp, rfl⟩ := ht
      exact lx_v hr hp c23
    refine ⟨1, S2, lx f n s.2.2.2, [s.2.1], ?_, e2.tr f2, f3, ht1.1, by have := ht1.2 hs0; show 1 + _ ≤ _; omega, Or.inr ⟨rfl, ⟨evO_1 hv.2, fun x hx => by rw [List.mem_singleton.mp hx]; exact hv.1⟩, (unw 7 H o (L ++ [s.2.1])).1, (unw 7 H o (L ++ [s.2.1])).2.1, (unw 7 H o (L ++ [s.2.1])).2.2, ?_, ?_, ?_⟩⟩
    · rw [f_X4_isUnsigned.eq_1, gI_T 5 (by omega), Option.bind_some, h.2.2.1.2.1]
      rcases c23 with c | c
      · rw [if_pos c, e40]
      · rw [if_neg (by rw [c]; decide), if_pos c, e40]
    · exact runR.rf.step (ht1.2 hs0) fun i => by rw [mR, if_neg hmd, if_pos c23]
    · intro r' h1 h2 h3
      exact unw_unw h3 H o _
    · exact ⟨fun q => absurd q (by omega), fun q => absurd q (by omega), fun q => absurd q (by omega), fun q => absurd q (by omega), fun q => absurd q (by omega)⟩
  have c2 : ¬ s.1 = 2 := fun q => c23 (Or.inl q)
  have c3 : ¬ s.1 = 3 := fun q => c23 (Or.inr q)
  by_cases c40 : s.1 = 40
  · have hs0 : ¬ s.1 = 0 := by rw [c40]; decide
    have c9 : ¬ (s.1 = 9 ∧ md = 2) := fun q => absurd q.1 (by rw [c40]; decide)
    have c45 : ¬ s.1 = 45 := by rw [c40]; decide
    by_cases c5 : o = 5
    · refine ⟨0, S, s, [], ?_, tgS.rf S, by simpa using h, ht, by simp, Or.inl ⟨rfl, failR.now (L2 := L) fun i => ?_⟩⟩
      · rw [f_X4_isUnsigned.eq_1, gI_T 5 (by omega), Option.bind_some, h.2.2.1.2.1, if_neg c2, if_neg c3, if_pos c40, if_pos (show (5 : Int32) ≤ nI o from nI_le (show 5 ≤ o by omega) (by omega))]
      · rw [mR, if_neg hmd, if_neg c23, if_neg c9, if_neg c45, if_pos c40, if_pos c5]
    · obtain ⟨S1, e1, e2, e3⟩ := x_taken (b := b) (μ := μ) hn hr h ht c40
      have hm : ∀ i, mR f n (i + 1) md s H o L = mR f n i 2 (lx f n s.2.2.2) (0 :: H) (o + 1) L := fun i => by
        rw [mR, if_neg hmd, if_neg c23, if_neg c9, if_neg c45, if_pos c40, if_neg c5]
      have hp1 := ht1.2 hs0
      obtain ⟨ok, S2, s', X, g1, g2, g3, g4, g5, g6⟩ := hE (by omega) S1 (lx f n s.2.2.2) L (0 :: H) 2 e3 ht1.1 (by omega) (show 0 < 1 by omega) ⟨Or.inr rfl, fun _ => rfl, fun q => absurd q (by omega), fun q => absurd q (by omega)⟩
      have hx : f_X4_isUnsigned E (b + 2) (nI o) (memX b S μ) = (if (ok, memX b S2 μ).1 = 0 then some ((0 : Int32), (ok, memX b S2 μ).2) else
if isO (ok, memX b S2 μ).2 (b + 2) 3 = true then
(f_X4_isTaken (b + 2) (41 : Int32) (ok, memX b S2 μ).2).bind fun q43 =>
if q43.1 = 0 then
some ((0 : Int32), q43.2)
else
some ((1 : Int32), q43.2) else none) := by
        rw [f_X4_isUnsigned.eq_1, gI_T 5 (by omega), Option.bind_some, h.2.2.1.2.1, if_neg c2, if_neg c3, if_pos c40, if_neg (show ¬ (5 : Int32) ≤ nI o from nI_ge (show o < 5 by omega) (by decide)), if_pos isO_T, e1, Option.bind_some]
        dsimp only
        rw [if_neg (by decide), if_pos isO_T, nI_1, g1, Option.bind_some]
      rcases g6 with ⟨rfl, g6⟩ | ⟨rfl, g6, H1, o1, L1, g7, g8, g9⟩
      · refine ⟨0, S2, s', X, ?_, e2.tr g2, g3, g4, by omega, Or.inl ⟨rfl, g6.step hp1 hm⟩⟩
        rw [hx, if_pos rfl]
      · have u1 := g8 1 (by omega) (by omega) (by omega)
        rw [unw_stop (H := 0 :: H) (show 0 < 1 by omega)] at u1
        by_cases c41 : s'.1 = 41
        · have hs0' : ¬ s'.1 = 0 := by rw [c41]; decide
          have ht2 := g4.go
          have hp2 := ht2.2 hs0'
          obtain ⟨S3, i1, i2, i3⟩ := x_taken (b := b) (μ := μ) hn hr g3 g4 c41
          refine ⟨1, S3, lx f n s'.2.2.2, X, ?_, (e2.tr g2).tr i2, i3, ht2.1, by omega, Or.inr ⟨rfl, g6, (unw 7 H o (L ++ X)).1, (unw 7 H o (L ++ X)).2.1, (unw 7 H o (L ++ X)).2.2, ?_, ?_, ?_⟩⟩
          · rw [hx]
            dsimp only
            rw [if_neg (by decide), if_pos isO_T, i1, Option.bind_some]
            rfl
          · refine (g7.tr (runR.rf.step hp2 fun i => ?_)).step hp1 hm
            rw [mR, if_pos rfl, if_neg (by rw [c41]; decide), if_pos c41, u1]
            rfl
          · intro r' h1 h2 h3
            exact unw_unw h3 H o _
          · exact ⟨fun q => absurd q (by omega), fun q => absurd q (by omega), fun q => absurd q (by omega), fun q => absurd q (by omega), fun q => absurd q (by omega)⟩
        · refine ⟨0, S2, s', X, ?_, e2.tr g2, g3, g4, by omega, Or.inl ⟨rfl, (g7.fail (stuck g9 c41 fun _ => by rw [u1]; exact List.cons_ne_nil _ _)).step hp1 hm⟩⟩
          rw [hx]
          dsimp only
          rw [if_neg (by decide), if_pos isO_T, x_not g3 c41, Option.bind_some]
          rfl
  · refine ⟨0, S, s, [], ?_, tgS.rf S, by simpa using h, ht, by simp, Or.inl ⟨rfl, failR.now (L2 := L) fun i => ?_⟩⟩
    · rw [f_X4_isUnsigned.eq_1, gI_T 5 (by omega), Option.bind_some, h.2.2.1.2.1, if_neg c2, if_neg c3, if_neg c40]
    · rw [mR, if_neg hmd, if_neg c23]
      by_cases c9 : s.1 = 9 ∧ md = 2
      · rw [if_pos c9, if_pos (by
          rcases p3 (by omega) c9.1 with q | q
          · exact absurd (q.symm.trans c9.2) (by decide)
          · exact q)]
      · rw [if_neg c9]
        by_cases c45 : s.1 = 45
        · rw [if_pos c45, if_pos (p4 rfl c45)]
        · rw [if_neg c45, if_neg c40]
end PA
